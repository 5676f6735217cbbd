theorem and63 (x : Int32) : ∃ k : Nat, k < 64 ∧ x &&& 63 = nI k := by
  have h1 : (x &&& 63).toBitVec = x.toBitVec &&& 63#32 := rfl
  have h2 : (x &&& 63).toBitVec.toNat ≤ 63 := by
    rw [h1, BitVec.toNat_and]
    exact Nat.and_le_right
  have h3 : (x &&& 63).toInt = ((x &&& 63).toBitVec.toNat : Int) := by
    show (x &&& 63).toBitVec.toInt = _
    rw [BitVec.toInt_eq_toNat_of_lt (by omega)]
  obtain ⟨d, e1, e2⟩ := nI_ex (w := x &&& 63) (by omega)
  exact ⟨d, by omega, e1⟩
theorem lp_lt {L i : Nat} (hL : L ≤ 2560) (hi : i ≤ 2560) : nI L - 5 < nI i ↔ L < i + 5 := by
  have e : (nI L - 5).toInt = (L : Int) - 5 := z_sub32 (nI_toInt (by omega)) (show (5 : Int32).toInt = 5 by decide) (by omega) (by omega)
  rw [Int32.lt_iff_toInt_lt, e, nI_toInt (by omega)]
  omega


set_option maxRecDepth 100000 in
set_option maxHeartbeats 8000000 in
theorem law_loop {E : rhE} {A B : Nat → Nat} {b0 L o : Nat} {xs : Nat → Int32} (hL : L ≤ 2560) : ∀ (n : Nat) (X : rhX) (a b i : Nat) (C : CT) (T Tk : Nat) (Z : ZT) (u : Nat → Int32) (kp : Nat → Int32) (ik : Int32) (ps : Nat → Int32) (pm : Nat) (dd : Int32) (tx : Nat → Int32) (ty : Nat) (rw : Nat → Int64) (rm : Nat) (th : Int32) (sz : Nat) (he : Nat) (wr : Int32) (mn : Nat → Int32) (vl : Int32) (tp : Int32) (lt : Int32) (ra : Int32) (pf : Int32) (pt : Int32) (pl : Int32) (pd : Int64) (prc : Int64) (ns : Int64) (tu : Nat) (ba : Int64) (na : Int64) (ca : Nat → Int64) (bo : Nat → Int32) (tr : Nat → Int64) (tH : Int32) (asd : Nat → Int32) (pa : Nat → Int64) (tg : Nat → Int64) (sd : Int64) (sr : Int64) (g : Nat → Int64), rl C T Tk u kp ik ps pm dd tx ty rw rm → zOk Z → Ok X E RL cL_law room_1 8 → RtL X b0 L xs a b → L < i + 5 * (n + 1) → i ≤ L → a + n ≤ 601024 → b + 6 * n ≤ 7293034 → G X 23 [some (.ref b0), some (.ref (A 0)), some (.ref (B 0)), some (.ref o), some (.int (nI i)), none, none, none] [] (wC E A C Z ++ ((wM E B u kp ik ps pm dd tx ty rw rm th sz he wr mn vl tp lt ra pf pt pl pd prc ns tu ba na ca bo tr tH asd pa tg sd sr) ++ [(o, aL E 1 g)])) := by
  intro n
  induction n with
  | zero =>
    intro X a b i C T Tk Z u kp ik ps pm dd tx ty rw rm th sz he wr mn vl tp lt ra pf pt pl pd prc ns tu ba na ca bo tr tH asd pa tg sd sr g h hz hX hR hn hiL ha hb
    refine rh_iload hX dL_law_23 rfl ?_
    refine rh_aload_n hX dL_law_25 rfl ?_
    refine rq_slen hX hR dL_law_26 ?_
    refine rh_iconst hX dL_law_27 ki_5 ?_
    refine rh_isub hX dL_law_28 ?_
    refine rh_icmp_gt_t hX dL_law_29 (tgt := 1760) (by decide) ((lp_lt hL (by omega)).mpr (by omega)) ?_
    refine rh_iconst hX dL_law_1760 ki_1 ?_
    exact rq_ret1 hX hR (by omega) (by omega) dL_law_1761
  | succ n ih =>
    intro X a b i C T Tk Z u kp ik ps pm dd tx ty rw rm th sz he wr mn vl tp lt ra pf pt pl pd prc ns tu ba na ca bo tr tH asd pa tg sd sr g h hz hX hR hn hiL ha hb
    refine rh_iload hX dL_law_23 rfl ?_
    refine rh_aload_n hX dL_law_25 rfl ?_
    refine rq_slen hX hR dL_law_26 ?_
    refine rh_iconst hX dL_law_27 ki_5 ?_
    refine rh_isub hX dL_law_28 ?_
    refine rh_icmp_gt hX dL_law_29 (tgt := 1760) (by decide) (fun hq => ?_) (fun hq => ?_)
    · refine rh_iconst hX dL_law_1760 ki_1 ?_
      exact rq_ret1 hX hR (by omega) (by omega) dL_law_1761
    have hi5 : i + 5 ≤ L := by
      have h9 : ¬ L < i + 5 := fun q => hq ((lp_lt hL (by omega)).mpr q)
      omega
    have kY : ∀ (Y : rhX), Ok Y E RL cL_law room_1 8 → RtL Y b0 L xs (a + 1) (b + 6) → ∀ (C : CT) (T Tk : Nat) (Z : ZT) (u : Nat → Int32) (kp : Nat → Int32) (ik : Int32) (ps : Nat → Int32) (pm : Nat) (dd : Int32) (tx : Nat → Int32) (ty : Nat) (rw : Nat → Int64) (rm : Nat) (th : Int32) (sz : Nat) (he : Nat) (wr : Int32) (mn : Nat → Int32) (vl : Int32) (tp : Int32) (lt : Int32) (ra : Int32) (pf : Int32) (pt : Int32) (pl : Int32) (pd : Int64) (prc : Int64) (ns : Int64) (tu : Nat) (ba : Int64) (na : Int64) (ca : Nat → Int64) (bo : Nat → Int32) (tr : Nat → Int64) (tH : Int32) (asd : Nat → Int32) (pa : Nat → Int64) (tg : Nat → Int64) (sd : Int64) (sr : Int64) (g : Nat → Int64) (o5 o6 o7 : Option Value), rl C T Tk u kp ik ps pm dd tx ty rw rm → zOk Z → G Y 1754 [some (.ref b0), some (.ref (A 0)), some (.ref (B 0)), some (.ref o), some (.int (nI i)), o5, o6, o7] [] (wC E A C Z ++ ((wM E B u kp ik ps pm dd tx ty rw rm th sz he wr mn vl tp lt ra pf pt pl pd prc ns tu ba na ca bo tr tH asd pa tg sd sr) ++ [(o, aL E 1 g)])) := by
      intro Y hY hRY C T Tk Z u kp ik ps pm dd tx ty rw rm th sz he wr mn vl tp lt ra pf pt pl pd prc ns tu ba na ca bo tr tH asd pa tg sd sr g o5 o6 o7 h hz
      refine rh_wk (lv' := [some (.ref b0), some (.ref (A 0)), some (.ref (B 0)), some (.ref o), some (.int (nI i)), none, none, none]) (by exact ⟨rfl, rfl, rfl, rfl, rfl, trivial⟩) ?_
      refine rh_iinc hY dL_law_1754 rfl (by decide) (rh_hp rfl rfl) (v := nI (i + 5)) (by rw [show Int32.ofInt 5 = 5 by decide]; exact nIa5) rfl ?_
      refine rh_goto hY dL_law_1757 (tgt := 23) (by decide) ?_
      exact ih Y (a + 1) (b + 6) (i + 5) C T Tk Z u kp ik ps pm dd tx ty rw rm th sz he wr mn vl tp lt ra pf pt pl pd prc ns tu ba na ca bo tr tH asd pa tg sd sr g h hz hY hRY (by omega) hi5 (by omega) (by omega)
    have kN : ∀ (C : CT) (T Tk : Nat) (Z : ZT) (u : Nat → Int32) (kp : Nat → Int32) (ik : Int32) (ps : Nat → Int32) (pm : Nat) (dd : Int32) (tx : Nat → Int32) (ty : Nat) (rw : Nat → Int64) (rm : Nat) (th : Int32) (sz : Nat) (he : Nat) (wr : Int32) (mn : Nat → Int32) (vl : Int32) (tp : Int32) (lt : Int32) (ra : Int32) (pf : Int32) (pt : Int32) (pl : Int32) (pd : Int64) (prc : Int64) (ns : Int64) (tu : Nat) (ba : Int64) (na : Int64) (ca : Nat → Int64) (bo : Nat → Int32) (tr : Nat → Int64) (tH : Int32) (asd : Nat → Int32) (pa : Nat → Int64) (tg : Nat → Int64) (sd : Int64) (sr : Int64), rl C T Tk u kp ik ps pm dd tx ty rw rm → zOk Z → G X 1754 [some (.ref b0), some (.ref (A 0)), some (.ref (B 0)), some (.ref o), some (.int (nI i)), none, none, none] [] (wC E A C Z ++ ((wM E B u kp ik ps pm dd tx ty rw rm th sz he wr mn vl tp lt ra pf pt pl pd prc ns tu ba na ca bo tr tH asd pa tg sd sr) ++ [(o, aL E 1 g)])) := by
      intro C T Tk Z u kp ik ps pm dd tx ty rw rm th sz he wr mn vl tp lt ra pf pt pl pd prc ns tu ba na ca bo tr tH asd pa tg sd sr h hz
      exact rq_widen hX hR (a + 1) (b + 6) (by omega) (by omega) (show a + 1 ≤ 601024 by omega) (show b + 6 ≤ 7293034 by omega) (fun Y hY hRY => kY Y hY hRY C T Tk Z u kp ik ps pm dd tx ty rw rm th sz he wr mn vl tp lt ra pf pt pl pd prc ns tu ba na ca bo tr tH asd pa tg sd sr g none none none h hz)
    refine rh_aload_n hX dL_law_32 rfl ?_
    refine rh_iload hX dL_law_33 rfl ?_
    refine rq_sld hX hR i dL_law_35 rfl (by omega) (by omega) ?_
    refine rh_bipush (v := 63) hX dL_law_36 (by decide) ?_
    refine rh_iand hX dL_law_38 ?_
    obtain ⟨k, hk, ek⟩ := and63 (xs i)
    rw [ek]
    match k, hk with
    | 0, _ => exact rh_tabIn hX dL_law_39 (by decide) (by decide) (off := 217) (by decide) (tgt := 256) (by decide) (lc_sign hX hR hi5 hL rfl rfl (s_sign h hz (xs (i + 1))) kN)
    | 1, _ => exact rh_tabIn hX dL_law_39 (by decide) (by decide) (off := 242) (by decide) (tgt := 281) (by decide) (lc_end hX hR hi5 hL rfl rfl (s_end h hz (xs (i + 1))) kN)
    | 2, _ => exact rh_tabIn hX dL_law_39 (by decide) (by decide) (off := 267) (by decide) (tgt := 306) (by decide) (lc_founds hX hR hi5 hL rfl rfl (s_founds h hz ) kN)
    | 3, _ => exact rh_tabIn hX dL_law_39 (by decide) (by decide) (off := 280) (by decide) (tgt := 319) (by decide) (lc_issues hX hR hi5 hL rfl rfl (s_issues h hz (xs (i + 1)) (xs (i + 2))) kN)
    | 4, _ => exact rh_tabIn hX dL_law_39 (by decide) (by decide) (off := 317) (by decide) (tgt := 356) (by decide) (lc_cancels hX hR hi5 hL rfl rfl (s_cancels h hz (xs (i + 1)) (xs (i + 2)) (xs (i + 3))) kN)
    | 5, _ => exact rh_tabIn hX dL_law_39 (by decide) (by decide) (off := 366) (by decide) (tgt := 405) (by decide) (lc_pool hX hR hi5 hL rfl rfl (s_pool h hz (xs (i + 1))) kN)
    | 6, _ => exact rh_tabIn hX dL_law_39 (by decide) (by decide) (off := 391) (by decide) (tgt := 430) (by decide) (lc_grant hX hR hi5 hL rfl rfl (s_grant h hz (xs (i + 1)) (xs (i + 2))) kN)
    | 7, _ => exact rh_tabIn hX dL_law_39 (by decide) (by decide) (off := 428) (by decide) (tgt := 467) (by decide) (lc_exercise hX hR hi5 hL rfl rfl (s_exercise h hz (xs (i + 1)) (xs (i + 2))) kN)
    | 8, _ => exact rh_tabIn hX dL_law_39 (by decide) (by decide) (off := 465) (by decide) (tgt := 504) (by decide) (lc_lapses hX hR hi5 hL rfl rfl (s_lapses h hz (xs (i + 1)) (xs (i + 2))) kN)
    | 9, _ => exact rh_tabIn hX dL_law_39 (by decide) (by decide) (off := 502) (by decide) (tgt := 541) (by decide) (lc_sells hX hR hi5 hL rfl rfl (s_sells h hz (xs (i + 1)) (xs (i + 2)) (xs (i + 3)) (xs (i + 4))) kN)
    | 10, _ => exact rh_tabIn hX dL_law_39 (by decide) (by decide) (off := 563) (by decide) (tgt := 602) (by decide) (lc_gives hX hR hi5 hL rfl rfl (s_gives h hz (xs (i + 1)) (xs (i + 2))) kN)
    | 11, _ => exact rh_tabIn hX dL_law_39 (by decide) (by decide) (off := 600) (by decide) (tgt := 639) (by decide) (lc_splits hX hR hi5 hL rfl rfl (s_splits h hz (xs (i + 1))) kN)
    | 12, _ => exact rh_tabIn hX dL_law_39 (by decide) (by decide) (off := 625) (by decide) (tgt := 664) (by decide) (lc_converts hX hR hi5 hL rfl rfl (s_converts h hz (xs (i + 1)) (xs (i + 2)) (xs (i + 3))) kN)
    | 13, _ => exact rh_tabIn hX dL_law_39 (by decide) (by decide) (off := 674) (by decide) (tgt := 713) (by decide) (lc_term hX hR hi5 hL rfl rfl (s_term h hz (xs (i + 1)) (xs (i + 2)) (xs (i + 3))) kN)
    | 14, _ => exact rh_tabIn hX dL_law_39 (by decide) (by decide) (off := 723) (by decide) (tgt := 762) (by decide) (lc_round hX hR hi5 hL rfl rfl (s_round h hz ) kN)
    | 15, _ => exact rh_tabIn hX dL_law_39 (by decide) (by decide) (off := 736) (by decide) (tgt := 775) (by decide) (lc_thought hX hR hi5 hL rfl rfl (s_thought h hz ) kN)
    | 16, _ => exact rh_tabIn hX dL_law_39 (by decide) (by decide) (off := 749) (by decide) (tgt := 788) (by decide) (lc_told hX hR hi5 hL rfl rfl (s_told h hz (xs (i + 1)) (xs (i + 2))) kN)
    | 17, _ => exact rh_tabIn hX dL_law_39 (by decide) (by decide) (off := 786) (by decide) (tgt := 825) (by decide) (lc_diluted hX hR hi5 hL rfl rfl (s_diluted h hz (xs (i + 1))) kN)
    | 18, _ => exact rh_tabIn hX dL_law_39 (by decide) (by decide) (off := 811) (by decide) (tgt := 850) (by decide) (lc_threatens hX hR hi5 hL rfl rfl (s_threatens h hz ) kN)
    | 19, _ => exact rh_tabIn hX dL_law_39 (by decide) (by decide) (off := 824) (by decide) (tgt := 863) (by decide) (lc_sweep hX hR hi5 hL rfl rfl (s_sweep h hz (xs (i + 1))) kN)
    | 20, _ => exact rh_tabIn hX dL_law_39 (by decide) (by decide) (off := 849) (by decide) (tgt := 888) (by decide) (lc_ratchets hX hR hi5 hL rfl rfl (s_ratchets h hz ) kN)
    | 21, _ => exact rh_tabIn hX dL_law_39 (by decide) (by decide) (off := 862) (by decide) (tgt := 901) (by decide) (lc_ratchet hX hR hi5 hL rfl rfl (s_ratchet h hz (xs (i + 1)) (xs (i + 2)) (xs (i + 3)) (xs (i + 4))) kN)
    | 22, _ => exact rh_tabIn hX dL_law_39 (by decide) (by decide) (off := 923) (by decide) (tgt := 962) (by decide) (lc_shares hX hR hi5 hL rfl rfl (s_shares h hz (xs (i + 1)) (xs (i + 2))) kN)
    | 23, _ => exact rh_tabIn hX dL_law_39 (by decide) (by decide) (off := 960) (by decide) (tgt := 999) (by decide) (lc_options hX hR hi5 hL rfl rfl (s_options h hz (xs (i + 1))) kN)
    | 24, _ => exact rh_tabIn hX dL_law_39 (by decide) (by decide) (off := 985) (by decide) (tgt := 1024) (by decide) (lc_stake hX hR hi5 hL rfl rfl (s_stake h hz (xs (i + 1))) kN)
    | 25, _ => exact rh_tabIn hX dL_law_39 (by decide) (by decide) (off := 1010) (by decide) (tgt := 1049) (by decide) (lc_full hX hR hi5 hL rfl rfl (s_full h hz ) kN)
    | 26, _ => exact rh_tabIn hX dL_law_39 (by decide) (by decide) (off := 1023) (by decide) (tgt := 1062) (by decide) (lc_type hX hR hi5 hL rfl rfl (s_type h hz (xs (i + 1)) (xs (i + 2))) kN)
    | 27, _ => exact rh_tabIn hX dL_law_39 (by decide) (by decide) (off := 1060) (by decide) (tgt := 1099) (by decide) (lc_needs hX hR hi5 hL rfl rfl (s_needs h hz (xs (i + 1)) (xs (i + 2))) kN)
    | 28, _ => exact rh_tabIn hX dL_law_39 (by decide) (by decide) (off := 1097) (by decide) (tgt := 1136) (by decide) (lc_greatest hX hR hi5 hL rfl rfl (s_greatest h hz ) kN)
    | 29, _ => exact rh_tabIn hX dL_law_39 (by decide) (by decide) (off := 1110) (by decide) (tgt := 1149) (by decide) (lc_control hX hR hi5 hL rfl rfl (s_control h hz ) kN)
    | 30, _ => exact rh_tabIn hX dL_law_39 (by decide) (by decide) (off := 1123) (by decide) (tgt := 1162) (by decide) (lc_leads hX hR hi5 hL rfl rfl (s_leads h hz (xs (i + 1))) kN)
    | 31, _ => exact rh_tabIn hX dL_law_39 (by decide) (by decide) (off := 1148) (by decide) (tgt := 1187) (by decide) (lc_block hX hR hi5 hL rfl rfl (s_block h hz (xs (i + 1))) kN)
    | 32, _ => exact rh_tabIn hX dL_law_39 (by decide) (by decide) (off := 1173) (by decide) (tgt := 1212) (by decide) (lc_paid hX hR hi5 hL rfl rfl (s_paid h hz (xs (i + 1))) kN)
    | 33, _ => exact rh_tabIn hX dL_law_39 (by decide) (by decide) (off := 1198) (by decide) (tgt := 1237) (by decide) (lc_value hX hR hi5 hL rfl rfl (s_value h hz ) kN)
    | 34, _ => exact rh_tabIn hX dL_law_39 (by decide) (by decide) (off := 1211) (by decide) (tgt := 1250) (by decide) (lc_majority hX hR hi5 hL rfl rfl (s_majority h hz (xs (i + 1))) kN)
    | 35, _ => exact rh_tabIn hX dL_law_39 (by decide) (by decide) (off := 1236) (by decide) (tgt := 1275) (by decide) (lc_swing hX hR hi5 hL rfl rfl (s_swing h hz (xs (i + 1))) kN)
    | 36, _ => exact rh_tabIn hX dL_law_39 (by decide) (by decide) (off := 1261) (by decide) (tgt := 1300) (by decide) (lc_exit hX hR hi5 hL rfl rfl (s_exit h hz (xs (i + 1))) kN)
    | 37, _ => exact rh_tabIn hX dL_law_39 (by decide) (by decide) (off := 1286) (by decide) (tgt := 1325) (by decide) (lc_gets hX hR hi5 hL rfl rfl (s_gets h hz (xs (i + 1)) (xs (i + 2))) kN)
    | 38, _ => exact rh_tabIn hX dL_law_39 (by decide) (by decide) (off := 1323) (by decide) (tgt := 1362) (by decide) (lc_over hX hR hi5 hL rfl rfl (s_over h hz (xs (i + 1))) kN)
    | 39, _ => exact rh_tabIn hX dL_law_39 (by decide) (by decide) (off := 1348) (by decide) (tgt := 1387) (by decide) (lc_worth hX hR hi5 hL rfl rfl (s_worth h hz (xs (i + 1)) (xs (i + 2))) kN)
    | 40, _ => exact rh_tabIn hX dL_law_39 (by decide) (by decide) (off := 1385) (by decide) (tgt := 1424) (by decide) (lc_curve hX hR hi5 hL rfl rfl (s_curve h hz (xs (i + 1)) (xs (i + 2))) kN)
    | 41, _ => exact rh_tabIn hX dL_law_39 (by decide) (by decide) (off := 1423) (by decide) (tgt := 1462) (by decide) (lc_stage hX hR hi5 hL rfl rfl (s_stage h hz (xs (i + 1))) kN)
    | 42, _ => exact rh_tabIn hX dL_law_39 (by decide) (by decide) (off := 1448) (by decide) (tgt := 1487) (by decide) (lc_reaches hX hR hi5 hL rfl rfl (s_reaches h hz (xs (i + 1)) (xs (i + 2)) (xs (i + 3))) kN)
    | 43, _ => exact rh_tabIn hX dL_law_39 (by decide) (by decide) (off := 1497) (by decide) (tgt := 1536) (by decide) (lc_multiple hX hR hi5 hL rfl rfl (s_multiple h hz (xs (i + 1)) (xs (i + 2))) kN)
    | 44, _ => exact rh_tabIn hX dL_law_39 (by decide) (by decide) (off := 1534) (by decide) (tgt := 1573) (by decide) (lc_preference hX hR hi5 hL rfl rfl (s_preference h hz (xs (i + 1))) kN)
    | 45, _ => exact rh_tabIn hX dL_law_39 (by decide) (by decide) (off := 1559) (by decide) (tgt := 1598) (by decide) (lc_flips hX hR hi5 hL rfl rfl (s_flips h hz (xs (i + 1)) (xs (i + 2))) kN)
    | 46, _ => exact rh_tabIn hX dL_law_39 (by decide) (by decide) (off := 1596) (by decide) (tgt := 1635) (by decide) (lc_keeps hX hR hi5 hL rfl rfl (s_keeps h hz ) kN)
    | 47, _ => exact rh_tabIn hX dL_law_39 (by decide) (by decide) (off := 1609) (by decide) (tgt := 1648) (by decide) (lc_back hX hR hi5 hL rfl rfl (s_back h hz ) kN)
    | 48, _ => exact rh_tabIn hX dL_law_39 (by decide) (by decide) (off := 1622) (by decide) (tgt := 1661) (by decide) (lc_undo hX hR hi5 hL rfl rfl (s_undo h hz ) kN)
    | 49, _ => exact rh_tabIn hX dL_law_39 (by decide) (by decide) (off := 1635) (by decide) (tgt := 1674) (by decide) (lc_count hX hR hi5 hL rfl rfl (s_count h hz (xs (i + 1))) kN)
    | 50, _ => exact rh_tabIn hX dL_law_39 (by decide) (by decide) (off := 1660) (by decide) (tgt := 1699) (by decide) (lc_row h hX hR hi5 hL (by omega) (by omega) (fun Y hY hRY g th o5 o6 => kY Y hY hRY C T Tk Z u kp ik ps pm dd tx ty rw rm th sz he wr mn vl tp lt ra pf pt pl pd prc ns tu ba na ca bo tr tH asd pa tg sd sr g o5 o6 none h hz))
    | q + 51, hk => exact rh_tabOut hX dL_law_39 (Or.inr (by rw [nI_toInt (by omega)]; omega)) (tgt := 1754) (by decide) (kN C T Tk Z u kp ik ps pm dd tx ty rw rm th sz he wr mn vl tp lt ra pf pt pl pd prc ns tu ba na ca bo tr tH asd pa tg sd sr h hz)