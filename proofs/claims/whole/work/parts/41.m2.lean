theorem i64_lt {a b : Int32} : a.toInt64 < b.toInt64 ↔ a < b := by
  rw [Int64.lt_iff_toInt_lt, Int32.lt_iff_toInt_lt, Int32.toInt_toInt64, Int32.toInt_toInt64]
theorem i64_le {a b : Int32} : a.toInt64 ≤ b.toInt64 ↔ a ≤ b := by
  rw [Int64.le_iff_toInt_le, Int32.le_iff_toInt_le, Int32.toInt_toInt64, Int32.toInt_toInt64]
theorem xIn_H (h : Int32) : xIn h.toInt64 0 7 = xH h := by
  have e1 : h.toInt64 < 0 ↔ h < 0 := i64_lt (b := 0)
  have e2 : 7 < h.toInt64 ↔ 8 ≤ h := by
    rw [show (7 : Int64) = (7 : Int32).toInt64 by decide, i64_lt, Int32.lt_iff_toInt_lt, Int32.le_iff_toInt_le, show (7 : Int32).toInt = 7 by decide, show (8 : Int32).toInt = 8 by decide]
    omega
  unfold xIn xH
  by_cases a : h < 0
  · rw [if_pos a, if_pos (e1.mpr a)]
  · rw [if_neg a, if_neg (fun q => a (e1.mp q))]
    by_cases b : 8 ≤ h
    · rw [if_pos b, if_pos (e2.mpr b)]
    · rw [if_neg b, if_neg (fun q => b (e2.mp q))]
theorem xIn_S (h : Int32) : xIn h.toInt64 0 1000000000 = xSum h := by
  have e1 : h.toInt64 < 0 ↔ h < 0 := i64_lt (b := 0)
  unfold xIn xSum
  by_cases a : h < 0
  · rw [if_pos a, if_pos (e1.mpr a)]
  · rw [if_neg a, if_neg (fun q => a (e1.mp q))]
theorem xIn_U (h : Int32) (mo : Int64) : xIn h.toInt64 1 mo = xUp h mo := by
  have e1 : h.toInt64 < 1 ↔ h < 1 := i64_lt (b := 1)
  unfold xIn xUp
  by_cases a : h < 1
  · rw [if_pos a, if_pos (e1.mpr a)]
  · rw [if_neg a, if_neg (fun q => a (e1.mp q))]
theorem xIn_T (T : Nat) (h1 : 1 ≤ T) (h6 : T ≤ 6) (t : Int32) : xIn t.toInt64 0 (nI T - 1).toInt64 = xTy T t := by
  have e1 : t.toInt64 < 0 ↔ t < 0 := i64_lt (b := 0)
  have e2 : (nI T - 1).toInt64 < t.toInt64 ↔ nI T ≤ t := by
    rw [show nI T - 1 = nI (T - 1) from rn_sub (b := 1) h1, i64_lt, Int32.lt_iff_toInt_lt, Int32.le_iff_toInt_le, nI_toInt (by omega), nI_toInt (by omega)]
    omega
  unfold xIn xTy
  by_cases a : t < 0
  · rw [if_pos a, if_pos (e1.mpr a)]
  · rw [if_neg a, if_neg (fun q => a (e1.mp q))]
    by_cases b : nI T ≤ t
    · rw [if_pos b, if_pos (e2.mpr b)]
    · rw [if_neg b, if_neg (fun q => b (e2.mp q))]
theorem xSe_T {T : Nat} {t : Int32} (h : ¬ t ≤ 0) : xSe T t = xTy T t := by
  unfold xSe xTy
  rw [Int32.le_iff_toInt_le, show (0 : Int32).toInt = 0 by decide] at h
  rw [if_neg (show ¬ t < 1 by rw [Int32.lt_iff_toInt_lt, show (1 : Int32).toInt = 1 by decide]; omega), if_neg (show ¬ t < 0 by rw [Int32.lt_iff_toInt_lt, show (0 : Int32).toInt = 0 by decide]; omega)]
theorem xSe_0 {T : Nat} {t : Int32} (h : t ≤ 0) : xSe T t = 0 := by
  unfold xSe
  rw [Int32.le_iff_toInt_le, show (0 : Int32).toInt = 0 by decide] at h
  rw [if_pos (show t < 1 by rw [Int32.lt_iff_toInt_lt, show (1 : Int32).toInt = 1 by decide]; omega)]
theorem xTy_01 (T : Nat) (t : Int32) : xTy T t = 0 ∨ xTy T t = 1 := by
  unfold xTy
  split
  · exact Or.inl rfl
  · split
    · exact Or.inl rfl
    · exact Or.inr rfl
theorem mThou (a b : Int64) (h : 0 ≤ b) : (if b = 0 then 0 else 1000 * a / b) = cQuot (1000 * a) b := by
  unfold cQuot
  by_cases e : b = 0
  · rw [if_pos e, if_neg (by rw [e]; decide)]
  · rw [if_neg e, if_pos ?_]
    rw [Int64.lt_iff_toInt_lt]
    rw [Int64.le_iff_toInt_le] at h
    have : b.toInt ≠ 0 := fun q => e (Int64.toInt_inj.mp q)
    rw [show (0 : Int64).toInt = 0 by decide] at h ⊢
    omega
theorem bit_le {x : Int32} {h : Nat} : (if x ≤ 0 then (0 : Int32) else 1 <<< (nI h &&& 31)) = cBit x.toInt64 h := by
  unfold cBit
  by_cases q : x ≤ 0
  · rw [if_pos q, if_pos (show x.toInt64 ≤ 0 from (i64_le (b := 0)).mpr q)]
  · rw [if_neg q, if_neg (show ¬ x.toInt64 ≤ 0 from fun z => q ((i64_le (b := 0)).mp z))]

set_option maxRecDepth 100000 in
set_option maxHeartbeats 4000000 in
theorem c_X8_isType (l : Launch) (E : rhE) (B : Nat → Nat) (u : Nat → Int32) (kp : Nat → Int32) (ik : Int32) (ps : Nat → Int32) (pm : Nat) (dd : Int32) (tx : Nat → Int32) (ty : Nat) (rw : Nat → Int64) (rm : Nat) (th : Int32) (sz : Nat) (he : Nat) (wr : Int32) (mn : Nat → Int32) (vl : Int32) (tp : Int32) (lt : Int32) (ra : Int32) (pf : Int32) (pt : Int32) (pl : Int32) (pd : Int64) (prc : Int64) (ns : Int64) (tu : Nat) (ba : Int64) (na : Int64) (ca : Nat → Int64) (bo : Nat → Int32) (tr : Nat → Int64) (tH : Int32) (asd : Nat → Int32) (pa : Nat → Int64) (tg : Nat → Int64) (sd : Int64) (sr : Int64) (t : Int32) (T : Nat) (hM : mOk u T)  : Ctr l E yX8_isType cX8_isType 2 (some .boolean) (rmL 1) [.ref (B 0), .int t] (wM E B u kp ik ps pm dd tx ty rw rm th sz he wr mn vl tp lt ra pf pt pl pd prc ns tu ba na ca bo tr tH asd pa tg sd sr) (One (some (.int (xTy T t))) (wM E B u kp ik ps pm dd tx ty rw rm th sz he wr mn vl tp lt ra pf pt pl pd prc ns tu ba na ca bo tr tH asd pa tg sd sr)) := by
  refine Ctr.of (by decide) (Nat.le_of_ble_eq_true rfl) rfl rfl 0 ?_
  intro X hX hR
  obtain ⟨hT, hT1, hT6, hcv⟩ := id hM
  refine rh_iload_n hX dX8_isType_0 rfl ?_
  refine rh_i2l hX dX8_isType_1 ?_
  refine rh_lconst hX dX8_isType_2 kL_0 ?_
  refine rh_aload_n hX dX8_isType_3 rfl ?_
  refine rh_get hX gl_X8_7 0 dX8_isType_4 rfl rfl ?_
  refine rh_bipush hX dX8_isType_7 kb_57 ?_
  refine rh_iaload hX 1 _ dX8_isType_9 rfl rn_c57 (by omega) (by decide) ?_
  rw [hT]
  refine rh_iconst hX dX8_isType_10 ki_1 ?_
  refine rh_isub hX dX8_isType_11 ?_
  refine rh_i2l hX dX8_isType_12 ?_
  refine rh_pS hX lk_X8_58 msX8_in (fun l => c_X8_in l E _ _ _) ⟨rfl, rfl⟩ ⟨Nat.le_of_ble_eq_true rfl, Nat.le_of_ble_eq_true rfl⟩ [] rfl rfl dX8_isType_13 rfl rfl (Nat.le_of_ble_eq_true rfl) ?_
  exact rh_zret hX hR dX8_isType_16 (xIn_nar _ _ _) (by simp only [List.map_cons, List.map_nil, List.cons_append, List.nil_append]) ⟨by rw [xIn_T T hT1 hT6], rfl⟩

set_option maxRecDepth 100000 in
set_option maxHeartbeats 4000000 in
theorem c_X8_isRound (l : Launch) (E : rhE) (B : Nat → Nat) (u : Nat → Int32) (kp : Nat → Int32) (ik : Int32) (ps : Nat → Int32) (pm : Nat) (dd : Int32) (tx : Nat → Int32) (ty : Nat) (rw : Nat → Int64) (rm : Nat) (th : Int32) (sz : Nat) (he : Nat) (wr : Int32) (mn : Nat → Int32) (vl : Int32) (tp : Int32) (lt : Int32) (ra : Int32) (pf : Int32) (pt : Int32) (pl : Int32) (pd : Int64) (prc : Int64) (ns : Int64) (tu : Nat) (ba : Int64) (na : Int64) (ca : Nat → Int64) (bo : Nat → Int32) (tr : Nat → Int64) (tH : Int32) (asd : Nat → Int32) (pa : Nat → Int64) (tg : Nat → Int64) (sd : Int64) (sr : Int64) (t : Int32) (T : Nat) (hM : mOk u T)  : Ctr l E yX8_isRound cX8_isRound 2 (some .boolean) (rmL 2) [.ref (B 0), .int t] (wM E B u kp ik ps pm dd tx ty rw rm th sz he wr mn vl tp lt ra pf pt pl pd prc ns tu ba na ca bo tr tH asd pa tg sd sr) (One (some (.int (xSe T t))) (wM E B u kp ik ps pm dd tx ty rw rm th sz he wr mn vl tp lt ra pf pt pl pd prc ns tu ba na ca bo tr tH asd pa tg sd sr)) := by
  refine Ctr.of (by decide) (Nat.le_of_ble_eq_true rfl) rfl rfl 0 ?_
  intro X hX hR
  obtain ⟨hT, hT1, hT6, hcv⟩ := id hM
  refine rh_iload_n hX dX8_isRound_0 rfl ?_
  refine rh_if_le (tgt := 16) hX dX8_isRound_1 (by decide) (fun h1 => ?_) (fun h1 => ?_)
  · skip
    refine rh_iconst hX dX8_isRound_16 ki_0 ?_
    exact rh_zret hX hR dX8_isRound_17 rfl (by simp only [List.map_cons, List.map_nil, List.cons_append, List.nil_append]) ⟨by first | (rw [xSe_0 h1]; done) | (rw [xSe_T h1, h9]; done) | (rw [xSe_T h1, (xTy_01 T t).resolve_left h9]; done), rfl⟩
  · skip
    refine rh_aload_n hX dX8_isRound_4 rfl ?_
    refine rh_iload_n hX dX8_isRound_5 rfl ?_
    refine rh_pV hX lk_X8_64 mvX8_isType (fun l => c_X8_isType l E _ _ _ _ _ _ _ _ _ _ _ _ _ _ _ _ _ _ _ _ _ _ _ _ _ _ _ _ _ _ _ _ _ _ _ _ _ _ _ T hM) ⟨rfl, rfl⟩ ⟨Nat.le_of_ble_eq_true rfl, Nat.le_of_ble_eq_true rfl⟩ [0, 1, 2, 3, 4, 5, 6, 7, 8, 9, 10, 11, 12] rfl rfl 0 rfl dX8_isRound_6 rfl rfl (Nat.le_of_ble_eq_true rfl) ?_
    refine rh_if_eq (tgt := 16) hX dX8_isRound_9 (by decide) (fun h9 => ?_) (fun h9 => ?_)
    · skip
      refine rh_iconst hX dX8_isRound_16 ki_0 ?_
      exact rh_zret hX hR dX8_isRound_17 rfl (by simp only [List.map_cons, List.map_nil, List.cons_append, List.nil_append]) ⟨by first | (rw [xSe_0 h1]; done) | (rw [xSe_T h1, h9]; done) | (rw [xSe_T h1, (xTy_01 T t).resolve_left h9]; done), rfl⟩
    · skip
      refine rh_iconst hX dX8_isRound_12 ki_1 ?_
      refine rh_goto (tgt := 17) hX dX8_isRound_13 (by decide) ?_
      exact rh_zret hX hR dX8_isRound_17 rfl (by simp only [List.map_cons, List.map_nil, List.cons_append, List.nil_append]) ⟨by first | (rw [xSe_0 h1]; done) | (rw [xSe_T h1, h9]; done) | (rw [xSe_T h1, (xTy_01 T t).resolve_left h9]; done), rfl⟩

set_option maxRecDepth 100000 in
set_option maxHeartbeats 4000000 in
theorem c_X8_thousandths (l : Launch) (E : rhE) (a b : Int64)  : Ctr l E yX8_thousandths cX8_thousandths 4 (some .long) (rmL 0) [.long a, .long b] [] (One (some (.long (if b = 0 then 0 else 1000 * a / b))) []) := by
  refine Ctr.of (by decide) (Nat.le_of_ble_eq_true rfl) rfl rfl 0 ?_
  intro X hX hR
  refine rh_lload_n hX dX8_thousandths_0 rfl ?_
  refine rh_lconst hX dX8_thousandths_1 kL_0 ?_
  refine rh_lne (tgt := 10) hX dX8_thousandths_2 dX8_thousandths_3 (by decide) (fun h3 => ?_) (fun h3 => ?_)
  · skip
    refine rh_ldc2 hX dX8_thousandths_10 kl_X8_281 ?_
    refine rh_lload_n hX dX8_thousandths_13 rfl ?_
    refine rh_lmul hX dX8_thousandths_14 ?_
    refine rh_lload_n hX dX8_thousandths_15 rfl ?_
    refine rh_ldiv hX dX8_thousandths_16 h3 ?_
    exact rh_lret hX hR dX8_thousandths_17 (by simp only [List.map_cons, List.map_nil, List.cons_append, List.nil_append]) ⟨by first | (rw [if_pos h3]; done) | (rw [if_neg h3]; done), rfl⟩
  · skip
    refine rh_lconst hX dX8_thousandths_6 kL_0 ?_
    refine rh_goto (tgt := 17) hX dX8_thousandths_7 (by decide) ?_
    exact rh_lret hX hR dX8_thousandths_17 (by simp only [List.map_cons, List.map_nil, List.cons_append, List.nil_append]) ⟨by first | (rw [if_pos h3]; done) | (rw [if_neg h3]; done), rfl⟩

set_option maxRecDepth 100000 in
set_option maxHeartbeats 4000000 in
theorem c_X8_holdersOf (l : Launch) (E : rhE) (B : Nat → Nat) (u : Nat → Int32) (kp : Nat → Int32) (ik : Int32) (ps : Nat → Int32) (pm : Nat) (dd : Int32) (tx : Nat → Int32) (ty : Nat) (rw : Nat → Int64) (rm : Nat) (th : Int32) (sz : Nat) (he : Nat) (wr : Int32) (mn : Nat → Int32) (vl : Int32) (tp : Int32) (lt : Int32) (ra : Int32) (pf : Int32) (pt : Int32) (pl : Int32) (pd : Int64) (prc : Int64) (ns : Int64) (tu : Nat) (ba : Int64) (na : Int64) (ca : Nat → Int64) (bo : Nat → Int32) (tr : Nat → Int64) (tH : Int32) (asd : Nat → Int32) (pa : Nat → Int64) (tg : Nat → Int64) (sd : Int64) (sr : Int64) (t : Nat) (ht : t < 6) : Ctr l E yX8_holdersOf cX8_holdersOf 4 (some .int) (rmL 1) [.ref (B 0), .int (nI t)] (wM E B u kp ik ps pm dd tx ty rw rm th sz he wr mn vl tp lt ra pf pt pl pd prc ns tu ba na ca bo tr tH asd pa tg sd sr) (One (some (.int (cHoldersOf (fm u) t))) (wM E B u kp ik ps pm dd tx ty rw rm th sz he wr mn vl tp lt ra pf pt pl pd prc ns tu ba na ca bo tr tH asd pa tg sd sr)) := by
  refine Ctr.of (by decide) (Nat.le_of_ble_eq_true rfl) rfl rfl 2 ?_
  intro X hX hR
  refine rh_iconst hX dX8_holdersOf_0 ki_0 ?_
  refine rh_istn2 hX dX8_holdersOf_1 (by decide) rfl ?_
  refine rh_iconst hX dX8_holdersOf_2 ki_0 ?_
  refine rh_istn3 hX dX8_holdersOf_3 (by decide) rfl ?_
  refine rh_loop (P := fun i => G X 4 [some (.ref (B 0)), some (.int (nI t)), some (.int (orF (fun h => cBit (cHeld (fm u) h t) h) i)), some (.int (nI i))] [] (wM E B u kp ik ps pm dd tx ty rw rm th sz he wr mn vl tp lt ra pf pt pl pd prc ns tu ba na ca bo tr tH asd pa tg sd sr)) (0) (8) (by omega) ?_ ?_
  · skip
    refine rh_iload_n hX dX8_holdersOf_4 rfl ?_
    refine rh_bipush hX dX8_holdersOf_5 kb_8 ?_
    refine rh_icmp_ge_t (tgt := 35) hX dX8_holdersOf_7 (by decide) (nI_le (a := 8) (b := 8) (Nat.le_refl 8) (by decide)) ?_
    refine rh_iload_n hX dX8_holdersOf_35 rfl ?_
    exact rh_iret hX hR dX8_holdersOf_36 (by simp only [List.map_cons, List.map_nil, List.cons_append, List.nil_append]) ⟨rfl, rfl⟩
  · intro i hi0 hi ih
    refine rh_iload_n hX dX8_holdersOf_4 rfl ?_
    refine rh_bipush hX dX8_holdersOf_5 kb_8 ?_
    refine rh_icmp_ge_f (tgt := 35) hX dX8_holdersOf_7 (by decide) (nI_ge (b := 8) hi (by decide)) ?_
    refine rh_iload_n hX dX8_holdersOf_10 rfl ?_
    refine rh_aload_n hX dX8_holdersOf_11 rfl ?_
    refine rh_iload_n hX dX8_holdersOf_12 rfl ?_
    refine rh_iload_n hX dX8_holdersOf_13 rfl ?_
    refine rh_pV hX lk_X8_80 mvX8_sharesOf (fun l => c_X8_sharesOf l E _ _ _ _ _ _ _ _ _ _ _ _ _ _ _ _ _ _ _ _ _ _ _ _ _ _ _ _ _ _ _ _ _ _ _ _ _ _ i t (by omega) (by omega)) ⟨rfl, rfl⟩ ⟨Nat.le_of_ble_eq_true rfl, Nat.le_of_ble_eq_true rfl⟩ [0, 1, 2, 3, 4, 5, 6, 7, 8, 9, 10, 11, 12] rfl rfl 0 rfl dX8_holdersOf_14 rfl rfl (Nat.le_of_ble_eq_true rfl) ?_
    refine rh_if_le (tgt := 26) hX dX8_holdersOf_17 (by decide) (fun h17 => ?_) (fun h17 => ?_)
    · skip
      refine rh_iconst hX dX8_holdersOf_26 ki_0 ?_
      refine rh_ior hX dX8_holdersOf_27 ?_
      refine rh_istn2 hX dX8_holdersOf_28 (by decide) rfl ?_
      refine rh_inc3 hX dX8_holdersOf_29 (by decide) rfl (rn_i1 _) ?_
      refine rh_goto (tgt := 4) hX dX8_holdersOf_32 (by decide) ?_
      first | (rw [show orF (fun h => cBit (cHeld (fm u) h t) h) (i + 1) = orF (fun h => cBit (cHeld (fm u) h t) h) i ||| 1 <<< (nI i &&& 31) by rw [orF]; rw [← fm_held u (h := i) (t := t) (by omega) (by omega), ← bit_le, if_neg h17]] at ih; exact ih) | (rw [show orF (fun h => cBit (cHeld (fm u) h t) h) (i + 1) = orF (fun h => cBit (cHeld (fm u) h t) h) i ||| 0 by rw [orF]; rw [← fm_held u (h := i) (t := t) (by omega) (by omega), ← bit_le, if_pos h17]] at ih; exact ih)
    · skip
      refine rh_iconst hX dX8_holdersOf_20 ki_1 ?_
      refine rh_iload_n hX dX8_holdersOf_21 rfl ?_
      refine rh_ishl hX dX8_holdersOf_22 ?_
      refine rh_goto (tgt := 27) hX dX8_holdersOf_23 (by decide) ?_
      refine rh_ior hX dX8_holdersOf_27 ?_
      refine rh_istn2 hX dX8_holdersOf_28 (by decide) rfl ?_
      refine rh_inc3 hX dX8_holdersOf_29 (by decide) rfl (rn_i1 _) ?_
      refine rh_goto (tgt := 4) hX dX8_holdersOf_32 (by decide) ?_
      first | (rw [show orF (fun h => cBit (cHeld (fm u) h t) h) (i + 1) = orF (fun h => cBit (cHeld (fm u) h t) h) i ||| 1 <<< (nI i &&& 31) by rw [orF]; rw [← fm_held u (h := i) (t := t) (by omega) (by omega), ← bit_le, if_neg h17]] at ih; exact ih) | (rw [show orF (fun h => cBit (cHeld (fm u) h t) h) (i + 1) = orF (fun h => cBit (cHeld (fm u) h t) h) i ||| 0 by rw [orF]; rw [← fm_held u (h := i) (t := t) (by omega) (by omega), ← bit_le, if_pos h17]] at ih; exact ih)

set_option maxRecDepth 100000 in
set_option maxHeartbeats 4000000 in
theorem c_X8_optioned (l : Launch) (E : rhE) (B : Nat → Nat) (u : Nat → Int32) (kp : Nat → Int32) (ik : Int32) (ps : Nat → Int32) (pm : Nat) (dd : Int32) (tx : Nat → Int32) (ty : Nat) (rw : Nat → Int64) (rm : Nat) (th : Int32) (sz : Nat) (he : Nat) (wr : Int32) (mn : Nat → Int32) (vl : Int32) (tp : Int32) (lt : Int32) (ra : Int32) (pf : Int32) (pt : Int32) (pl : Int32) (pd : Int64) (prc : Int64) (ns : Int64) (tu : Nat) (ba : Int64) (na : Int64) (ca : Nat → Int64) (bo : Nat → Int32) (tr : Nat → Int64) (tH : Int32) (asd : Nat → Int32) (pa : Nat → Int64) (tg : Nat → Int64) (sd : Int64) (sr : Int64)   : Ctr l E yX8_optioned cX8_optioned 3 (some .int) (rmL 0) [.ref (B 0)] (wM E B u kp ik ps pm dd tx ty rw rm th sz he wr mn vl tp lt ra pf pt pl pd prc ns tu ba na ca bo tr tH asd pa tg sd sr) (One (some (.int (cGrantees (fm u)))) (wM E B u kp ik ps pm dd tx ty rw rm th sz he wr mn vl tp lt ra pf pt pl pd prc ns tu ba na ca bo tr tH asd pa tg sd sr)) := by
  refine Ctr.of (by decide) (Nat.le_of_ble_eq_true rfl) rfl rfl 2 ?_
  intro X hX hR
  refine rh_iconst hX dX8_optioned_0 ki_0 ?_
  refine rh_istn1 hX dX8_optioned_1 (by decide) rfl ?_
  refine rh_iconst hX dX8_optioned_2 ki_0 ?_
  refine rh_istn2 hX dX8_optioned_3 (by decide) rfl ?_
  refine rh_loop (P := fun i => G X 4 [some (.ref (B 0)), some (.int (orF (fun h => cBit (cGranted (fm u) h) h) i)), some (.int (nI i))] [] (wM E B u kp ik ps pm dd tx ty rw rm th sz he wr mn vl tp lt ra pf pt pl pd prc ns tu ba na ca bo tr tH asd pa tg sd sr)) (0) (8) (by omega) ?_ ?_
  · skip
    refine rh_iload_n hX dX8_optioned_4 rfl ?_
    refine rh_bipush hX dX8_optioned_5 kb_8 ?_
    refine rh_icmp_ge_t (tgt := 38) hX dX8_optioned_7 (by decide) (nI_le (a := 8) (b := 8) (Nat.le_refl 8) (by decide)) ?_
    refine rh_iload_n hX dX8_optioned_38 rfl ?_
    exact rh_iret hX hR dX8_optioned_39 (by simp only [List.map_cons, List.map_nil, List.cons_append, List.nil_append]) ⟨rfl, rfl⟩
  · intro i hi0 hi ih
    refine rh_iload_n hX dX8_optioned_4 rfl ?_
    refine rh_bipush hX dX8_optioned_5 kb_8 ?_
    refine rh_icmp_ge_f (tgt := 38) hX dX8_optioned_7 (by decide) (nI_ge (b := 8) hi (by decide)) ?_
    refine rh_iload_n hX dX8_optioned_10 rfl ?_
    refine rh_aload_n hX dX8_optioned_11 rfl ?_
    refine rh_get hX gl_X8_7 0 dX8_optioned_12 rfl rfl ?_
    refine rh_bipush hX dX8_optioned_15 kb_48 ?_
    refine rh_iload_n hX dX8_optioned_17 rfl ?_
    refine rh_iadd hX dX8_optioned_18 ?_
    refine rh_iaload hX 1 _ dX8_optioned_19 rfl (rn_a rn_c48 rfl) (by omega) (by decide) ?_
    refine rh_if_le (tgt := 29) hX dX8_optioned_20 (by decide) (fun h20 => ?_) (fun h20 => ?_)
    · skip
      refine rh_iconst hX dX8_optioned_29 ki_0 ?_
      refine rh_ior hX dX8_optioned_30 ?_
      refine rh_istn1 hX dX8_optioned_31 (by decide) rfl ?_
      refine rh_inc2 hX dX8_optioned_32 (by decide) rfl (rn_i1 _) ?_
      refine rh_goto (tgt := 4) hX dX8_optioned_35 (by decide) ?_
      first | (rw [show orF (fun h => cBit (cGranted (fm u) h) h) (i + 1) = orF (fun h => cBit (cGranted (fm u) h) h) i ||| 1 <<< (nI i &&& 31) by rw [orF]; rw [← fm_granted u (h := i) (by omega), ← bit_le, if_neg h20]] at ih; exact ih) | (rw [show orF (fun h => cBit (cGranted (fm u) h) h) (i + 1) = orF (fun h => cBit (cGranted (fm u) h) h) i ||| 0 by rw [orF]; rw [← fm_granted u (h := i) (by omega), ← bit_le, if_pos h20]] at ih; exact ih)
    · skip
      refine rh_iconst hX dX8_optioned_23 ki_1 ?_
      refine rh_iload_n hX dX8_optioned_24 rfl ?_
      refine rh_ishl hX dX8_optioned_25 ?_
      refine rh_goto (tgt := 30) hX dX8_optioned_26 (by decide) ?_
      refine rh_ior hX dX8_optioned_30 ?_
      refine rh_istn1 hX dX8_optioned_31 (by decide) rfl ?_
      refine rh_inc2 hX dX8_optioned_32 (by decide) rfl (rn_i1 _) ?_
      refine rh_goto (tgt := 4) hX dX8_optioned_35 (by decide) ?_
      first | (rw [show orF (fun h => cBit (cGranted (fm u) h) h) (i + 1) = orF (fun h => cBit (cGranted (fm u) h) h) i ||| 1 <<< (nI i &&& 31) by rw [orF]; rw [← fm_granted u (h := i) (by omega), ← bit_le, if_neg h20]] at ih; exact ih) | (rw [show orF (fun h => cBit (cGranted (fm u) h) h) (i + 1) = orF (fun h => cBit (cGranted (fm u) h) h) i ||| 0 by rw [orF]; rw [← fm_granted u (h := i) (by omega), ← bit_le, if_pos h20]] at ih; exact ih)

set_option maxRecDepth 100000 in
set_option maxHeartbeats 4000000 in
theorem c_X8_staked (l : Launch) (E : rhE) (B : Nat → Nat) (u : Nat → Int32) (kp : Nat → Int32) (ik : Int32) (ps : Nat → Int32) (pm : Nat) (dd : Int32) (tx : Nat → Int32) (ty : Nat) (rw : Nat → Int64) (rm : Nat) (th : Int32) (sz : Nat) (he : Nat) (wr : Int32) (mn : Nat → Int32) (vl : Int32) (tp : Int32) (lt : Int32) (ra : Int32) (pf : Int32) (pt : Int32) (pl : Int32) (pd : Int64) (prc : Int64) (ns : Int64) (tu : Nat) (ba : Int64) (na : Int64) (ca : Nat → Int64) (bo : Nat → Int32) (tr : Nat → Int64) (tH : Int32) (asd : Nat → Int32) (pa : Nat → Int64) (tg : Nat → Int64) (sd : Int64) (sr : Int64) (T : Nat) (hM : mOk u T)  : Ctr l E yX8_staked cX8_staked 3 (some .int) (rmL 3) [.ref (B 0)] (wM E B u kp ik ps pm dd tx ty rw rm th sz he wr mn vl tp lt ra pf pt pl pd prc ns tu ba na ca bo tr tH asd pa tg sd sr) (One (some (.int (cClaimants (fm u) T))) (wM E B u kp ik ps pm dd tx ty rw rm th sz he wr mn vl tp lt ra pf pt pl pd prc ns tu ba na ca bo tr tH asd pa tg sd sr)) := by
  refine Ctr.of (by decide) (Nat.le_of_ble_eq_true rfl) rfl rfl 2 ?_
  intro X hX hR
  obtain ⟨hT, hT1, hT6, hcv⟩ := id hM
  refine rh_iconst hX dX8_staked_0 ki_0 ?_
  refine rh_istn1 hX dX8_staked_1 (by decide) rfl ?_
  refine rh_iconst hX dX8_staked_2 ki_0 ?_
  refine rh_istn2 hX dX8_staked_3 (by decide) rfl ?_
  refine rh_loop (P := fun i => G X 4 [some (.ref (B 0)), some (.int (orF (fun h => cBit (cClaim (fm u) h T) h) i)), some (.int (nI i))] [] (wM E B u kp ik ps pm dd tx ty rw rm th sz he wr mn vl tp lt ra pf pt pl pd prc ns tu ba na ca bo tr tH asd pa tg sd sr)) (0) (8) (by omega) ?_ ?_
  · skip
    refine rh_iload_n hX dX8_staked_4 rfl ?_
    refine rh_bipush hX dX8_staked_5 kb_8 ?_
    refine rh_icmp_ge_t (tgt := 36) hX dX8_staked_7 (by decide) (nI_le (a := 8) (b := 8) (Nat.le_refl 8) (by decide)) ?_
    refine rh_iload_n hX dX8_staked_36 rfl ?_
    exact rh_iret hX hR dX8_staked_37 (by simp only [List.map_cons, List.map_nil, List.cons_append, List.nil_append]) ⟨rfl, rfl⟩
  · intro i hi0 hi ih
    refine rh_iload_n hX dX8_staked_4 rfl ?_
    refine rh_bipush hX dX8_staked_5 kb_8 ?_
    refine rh_icmp_ge_f (tgt := 36) hX dX8_staked_7 (by decide) (nI_ge (b := 8) hi (by decide)) ?_
    refine rh_iload_n hX dX8_staked_10 rfl ?_
    refine rh_aload_n hX dX8_staked_11 rfl ?_
    refine rh_iload_n hX dX8_staked_12 rfl ?_
    refine rh_pV hX lk_X8_149 mvX8_stakeOf (fun l => c_X8_stakeOf l E _ _ _ _ _ _ _ _ _ _ _ _ _ _ _ _ _ _ _ _ _ _ _ _ _ _ _ _ _ _ _ _ _ _ _ _ _ _ i T hM (by omega)) ⟨rfl, rfl⟩ ⟨Nat.le_of_ble_eq_true rfl, Nat.le_of_ble_eq_true rfl⟩ [0, 1, 2, 3, 4, 5, 6, 7, 8, 9, 10, 11, 12] rfl rfl 0 rfl dX8_staked_13 rfl rfl (Nat.le_of_ble_eq_true rfl) ?_
    refine rh_lconst hX dX8_staked_16 kL_0 ?_
    refine rh_lle (tgt := 27) hX dX8_staked_17 dX8_staked_18 (by decide) (fun h18 => ?_) (fun h18 => ?_)
    · skip
      refine rh_iconst hX dX8_staked_27 ki_0 ?_
      refine rh_ior hX dX8_staked_28 ?_
      refine rh_istn1 hX dX8_staked_29 (by decide) rfl ?_
      refine rh_inc2 hX dX8_staked_30 (by decide) rfl (rn_i1 _) ?_
      refine rh_goto (tgt := 4) hX dX8_staked_33 (by decide) ?_
      first | (rw [show orF (fun h => cBit (cClaim (fm u) h T) h) (i + 1) = orF (fun h => cBit (cClaim (fm u) h T) h) i ||| 1 <<< (nI i &&& 31) by rw [orF]; rw [cBit, if_neg h18]] at ih; exact ih) | (rw [show orF (fun h => cBit (cClaim (fm u) h T) h) (i + 1) = orF (fun h => cBit (cClaim (fm u) h T) h) i ||| 0 by rw [orF]; rw [cBit, if_pos h18]] at ih; exact ih)
    · skip
      refine rh_iconst hX dX8_staked_21 ki_1 ?_
      refine rh_iload_n hX dX8_staked_22 rfl ?_
      refine rh_ishl hX dX8_staked_23 ?_
      refine rh_goto (tgt := 28) hX dX8_staked_24 (by decide) ?_
      refine rh_ior hX dX8_staked_28 ?_
      refine rh_istn1 hX dX8_staked_29 (by decide) rfl ?_
      refine rh_inc2 hX dX8_staked_30 (by decide) rfl (rn_i1 _) ?_
      refine rh_goto (tgt := 4) hX dX8_staked_33 (by decide) ?_
      first | (rw [show orF (fun h => cBit (cClaim (fm u) h T) h) (i + 1) = orF (fun h => cBit (cClaim (fm u) h T) h) i ||| 1 <<< (nI i &&& 31) by rw [orF]; rw [cBit, if_neg h18]] at ih; exact ih) | (rw [show orF (fun h => cBit (cClaim (fm u) h T) h) (i + 1) = orF (fun h => cBit (cClaim (fm u) h T) h) i ||| 0 by rw [orF]; rw [cBit, if_pos h18]] at ih; exact ih)

set_option maxRecDepth 100000 in
set_option maxHeartbeats 4000000 in
theorem c_X8_typesWith (l : Launch) (E : rhE) (B : Nat → Nat) (u : Nat → Int32) (kp : Nat → Int32) (ik : Int32) (ps : Nat → Int32) (pm : Nat) (dd : Int32) (tx : Nat → Int32) (ty : Nat) (rw : Nat → Int64) (rm : Nat) (th : Int32) (sz : Nat) (he : Nat) (wr : Int32) (mn : Nat → Int32) (vl : Int32) (tp : Int32) (lt : Int32) (ra : Int32) (pf : Int32) (pt : Int32) (pl : Int32) (pd : Int64) (prc : Int64) (ns : Int64) (tu : Nat) (ba : Int64) (na : Int64) (ca : Nat → Int64) (bo : Nat → Int32) (tr : Nat → Int64) (tH : Int32) (asd : Nat → Int32) (pa : Nat → Int64) (tg : Nat → Int64) (sd : Int64) (sr : Int64) (k : Nat) (T : Nat) (hM : mOk u T) (hk : k < 6) : Ctr l E yX8_typesWith cX8_typesWith 4 (some .int) (rmL 0) [.ref (B 0), .int (nI (58 + 6 * k))] (wM E B u kp ik ps pm dd tx ty rw rm th sz he wr mn vl tp lt ra pf pt pl pd prc ns tu ba na ca bo tr tH asd pa tg sd sr) (One (some (.int (cTypesWith (fm u) k T))) (wM E B u kp ik ps pm dd tx ty rw rm th sz he wr mn vl tp lt ra pf pt pl pd prc ns tu ba na ca bo tr tH asd pa tg sd sr)) := by
  refine Ctr.of (by decide) (Nat.le_of_ble_eq_true rfl) rfl rfl 2 ?_
  intro X hX hR
  obtain ⟨hT, hT1, hT6, hcv⟩ := id hM
  refine rh_iconst hX dX8_typesWith_0 ki_0 ?_
  refine rh_istn2 hX dX8_typesWith_1 (by decide) rfl ?_
  refine rh_iconst hX dX8_typesWith_2 ki_1 ?_
  refine rh_istn3 hX dX8_typesWith_3 (by decide) rfl ?_
  refine rh_loop (P := fun i => G X 4 [some (.ref (B 0)), some (.int (nI (58 + 6 * k))), some (.int (or1 (fun c => cBit (cFact (fm u) c k) c) i)), some (.int (nI i))] [] (wM E B u kp ik ps pm dd tx ty rw rm th sz he wr mn vl tp lt ra pf pt pl pd prc ns tu ba na ca bo tr tH asd pa tg sd sr)) (1) (T) (by omega) ?_ ?_
  · skip
    refine rh_iload_n hX dX8_typesWith_4 rfl ?_
    refine rh_aload_n hX dX8_typesWith_5 rfl ?_
    refine rh_get hX gl_X8_7 0 dX8_typesWith_6 rfl rfl ?_
    refine rh_bipush hX dX8_typesWith_9 kb_57 ?_
    refine rh_iaload hX 1 _ dX8_typesWith_11 rfl rn_c57 (by omega) (by decide) ?_
    refine rh_icmp_ge_t (tgt := 42) hX dX8_typesWith_12 (by decide) (by rw [hT]; exact nI_le (Nat.le_refl T) (by omega)) ?_
    refine rh_iload_n hX dX8_typesWith_42 rfl ?_
    exact rh_iret hX hR dX8_typesWith_43 (by simp only [List.map_cons, List.map_nil, List.cons_append, List.nil_append]) ⟨rfl, rfl⟩
  · intro i hi0 hi ih
    refine rh_iload_n hX dX8_typesWith_4 rfl ?_
    refine rh_aload_n hX dX8_typesWith_5 rfl ?_
    refine rh_get hX gl_X8_7 0 dX8_typesWith_6 rfl rfl ?_
    refine rh_bipush hX dX8_typesWith_9 kb_57 ?_
    refine rh_iaload hX 1 _ dX8_typesWith_11 rfl rn_c57 (by omega) (by decide) ?_
    refine rh_icmp_ge_f (tgt := 42) hX dX8_typesWith_12 (by decide) (by rw [hT]; exact nI_ge hi (by omega)) ?_
    refine rh_iload_n hX dX8_typesWith_15 rfl ?_
    refine rh_aload_n hX dX8_typesWith_16 rfl ?_
    refine rh_get hX gl_X8_7 0 dX8_typesWith_17 rfl rfl ?_
    refine rh_iload_n hX dX8_typesWith_20 rfl ?_
    refine rh_iload_n hX dX8_typesWith_21 rfl ?_
    refine rh_iadd hX dX8_typesWith_22 ?_
    refine rh_iaload hX 1 _ dX8_typesWith_23 rfl (rn_a rfl rfl) (by omega) (by decide) ?_
    refine rh_if_le (tgt := 33) hX dX8_typesWith_24 (by decide) (fun h24 => ?_) (fun h24 => ?_)
    · skip
      refine rh_iconst hX dX8_typesWith_33 ki_0 ?_
      refine rh_ior hX dX8_typesWith_34 ?_
      refine rh_istn2 hX dX8_typesWith_35 (by decide) rfl ?_
      refine rh_inc3 hX dX8_typesWith_36 (by decide) rfl (rn_i1 _) ?_
      refine rh_goto (tgt := 4) hX dX8_typesWith_39 (by decide) ?_
      first | (rw [show or1 (fun c => cBit (cFact (fm u) c k) c) (i + 1) = or1 (fun c => cBit (cFact (fm u) c k) c) i ||| 1 <<< (nI i &&& 31) by rw [or1, if_neg (by omega)]; rw [← fm_fact u (t := i) (k := k) (by omega) (by omega), ← bit_le, if_neg h24]] at ih; exact ih) | (rw [show or1 (fun c => cBit (cFact (fm u) c k) c) (i + 1) = or1 (fun c => cBit (cFact (fm u) c k) c) i ||| 0 by rw [or1, if_neg (by omega)]; rw [← fm_fact u (t := i) (k := k) (by omega) (by omega), ← bit_le, if_pos h24]] at ih; exact ih)
    · skip
      refine rh_iconst hX dX8_typesWith_27 ki_1 ?_
      refine rh_iload_n hX dX8_typesWith_28 rfl ?_
      refine rh_ishl hX dX8_typesWith_29 ?_
      refine rh_goto (tgt := 34) hX dX8_typesWith_30 (by decide) ?_
      refine rh_ior hX dX8_typesWith_34 ?_
      refine rh_istn2 hX dX8_typesWith_35 (by decide) rfl ?_
      refine rh_inc3 hX dX8_typesWith_36 (by decide) rfl (rn_i1 _) ?_
      refine rh_goto (tgt := 4) hX dX8_typesWith_39 (by decide) ?_
      first | (rw [show or1 (fun c => cBit (cFact (fm u) c k) c) (i + 1) = or1 (fun c => cBit (cFact (fm u) c k) c) i ||| 1 <<< (nI i &&& 31) by rw [or1, if_neg (by omega)]; rw [← fm_fact u (t := i) (k := k) (by omega) (by omega), ← bit_le, if_neg h24]] at ih; exact ih) | (rw [show or1 (fun c => cBit (cFact (fm u) c k) c) (i + 1) = or1 (fun c => cBit (cFact (fm u) c k) c) i ||| 0 by rw [or1, if_neg (by omega)]; rw [← fm_fact u (t := i) (k := k) (by omega) (by omega), ← bit_le, if_pos h24]] at ih; exact ih)

set_option maxRecDepth 100000 in
set_option maxHeartbeats 4000000 in
theorem c_X8_gave (l : Launch) (E : rhE) (B : Nat → Nat) (u : Nat → Int32) (kp : Nat → Int32) (ik : Int32) (ps : Nat → Int32) (pm : Nat) (dd : Int32) (tx : Nat → Int32) (ty : Nat) (rw : Nat → Int64) (rm : Nat) (th : Int32) (sz : Nat) (he : Nat) (wr : Int32) (mn : Nat → Int32) (vl : Int32) (tp : Int32) (lt : Int32) (ra : Int32) (pf : Int32) (pt : Int32) (pl : Int32) (pd : Int64) (prc : Int64) (ns : Int64) (tu : Nat) (ba : Int64) (na : Int64) (ca : Nat → Int64) (bo : Nat → Int32) (tr : Nat → Int64) (tH : Int32) (asd : Nat → Int32) (pa : Nat → Int64) (tg : Nat → Int64) (sd : Int64) (sr : Int64) (h : Nat) (T : Nat) (hM : mOk u T) (hh : h < 8) : Ctr l E yX8_gave cX8_gave 5 (some .long) (rmL 0) [.ref (B 0), .int (nI h)] (wM E B u kp ik ps pm dd tx ty rw rm th sz he wr mn vl tp lt ra pf pt pl pd prc ns tu ba na ca bo tr tH asd pa tg sd sr) (One (some (.long (cAllGiven (fm u) h T))) (wM E B u kp ik ps pm dd tx ty rw rm th sz he wr mn vl tp lt ra pf pt pl pd prc ns tu ba na ca bo tr tH asd pa tg sd sr)) := by
  refine Ctr.of (by decide) (Nat.le_of_ble_eq_true rfl) rfl rfl 3 ?_
  intro X hX hR
  obtain ⟨hT, hT1, hT6, hcv⟩ := id hM
  refine rh_lconst hX dX8_gave_0 kL_0 ?_
  refine rh_lstn2 hX dX8_gave_1 (by decide) rfl ?_
  refine rh_iconst hX dX8_gave_2 ki_1 ?_
  refine rh_ist4 hX dX8_gave_3 (by decide) rfl ?_
  refine rh_loop (P := fun i => G X 5 [some (.ref (B 0)), some (.int (nI h)), some (.long (sum1 (fun c => cGiven (fm u) h c) i)), none, some (.int (nI i))] [] (wM E B u kp ik ps pm dd tx ty rw rm th sz he wr mn vl tp lt ra pf pt pl pd prc ns tu ba na ca bo tr tH asd pa tg sd sr)) (1) (T) (by omega) ?_ ?_
  · skip
    refine rh_iload hX dX8_gave_5 rfl ?_
    refine rh_aload_n hX dX8_gave_7 rfl ?_
    refine rh_get hX gl_X8_7 0 dX8_gave_8 rfl rfl ?_
    refine rh_bipush hX dX8_gave_11 kb_57 ?_
    refine rh_iaload hX 1 _ dX8_gave_13 rfl rn_c57 (by omega) (by decide) ?_
    refine rh_icmp_ge_t (tgt := 42) hX dX8_gave_14 (by decide) (by rw [hT]; exact nI_le (Nat.le_refl T) (by omega)) ?_
    refine rh_lload_n hX dX8_gave_42 rfl ?_
    exact rh_lret hX hR dX8_gave_43 (by simp only [List.map_cons, List.map_nil, List.cons_append, List.nil_append]) ⟨rfl, rfl⟩
  · intro i hi0 hi ih
    refine rh_iload hX dX8_gave_5 rfl ?_
    refine rh_aload_n hX dX8_gave_7 rfl ?_
    refine rh_get hX gl_X8_7 0 dX8_gave_8 rfl rfl ?_
    refine rh_bipush hX dX8_gave_11 kb_57 ?_
    refine rh_iaload hX 1 _ dX8_gave_13 rfl rn_c57 (by omega) (by decide) ?_
    refine rh_icmp_ge_f (tgt := 42) hX dX8_gave_14 (by decide) (by rw [hT]; exact nI_ge hi (by omega)) ?_
    refine rh_lload_n hX dX8_gave_17 rfl ?_
    refine rh_aload_n hX dX8_gave_18 rfl ?_
    refine rh_get hX gl_X8_7 0 dX8_gave_19 rfl rfl ?_
    refine rh_bipush hX dX8_gave_22 kb_124 ?_
    refine rh_bipush hX dX8_gave_24 kb_6 ?_
    refine rh_iload_n hX dX8_gave_26 rfl ?_
    refine rh_imul hX dX8_gave_27 ?_
    refine rh_iadd hX dX8_gave_28 ?_
    refine rh_iload hX dX8_gave_29 rfl ?_
    refine rh_iadd hX dX8_gave_31 ?_
    refine rh_iaload hX 1 _ dX8_gave_32 rfl (rn_a (rn_a rn_c124 (rn_m rn_c6 rfl)) rfl) (by omega) (by decide) ?_
    refine rh_i2l hX dX8_gave_33 ?_
    rw [fm_given u (h := h) (t := i) (by omega) (by omega)]
    refine rh_ladd hX dX8_gave_34 ?_
    refine rh_lstn2 hX dX8_gave_35 (by decide) rfl ?_
    refine rh_inc4 hX dX8_gave_36 (by decide) rfl (rn_i1 _) ?_
    refine rh_goto (tgt := 5) hX dX8_gave_39 (by decide) ?_
    rw [show sum1 (fun c => cGiven (fm u) h c) (i + 1) = sum1 (fun c => cGiven (fm u) h c) i + cGiven (fm u) h i by rw [sum1, if_neg (by omega)]] at ih
    exact ih

set_option maxRecDepth 100000 in
set_option maxHeartbeats 4000000 in
theorem c_X8_preferenceOf (l : Launch) (E : rhE) (B : Nat → Nat) (u : Nat → Int32) (kp : Nat → Int32) (ik : Int32) (ps : Nat → Int32) (pm : Nat) (dd : Int32) (tx : Nat → Int32) (ty : Nat) (rw : Nat → Int64) (rm : Nat) (th : Int32) (sz : Nat) (he : Nat) (wr : Int32) (mn : Nat → Int32) (vl : Int32) (tp : Int32) (lt : Int32) (ra : Int32) (pf : Int32) (pt : Int32) (pl : Int32) (pd : Int64) (prc : Int64) (ns : Int64) (tu : Nat) (ba : Int64) (na : Int64) (ca : Nat → Int64) (bo : Nat → Int32) (tr : Nat → Int64) (tH : Int32) (asd : Nat → Int32) (pa : Nat → Int64) (tg : Nat → Int64) (sd : Int64) (sr : Int64) (t : Nat) (ht : t < 6) : Ctr l E yX8_preferenceOf cX8_preferenceOf 2 (some .long) (rmL 2) [.ref (B 0), .int (nI t)] (wM E B u kp ik ps pm dd tx ty rw rm th sz he wr mn vl tp lt ra pf pt pl pd prc ns tu ba na ca bo tr tH asd pa tg sd sr) (One (some (.long (cPref (fm u) t))) (wM E B u kp ik ps pm dd tx ty rw rm th sz he wr mn vl tp lt ra pf pt pl pd prc ns tu ba na ca bo tr tH asd pa tg sd sr)) := by
  refine Ctr.of (by decide) (Nat.le_of_ble_eq_true rfl) rfl rfl 0 ?_
  intro X hX hR
  refine rh_aload_n hX dX8_preferenceOf_0 rfl ?_
  refine rh_iload_n hX dX8_preferenceOf_1 rfl ?_
  refine rh_pV hX lk_X8_154 mvX8_allShares (fun l => c_X8_allShares l E _ _ _ _ _ _ _ _ _ _ _ _ _ _ _ _ _ _ _ _ _ _ _ _ _ _ _ _ _ _ _ _ _ _ _ _ _ _ t (by omega)) ⟨rfl, rfl⟩ ⟨Nat.le_of_ble_eq_true rfl, Nat.le_of_ble_eq_true rfl⟩ [0, 1, 2, 3, 4, 5, 6, 7, 8, 9, 10, 11, 12] rfl rfl 0 rfl dX8_preferenceOf_2 rfl rfl (Nat.le_of_ble_eq_true rfl) ?_
  refine rh_aload_n hX dX8_preferenceOf_5 rfl ?_
  refine rh_get hX gl_X8_7 0 dX8_preferenceOf_6 rfl rfl ?_
  refine rh_bipush hX dX8_preferenceOf_9 kb_58 ?_
  refine rh_iload_n hX dX8_preferenceOf_11 rfl ?_
  refine rh_iadd hX dX8_preferenceOf_12 ?_
  refine rh_iaload hX 1 _ dX8_preferenceOf_13 rfl (rn_a rn_c58 rfl) (by omega) (by decide) ?_
  refine rh_i2l hX dX8_preferenceOf_14 ?_
  rw [show (u (58 + t)).toInt64 = cFact (fm u) t 0 from fm_fact u (k := 0) ht (by omega)]
  refine rh_lmul hX dX8_preferenceOf_15 ?_
  refine rh_aload_n hX dX8_preferenceOf_16 rfl ?_
  refine rh_get hX gl_X8_7 0 dX8_preferenceOf_17 rfl rfl ?_
  refine rh_bipush hX dX8_preferenceOf_20 kb_76 ?_
  refine rh_iload_n hX dX8_preferenceOf_22 rfl ?_
  refine rh_iadd hX dX8_preferenceOf_23 ?_
  refine rh_iaload hX 1 _ dX8_preferenceOf_24 rfl (rn_a rn_c76 rfl) (by omega) (by decide) ?_
  refine rh_i2l hX dX8_preferenceOf_25 ?_
  rw [show (u (76 + t)).toInt64 = cFact (fm u) t 3 from fm_fact u (k := 3) ht (by omega)]
  refine rh_lmul hX dX8_preferenceOf_26 ?_
  refine rh_ldc2 hX dX8_preferenceOf_27 kl_X8_338 ?_
  refine rh_ldiv hX dX8_preferenceOf_30 (by decide) ?_
  exact rh_lret hX hR dX8_preferenceOf_31 (by simp only [List.map_cons, List.map_nil, List.cons_append, List.nil_append]) ⟨rfl, rfl⟩

set_option maxRecDepth 100000 in
set_option maxHeartbeats 4000000 in
theorem c_X8_has (l : Launch) (E : rhE) (B : Nat → Nat) (u : Nat → Int32) (kp : Nat → Int32) (ik : Int32) (ps : Nat → Int32) (pm : Nat) (dd : Int32) (tx : Nat → Int32) (ty : Nat) (rw : Nat → Int64) (rm : Nat) (th : Int32) (sz : Nat) (he : Nat) (wr : Int32) (mn : Nat → Int32) (vl : Int32) (tp : Int32) (lt : Int32) (ra : Int32) (pf : Int32) (pt : Int32) (pl : Int32) (pd : Int64) (prc : Int64) (ns : Int64) (tu : Nat) (ba : Int64) (na : Int64) (ca : Nat → Int64) (bo : Nat → Int32) (tr : Nat → Int64) (tH : Int32) (asd : Nat → Int32) (pa : Nat → Int64) (tg : Nat → Int64) (sd : Int64) (sr : Int64) (h t : Nat) (n : Int32) (hh : h < 8) (ht : t < 6) : Ctr l E yX8_has cX8_has 4 none (rmL 0) [.ref (B 0), .int (nI h), .int (nI t), .int n] (wM E B u kp ik ps pm dd tx ty rw rm th sz he wr mn vl tp lt ra pf pt pl pd prc ns tu ba na ca bo tr tH asd pa tg sd sr) (One none (wM E B (va_up u (6 * h + t) n) kp ik ps pm dd tx ty rw rm th sz he wr mn vl tp lt ra pf pt pl pd prc ns tu ba na ca bo tr tH asd pa tg sd sr)) := by
  refine Ctr.of (by decide) (Nat.le_of_ble_eq_true rfl) rfl rfl 0 ?_
  intro X hX hR
  refine rh_aload_n hX dX8_has_0 rfl ?_
  refine rh_get hX gl_X8_7 0 dX8_has_1 rfl rfl ?_
  refine rh_bipush hX dX8_has_4 kb_6 ?_
  refine rh_iload_n hX dX8_has_6 rfl ?_
  refine rh_imul hX dX8_has_7 ?_
  refine rh_iload_n hX dX8_has_8 rfl ?_
  refine rh_iadd hX dX8_has_9 ?_
  refine rh_iload_n hX dX8_has_10 rfl ?_
  refine rh_iastore hX 1 _ dX8_has_11 rfl (rn_a (rn_m rn_c6 rfl) rfl) (by omega) (by decide) rfl ?_
  dsimp only [List.cons_append, List.nil_append, List.set_cons_succ, List.set_cons_zero, vput]
  exact rh_vret hX hR dX8_has_12 (by simp only [List.map_cons, List.map_nil, List.cons_append, List.nil_append]) ⟨rfl, rfl⟩

set_option maxRecDepth 100000 in
set_option maxHeartbeats 4000000 in
theorem c_X8_tell (l : Launch) (E : rhE) (B : Nat → Nat) (u : Nat → Int32) (kp : Nat → Int32) (ik : Int32) (ps : Nat → Int32) (pm : Nat) (dd : Int32) (tx : Nat → Int32) (ty : Nat) (rw : Nat → Int64) (rm : Nat) (th : Int32) (sz : Nat) (he : Nat) (wr : Int32) (mn : Nat → Int32) (vl : Int32) (tp : Int32) (lt : Int32) (ra : Int32) (pf : Int32) (pt : Int32) (pl : Int32) (pd : Int64) (prc : Int64) (ns : Int64) (tu : Nat) (ba : Int64) (na : Int64) (ca : Nat → Int64) (bo : Nat → Int32) (tr : Nat → Int64) (tH : Int32) (asd : Nat → Int32) (pa : Nat → Int64) (tg : Nat → Int64) (sd : Int64) (sr : Int64) (v : Int64) (hrm : rm < 32) : Ctr l E yX8_tell cX8_tell 3 none (rmL 0) [.ref (B 0), .long v] (wM E B u kp ik ps pm dd tx ty rw rm th sz he wr mn vl tp lt ra pf pt pl pd prc ns tu ba na ca bo tr tH asd pa tg sd sr) (One none (wM E B u kp ik ps pm dd tx ty (va_up rw rm v) (rm + 1) th sz he wr mn vl tp lt ra pf pt pl pd prc ns tu ba na ca bo tr tH asd pa tg sd sr)) := by
  refine Ctr.of (by decide) (Nat.le_of_ble_eq_true rfl) rfl rfl 0 ?_
  intro X hX hR
  refine rh_aload_n hX dX8_tell_0 rfl ?_
  refine rh_get hX gl_X8_23 0 dX8_tell_1 rfl rfl ?_
  refine rh_aload_n hX dX8_tell_4 rfl ?_
  refine rh_get hX gl_X8_52 0 dX8_tell_5 rfl rfl ?_
  refine rh_lload_n hX dX8_tell_8 rfl ?_
  refine rh_lastore hX 5 _ dX8_tell_9 rfl rfl (by omega) (by decide) rfl ?_
  dsimp only [List.cons_append, List.nil_append, List.set_cons_succ, List.set_cons_zero, vput]
  refine rh_aload_n hX dX8_tell_10 rfl ?_
  refine rh_dup hX dX8_tell_11 rfl ?_
  refine rh_get hX gl_X8_52 0 dX8_tell_12 rfl rfl ?_
  refine rh_iconst hX dX8_tell_15 ki_1 ?_
  refine rh_iadd hX dX8_tell_16 ?_
  rw [show nI rm + 1 = nI (rm + 1) from rn_add rm 1]
  refine rh_put hX gl_X8_52 0 dX8_tell_17 rfl rfl rfl (Nat.le_of_ble_eq_true rfl) rfl ?_
  dsimp only [List.cons_append, List.nil_append, List.set_cons_succ, List.set_cons_zero, vput]
  exact rh_vret hX hR dX8_tell_20 (by simp only [List.map_cons, List.map_nil, List.cons_append, List.nil_append]) ⟨rfl, rfl⟩
