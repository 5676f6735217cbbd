/-- the answer of a round in thought -/
def mTh (R : LPR) : Int32 := match R.2 with
  | none => R.1
  | some q => q.2.1.toInt32
theorem mLp_neg (T : Nat) (vl tp lt : Int32) (mn : Nat → Int32) (pd : Int64) (ca : Nat → Int64) (ba na : Int64) (pA : Int32) : ∀ (k : Nat) (u : Nat → Int32) (n : Nat), ((mLp T vl tp lt mn pd ca ba na pA k u n).2 = none ∧ ¬ 0 ≤ (mLp T vl tp lt mn pd ca ba na pA k u n).1) ∨ (∃ q, (mLp T vl tp lt mn pd ca ba na pA k u n).2 = some q ∧ (mLp T vl tp lt mn pd ca ba na pA k u n).1 = 0)
  | 0, u, n => by rw [mLp_0]; exact Or.inl ⟨rfl, by decide⟩
  | k + 1, u, n => by
    rw [mLp_s]
    by_cases a : mTn u T vl tp lt mn pd ca ba na pA = 0
    · rw [if_pos a]; exact mLp_neg T vl tp lt mn pd ca ba na pA k _ _
    · rw [if_neg a]
      by_cases b : 0 ≤ mTn u T vl tp lt mn pd ca ba na pA
      · rw [if_pos b]; exact Or.inr ⟨_, rfl, rfl⟩
      · rw [if_neg b]; exact Or.inl ⟨rfl, b⟩
theorem mRk_neg (u : Nat → Int32) (T : Nat) (vl tp lt : Int32) (mn : Nat → Int32) (pd : Int64) (ca tr : Nat → Int64) : ((mRk u T vl tp lt mn pd ca tr).2 = none ∧ ¬ 0 ≤ (mRk u T vl tp lt mn pd ca tr).1) ∨ (∃ q, (mRk u T vl tp lt mn pd ca tr).2 = some q ∧ (mRk u T vl tp lt mn pd ca tr).1 = 0) := by
  unfold mRk
  by_cases a : T = 6
  · rw [if_pos a]; exact Or.inl ⟨rfl, by decide⟩
  · rw [if_neg a]; exact mLp_neg _ _ _ _ _ _ _ _ _ _ _ _ _

set_option maxRecDepth 100000 in
set_option maxHeartbeats 4000000 in
theorem c_X8_thinks (l : Launch) (E : rhE) (B : Nat → Nat) (u : Nat → Int32) (kp : Nat → Int32) (ik : Int32) (ps : Nat → Int32) (pm : Nat) (dd : Int32) (tx : Nat → Int32) (ty : Nat) (rw : Nat → Int64) (rm : Nat) (th : Int32) (sz : Nat) (he : Nat) (wr : Int32) (mn : Nat → Int32) (vl : Int32) (tp : Int32) (lt : Int32) (ra : Int32) (pf : Int32) (pt : Int32) (pl : Int32) (pd : Int64) (prc : Int64) (ns : Int64) (tu : Nat) (ba : Int64) (na : Int64) (ca : Nat → Int64) (bo : Nat → Int32) (tr : Nat → Int64) (tH : Int32) (asd : Nat → Int32) (pa : Nat → Int64) (tg : Nat → Int64) (sd : Int64) (sr : Int64) (T : Nat) (hM : mOk u T) (hdv : ∀ t h, 1 ≤ t → t < T → h < 8 → ¬ (pH mn pd 1 t (cAllHeld (fm (pT mn pd 1 (u, tr, (0 : Int32)) t).1) t) ((pT mn pd 1 (u, tr, (0 : Int32)) t).1, va_up (pT mn pd 1 (u, tr, (0 : Int32)) t).2.1 t 0, (pT mn pd 1 (u, tr, (0 : Int32)) t).2.2) h).1 (6 * h + t) ≤ 0 → ¬ (cAllHeld (fm (pT mn pd 1 (u, tr, (0 : Int32)) t).1) t) = 0) (hc8 : ∀ t, 1 ≤ t → t < T → 1 ≤ (u (64 + t)).toInt ∧ (u (64 + t)).toInt ≤ 100000000) (htp : 0 ≤ tp.toInt ∧ tp.toInt ≤ 500) : Ctr l E yX8_thinks cX8_thinks 2 (some .int) (rmL 6) [.ref (B 0)] (wM E B u kp ik ps pm dd tx ty rw rm th sz he wr mn vl tp lt ra pf pt pl pd prc ns tu ba na ca bo tr tH asd pa tg sd sr) (fun r w => ∃  prc1 ns1 tu1 ba1 na1 ca1 tr1 tH1 asd1, r = some (Value.int (mTh (mRk u T vl tp lt mn pd ca tr))) ∧ w = (wM E B u kp ik ps pm dd tx ty rw rm th sz he wr mn vl tp lt ra pf pt pl pd prc1 ns1 tu1 ba1 na1 ca1 bo tr1 tH1 asd1 pa tg sd sr)) := by
  refine Ctr.of (by decide) (Nat.le_of_ble_eq_true rfl) rfl rfl 1 ?_
  intro X hX hR
  obtain ⟨hT, hT1, hT6, hcv⟩ := id hM
  refine rh_aload_n hX dX8_thinks_0 rfl ?_
  refine rh_uV hX lk_X8_68 mvX8_lays (fun l => c_X8_lays l E _ _ _ _ _ _ _ _ _ _ _ _ _ _ _ _ _ _ _ _ _ _ _ _ _ _ _ _ _ _ _ _ _ _ _ _ _ _ ) ⟨rfl, rfl⟩ ⟨Nat.le_of_ble_eq_true rfl, Nat.le_of_ble_eq_true rfl⟩ [0, 1, 2, 3, 4, 5, 6, 7, 8, 9, 10, 11, 12] rfl rfl 0 rfl dX8_thinks_1 rfl rfl (Nat.le_of_ble_eq_true rfl) rfl ?_
  dsimp only [List.cons_append, List.nil_append, List.set_cons_succ, List.set_cons_zero, vput]
  refine rh_aload_n hX dX8_thinks_4 rfl ?_
  refine rh_callV hX lk_X8_296 mvX8_reckons (fun l => c_X8_reckons l E _ _ _ _ _ _ _ _ _ _ _ _ _ _ _ _ _ _ _ _ _ _ _ _ _ _ _ _ _ _ _ _ _ _ _ _ _ _ T hM hdv hc8 htp) ⟨rfl, rfl⟩ ⟨Nat.le_of_ble_eq_true rfl, Nat.le_of_ble_eq_true rfl⟩ [0, 1, 2, 3, 4, 5, 6, 7, 8, 9, 10, 11, 12] rfl rfl 0 rfl dX8_thinks_5 rfl rfl (Nat.le_of_ble_eq_true rfl) (fun r w hp hf => ?_)
  obtain ⟨u1, prc1, ns1, tu1, ba1, na1, ca1, tr1, tH1, rfl, hgood, ⟨T9, hT9⟩, rfl⟩ := hp
  dsimp only [vput, List.set_cons_succ, List.set_cons_zero, Option.toList, List.cons_append, List.nil_append]
  refine rh_istn1 hX dX8_thinks_8 (by decide) rfl ?_
  refine rh_aload_n hX dX8_thinks_9 rfl ?_
  refine rh_uV hX lk_X8_146 mvX8_puts (fun l => c_X8_puts l E _ _ _ _ _ _ _ _ _ _ _ _ _ _ _ _ _ _ _ _ _ _ _ _ _ _ _ _ _ _ _ _ _ _ _ _ _ _ ) ⟨rfl, rfl⟩ ⟨Nat.le_of_ble_eq_true rfl, Nat.le_of_ble_eq_true rfl⟩ [0, 1, 2, 3, 4, 5, 6, 7, 8, 9, 10, 11, 12] rfl rfl 0 rfl dX8_thinks_10 rfl rfl (Nat.le_of_ble_eq_true rfl) rfl ?_
  dsimp only [List.cons_append, List.nil_append, List.set_cons_succ, List.set_cons_zero, vput]
  refine rh_iload_n hX dX8_thinks_13 rfl ?_
  refine rh_if_ge (tgt := 21) hX dX8_thinks_14 (by decide) (fun h14 => ?_) (fun h14 => ?_)
  · skip
    obtain ⟨q9, hq9, hq0⟩ := (mRk_neg u T vl tp lt mn pd ca tr).resolve_left (fun z => z.2 h14)
    obtain ⟨-, hp9, -⟩ := hgood q9 hq9
    refine rh_aload_n hX dX8_thinks_21 rfl ?_
    refine rh_get hX gl_X8_269 0 dX8_thinks_22 rfl rfl ?_
    refine rh_l2i hX dX8_thinks_25 ?_
    exact rh_iret hX hR dX8_thinks_26 (by simp only [List.map_cons, List.map_nil, List.cons_append, List.nil_append]) ⟨prc1, ns1, tu1, ba1, na1, ca1, tr1, tH1, u, by first | (rw [mTh, hn2]; done) | (rw [mTh, hq9, hp9]; done), rfl⟩
  · skip
    obtain ⟨hn2, -⟩ := (mRk_neg u T vl tp lt mn pd ca tr).resolve_right (fun ⟨q, _, z⟩ => h14 (by rw [z]; decide))
    refine rh_iload_n hX dX8_thinks_17 rfl ?_
    refine rh_goto (tgt := 26) hX dX8_thinks_18 (by decide) ?_
    exact rh_iret hX hR dX8_thinks_26 (by simp only [List.map_cons, List.map_nil, List.cons_append, List.nil_append]) ⟨prc1, ns1, tu1, ba1, na1, ca1, tr1, tH1, u, by first | (rw [mTh, hn2]; done) | (rw [mTh, hq9, hp9]; done), rfl⟩

theorem cRatch_m {u : Nat → Int32} {T td : Nat} (h6 : T ≤ 6) (h1 : 1 ≤ td) (ht : td < T) {ca : Nat → Int64} (hc : ca td = cFact (fm u) td 1) {p n mm : Int64} (hn : 0 ≤ n.toInt ∧ n.toInt ≤ 8000000000000) (hm : 0 ≤ mm.toInt ∧ mm.toInt ≤ 800000000) {ba na : Int64} (hb : 0 ≤ ba.toInt ∧ ba.toInt ≤ 1000000000) (hna : 0 ≤ na.toInt ∧ na.toInt ≤ 1000000000) : mRat u ca ba na td p n mm = cRatch (cFact (fm u) td 1) (cFact (fm u) td 2) p n mm (if cFact (fm u) td 2 = 3 then na else ba) := by
  have e : (u (70 + td)).toInt64 = cFact (fm u) td 2 := fm_fact u (k := 2) (by omega) (by omega)
  have eq (v : Int32) : u (70 + td) = v ↔ cFact (fm u) td 2 = v.toInt64 := by
    rw [← e]
    constructor
    · intro q; rw [q]
    · intro q
      have := congrArg Int64.toInt32 q
      rw [Int32.toInt32_toInt64, Int32.toInt32_toInt64] at this
      exact this
  have eq0 : u (70 + td) = 0 ↔ cFact (fm u) td 2 = 0 := eq 0
  have eq1 : u (70 + td) = 1 ↔ cFact (fm u) td 2 = 1 := eq 1
  have eq3 : u (70 + td) = 3 ↔ cFact (fm u) td 2 = 3 := eq 3
  unfold mRat cRatch mAh
  rw [hc]
  by_cases a : u (70 + td) = 0
  · rw [if_pos a, if_pos (eq0.mp a)]
  · rw [if_neg a, if_neg (fun q => a (eq0.mpr q))]
    by_cases b : p < cFact (fm u) td 1
    · rw [if_pos b, if_neg (c := cFact (fm u) td 1 ≤ p) (fun q => by rw [z_le] at q; rw [z_lt] at b; omega)]
      by_cases c : u (70 + td) = 1
      · rw [if_pos c, if_pos (eq1.mp c)]
      · rw [if_neg c, if_neg (fun q => c (eq1.mpr q))]
        have e3 : (if u (70 + td) = 3 then na else ba) = (if cFact (fm u) td 2 = 3 then na else ba) := by
          by_cases d : u (70 + td) = 3
          · rw [if_pos d, if_pos (eq3.mp d)]
          · rw [if_neg d, if_neg (fun q => d (eq3.mpr q))]
        rw [e3]
        have hA : 0 ≤ (if cFact (fm u) td 2 = 3 then na else ba).toInt ∧ (if cFact (fm u) td 2 = 3 then na else ba).toInt ≤ 1000000000 := by
          split
          · exact hna
          · exact hb
        generalize (if cFact (fm u) td 2 = 3 then na else ba) = A at hA ⊢
        have hs : (A + n).toInt = A.toInt + n.toInt := z_add rfl rfl (by omega) (by omega)
        by_cases g : A + n = 0
        · rw [if_pos g, if_pos (by rw [g]; decide)]
        · have : (A + n).toInt ≠ 0 := fun q => g (Int64.toInt_inj.mp (by rw [q]; rfl))
          rw [if_neg g, if_neg (c := A + n ≤ 0) (fun q => by rw [z_le, show (0 : Int64).toInt = 0 from rfl] at q; omega), cQuot_n g (by rw [z_le, show (0 : Int64).toInt = 0 from rfl]; omega)]
    · rw [if_neg b, if_pos (c := cFact (fm u) td 1 ≤ p) (by rw [z_le]; rw [z_lt] at b; omega)]
theorem mI.size_b {u : Nat → Int32} {T : Nat} (h : mI u T) : 0 ≤ (cSize (fm u) T).toInt ∧ (cSize (fm u) T).toInt ≤ 1000000000 := by
  rw [cSize_z h.b]
  exact ⟨zSz_nn h.b, h.2.2.2.2.2⟩
theorem mI.votes_b {u : Nat → Int32} {T : Nat} (h : mI u T) : 0 ≤ (cAllVotes (fm u) T).toInt ∧ (cAllVotes (fm u) T).toInt ≤ 1000000000 := by
  have h1 := zAV_nn h.b
  have h2 := zAG_nn h.b
  have h3 := h.b.2.2.2.1
  have h4 := h.2.2.2.2.2
  rw [cAllVotes_z h.b]
  unfold zSz at h4
  omega

set_option maxRecDepth 100000 in
set_option maxHeartbeats 4000000 in
theorem c_X8_ratchet (l : Launch) (E : rhE) (B : Nat → Nat) (u : Nat → Int32) (kp : Nat → Int32) (ik : Int32) (ps : Nat → Int32) (pm : Nat) (dd : Int32) (tx : Nat → Int32) (ty : Nat) (rw : Nat → Int64) (rm : Nat) (th : Int32) (sz : Nat) (he : Nat) (wr : Int32) (mn : Nat → Int32) (vl : Int32) (tp : Int32) (lt : Int32) (ra : Int32) (pf : Int32) (pt : Int32) (pl : Int32) (pd : Int64) (prc : Int64) (ns : Int64) (tu : Nat) (ba : Int64) (na : Int64) (ca : Nat → Int64) (bo : Nat → Int32) (tr : Nat → Int64) (tH : Int32) (asd : Nat → Int32) (pa : Nat → Int64) (tg : Nat → Int64) (sd : Int64) (sr : Int64) (t p n mm : Int32) (C : CT) (hCu : C.1 = fm u) (T : Nat) (hI : mI u T)  : Ctr l E yX8_ratchet cX8_ratchet 5 (some .int) (rmL 5) [.ref (B 0), .int t, .int p, .int n, .int mm] (wM E B u kp ik ps pm dd tx ty rw rm th sz he wr mn vl tp lt ra pf pt pl pd prc ns tu ba na ca bo tr tH asd pa tg sd sr) (fun r w => ∃ ba1 na1 ca1, r = some (Value.int (x_ratchet C T t p n mm)) ∧ w = (wM E B u kp ik ps pm dd tx ty rw rm 0 sz he wr mn vl tp lt ra pf pt pl pd prc ns tu ba1 na1 ca1 bo tr tH asd pa tg sd sr)) := by
  refine Ctr.of (by decide) (Nat.le_of_ble_eq_true rfl) rfl rfl 0 ?_
  intro X hX hR
  have hM := hI.ok
  obtain ⟨hT, hT1, hT6, hcv⟩ := id hM
  refine rh_aload_n hX dX8_ratchet_0 rfl ?_
  refine rh_iconst hX dX8_ratchet_1 ki_0 ?_
  refine rh_put hX gl_X8_48 0 dX8_ratchet_2 rfl rfl rfl (Nat.le_of_ble_eq_true rfl) rfl ?_
  dsimp only [List.cons_append, List.nil_append, List.set_cons_succ, List.set_cons_zero, vput]
  refine rh_aload_n hX dX8_ratchet_5 rfl ?_
  refine rh_iload_n hX dX8_ratchet_6 rfl ?_
  refine rh_pV hX lk_X8_162 mvX8_isRound (fun l => c_X8_isRound l E _ _ _ _ _ _ _ _ _ _ _ _ _ _ _ _ _ _ _ _ _ _ _ _ _ _ _ _ _ _ _ _ _ _ _ _ _ _ _ T hM) ⟨rfl, rfl⟩ ⟨Nat.le_of_ble_eq_true rfl, Nat.le_of_ble_eq_true rfl⟩ [0, 1, 2, 3, 4, 5, 6, 7, 8, 9, 10, 11, 12] rfl rfl 0 rfl dX8_ratchet_7 rfl rfl (Nat.le_of_ble_eq_true rfl) ?_
  refine rh_if_eq (tgt := 50) hX dX8_ratchet_10 (by decide) (fun h10 => ?_) (fun h10 => ?_)
  · skip
    refine rh_iconst hX dX8_ratchet_50 ki_m1 ?_
    exact rh_iret hX hR dX8_ratchet_51 (by simp only [List.map_cons, List.map_nil, List.cons_append, List.nil_append]) (by first | exact ⟨_, _, _, by rw [x_ratchet, if_pos h10] <;> rfl, rfl⟩ | exact ⟨_, _, _, by rw [x_ratchet, if_neg h10, if_pos h22] <;> rfl, rfl⟩ | exact ⟨_, _, _, by rw [x_ratchet, if_neg h10, if_neg h22, if_pos h34] <;> rfl, rfl⟩ | exact ⟨_, _, _, by rw [x_ratchet, if_neg h10, if_neg h22, if_neg h34, if_pos h47] <;> rfl, rfl⟩)
  · skip
    obtain ⟨td, rfl, htd1, htd⟩ := xSe_1 hT6 h10
    refine rh_iload_n hX dX8_ratchet_13 rfl ?_
    refine rh_i2l hX dX8_ratchet_14 ?_
    refine rh_lconst hX dX8_ratchet_15 kL_1 ?_
    refine rh_ldc2 hX dX8_ratchet_16 kl_X8_243 ?_
    refine rh_pS hX lk_X8_58 msX8_in (fun l => c_X8_in l E _ _ _) ⟨rfl, rfl⟩ ⟨Nat.le_of_ble_eq_true rfl, Nat.le_of_ble_eq_true rfl⟩ [] rfl rfl dX8_ratchet_19 rfl rfl (Nat.le_of_ble_eq_true rfl) ?_
    rw [xIn_U]
    refine rh_if_eq (tgt := 50) hX dX8_ratchet_22 (by decide) (fun h22 => ?_) (fun h22 => ?_)
    · skip
      refine rh_iconst hX dX8_ratchet_50 ki_m1 ?_
      exact rh_iret hX hR dX8_ratchet_51 (by simp only [List.map_cons, List.map_nil, List.cons_append, List.nil_append]) (by first | exact ⟨_, _, _, by rw [x_ratchet, if_pos h10] <;> rfl, rfl⟩ | exact ⟨_, _, _, by rw [x_ratchet, if_neg h10, if_pos h22] <;> rfl, rfl⟩ | exact ⟨_, _, _, by rw [x_ratchet, if_neg h10, if_neg h22, if_pos h34] <;> rfl, rfl⟩ | exact ⟨_, _, _, by rw [x_ratchet, if_neg h10, if_neg h22, if_neg h34, if_pos h47] <;> rfl, rfl⟩)
    · skip
      refine rh_iload_n hX dX8_ratchet_25 rfl ?_
      refine rh_i2l hX dX8_ratchet_26 ?_
      refine rh_lconst hX dX8_ratchet_27 kL_1 ?_
      refine rh_ldc2 hX dX8_ratchet_28 kl_X8_243 ?_
      refine rh_pS hX lk_X8_58 msX8_in (fun l => c_X8_in l E _ _ _) ⟨rfl, rfl⟩ ⟨Nat.le_of_ble_eq_true rfl, Nat.le_of_ble_eq_true rfl⟩ [] rfl rfl dX8_ratchet_31 rfl rfl (Nat.le_of_ble_eq_true rfl) ?_
      rw [xIn_U]
      refine rh_if_eq (tgt := 50) hX dX8_ratchet_34 (by decide) (fun h34 => ?_) (fun h34 => ?_)
      · skip
        refine rh_iconst hX dX8_ratchet_50 ki_m1 ?_
        exact rh_iret hX hR dX8_ratchet_51 (by simp only [List.map_cons, List.map_nil, List.cons_append, List.nil_append]) (by first | exact ⟨_, _, _, by rw [x_ratchet, if_pos h10] <;> rfl, rfl⟩ | exact ⟨_, _, _, by rw [x_ratchet, if_neg h10, if_pos h22] <;> rfl, rfl⟩ | exact ⟨_, _, _, by rw [x_ratchet, if_neg h10, if_neg h22, if_pos h34] <;> rfl, rfl⟩ | exact ⟨_, _, _, by rw [x_ratchet, if_neg h10, if_neg h22, if_neg h34, if_pos h47] <;> rfl, rfl⟩)
      · skip
        refine rh_iload hX dX8_ratchet_37 rfl ?_
        refine rh_i2l hX dX8_ratchet_39 ?_
        refine rh_lconst hX dX8_ratchet_40 kL_1 ?_
        refine rh_ldc2 hX dX8_ratchet_41 kl_X8_314 ?_
        refine rh_pS hX lk_X8_58 msX8_in (fun l => c_X8_in l E _ _ _) ⟨rfl, rfl⟩ ⟨Nat.le_of_ble_eq_true rfl, Nat.le_of_ble_eq_true rfl⟩ [] rfl rfl dX8_ratchet_44 rfl rfl (Nat.le_of_ble_eq_true rfl) ?_
        rw [xIn_U]
        refine rh_if_ne (tgt := 52) hX dX8_ratchet_47 (by decide) (fun h47 => ?_) (fun h47 => ?_)
        · skip
          refine rh_aload_n hX dX8_ratchet_52 rfl ?_
          refine rh_aload_n hX dX8_ratchet_53 rfl ?_
          refine rh_pV hX lk_X8_143 mvX8_fullNow (fun l => c_X8_fullNow l E _ _ _ _ _ _ _ _ _ _ _ _ _ _ _ _ _ _ _ _ _ _ _ _ _ _ _ _ _ _ _ _ _ _ _ _ _ _ T hM) ⟨rfl, rfl⟩ ⟨Nat.le_of_ble_eq_true rfl, Nat.le_of_ble_eq_true rfl⟩ [0, 1, 2, 3, 4, 5, 6, 7, 8, 9, 10, 11, 12] rfl rfl 0 rfl dX8_ratchet_54 rfl rfl (Nat.le_of_ble_eq_true rfl) ?_
          refine rh_put hX gl_X8_254 0 dX8_ratchet_57 rfl rfl rfl (Nat.le_of_ble_eq_true rfl) rfl ?_
          dsimp only [List.cons_append, List.nil_append, List.set_cons_succ, List.set_cons_zero, vput]
          refine rh_aload_n hX dX8_ratchet_60 rfl ?_
          refine rh_aload_n hX dX8_ratchet_61 rfl ?_
          refine rh_pV hX lk_X8_92 mvX8_allByShares (fun l => c_X8_allByShares l E _ _ _ _ _ _ _ _ _ _ _ _ _ _ _ _ _ _ _ _ _ _ _ _ _ _ _ _ _ _ _ _ _ _ _ _ _ _ T hM) ⟨rfl, rfl⟩ ⟨Nat.le_of_ble_eq_true rfl, Nat.le_of_ble_eq_true rfl⟩ [0, 1, 2, 3, 4, 5, 6, 7, 8, 9, 10, 11, 12] rfl rfl 0 rfl dX8_ratchet_62 rfl rfl (Nat.le_of_ble_eq_true rfl) ?_
          refine rh_put hX gl_X8_252 0 dX8_ratchet_65 rfl rfl rfl (Nat.le_of_ble_eq_true rfl) rfl ?_
          dsimp only [List.cons_append, List.nil_append, List.set_cons_succ, List.set_cons_zero, vput]
          refine rh_aload_n hX dX8_ratchet_68 rfl ?_
          refine rh_get hX gl_X8_30 0 dX8_ratchet_69 rfl rfl ?_
          refine rh_iload_n hX dX8_ratchet_72 rfl ?_
          refine rh_aload_n hX dX8_ratchet_73 rfl ?_
          refine rh_get hX gl_X8_7 0 dX8_ratchet_74 rfl rfl ?_
          refine rh_bipush hX dX8_ratchet_77 kb_64 ?_
          refine rh_iload_n hX dX8_ratchet_79 rfl ?_
          refine rh_iadd hX dX8_ratchet_80 ?_
          refine rh_iaload hX 1 (64 + td) dX8_ratchet_81 rfl (rn_a rn_c64 rfl) (by omega) (by decide) ?_
          refine rh_i2l hX dX8_ratchet_82 ?_
          rw [show (u (64 + td)).toInt64 = cFact (fm u) td 1 from fm_fact u (k := 1) (by omega) (by omega)]
          refine rh_lastore hX 7 td dX8_ratchet_83 rfl rfl (by omega) (by decide) rfl ?_
          dsimp only [List.cons_append, List.nil_append, List.set_cons_succ, List.set_cons_zero, vput]
          refine rh_aload_n hX dX8_ratchet_84 rfl ?_
          refine rh_iload_n hX dX8_ratchet_85 rfl ?_
          refine rh_iload_n hX dX8_ratchet_86 rfl ?_
          refine rh_i2l hX dX8_ratchet_87 ?_
          refine rh_iload_n hX dX8_ratchet_88 rfl ?_
          refine rh_i2l hX dX8_ratchet_89 ?_
          refine rh_iload hX dX8_ratchet_90 rfl ?_
          refine rh_i2l hX dX8_ratchet_92 ?_
          refine rh_pV hX lk_X8_275 mvX8_ratcheted (fun l => c_X8_ratcheted l E _ _ _ _ _ _ _ _ _ _ _ _ _ _ _ _ _ _ _ _ _ _ _ _ _ _ _ _ _ _ _ _ _ _ _ _ _ _ td _ _ _ (by omega)) ⟨rfl, rfl⟩ ⟨Nat.le_of_ble_eq_true rfl, Nat.le_of_ble_eq_true rfl⟩ [0, 1, 2, 3, 4, 5, 6, 7, 8, 9, 10, 11, 12] rfl rfl 0 rfl dX8_ratchet_93 rfl rfl (Nat.le_of_ble_eq_true rfl) ?_
          obtain ⟨hn1, hn2⟩ := xUp_1 h34
          obtain ⟨hm1, hm2⟩ := xUp_1 h47
          have hn3 : (100000000 : Int64).toInt = 100000000 := by decide
          have hm3 : (800000000 : Int64).toInt = 800000000 := by decide
          rw [cRatch_m hT6 htd1 htd (show va_up ca td (cFact (fm u) td 1) td = cFact (fm u) td 1 by unfold va_up; rw [if_pos rfl]) (by rw [z_l]; omega) (by rw [z_l]; omega) hI.size_b hI.votes_b]
          refine rh_l2i hX dX8_ratchet_96 ?_
          exact rh_iret hX hR dX8_ratchet_97 (by simp only [List.map_cons, List.map_nil, List.cons_append, List.nil_append]) ⟨_, _, _, by rw [x_ratchet, if_neg h10, if_neg h22, if_neg h34, if_neg h47, nI_clamp (show td < 2 ^ 31 by omega), hCu], rfl⟩
        · skip
          refine rh_iconst hX dX8_ratchet_50 ki_m1 ?_
          exact rh_iret hX hR dX8_ratchet_51 (by simp only [List.map_cons, List.map_nil, List.cons_append, List.nil_append]) (by first | exact ⟨_, _, _, by rw [x_ratchet, if_pos h10] <;> rfl, rfl⟩ | exact ⟨_, _, _, by rw [x_ratchet, if_neg h10, if_pos h22] <;> rfl, rfl⟩ | exact ⟨_, _, _, by rw [x_ratchet, if_neg h10, if_neg h22, if_pos h34] <;> rfl, rfl⟩ | exact ⟨_, _, _, by rw [x_ratchet, if_neg h10, if_neg h22, if_neg h34, if_pos h47] <;> rfl, rfl⟩)
