/-- behind the last of it: what is left can't be -/
def mEnd (sz he : Nat) (wr : Int32) : Int32 := if wr = -1 then (if he < sz then mFault wr (nI he) else wr) else wr
def mMn (tx : Nat → Int32) (sz he : Nat) : Int32 × Nat × Int32 := mNum tx sz (mExp tx sz (he + 1) (-1) 61).1 (mExp tx sz (he + 1) (-1) 61).2 1 100000000
/-- money of holders: m may come still, above la -/
def mMy (tx : Nat → Int32) (sz : Nat) : Nat → Int32 → Nat → (Nat → Int32) → Int64 → Nat × Int32 × (Nat → Int32) × Int64
  | 0, _, he, mn, pd => (he, -1, mn, pd)
  | m + 1, la, he, mn, pd => if mSee tx sz he = -1 then (he, nI he, mn, pd) else if xH (mSee tx sz he - 48) = 0 then (he, nI he, mn, pd) else if la < mSee tx sz he - 48 then (if mSee tx sz (mMn tx sz he).2.1 = 44 then (if 7 ≤ mSee tx sz he - 48 then ((mMn tx sz he).2.1, mEnd sz (mMn tx sz he).2.1 (mMn tx sz he).2.2, va_up mn (mSee tx sz he - 48).toNatClampNeg (mMn tx sz he).1, pd + (mMn tx sz he).1.toInt64) else if (mMn tx sz he).2.2 = -1 then mMy tx sz m (mSee tx sz he - 48) ((mMn tx sz he).2.1 + 1) (va_up mn (mSee tx sz he - 48).toNatClampNeg (mMn tx sz he).1) (pd + (mMn tx sz he).1.toInt64) else ((mMn tx sz he).2.1 + 1, (mMn tx sz he).2.2, va_up mn (mSee tx sz he - 48).toNatClampNeg (mMn tx sz he).1, pd + (mMn tx sz he).1.toInt64)) else ((mMn tx sz he).2.1, mEnd sz (mMn tx sz he).2.1 (mMn tx sz he).2.2, va_up mn (mSee tx sz he - 48).toNatClampNeg (mMn tx sz he).1, pd + (mMn tx sz he).1.toInt64)) else (he, nI he, mn, pd)
termination_by m => m
theorem mMy_s (tx : Nat → Int32) (sz m : Nat) (la : Int32) (he : Nat) (mn : Nat → Int32) (pd : Int64) : mMy tx sz (m + 1) la he mn pd = if mSee tx sz he = -1 then (he, nI he, mn, pd) else if xH (mSee tx sz he - 48) = 0 then (he, nI he, mn, pd) else if la < mSee tx sz he - 48 then (if mSee tx sz (mMn tx sz he).2.1 = 44 then (if 7 ≤ mSee tx sz he - 48 then ((mMn tx sz he).2.1, mEnd sz (mMn tx sz he).2.1 (mMn tx sz he).2.2, va_up mn (mSee tx sz he - 48).toNatClampNeg (mMn tx sz he).1, pd + (mMn tx sz he).1.toInt64) else if (mMn tx sz he).2.2 = -1 then mMy tx sz m (mSee tx sz he - 48) ((mMn tx sz he).2.1 + 1) (va_up mn (mSee tx sz he - 48).toNatClampNeg (mMn tx sz he).1) (pd + (mMn tx sz he).1.toInt64) else ((mMn tx sz he).2.1 + 1, (mMn tx sz he).2.2, va_up mn (mSee tx sz he - 48).toNatClampNeg (mMn tx sz he).1, pd + (mMn tx sz he).1.toInt64)) else ((mMn tx sz he).2.1, mEnd sz (mMn tx sz he).2.1 (mMn tx sz he).2.2, va_up mn (mSee tx sz he - 48).toNatClampNeg (mMn tx sz he).1, pd + (mMn tx sz he).1.toInt64)) else (he, nI he, mn, pd) := by rw [mMy]
def mRd (tx : Nat → Int32) (sz : Nat) (q : MS) : Nat × Int32 × (Nat → Int32) × Int64 := if q.2.1 = -1 then mMy tx sz 8 (-1) q.1 (fun _ => 0) 0 else (q.1, q.2.1, fun _ => 0, 0)
theorem tE_le {tx : Nat → Int32} {sz fr : Nat} {q : MS} (h : q.1 ≤ sz) : (tE tx sz fr q).1 ≤ sz := mExp_le (by decide) h
theorem t7_le {tx : Nat → Int32} {sz fr : Nat} {q : MS} (h : q.1 ≤ sz) : (t7 tx sz fr q).1 ≤ sz := by
  unfold t7
  split
  · exact tE_le (mPs_le h)
  · exact tE_le h
theorem t6_le {tx : Nat → Int32} {sz fr : Nat} {q : MS} (h : q.1 ≤ sz) : (t6 tx sz fr q).1 ≤ sz := by
  unfold t6
  split
  · exact t7_le (mPs_le h)
  · exact t7_le h
theorem t5_le {tx : Nat → Int32} {sz fr : Nat} {q : MS} (h : q.1 ≤ sz) : (t5 tx sz fr q).1 ≤ sz := by
  unfold t5
  split
  · exact t6_le (mBn_le (mPs_le h))
  · exact t6_le h
theorem t4_le {tx : Nat → Int32} {sz fr : Nat} {q : MS} (h : q.1 ≤ sz) : (t4 tx sz fr q).1 ≤ sz := by
  unfold t4
  split
  · exact t5_le (mPs_le h)
  · exact t5_le h
theorem t3_le {tx : Nat → Int32} {sz fr : Nat} {q : MS} (h : q.1 ≤ sz) : (t3 tx sz fr q).1 ≤ sz := by
  unfold t3
  split
  · exact t5_le (mPs_le h)
  · exact t4_le h
theorem t2_le {tx : Nat → Int32} {sz fr : Nat} {q : MS} (h : q.1 ≤ sz) : (t2 tx sz fr q).1 ≤ sz := by
  unfold t2
  split
  · exact t5_le (mPs_le h)
  · exact t3_le h
theorem t1_le {tx : Nat → Int32} {sz fr : Nat} {q : MS} (h : q.1 ≤ sz) : (t1 tx sz fr q).1 ≤ sz := by
  unfold t1
  split
  · exact t2_le (mPs_le h)
  · exact t2_le h
theorem t0_le {tx : Nat → Int32} {sz fr : Nat} {q : MS} (h : q.1 ≤ sz) : (t0 tx sz fr q).1 ≤ sz := by
  unfold t0
  split
  · exact t1_le (mBn_le (mPs_le h))
  · exact t1_le h
theorem tS_le {tx : Nat → Int32} {sz : Nat} {q : MS} : (tS tx sz q).1 ≤ sz := by
  unfold tS
  by_cases a : mSee tx sz 0 = rhCh 10 0
  · have a1 : 0 < sz := mSee_lt (tx := tx) (n := sz) (p := 0) (by rw [a]; decide)
    rw [if_pos a]
    by_cases b : mSee tx sz 1 = rhCh 10 1
    · have b1 : 1 < sz := mSee_lt (tx := tx) (n := sz) (p := 1) (by rw [b]; decide)
      rw [if_pos b]
      by_cases c : mSee tx sz 2 = rhCh 10 2
      · have c1 : 2 < sz := mSee_lt (tx := tx) (n := sz) (p := 2) (by rw [c]; decide)
        rw [if_pos c]
        exact t0_le (mNum_le (mExp_le (by decide) c1))
      · rw [if_neg c]; exact b1
    · rw [if_neg b]; exact a1
  · rw [if_neg a]; exact Nat.zero_le _

set_option maxRecDepth 100000 in
set_option maxHeartbeats 4000000 in
theorem c_X8_readsRound (l : Launch) (E : rhE) (B : Nat → Nat) (u : Nat → Int32) (kp : Nat → Int32) (ik : Int32) (ps : Nat → Int32) (pm : Nat) (dd : Int32) (tx : Nat → Int32) (ty : Nat) (rw : Nat → Int64) (rm : Nat) (th : Int32) (sz : Nat) (he : Nat) (wr : Int32) (mn : Nat → Int32) (vl : Int32) (tp : Int32) (lt : Int32) (ra : Int32) (pf : Int32) (pt : Int32) (pl : Int32) (pd : Int64) (prc : Int64) (ns : Int64) (tu : Nat) (ba : Int64) (na : Int64) (ca : Nat → Int64) (bo : Nat → Int32) (tr : Nat → Int64) (tH : Int32) (asd : Nat → Int32) (pa : Nat → Int64) (tg : Nat → Int64) (sd : Int64) (sr : Int64) (hty : ty ≤ 200) (hbt : byteOk tx ty)  : Ctr l E yX8_readsRound cX8_readsRound 4 none (rmL 7) [.ref (B 0)] (wM E B u kp ik ps pm dd tx ty rw rm th sz he wr mn vl tp lt ra pf pt pl pd prc ns tu ba na ca bo tr tH asd pa tg sd sr) (One none (wM E B u kp ik ps pm dd tx 0 rw rm th ty (mRd tx ty (tS tx ty (0, -1, vl, tp, lt, ra, pf, pt, pl))).1 (mRd tx ty (tS tx ty (0, -1, vl, tp, lt, ra, pf, pt, pl))).2.1 (mRd tx ty (tS tx ty (0, -1, vl, tp, lt, ra, pf, pt, pl))).2.2.1 (tS tx ty (0, -1, vl, tp, lt, ra, pf, pt, pl)).2.2.1 (tS tx ty (0, -1, vl, tp, lt, ra, pf, pt, pl)).2.2.2.1 (tS tx ty (0, -1, vl, tp, lt, ra, pf, pt, pl)).2.2.2.2.1 (tS tx ty (0, -1, vl, tp, lt, ra, pf, pt, pl)).2.2.2.2.2.1 (tS tx ty (0, -1, vl, tp, lt, ra, pf, pt, pl)).2.2.2.2.2.2.1 (tS tx ty (0, -1, vl, tp, lt, ra, pf, pt, pl)).2.2.2.2.2.2.2.1 (tS tx ty (0, -1, vl, tp, lt, ra, pf, pt, pl)).2.2.2.2.2.2.2.2 (mRd tx ty (tS tx ty (0, -1, vl, tp, lt, ra, pf, pt, pl))).2.2.2 prc ns tu ba na ca bo tr tH asd pa tg sd sr)) := by
  refine Ctr.of (by decide) (Nat.le_of_ble_eq_true rfl) rfl rfl 3 ?_
  intro X hX hR
  refine rh_aload_n hX dX8_readsRound_0 rfl ?_
  refine rh_uV hX lk_X8_122 mvX8_begin (fun l => c_X8_begin l E _ _ _ _ _ _ _ _ _ _ _ _ _ _ _ _ _ _ _ _ _ _ _ _ _ _ _ _ _ _ _ _ _ _ _ _ _ _ ) ⟨rfl, rfl⟩ ⟨Nat.le_of_ble_eq_true rfl, Nat.le_of_ble_eq_true rfl⟩ [0, 1, 2, 3, 4, 5, 6, 7, 8, 9, 10, 11, 12] rfl rfl 0 rfl dX8_readsRound_1 rfl rfl (Nat.le_of_ble_eq_true rfl) rfl ?_
  dsimp only [List.cons_append, List.nil_append, List.set_cons_succ, List.set_cons_zero, vput]
  refine rh_aload_n hX dX8_readsRound_4 rfl ?_
  refine rh_uV hX lk_X8_236 mvX8_readsTerms (fun l => c_X8_readsTerms l E _ _ _ _ _ _ _ _ _ _ _ _ ty 0 0 _ _ _ _ _ _ _ _ _ _ _ _ _ _ _ _ _ _ _ _ _ _ _ hty hbt) ⟨rfl, rfl⟩ ⟨Nat.le_of_ble_eq_true rfl, Nat.le_of_ble_eq_true rfl⟩ [0, 1, 2, 3, 4, 5, 6, 7, 8, 9, 10, 11, 12] rfl rfl 0 rfl dX8_readsRound_5 rfl rfl (Nat.le_of_ble_eq_true rfl) rfl ?_
  dsimp only [List.cons_append, List.nil_append, List.set_cons_succ, List.set_cons_zero, vput]
  have hle0 : (tS tx ty (0, -1, vl, tp, lt, ra, pf, pt, pl)).1 ≤ ty := tS_le
  refine rh_iconst hX dX8_readsRound_8 ki_0 ?_
  refine rh_istn1 hX dX8_readsRound_9 (by decide) rfl ?_
  suffices hP0 : G X 10 [some (.ref (B 0)), some (.int 0), none, none] [] (wM E B u kp ik ps pm dd tx 0 rw rm th ty (tS tx ty (0, -1, vl, tp, lt, ra, pf, pt, pl)).1 (tS tx ty (0, -1, vl, tp, lt, ra, pf, pt, pl)).2.1 (rowTI (fun _ => 0) mn 0) (tS tx ty (0, -1, vl, tp, lt, ra, pf, pt, pl)).2.2.1 (tS tx ty (0, -1, vl, tp, lt, ra, pf, pt, pl)).2.2.2.1 (tS tx ty (0, -1, vl, tp, lt, ra, pf, pt, pl)).2.2.2.2.1 (tS tx ty (0, -1, vl, tp, lt, ra, pf, pt, pl)).2.2.2.2.2.1 (tS tx ty (0, -1, vl, tp, lt, ra, pf, pt, pl)).2.2.2.2.2.2.1 (tS tx ty (0, -1, vl, tp, lt, ra, pf, pt, pl)).2.2.2.2.2.2.2.1 (tS tx ty (0, -1, vl, tp, lt, ra, pf, pt, pl)).2.2.2.2.2.2.2.2 pd prc ns tu ba na ca bo tr tH asd pa tg sd sr) by rw [rowTI_0] at hP0; exact hP0
  refine rh_loop (P := fun i => G X 10 [some (.ref (B 0)), some (.int (nI i)), none, none] [] (wM E B u kp ik ps pm dd tx 0 rw rm th ty (tS tx ty (0, -1, vl, tp, lt, ra, pf, pt, pl)).1 (tS tx ty (0, -1, vl, tp, lt, ra, pf, pt, pl)).2.1 (rowTI (fun _ => 0) mn i) (tS tx ty (0, -1, vl, tp, lt, ra, pf, pt, pl)).2.2.1 (tS tx ty (0, -1, vl, tp, lt, ra, pf, pt, pl)).2.2.2.1 (tS tx ty (0, -1, vl, tp, lt, ra, pf, pt, pl)).2.2.2.2.1 (tS tx ty (0, -1, vl, tp, lt, ra, pf, pt, pl)).2.2.2.2.2.1 (tS tx ty (0, -1, vl, tp, lt, ra, pf, pt, pl)).2.2.2.2.2.2.1 (tS tx ty (0, -1, vl, tp, lt, ra, pf, pt, pl)).2.2.2.2.2.2.2.1 (tS tx ty (0, -1, vl, tp, lt, ra, pf, pt, pl)).2.2.2.2.2.2.2.2 pd prc ns tu ba na ca bo tr tH asd pa tg sd sr)) (0) (8) (by omega) ?_ ?_
  · skip
    refine rh_extI (q := 6) (g := (fun _ => 0)) rfl (fun j hj => rowTI_lt (fun _ => 0) mn 8 j hj) rfl ?_
    dsimp only [List.cons_append, List.nil_append, List.set_cons_succ, List.set_cons_zero]
    refine rh_iload_n hX dX8_readsRound_10 rfl ?_
    refine rh_bipush hX dX8_readsRound_11 kb_8 ?_
    refine rh_icmp_ge_t (tgt := 29) hX dX8_readsRound_13 (by decide) (nI_le (a := 8) (b := 8) (Nat.le_refl 8) (by decide)) ?_
    refine rh_aload_n hX dX8_readsRound_29 rfl ?_
    refine rh_lconst hX dX8_readsRound_30 kL_0 ?_
    refine rh_put hX gl_X8_239 0 dX8_readsRound_31 rfl rfl rfl (Nat.le_of_ble_eq_true rfl) rfl ?_
    dsimp only [List.cons_append, List.nil_append, List.set_cons_succ, List.set_cons_zero, vput]
    refine rh_iconst hX dX8_readsRound_34 ki_m1 ?_
    refine rh_istn1 hX dX8_readsRound_35 (by decide) rfl ?_
    refine rh_iconst hX dX8_readsRound_36 ki_1 ?_
    refine rh_istn2 hX dX8_readsRound_37 (by decide) rfl ?_
    refine rh_iload_n hX dX8_readsRound_38 rfl ?_
    refine rh_if_eq_f (tgt := 173) hX dX8_readsRound_39 (by decide) (by decide) ?_
    refine rh_aload_n hX dX8_readsRound_42 rfl ?_
    refine rh_get hX gl_X8_105 0 dX8_readsRound_43 rfl rfl ?_
    refine rh_iconst hX dX8_readsRound_46 ki_m1 ?_
    refine rh_icmp_ne (tgt := 173) hX dX8_readsRound_47 (by decide) (fun h47 => ?_) (fun h47 => ?_)
    · skip
      refine rh_aload_n hX dX8_readsRound_173 rfl ?_
      refine rh_get hX gl_X8_105 0 dX8_readsRound_174 rfl rfl ?_
      refine rh_iconst hX dX8_readsRound_177 ki_m1 ?_
      refine rh_icmp_ne_t (tgt := 200) hX dX8_readsRound_178 (by decide) h47 ?_
      exact rh_vret hX hR dX8_readsRound_200 (by simp only [List.map_cons, List.map_nil, List.cons_append, List.nil_append]) ⟨rfl, by first | (rw [mRd, if_neg h47]; done) | (rw [mRd, if_pos hw0, ← hH.1, hm, mMy_s, if_neg h63, if_neg h70, if_pos h75, show ((mSee tx ty he1 - 48)).toNatClampNeg = hd by rw [hhd, nI_clamp (show hd < 2 ^ 31 by omega)], if_neg h141, mEnd, if_neg h178]; done) | (rw [mRd, if_pos hw0, ← hH.1, hm, mMy_s, if_neg h63, if_neg h70, if_pos h75, show ((mSee tx ty he1 - 48)).toNatClampNeg = hd by rw [hhd, nI_clamp (show hd < 2 ^ 31 by omega)], if_neg h141, mEnd, if_pos h178, if_neg h189]; done) | (rw [mRd, if_pos hw0, ← hH.1, hm, mMy_s, if_neg h63, if_neg h70, if_pos h75, show ((mSee tx ty he1 - 48)).toNatClampNeg = hd by rw [hhd, nI_clamp (show hd < 2 ^ 31 by omega)], if_neg h141, mEnd, if_pos h178, if_pos h189]; done) | (rw [mRd, if_pos hw0, ← hH.1, hm, mMy_s, if_neg h63, if_neg h70, if_pos h75, show ((mSee tx ty he1 - 48)).toNatClampNeg = hd by rw [hhd, nI_clamp (show hd < 2 ^ 31 by omega)], if_pos h141, if_pos h147, mEnd, if_neg h178]; done) | (rw [mRd, if_pos hw0, ← hH.1, hm, mMy_s, if_neg h63, if_neg h70, if_pos h75, show ((mSee tx ty he1 - 48)).toNatClampNeg = hd by rw [hhd, nI_clamp (show hd < 2 ^ 31 by omega)], if_pos h141, if_pos h147, mEnd, if_pos h178, if_neg h189]; done) | (rw [mRd, if_pos hw0, ← hH.1, hm, mMy_s, if_neg h63, if_neg h70, if_pos h75, show ((mSee tx ty he1 - 48)).toNatClampNeg = hd by rw [hhd, nI_clamp (show hd < 2 ^ 31 by omega)], if_pos h141, if_pos h147, mEnd, if_pos h178, if_pos h189]; done) | (rw [mRd, if_pos hw0, ← hH.1, hm, mMy_s, if_neg h63, if_neg h70, if_pos h75, show ((mSee tx ty he1 - 48)).toNatClampNeg = hd by rw [hhd, nI_clamp (show hd < 2 ^ 31 by omega)], if_pos h141, if_neg h147, if_neg h47b]; done)⟩
    · skip
      have hw0 : (tS tx ty (0, -1, vl, tp, lt, ra, pf, pt, pl)).2.1 = -1 := h47
      rw [hw0]
      suffices hP0 : G X 50 [some (.ref (B 0)), some (.int (-1)), none, none] [] (wM E B u kp ik ps pm dd tx 0 rw rm th ty (tS tx ty (0, -1, vl, tp, lt, ra, pf, pt, pl)).1 (-1) (fun _ => 0) (tS tx ty (0, -1, vl, tp, lt, ra, pf, pt, pl)).2.2.1 (tS tx ty (0, -1, vl, tp, lt, ra, pf, pt, pl)).2.2.2.1 (tS tx ty (0, -1, vl, tp, lt, ra, pf, pt, pl)).2.2.2.2.1 (tS tx ty (0, -1, vl, tp, lt, ra, pf, pt, pl)).2.2.2.2.2.1 (tS tx ty (0, -1, vl, tp, lt, ra, pf, pt, pl)).2.2.2.2.2.2.1 (tS tx ty (0, -1, vl, tp, lt, ra, pf, pt, pl)).2.2.2.2.2.2.2.1 (tS tx ty (0, -1, vl, tp, lt, ra, pf, pt, pl)).2.2.2.2.2.2.2.2 0 prc ns tu ba na ca bo tr tH asd pa tg sd sr) by exact rh_wk (by exact ⟨rfl, rfl, trivial⟩) hP0
      refine (rh_loop (P := fun i => ∀ (la : Int32) (he1 : Nat) (mn1 : Nat → Int32) (pd1 : Int64), (mMy tx ty (8 - i) la he1 mn1 pd1 = mMy tx ty 8 (-1) (tS tx ty (0, -1, vl, tp, lt, ra, pf, pt, pl)).1 (fun _ => 0) 0 ∧ he1 ≤ ty ∧ (i : Int) - 1 ≤ la.toInt ∧ la.toInt < 7) → G X 50 [some (.ref (B 0)), some (.int la), none, none] [] (wM E B u kp ik ps pm dd tx 0 rw rm th ty he1 (-1) mn1 (tS tx ty (0, -1, vl, tp, lt, ra, pf, pt, pl)).2.2.1 (tS tx ty (0, -1, vl, tp, lt, ra, pf, pt, pl)).2.2.2.1 (tS tx ty (0, -1, vl, tp, lt, ra, pf, pt, pl)).2.2.2.2.1 (tS tx ty (0, -1, vl, tp, lt, ra, pf, pt, pl)).2.2.2.2.2.1 (tS tx ty (0, -1, vl, tp, lt, ra, pf, pt, pl)).2.2.2.2.2.2.1 (tS tx ty (0, -1, vl, tp, lt, ra, pf, pt, pl)).2.2.2.2.2.2.2.1 (tS tx ty (0, -1, vl, tp, lt, ra, pf, pt, pl)).2.2.2.2.2.2.2.2 pd1 prc ns tu ba na ca bo tr tH asd pa tg sd sr)) (0) (8) (by omega) ?_ ?_) (-1) _ (fun _ => 0) 0 ⟨rfl, hle0, by decide, by decide⟩
      · intro la he1 mn1 pd1 hH
        have := hH.2.2.1
        have := hH.2.2.2
        omega
      · intro i hi0 hi ih la he1 mn1 pd1 hH
        obtain ⟨m9, hm⟩ : ∃ m9, 8 - i = m9 + 1 := ⟨8 - i - 1, by omega⟩
        have hhe := hH.2.1
        refine rh_aload_n hX dX8_readsRound_50 rfl ?_
        refine rh_pV hX lk_X8_108 mvX8_sees (fun l => c_X8_sees l E _ _ _ _ _ _ _ _ _ _ _ _ _ _ _ _ _ _ _ _ _ _ _ _ _ _ _ _ _ _ _ _ _ _ _ _ _ _ (by omega) (by omega)) ⟨rfl, rfl⟩ ⟨Nat.le_of_ble_eq_true rfl, Nat.le_of_ble_eq_true rfl⟩ [0, 1, 2, 3, 4, 5, 6, 7, 8, 9, 10, 11, 12] rfl rfl 0 rfl dX8_readsRound_51 rfl rfl (Nat.le_of_ble_eq_true rfl) ?_
        refine rh_bipush hX dX8_readsRound_54 kb_48 ?_
        refine rh_isub hX dX8_readsRound_56 ?_
        refine rh_istn3 hX dX8_readsRound_57 (by decide) rfl ?_
        refine rh_aload_n hX dX8_readsRound_58 rfl ?_
        refine rh_pV hX lk_X8_108 mvX8_sees (fun l => c_X8_sees l E _ _ _ _ _ _ _ _ _ _ _ _ _ _ _ _ _ _ _ _ _ _ _ _ _ _ _ _ _ _ _ _ _ _ _ _ _ _ (by omega) (by omega)) ⟨rfl, rfl⟩ ⟨Nat.le_of_ble_eq_true rfl, Nat.le_of_ble_eq_true rfl⟩ [0, 1, 2, 3, 4, 5, 6, 7, 8, 9, 10, 11, 12] rfl rfl 0 rfl dX8_readsRound_59 rfl rfl (Nat.le_of_ble_eq_true rfl) ?_
        refine rh_iconst hX dX8_readsRound_62 ki_m1 ?_
        refine rh_icmp_eq (tgt := 78) hX dX8_readsRound_63 (by decide) (fun h63 => ?_) (fun h63 => ?_)
        · skip
          refine rh_aload_n hX dX8_readsRound_78 rfl ?_
          refine rh_aload_n hX dX8_readsRound_79 rfl ?_
          refine rh_get hX gl_X8_102 0 dX8_readsRound_80 rfl rfl ?_
          refine rh_uV hX lk_X8_112 mvX8_fault (fun l => c_X8_fault l E _ _ _ _ _ _ _ _ _ _ _ _ _ _ _ _ _ _ _ _ _ _ _ _ _ _ _ _ _ _ _ _ _ _ _ _ _ _ _) ⟨rfl, rfl⟩ ⟨Nat.le_of_ble_eq_true rfl, Nat.le_of_ble_eq_true rfl⟩ [0, 1, 2, 3, 4, 5, 6, 7, 8, 9, 10, 11, 12] rfl rfl 0 rfl dX8_readsRound_83 rfl rfl (Nat.le_of_ble_eq_true rfl) rfl ?_
          dsimp only [List.cons_append, List.nil_append, List.set_cons_succ, List.set_cons_zero, vput]
          rw [show mFault (-1) (nI he1) = nI he1 from rfl]
          exact rh_vret hX hR dX8_readsRound_86 (by simp only [List.map_cons, List.map_nil, List.cons_append, List.nil_append]) ⟨rfl, by first | (rw [mRd, if_pos hw0, ← hH.1, hm, mMy_s, if_pos h63]; done) | (rw [mRd, if_pos hw0, ← hH.1, hm, mMy_s, if_neg h63, if_pos h70]; done) | (rw [mRd, if_pos hw0, ← hH.1, hm, mMy_s, if_neg h63, if_neg h70, if_neg h75]; done)⟩
        · skip
          refine rh_iload_n hX dX8_readsRound_66 rfl ?_
          refine rh_pS hX lk_X8_140 msX8_isHolder (fun l => c_X8_isHolderH l E _) ⟨rfl, rfl⟩ ⟨Nat.le_of_ble_eq_true rfl, Nat.le_of_ble_eq_true rfl⟩ [] rfl rfl dX8_readsRound_67 rfl rfl (Nat.le_of_ble_eq_true rfl) ?_
          refine rh_if_eq (tgt := 78) hX dX8_readsRound_70 (by decide) (fun h70 => ?_) (fun h70 => ?_)
          · skip
            refine rh_aload_n hX dX8_readsRound_78 rfl ?_
            refine rh_aload_n hX dX8_readsRound_79 rfl ?_
            refine rh_get hX gl_X8_102 0 dX8_readsRound_80 rfl rfl ?_
            refine rh_uV hX lk_X8_112 mvX8_fault (fun l => c_X8_fault l E _ _ _ _ _ _ _ _ _ _ _ _ _ _ _ _ _ _ _ _ _ _ _ _ _ _ _ _ _ _ _ _ _ _ _ _ _ _ _) ⟨rfl, rfl⟩ ⟨Nat.le_of_ble_eq_true rfl, Nat.le_of_ble_eq_true rfl⟩ [0, 1, 2, 3, 4, 5, 6, 7, 8, 9, 10, 11, 12] rfl rfl 0 rfl dX8_readsRound_83 rfl rfl (Nat.le_of_ble_eq_true rfl) rfl ?_
            dsimp only [List.cons_append, List.nil_append, List.set_cons_succ, List.set_cons_zero, vput]
            rw [show mFault (-1) (nI he1) = nI he1 from rfl]
            exact rh_vret hX hR dX8_readsRound_86 (by simp only [List.map_cons, List.map_nil, List.cons_append, List.nil_append]) ⟨rfl, by first | (rw [mRd, if_pos hw0, ← hH.1, hm, mMy_s, if_pos h63]; done) | (rw [mRd, if_pos hw0, ← hH.1, hm, mMy_s, if_neg h63, if_pos h70]; done) | (rw [mRd, if_pos hw0, ← hH.1, hm, mMy_s, if_neg h63, if_neg h70, if_neg h75]; done)⟩
          · skip
            obtain ⟨hd, hhd, hdl⟩ := xH_1 h70
            refine rh_iload_n hX dX8_readsRound_73 rfl ?_
            refine rh_iload_n hX dX8_readsRound_74 rfl ?_
            refine rh_icmp_gt (tgt := 87) hX dX8_readsRound_75 (by decide) (fun h75 => ?_) (fun h75 => ?_)
            · skip
              rw [hhd]
              have hlt1 : he1 < ty := mSee_lt h63
              refine rh_aload_n hX dX8_readsRound_87 rfl ?_
              refine rh_dup hX dX8_readsRound_88 rfl ?_
              refine rh_get hX gl_X8_102 0 dX8_readsRound_89 rfl rfl ?_
              refine rh_iconst hX dX8_readsRound_92 ki_1 ?_
              refine rh_iadd hX dX8_readsRound_93 ?_
              rw [show nI he1 + 1 = nI (he1 + 1) from rn_add he1 1]
              refine rh_put hX gl_X8_102 0 dX8_readsRound_94 rfl rfl rfl (Nat.le_of_ble_eq_true rfl) rfl ?_
              dsimp only [List.cons_append, List.nil_append, List.set_cons_succ, List.set_cons_zero, vput]
              refine rh_aload_n hX dX8_readsRound_97 rfl ?_
              refine rh_bipush hX dX8_readsRound_98 kb_61 ?_
              refine rh_uV hX lk_X8_203 mvX8_expect (fun l => c_X8_expect l E _ _ _ _ _ _ _ _ _ _ _ _ _ _ _ _ _ _ _ _ _ _ _ _ _ _ _ _ _ _ _ _ _ _ _ _ _ _ 61 (by omega) (by omega)) ⟨rfl, rfl⟩ ⟨Nat.le_of_ble_eq_true rfl, Nat.le_of_ble_eq_true rfl⟩ [0, 1, 2, 3, 4, 5, 6, 7, 8, 9, 10, 11, 12] rfl rfl 0 rfl dX8_readsRound_100 rfl rfl (Nat.le_of_ble_eq_true rfl) rfl ?_
              dsimp only [List.cons_append, List.nil_append, List.set_cons_succ, List.set_cons_zero, vput]
              have hle2 := mExp_le (tx := tx) (sz := ty) (he := he1 + 1) (wr := (-1)) (c := 61) (by decide) (by omega)
              refine rh_aload_n hX dX8_readsRound_103 rfl ?_
              refine rh_get hX gl_X8_27 0 dX8_readsRound_104 rfl rfl ?_
              refine rh_iload_n hX dX8_readsRound_107 rfl ?_
              refine rh_aload_n hX dX8_readsRound_108 rfl ?_
              refine rh_iconst hX dX8_readsRound_109 ki_1 ?_
              refine rh_ldc2 hX dX8_readsRound_110 kl_X8_243 ?_
              refine rh_wV hX lk_X8_127 mvX8_number (fun l => c_X8_number l E _ _ _ _ _ _ _ _ _ _ _ _ _ _ _ _ _ _ _ _ _ _ _ _ _ _ _ _ _ _ _ _ _ _ _ _ _ _ 1 100000000 (by omega) (by omega)) ⟨rfl, rfl⟩ ⟨Nat.le_of_ble_eq_true rfl, Nat.le_of_ble_eq_true rfl⟩ [0, 1, 2, 3, 4, 5, 6, 7, 8, 9, 10, 11, 12] rfl rfl 0 rfl dX8_readsRound_113 rfl rfl (Nat.le_of_ble_eq_true rfl) rfl ?_
              dsimp only [List.cons_append, List.nil_append, List.set_cons_succ, List.set_cons_zero, vput]
              rw [show mNum tx ty (mExp tx ty (he1 + 1) (-1) 61).1 (mExp tx ty (he1 + 1) (-1) 61).2 1 100000000 = mMn tx ty he1 from rfl]
              have hle3 : (mMn tx ty he1).2.1 ≤ ty := mNum_le hle2
              refine rh_iastore hX 6 hd dX8_readsRound_116 rfl rfl (by omega) (by decide) rfl ?_
              dsimp only [List.cons_append, List.nil_append, List.set_cons_succ, List.set_cons_zero, vput]
              refine rh_aload_n hX dX8_readsRound_117 rfl ?_
              refine rh_dup hX dX8_readsRound_118 rfl ?_
              refine rh_get hX gl_X8_239 0 dX8_readsRound_119 rfl rfl ?_
              refine rh_aload_n hX dX8_readsRound_122 rfl ?_
              refine rh_get hX gl_X8_27 0 dX8_readsRound_123 rfl rfl ?_
              refine rh_iload_n hX dX8_readsRound_126 rfl ?_
              refine rh_iaload hX 6 hd dX8_readsRound_127 rfl rfl (by omega) (by decide) ?_
              rw [show va_up mn1 hd (mMn tx ty he1).1 hd = (mMn tx ty he1).1 by unfold va_up; rw [if_pos rfl]]
              refine rh_i2l hX dX8_readsRound_128 ?_
              refine rh_ladd hX dX8_readsRound_129 ?_
              refine rh_put hX gl_X8_239 0 dX8_readsRound_130 rfl rfl rfl (Nat.le_of_ble_eq_true rfl) rfl ?_
              dsimp only [List.cons_append, List.nil_append, List.set_cons_succ, List.set_cons_zero, vput]
              refine rh_iload_n hX dX8_readsRound_133 rfl ?_
              refine rh_istn1 hX dX8_readsRound_134 (by decide) rfl ?_
              refine rh_aload_n hX dX8_readsRound_135 rfl ?_
              refine rh_pV hX lk_X8_108 mvX8_sees (fun l => c_X8_sees l E _ _ _ _ _ _ _ _ _ _ _ _ _ _ _ _ _ _ _ _ _ _ _ _ _ _ _ _ _ _ _ _ _ _ _ _ _ _ (by omega) (by omega)) ⟨rfl, rfl⟩ ⟨Nat.le_of_ble_eq_true rfl, Nat.le_of_ble_eq_true rfl⟩ [0, 1, 2, 3, 4, 5, 6, 7, 8, 9, 10, 11, 12] rfl rfl 0 rfl dX8_readsRound_136 rfl rfl (Nat.le_of_ble_eq_true rfl) ?_
              refine rh_bipush hX dX8_readsRound_139 kb_44 ?_
              refine rh_icmp_ne (tgt := 154) hX dX8_readsRound_141 (by decide) (fun h141 => ?_) (fun h141 => ?_)
              · skip
                refine rh_iconst hX dX8_readsRound_154 ki_0 ?_
                refine rh_istn2 hX dX8_readsRound_155 (by decide) rfl ?_
                refine rh_iload_n hX dX8_readsRound_156 rfl ?_
                refine rh_if_eq_t (tgt := 170) hX dX8_readsRound_157 (by decide) rfl ?_
                refine rh_goto (tgt := 38) hX dX8_readsRound_170 (by decide) ?_
                refine rh_iload_n hX dX8_readsRound_38 rfl ?_
                refine rh_if_eq_t (tgt := 173) hX dX8_readsRound_39 (by decide) rfl ?_
                refine rh_aload_n hX dX8_readsRound_173 rfl ?_
                refine rh_get hX gl_X8_105 0 dX8_readsRound_174 rfl rfl ?_
                refine rh_iconst hX dX8_readsRound_177 ki_m1 ?_
                refine rh_icmp_ne (tgt := 200) hX dX8_readsRound_178 (by decide) (fun h178 => ?_) (fun h178 => ?_)
                · skip
                  exact rh_vret hX hR dX8_readsRound_200 (by simp only [List.map_cons, List.map_nil, List.cons_append, List.nil_append]) ⟨rfl, by first | (rw [mRd, if_neg h47]; done) | (rw [mRd, if_pos hw0, ← hH.1, hm, mMy_s, if_neg h63, if_neg h70, if_pos h75, show ((mSee tx ty he1 - 48)).toNatClampNeg = hd by rw [hhd, nI_clamp (show hd < 2 ^ 31 by omega)], if_neg h141, mEnd, if_neg h178]; done) | (rw [mRd, if_pos hw0, ← hH.1, hm, mMy_s, if_neg h63, if_neg h70, if_pos h75, show ((mSee tx ty he1 - 48)).toNatClampNeg = hd by rw [hhd, nI_clamp (show hd < 2 ^ 31 by omega)], if_neg h141, mEnd, if_pos h178, if_neg h189]; done) | (rw [mRd, if_pos hw0, ← hH.1, hm, mMy_s, if_neg h63, if_neg h70, if_pos h75, show ((mSee tx ty he1 - 48)).toNatClampNeg = hd by rw [hhd, nI_clamp (show hd < 2 ^ 31 by omega)], if_neg h141, mEnd, if_pos h178, if_pos h189]; done) | (rw [mRd, if_pos hw0, ← hH.1, hm, mMy_s, if_neg h63, if_neg h70, if_pos h75, show ((mSee tx ty he1 - 48)).toNatClampNeg = hd by rw [hhd, nI_clamp (show hd < 2 ^ 31 by omega)], if_pos h141, if_pos h147, mEnd, if_neg h178]; done) | (rw [mRd, if_pos hw0, ← hH.1, hm, mMy_s, if_neg h63, if_neg h70, if_pos h75, show ((mSee tx ty he1 - 48)).toNatClampNeg = hd by rw [hhd, nI_clamp (show hd < 2 ^ 31 by omega)], if_pos h141, if_pos h147, mEnd, if_pos h178, if_neg h189]; done) | (rw [mRd, if_pos hw0, ← hH.1, hm, mMy_s, if_neg h63, if_neg h70, if_pos h75, show ((mSee tx ty he1 - 48)).toNatClampNeg = hd by rw [hhd, nI_clamp (show hd < 2 ^ 31 by omega)], if_pos h141, if_pos h147, mEnd, if_pos h178, if_pos h189]; done) | (rw [mRd, if_pos hw0, ← hH.1, hm, mMy_s, if_neg h63, if_neg h70, if_pos h75, show ((mSee tx ty he1 - 48)).toNatClampNeg = hd by rw [hhd, nI_clamp (show hd < 2 ^ 31 by omega)], if_pos h141, if_neg h147, if_neg h47b]; done)⟩
                · skip
                  refine rh_aload_n hX dX8_readsRound_181 rfl ?_
                  refine rh_get hX gl_X8_102 0 dX8_readsRound_182 rfl rfl ?_
                  refine rh_aload_n hX dX8_readsRound_185 rfl ?_
                  refine rh_get hX gl_X8_99 0 dX8_readsRound_186 rfl rfl ?_
                  refine rh_icmp_ge (tgt := 200) hX dX8_readsRound_189 (by decide) (fun h189 => ?_) (fun h189 => ?_)
                  · skip
                    have h189 := Nat.not_lt.mpr (rn_leI h189 (by omega) (by omega))
                    exact rh_vret hX hR dX8_readsRound_200 (by simp only [List.map_cons, List.map_nil, List.cons_append, List.nil_append]) ⟨rfl, by first | (rw [mRd, if_neg h47]; done) | (rw [mRd, if_pos hw0, ← hH.1, hm, mMy_s, if_neg h63, if_neg h70, if_pos h75, show ((mSee tx ty he1 - 48)).toNatClampNeg = hd by rw [hhd, nI_clamp (show hd < 2 ^ 31 by omega)], if_neg h141, mEnd, if_neg h178]; done) | (rw [mRd, if_pos hw0, ← hH.1, hm, mMy_s, if_neg h63, if_neg h70, if_pos h75, show ((mSee tx ty he1 - 48)).toNatClampNeg = hd by rw [hhd, nI_clamp (show hd < 2 ^ 31 by omega)], if_neg h141, mEnd, if_pos h178, if_neg h189]; done) | (rw [mRd, if_pos hw0, ← hH.1, hm, mMy_s, if_neg h63, if_neg h70, if_pos h75, show ((mSee tx ty he1 - 48)).toNatClampNeg = hd by rw [hhd, nI_clamp (show hd < 2 ^ 31 by omega)], if_neg h141, mEnd, if_pos h178, if_pos h189]; done) | (rw [mRd, if_pos hw0, ← hH.1, hm, mMy_s, if_neg h63, if_neg h70, if_pos h75, show ((mSee tx ty he1 - 48)).toNatClampNeg = hd by rw [hhd, nI_clamp (show hd < 2 ^ 31 by omega)], if_pos h141, if_pos h147, mEnd, if_neg h178]; done) | (rw [mRd, if_pos hw0, ← hH.1, hm, mMy_s, if_neg h63, if_neg h70, if_pos h75, show ((mSee tx ty he1 - 48)).toNatClampNeg = hd by rw [hhd, nI_clamp (show hd < 2 ^ 31 by omega)], if_pos h141, if_pos h147, mEnd, if_pos h178, if_neg h189]; done) | (rw [mRd, if_pos hw0, ← hH.1, hm, mMy_s, if_neg h63, if_neg h70, if_pos h75, show ((mSee tx ty he1 - 48)).toNatClampNeg = hd by rw [hhd, nI_clamp (show hd < 2 ^ 31 by omega)], if_pos h141, if_pos h147, mEnd, if_pos h178, if_pos h189]; done) | (rw [mRd, if_pos hw0, ← hH.1, hm, mMy_s, if_neg h63, if_neg h70, if_pos h75, show ((mSee tx ty he1 - 48)).toNatClampNeg = hd by rw [hhd, nI_clamp (show hd < 2 ^ 31 by omega)], if_pos h141, if_neg h147, if_neg h47b]; done)⟩
                  · skip
                    have h189 := rn_leN h189 (by omega) (by omega)
                    refine rh_aload_n hX dX8_readsRound_192 rfl ?_
                    refine rh_aload_n hX dX8_readsRound_193 rfl ?_
                    refine rh_get hX gl_X8_102 0 dX8_readsRound_194 rfl rfl ?_
                    refine rh_uV hX lk_X8_112 mvX8_fault (fun l => c_X8_fault l E _ _ _ _ _ _ _ _ _ _ _ _ _ _ _ _ _ _ _ _ _ _ _ _ _ _ _ _ _ _ _ _ _ _ _ _ _ _ _) ⟨rfl, rfl⟩ ⟨Nat.le_of_ble_eq_true rfl, Nat.le_of_ble_eq_true rfl⟩ [0, 1, 2, 3, 4, 5, 6, 7, 8, 9, 10, 11, 12] rfl rfl 0 rfl dX8_readsRound_197 rfl rfl (Nat.le_of_ble_eq_true rfl) rfl ?_
                    dsimp only [List.cons_append, List.nil_append, List.set_cons_succ, List.set_cons_zero, vput]
                    exact rh_vret hX hR dX8_readsRound_200 (by simp only [List.map_cons, List.map_nil, List.cons_append, List.nil_append]) ⟨rfl, by first | (rw [mRd, if_neg h47]; done) | (rw [mRd, if_pos hw0, ← hH.1, hm, mMy_s, if_neg h63, if_neg h70, if_pos h75, show ((mSee tx ty he1 - 48)).toNatClampNeg = hd by rw [hhd, nI_clamp (show hd < 2 ^ 31 by omega)], if_neg h141, mEnd, if_neg h178]; done) | (rw [mRd, if_pos hw0, ← hH.1, hm, mMy_s, if_neg h63, if_neg h70, if_pos h75, show ((mSee tx ty he1 - 48)).toNatClampNeg = hd by rw [hhd, nI_clamp (show hd < 2 ^ 31 by omega)], if_neg h141, mEnd, if_pos h178, if_neg h189]; done) | (rw [mRd, if_pos hw0, ← hH.1, hm, mMy_s, if_neg h63, if_neg h70, if_pos h75, show ((mSee tx ty he1 - 48)).toNatClampNeg = hd by rw [hhd, nI_clamp (show hd < 2 ^ 31 by omega)], if_neg h141, mEnd, if_pos h178, if_pos h189]; done) | (rw [mRd, if_pos hw0, ← hH.1, hm, mMy_s, if_neg h63, if_neg h70, if_pos h75, show ((mSee tx ty he1 - 48)).toNatClampNeg = hd by rw [hhd, nI_clamp (show hd < 2 ^ 31 by omega)], if_pos h141, if_pos h147, mEnd, if_neg h178]; done) | (rw [mRd, if_pos hw0, ← hH.1, hm, mMy_s, if_neg h63, if_neg h70, if_pos h75, show ((mSee tx ty he1 - 48)).toNatClampNeg = hd by rw [hhd, nI_clamp (show hd < 2 ^ 31 by omega)], if_pos h141, if_pos h147, mEnd, if_pos h178, if_neg h189]; done) | (rw [mRd, if_pos hw0, ← hH.1, hm, mMy_s, if_neg h63, if_neg h70, if_pos h75, show ((mSee tx ty he1 - 48)).toNatClampNeg = hd by rw [hhd, nI_clamp (show hd < 2 ^ 31 by omega)], if_pos h141, if_pos h147, mEnd, if_pos h178, if_pos h189]; done) | (rw [mRd, if_pos hw0, ← hH.1, hm, mMy_s, if_neg h63, if_neg h70, if_pos h75, show ((mSee tx ty he1 - 48)).toNatClampNeg = hd by rw [hhd, nI_clamp (show hd < 2 ^ 31 by omega)], if_pos h141, if_neg h147, if_neg h47b]; done)⟩
              · skip
                refine rh_iload_n hX dX8_readsRound_144 rfl ?_
                refine rh_bipush hX dX8_readsRound_145 kb_7 ?_
                refine rh_icmp_ge (tgt := 154) hX dX8_readsRound_147 (by decide) (fun h147 => ?_) (fun h147 => ?_)
                · skip
                  have h147 : 7 ≤ (mSee tx ty he1 - 48) := by rw [hhd]; exact h147
                  refine rh_iconst hX dX8_readsRound_154 ki_0 ?_
                  refine rh_istn2 hX dX8_readsRound_155 (by decide) rfl ?_
                  refine rh_iload_n hX dX8_readsRound_156 rfl ?_
                  refine rh_if_eq_t (tgt := 170) hX dX8_readsRound_157 (by decide) rfl ?_
                  refine rh_goto (tgt := 38) hX dX8_readsRound_170 (by decide) ?_
                  refine rh_iload_n hX dX8_readsRound_38 rfl ?_
                  refine rh_if_eq_t (tgt := 173) hX dX8_readsRound_39 (by decide) rfl ?_
                  refine rh_aload_n hX dX8_readsRound_173 rfl ?_
                  refine rh_get hX gl_X8_105 0 dX8_readsRound_174 rfl rfl ?_
                  refine rh_iconst hX dX8_readsRound_177 ki_m1 ?_
                  refine rh_icmp_ne (tgt := 200) hX dX8_readsRound_178 (by decide) (fun h178 => ?_) (fun h178 => ?_)
                  · skip
                    exact rh_vret hX hR dX8_readsRound_200 (by simp only [List.map_cons, List.map_nil, List.cons_append, List.nil_append]) ⟨rfl, by first | (rw [mRd, if_neg h47]; done) | (rw [mRd, if_pos hw0, ← hH.1, hm, mMy_s, if_neg h63, if_neg h70, if_pos h75, show ((mSee tx ty he1 - 48)).toNatClampNeg = hd by rw [hhd, nI_clamp (show hd < 2 ^ 31 by omega)], if_neg h141, mEnd, if_neg h178]; done) | (rw [mRd, if_pos hw0, ← hH.1, hm, mMy_s, if_neg h63, if_neg h70, if_pos h75, show ((mSee tx ty he1 - 48)).toNatClampNeg = hd by rw [hhd, nI_clamp (show hd < 2 ^ 31 by omega)], if_neg h141, mEnd, if_pos h178, if_neg h189]; done) | (rw [mRd, if_pos hw0, ← hH.1, hm, mMy_s, if_neg h63, if_neg h70, if_pos h75, show ((mSee tx ty he1 - 48)).toNatClampNeg = hd by rw [hhd, nI_clamp (show hd < 2 ^ 31 by omega)], if_neg h141, mEnd, if_pos h178, if_pos h189]; done) | (rw [mRd, if_pos hw0, ← hH.1, hm, mMy_s, if_neg h63, if_neg h70, if_pos h75, show ((mSee tx ty he1 - 48)).toNatClampNeg = hd by rw [hhd, nI_clamp (show hd < 2 ^ 31 by omega)], if_pos h141, if_pos h147, mEnd, if_neg h178]; done) | (rw [mRd, if_pos hw0, ← hH.1, hm, mMy_s, if_neg h63, if_neg h70, if_pos h75, show ((mSee tx ty he1 - 48)).toNatClampNeg = hd by rw [hhd, nI_clamp (show hd < 2 ^ 31 by omega)], if_pos h141, if_pos h147, mEnd, if_pos h178, if_neg h189]; done) | (rw [mRd, if_pos hw0, ← hH.1, hm, mMy_s, if_neg h63, if_neg h70, if_pos h75, show ((mSee tx ty he1 - 48)).toNatClampNeg = hd by rw [hhd, nI_clamp (show hd < 2 ^ 31 by omega)], if_pos h141, if_pos h147, mEnd, if_pos h178, if_pos h189]; done) | (rw [mRd, if_pos hw0, ← hH.1, hm, mMy_s, if_neg h63, if_neg h70, if_pos h75, show ((mSee tx ty he1 - 48)).toNatClampNeg = hd by rw [hhd, nI_clamp (show hd < 2 ^ 31 by omega)], if_pos h141, if_neg h147, if_neg h47b]; done)⟩
                  · skip
                    refine rh_aload_n hX dX8_readsRound_181 rfl ?_
                    refine rh_get hX gl_X8_102 0 dX8_readsRound_182 rfl rfl ?_
                    refine rh_aload_n hX dX8_readsRound_185 rfl ?_
                    refine rh_get hX gl_X8_99 0 dX8_readsRound_186 rfl rfl ?_
                    refine rh_icmp_ge (tgt := 200) hX dX8_readsRound_189 (by decide) (fun h189 => ?_) (fun h189 => ?_)
                    · skip
                      have h189 := Nat.not_lt.mpr (rn_leI h189 (by omega) (by omega))
                      exact rh_vret hX hR dX8_readsRound_200 (by simp only [List.map_cons, List.map_nil, List.cons_append, List.nil_append]) ⟨rfl, by first | (rw [mRd, if_neg h47]; done) | (rw [mRd, if_pos hw0, ← hH.1, hm, mMy_s, if_neg h63, if_neg h70, if_pos h75, show ((mSee tx ty he1 - 48)).toNatClampNeg = hd by rw [hhd, nI_clamp (show hd < 2 ^ 31 by omega)], if_neg h141, mEnd, if_neg h178]; done) | (rw [mRd, if_pos hw0, ← hH.1, hm, mMy_s, if_neg h63, if_neg h70, if_pos h75, show ((mSee tx ty he1 - 48)).toNatClampNeg = hd by rw [hhd, nI_clamp (show hd < 2 ^ 31 by omega)], if_neg h141, mEnd, if_pos h178, if_neg h189]; done) | (rw [mRd, if_pos hw0, ← hH.1, hm, mMy_s, if_neg h63, if_neg h70, if_pos h75, show ((mSee tx ty he1 - 48)).toNatClampNeg = hd by rw [hhd, nI_clamp (show hd < 2 ^ 31 by omega)], if_neg h141, mEnd, if_pos h178, if_pos h189]; done) | (rw [mRd, if_pos hw0, ← hH.1, hm, mMy_s, if_neg h63, if_neg h70, if_pos h75, show ((mSee tx ty he1 - 48)).toNatClampNeg = hd by rw [hhd, nI_clamp (show hd < 2 ^ 31 by omega)], if_pos h141, if_pos h147, mEnd, if_neg h178]; done) | (rw [mRd, if_pos hw0, ← hH.1, hm, mMy_s, if_neg h63, if_neg h70, if_pos h75, show ((mSee tx ty he1 - 48)).toNatClampNeg = hd by rw [hhd, nI_clamp (show hd < 2 ^ 31 by omega)], if_pos h141, if_pos h147, mEnd, if_pos h178, if_neg h189]; done) | (rw [mRd, if_pos hw0, ← hH.1, hm, mMy_s, if_neg h63, if_neg h70, if_pos h75, show ((mSee tx ty he1 - 48)).toNatClampNeg = hd by rw [hhd, nI_clamp (show hd < 2 ^ 31 by omega)], if_pos h141, if_pos h147, mEnd, if_pos h178, if_pos h189]; done) | (rw [mRd, if_pos hw0, ← hH.1, hm, mMy_s, if_neg h63, if_neg h70, if_pos h75, show ((mSee tx ty he1 - 48)).toNatClampNeg = hd by rw [hhd, nI_clamp (show hd < 2 ^ 31 by omega)], if_pos h141, if_neg h147, if_neg h47b]; done)⟩
                    · skip
                      have h189 := rn_leN h189 (by omega) (by omega)
                      refine rh_aload_n hX dX8_readsRound_192 rfl ?_
                      refine rh_aload_n hX dX8_readsRound_193 rfl ?_
                      refine rh_get hX gl_X8_102 0 dX8_readsRound_194 rfl rfl ?_
                      refine rh_uV hX lk_X8_112 mvX8_fault (fun l => c_X8_fault l E _ _ _ _ _ _ _ _ _ _ _ _ _ _ _ _ _ _ _ _ _ _ _ _ _ _ _ _ _ _ _ _ _ _ _ _ _ _ _) ⟨rfl, rfl⟩ ⟨Nat.le_of_ble_eq_true rfl, Nat.le_of_ble_eq_true rfl⟩ [0, 1, 2, 3, 4, 5, 6, 7, 8, 9, 10, 11, 12] rfl rfl 0 rfl dX8_readsRound_197 rfl rfl (Nat.le_of_ble_eq_true rfl) rfl ?_
                      dsimp only [List.cons_append, List.nil_append, List.set_cons_succ, List.set_cons_zero, vput]
                      exact rh_vret hX hR dX8_readsRound_200 (by simp only [List.map_cons, List.map_nil, List.cons_append, List.nil_append]) ⟨rfl, by first | (rw [mRd, if_neg h47]; done) | (rw [mRd, if_pos hw0, ← hH.1, hm, mMy_s, if_neg h63, if_neg h70, if_pos h75, show ((mSee tx ty he1 - 48)).toNatClampNeg = hd by rw [hhd, nI_clamp (show hd < 2 ^ 31 by omega)], if_neg h141, mEnd, if_neg h178]; done) | (rw [mRd, if_pos hw0, ← hH.1, hm, mMy_s, if_neg h63, if_neg h70, if_pos h75, show ((mSee tx ty he1 - 48)).toNatClampNeg = hd by rw [hhd, nI_clamp (show hd < 2 ^ 31 by omega)], if_neg h141, mEnd, if_pos h178, if_neg h189]; done) | (rw [mRd, if_pos hw0, ← hH.1, hm, mMy_s, if_neg h63, if_neg h70, if_pos h75, show ((mSee tx ty he1 - 48)).toNatClampNeg = hd by rw [hhd, nI_clamp (show hd < 2 ^ 31 by omega)], if_neg h141, mEnd, if_pos h178, if_pos h189]; done) | (rw [mRd, if_pos hw0, ← hH.1, hm, mMy_s, if_neg h63, if_neg h70, if_pos h75, show ((mSee tx ty he1 - 48)).toNatClampNeg = hd by rw [hhd, nI_clamp (show hd < 2 ^ 31 by omega)], if_pos h141, if_pos h147, mEnd, if_neg h178]; done) | (rw [mRd, if_pos hw0, ← hH.1, hm, mMy_s, if_neg h63, if_neg h70, if_pos h75, show ((mSee tx ty he1 - 48)).toNatClampNeg = hd by rw [hhd, nI_clamp (show hd < 2 ^ 31 by omega)], if_pos h141, if_pos h147, mEnd, if_pos h178, if_neg h189]; done) | (rw [mRd, if_pos hw0, ← hH.1, hm, mMy_s, if_neg h63, if_neg h70, if_pos h75, show ((mSee tx ty he1 - 48)).toNatClampNeg = hd by rw [hhd, nI_clamp (show hd < 2 ^ 31 by omega)], if_pos h141, if_pos h147, mEnd, if_pos h178, if_pos h189]; done) | (rw [mRd, if_pos hw0, ← hH.1, hm, mMy_s, if_neg h63, if_neg h70, if_pos h75, show ((mSee tx ty he1 - 48)).toNatClampNeg = hd by rw [hhd, nI_clamp (show hd < 2 ^ 31 by omega)], if_pos h141, if_neg h147, if_neg h47b]; done)⟩
                · skip
                  have h147 : ¬ 7 ≤ (mSee tx ty he1 - 48) := by rw [hhd]; exact h147
                  refine rh_iconst hX dX8_readsRound_150 ki_1 ?_
                  refine rh_goto (tgt := 155) hX dX8_readsRound_151 (by decide) ?_
                  refine rh_istn2 hX dX8_readsRound_155 (by decide) rfl ?_
                  refine rh_iload_n hX dX8_readsRound_156 rfl ?_
                  refine rh_if_eq_f (tgt := 170) hX dX8_readsRound_157 (by decide) (by decide) ?_
                  refine rh_aload_n hX dX8_readsRound_160 rfl ?_
                  refine rh_dup hX dX8_readsRound_161 rfl ?_
                  refine rh_get hX gl_X8_102 0 dX8_readsRound_162 rfl rfl ?_
                  refine rh_iconst hX dX8_readsRound_165 ki_1 ?_
                  refine rh_iadd hX dX8_readsRound_166 ?_
                  rw [show nI (mMn tx ty he1).2.1 + 1 = nI ((mMn tx ty he1).2.1 + 1) from rn_add _ 1]
                  refine rh_put hX gl_X8_102 0 dX8_readsRound_167 rfl rfl rfl (Nat.le_of_ble_eq_true rfl) rfl ?_
                  dsimp only [List.cons_append, List.nil_append, List.set_cons_succ, List.set_cons_zero, vput]
                  refine rh_goto (tgt := 38) hX dX8_readsRound_170 (by decide) ?_
                  refine rh_iload_n hX dX8_readsRound_38 rfl ?_
                  refine rh_if_eq_f (tgt := 173) hX dX8_readsRound_39 (by decide) (by decide) ?_
                  refine rh_aload_n hX dX8_readsRound_42 rfl ?_
                  refine rh_get hX gl_X8_105 0 dX8_readsRound_43 rfl rfl ?_
                  refine rh_iconst hX dX8_readsRound_46 ki_m1 ?_
                  refine rh_icmp_ne (tgt := 173) hX dX8_readsRound_47 (by decide) (fun h47b => ?_) (fun h47b => ?_)
                  · skip
                    refine rh_aload_n hX dX8_readsRound_173 rfl ?_
                    refine rh_get hX gl_X8_105 0 dX8_readsRound_174 rfl rfl ?_
                    refine rh_iconst hX dX8_readsRound_177 ki_m1 ?_
                    refine rh_icmp_ne_t (tgt := 200) hX dX8_readsRound_178 (by decide) h47b ?_
                    exact rh_vret hX hR dX8_readsRound_200 (by simp only [List.map_cons, List.map_nil, List.cons_append, List.nil_append]) ⟨rfl, by first | (rw [mRd, if_neg h47]; done) | (rw [mRd, if_pos hw0, ← hH.1, hm, mMy_s, if_neg h63, if_neg h70, if_pos h75, show ((mSee tx ty he1 - 48)).toNatClampNeg = hd by rw [hhd, nI_clamp (show hd < 2 ^ 31 by omega)], if_neg h141, mEnd, if_neg h178]; done) | (rw [mRd, if_pos hw0, ← hH.1, hm, mMy_s, if_neg h63, if_neg h70, if_pos h75, show ((mSee tx ty he1 - 48)).toNatClampNeg = hd by rw [hhd, nI_clamp (show hd < 2 ^ 31 by omega)], if_neg h141, mEnd, if_pos h178, if_neg h189]; done) | (rw [mRd, if_pos hw0, ← hH.1, hm, mMy_s, if_neg h63, if_neg h70, if_pos h75, show ((mSee tx ty he1 - 48)).toNatClampNeg = hd by rw [hhd, nI_clamp (show hd < 2 ^ 31 by omega)], if_neg h141, mEnd, if_pos h178, if_pos h189]; done) | (rw [mRd, if_pos hw0, ← hH.1, hm, mMy_s, if_neg h63, if_neg h70, if_pos h75, show ((mSee tx ty he1 - 48)).toNatClampNeg = hd by rw [hhd, nI_clamp (show hd < 2 ^ 31 by omega)], if_pos h141, if_pos h147, mEnd, if_neg h178]; done) | (rw [mRd, if_pos hw0, ← hH.1, hm, mMy_s, if_neg h63, if_neg h70, if_pos h75, show ((mSee tx ty he1 - 48)).toNatClampNeg = hd by rw [hhd, nI_clamp (show hd < 2 ^ 31 by omega)], if_pos h141, if_pos h147, mEnd, if_pos h178, if_neg h189]; done) | (rw [mRd, if_pos hw0, ← hH.1, hm, mMy_s, if_neg h63, if_neg h70, if_pos h75, show ((mSee tx ty he1 - 48)).toNatClampNeg = hd by rw [hhd, nI_clamp (show hd < 2 ^ 31 by omega)], if_pos h141, if_pos h147, mEnd, if_pos h178, if_pos h189]; done) | (rw [mRd, if_pos hw0, ← hH.1, hm, mMy_s, if_neg h63, if_neg h70, if_pos h75, show ((mSee tx ty he1 - 48)).toNatClampNeg = hd by rw [hhd, nI_clamp (show hd < 2 ^ 31 by omega)], if_pos h141, if_neg h147, if_neg h47b]; done)⟩
                  · skip
                    rw [h47b]
                    exact rh_wk (lv' := [some (.ref (B 0)), some (.int (nI hd)), none, none]) (by exact ⟨rfl, rfl, trivial⟩) (ih (nI hd) _ _ _ ⟨by rw [← hH.1, hm, mMy_s, if_neg h63, if_neg h70, if_pos h75, show ((mSee tx ty he1 - 48)).toNatClampNeg = hd by rw [hhd, nI_clamp (show hd < 2 ^ 31 by omega)], if_pos h141, if_neg h147, if_pos h47b, hhd, show 8 - (i + 1) = m9 by omega], mSee_lt (tx := tx) (n := ty) (by rw [h141]; decide), by have := hH.2.2.1; rw [z_lt32, hhd, nI_toInt (by omega)] at h75; rw [nI_toInt (by omega)]; omega, by rw [nI_toInt (by omega)]; rw [z_le32, hhd, nI_toInt (by omega), show (7 : Int32).toInt = 7 by decide] at h147; omega⟩)
            · skip
              refine rh_aload_n hX dX8_readsRound_78 rfl ?_
              refine rh_aload_n hX dX8_readsRound_79 rfl ?_
              refine rh_get hX gl_X8_102 0 dX8_readsRound_80 rfl rfl ?_
              refine rh_uV hX lk_X8_112 mvX8_fault (fun l => c_X8_fault l E _ _ _ _ _ _ _ _ _ _ _ _ _ _ _ _ _ _ _ _ _ _ _ _ _ _ _ _ _ _ _ _ _ _ _ _ _ _ _) ⟨rfl, rfl⟩ ⟨Nat.le_of_ble_eq_true rfl, Nat.le_of_ble_eq_true rfl⟩ [0, 1, 2, 3, 4, 5, 6, 7, 8, 9, 10, 11, 12] rfl rfl 0 rfl dX8_readsRound_83 rfl rfl (Nat.le_of_ble_eq_true rfl) rfl ?_
              dsimp only [List.cons_append, List.nil_append, List.set_cons_succ, List.set_cons_zero, vput]
              rw [show mFault (-1) (nI he1) = nI he1 from rfl]
              exact rh_vret hX hR dX8_readsRound_86 (by simp only [List.map_cons, List.map_nil, List.cons_append, List.nil_append]) ⟨rfl, by first | (rw [mRd, if_pos hw0, ← hH.1, hm, mMy_s, if_pos h63]; done) | (rw [mRd, if_pos hw0, ← hH.1, hm, mMy_s, if_neg h63, if_pos h70]; done) | (rw [mRd, if_pos hw0, ← hH.1, hm, mMy_s, if_neg h63, if_neg h70, if_neg h75]; done)⟩
  · intro i hi0 hi ih
    refine rh_iload_n hX dX8_readsRound_10 rfl ?_
    refine rh_bipush hX dX8_readsRound_11 kb_8 ?_
    refine rh_icmp_ge_f (tgt := 29) hX dX8_readsRound_13 (by decide) (nI_ge (b := 8) hi (by decide)) ?_
    refine rh_aload_n hX dX8_readsRound_16 rfl ?_
    refine rh_get hX gl_X8_27 0 dX8_readsRound_17 rfl rfl ?_
    refine rh_iload_n hX dX8_readsRound_20 rfl ?_
    refine rh_iconst hX dX8_readsRound_21 ki_0 ?_
    refine rh_iastore hX 6 _ dX8_readsRound_22 rfl rfl (by omega) (by decide) rfl ?_
    dsimp only [List.cons_append, List.nil_append, List.set_cons_succ, List.set_cons_zero, vput]
    refine rh_inc1 hX dX8_readsRound_23 (by decide) rfl (rn_i1 _) ?_
    refine rh_goto (tgt := 10) hX dX8_readsRound_26 (by decide) ?_
    rw [← rowTI_s (fun _ => 0)] at ih
    exact ih
