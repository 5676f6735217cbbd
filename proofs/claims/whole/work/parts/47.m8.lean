theorem mOk_up {u : Nat → Int32} {T i : Nat} {v : Int32} (h : mOk u T) (h1 : ¬ i = 57) (h2 : i < 64 ∨ 70 ≤ i) : mOk (va_up u i v) T := by
  obtain ⟨a, b, c, d⟩ := h
  refine ⟨by unfold va_up; rw [if_neg (fun q => h1 q.symm)]; exact a, b, c, fun t t1 t2 => ?_⟩
  have e := d t t1 t2
  rw [← fm_fact u (t := t) (k := 1) (by omega) (by omega)] at e
  rw [← fm_fact _ (t := t) (k := 1) (by omega) (by omega)]
  unfold va_up
  rw [if_neg (by omega)]
  exact e
abbrev YR : Type := Int32 × Option (Nat → Int32)
def y_issues (u : Nat → Int32) (T : Nat) (h n : Int32) : YR := if xH h = 0 then (-1, none) else if n < 1 then (-1, none) else if 1000000000 < cSize (fm u) T + n.toInt64 then (-9, none) else ((cSize (fm (va_up u (6 * h.toNatClampNeg + 0) (u (6 * h.toNatClampNeg + 0) + n))) T).toInt32, some (va_up u (6 * h.toNatClampNeg + 0) (u (6 * h.toNatClampNeg + 0) + n)))
def y_pool (u : Nat → Int32) (T : Nat) (n : Int32) : YR := if n < 0 then (-1, none) else if 1000000000 < cSize (fm u) T - (u 56).toInt64 + n.toInt64 then (-9, none) else (u 56, some (va_up u 56 n))
def y_grant (u : Nat → Int32) (h n : Int32) : YR := if xH h = 0 then (-1, none) else if n < 1 then (-1, none) else if u 56 < n then (-2, none) else (va_up (va_up u 56 (u 56 - n)) (48 + h.toNatClampNeg) (va_up u 56 (u 56 - n) (48 + h.toNatClampNeg) + n) 56, some (va_up (va_up u 56 (u 56 - n)) (48 + h.toNatClampNeg) (va_up u 56 (u 56 - n) (48 + h.toNatClampNeg) + n)))

set_option maxRecDepth 100000 in
set_option maxHeartbeats 4000000 in
theorem c_X8_issues (l : Launch) (E : rhE) (B : Nat → Nat) (u : Nat → Int32) (kp : Nat → Int32) (ik : Int32) (ps : Nat → Int32) (pm : Nat) (dd : Int32) (tx : Nat → Int32) (ty : Nat) (rw : Nat → Int64) (rm : Nat) (th : Int32) (sz : Nat) (he : Nat) (wr : Int32) (mn : Nat → Int32) (vl : Int32) (tp : Int32) (lt : Int32) (ra : Int32) (pf : Int32) (pt : Int32) (pl : Int32) (pd : Int64) (prc : Int64) (ns : Int64) (tu : Nat) (ba : Int64) (na : Int64) (ca : Nat → Int64) (bo : Nat → Int32) (tr : Nat → Int64) (tH : Int32) (asd : Nat → Int32) (pa : Nat → Int64) (tg : Nat → Int64) (sd : Int64) (sr : Int64) (h n : Int32) (T : Nat) (hM : mOk u T) (hpm : pm ≤ 8)  : Ctr l E yX8_issues cX8_issues 3 (some .int) (rmL 6) [.ref (B 0), .int h, .int n] (wM E B u kp ik ps pm dd tx ty rw rm th sz he wr mn vl tp lt ra pf pt pl pd prc ns tu ba na ca bo tr tH asd pa tg sd sr) (fun r w => r = some (Value.int (y_issues u T h n).1) ∧ (∀ u1, (y_issues u T h n).2 = some u1 → w = (wM E B u1 kp ik (psDid ps pm u) (pmDid pm) (dd + 1) tx ty rw rm 0 sz he wr mn vl tp lt ra pf pt pl pd prc ns tu ba na ca bo tr tH u pa tg sd sr)) ∧ ((y_issues u T h n).2 = none → w = (wM E B u kp ik ps pm dd tx ty rw rm 0 sz he wr mn vl tp lt ra pf pt pl pd prc ns tu ba na ca bo tr tH asd pa tg sd sr))) := by
  refine Ctr.of (by decide) (Nat.le_of_ble_eq_true rfl) rfl rfl 0 ?_
  intro X hX hR
  obtain ⟨hT, hT1, hT6, hcv⟩ := id hM
  refine rh_aload_n hX dX8_issues_0 rfl ?_
  refine rh_iconst hX dX8_issues_1 ki_0 ?_
  refine rh_put hX gl_X8_48 0 dX8_issues_2 rfl rfl rfl (Nat.le_of_ble_eq_true rfl) rfl ?_
  dsimp only [List.cons_append, List.nil_append, List.set_cons_succ, List.set_cons_zero, vput]
  refine rh_iload_n hX dX8_issues_5 rfl ?_
  refine rh_pS hX lk_X8_140 msX8_isHolder (fun l => c_X8_isHolderH l E _) ⟨rfl, rfl⟩ ⟨Nat.le_of_ble_eq_true rfl, Nat.le_of_ble_eq_true rfl⟩ [] rfl rfl dX8_issues_6 rfl rfl (Nat.le_of_ble_eq_true rfl) ?_
  refine rh_if_eq (tgt := 17) hX dX8_issues_9 (by decide) (fun h9 => ?_) (fun h9 => ?_)
  · skip
    refine rh_iconst hX dX8_issues_17 ki_m1 ?_
    exact rh_iret hX hR dX8_issues_18 (by simp only [List.map_cons, List.map_nil, List.cons_append, List.nil_append]) (by first | exact ⟨by rw [y_issues, if_pos h9] <;> rfl, (fun z hz => by rw [y_issues, if_pos h9] at hz; cases hz), fun _ => rfl⟩ | exact ⟨by rw [y_issues, if_neg h9, if_pos h14] <;> rfl, (fun z hz => by rw [y_issues, if_neg h9, if_pos h14] at hz; cases hz), fun _ => rfl⟩)
  · skip
    obtain ⟨hd, rfl, hdl⟩ := xH_1 h9
    refine rh_iload_n hX dX8_issues_12 rfl ?_
    refine rh_iconst hX dX8_issues_13 ki_1 ?_
    refine rh_icmp_ge (tgt := 19) hX dX8_issues_14 (by decide) (fun h14 => ?_) (fun h14 => ?_)
    · skip
      have h14 : ¬ n < 1 := Int32.not_lt.mpr h14
      refine rh_aload_n hX dX8_issues_19 rfl ?_
      refine rh_pV hX lk_X8_143 mvX8_fullNow (fun l => c_X8_fullNow l E _ _ _ _ _ _ _ _ _ _ _ _ _ _ _ _ _ _ _ _ _ _ _ _ _ _ _ _ _ _ _ _ _ _ _ _ _ _ T hM) ⟨rfl, rfl⟩ ⟨Nat.le_of_ble_eq_true rfl, Nat.le_of_ble_eq_true rfl⟩ [0, 1, 2, 3, 4, 5, 6, 7, 8, 9, 10, 11, 12] rfl rfl 0 rfl dX8_issues_20 rfl rfl (Nat.le_of_ble_eq_true rfl) ?_
      refine rh_iload_n hX dX8_issues_23 rfl ?_
      refine rh_i2l hX dX8_issues_24 ?_
      refine rh_ladd hX dX8_issues_25 ?_
      refine rh_ldc2 hX dX8_issues_26 kl_X8_131 ?_
      refine rh_lle (tgt := 36) hX dX8_issues_29 dX8_issues_30 (by decide) (fun h30 => ?_) (fun h30 => ?_)
      · skip
        have h30 := rh_le64.mp h30
        refine rh_aload_n hX dX8_issues_36 rfl ?_
        refine rh_uV hX lk_X8_133 mvX8_does (fun l => c_X8_does l E _ _ _ _ _ _ _ _ _ _ _ _ _ _ _ _ _ _ _ _ _ _ _ _ _ _ _ _ _ _ _ _ _ _ _ _ _ _ (by omega)) ⟨rfl, rfl⟩ ⟨Nat.le_of_ble_eq_true rfl, Nat.le_of_ble_eq_true rfl⟩ [0, 1, 2, 3, 4, 5, 6, 7, 8, 9, 10, 11, 12] rfl rfl 0 rfl dX8_issues_37 rfl rfl (Nat.le_of_ble_eq_true rfl) rfl ?_
        dsimp only [List.cons_append, List.nil_append, List.set_cons_succ, List.set_cons_zero, vput]
        refine rh_aload_n hX dX8_issues_40 rfl ?_
        refine rh_iload_n hX dX8_issues_41 rfl ?_
        refine rh_iconst hX dX8_issues_42 ki_0 ?_
        refine rh_aload_n hX dX8_issues_43 rfl ?_
        refine rh_iload_n hX dX8_issues_44 rfl ?_
        refine rh_iconst hX dX8_issues_45 ki_0 ?_
        refine rh_pV hX lk_X8_80 mvX8_sharesOf (fun l => c_X8_sharesOf l E _ _ _ _ _ _ _ _ _ _ _ _ _ _ _ _ _ _ _ _ _ _ _ _ _ _ _ _ _ _ _ _ _ _ _ _ _ _ hd 0 (by omega) (by omega)) ⟨rfl, rfl⟩ ⟨Nat.le_of_ble_eq_true rfl, Nat.le_of_ble_eq_true rfl⟩ [0, 1, 2, 3, 4, 5, 6, 7, 8, 9, 10, 11, 12] rfl rfl 0 rfl dX8_issues_46 rfl rfl (Nat.le_of_ble_eq_true rfl) ?_
        refine rh_iload_n hX dX8_issues_49 rfl ?_
        refine rh_iadd hX dX8_issues_50 ?_
        refine rh_uV hX lk_X8_136 mvX8_has (fun l => c_X8_has l E _ _ _ _ _ _ _ _ _ _ _ _ _ _ _ _ _ _ _ _ _ _ _ _ _ _ _ _ _ _ _ _ _ _ _ _ _ _ hd 0 _ (by omega) (by omega)) ⟨rfl, rfl⟩ ⟨Nat.le_of_ble_eq_true rfl, Nat.le_of_ble_eq_true rfl⟩ [0, 1, 2, 3, 4, 5, 6, 7, 8, 9, 10, 11, 12] rfl rfl 0 rfl dX8_issues_51 rfl rfl (Nat.le_of_ble_eq_true rfl) rfl ?_
        dsimp only [List.cons_append, List.nil_append, List.set_cons_succ, List.set_cons_zero, vput]
        refine rh_aload_n hX dX8_issues_54 rfl ?_
        refine rh_pV hX lk_X8_143 mvX8_fullNow (fun l => c_X8_fullNow l E _ _ _ _ _ _ _ _ _ _ _ _ _ _ _ _ _ _ _ _ _ _ _ _ _ _ _ _ _ _ _ _ _ _ _ _ _ _ T (mOk_up hM (by omega) (by omega))) ⟨rfl, rfl⟩ ⟨Nat.le_of_ble_eq_true rfl, Nat.le_of_ble_eq_true rfl⟩ [0, 1, 2, 3, 4, 5, 6, 7, 8, 9, 10, 11, 12] rfl rfl 0 rfl dX8_issues_55 rfl rfl (Nat.le_of_ble_eq_true rfl) ?_
        refine rh_l2i hX dX8_issues_58 ?_
        exact rh_iret hX hR dX8_issues_59 (by simp only [List.map_cons, List.map_nil, List.cons_append, List.nil_append]) ⟨by rw [y_issues, if_neg h9, if_neg h14, if_neg h30, nI_clamp (show hd < 2 ^ 31 by omega)] <;> rfl, (fun z hz => by rw [y_issues, if_neg h9, if_neg h14, if_neg h30, nI_clamp (show hd < 2 ^ 31 by omega)] at hz; cases hz; rfl), (fun hz => by rw [y_issues, if_neg h9, if_neg h14, if_neg h30, nI_clamp (show hd < 2 ^ 31 by omega)] at hz; cases hz)⟩
      · skip
        have h30 : 1000000000 < cSize (fm u) T + n.toInt64 := Classical.not_not.mp (fun q => h30 (rh_le64.mpr q))
        refine rh_bipush hX dX8_issues_33 kb_m9 ?_
        exact rh_iret hX hR dX8_issues_35 (by simp only [List.map_cons, List.map_nil, List.cons_append, List.nil_append]) (by first | exact ⟨by rw [y_issues, if_neg h9, if_neg h14, if_pos h30] <;> rfl, (fun z hz => by rw [y_issues, if_neg h9, if_neg h14, if_pos h30] at hz; cases hz), fun _ => rfl⟩)
    · skip
      have h14 : n < 1 := Int32.not_le.mp h14
      refine rh_iconst hX dX8_issues_17 ki_m1 ?_
      exact rh_iret hX hR dX8_issues_18 (by simp only [List.map_cons, List.map_nil, List.cons_append, List.nil_append]) (by first | exact ⟨by rw [y_issues, if_pos h9] <;> rfl, (fun z hz => by rw [y_issues, if_pos h9] at hz; cases hz), fun _ => rfl⟩ | exact ⟨by rw [y_issues, if_neg h9, if_pos h14] <;> rfl, (fun z hz => by rw [y_issues, if_neg h9, if_pos h14] at hz; cases hz), fun _ => rfl⟩)

set_option maxRecDepth 100000 in
set_option maxHeartbeats 4000000 in
theorem c_X8_pool (l : Launch) (E : rhE) (B : Nat → Nat) (u : Nat → Int32) (kp : Nat → Int32) (ik : Int32) (ps : Nat → Int32) (pm : Nat) (dd : Int32) (tx : Nat → Int32) (ty : Nat) (rw : Nat → Int64) (rm : Nat) (th : Int32) (sz : Nat) (he : Nat) (wr : Int32) (mn : Nat → Int32) (vl : Int32) (tp : Int32) (lt : Int32) (ra : Int32) (pf : Int32) (pt : Int32) (pl : Int32) (pd : Int64) (prc : Int64) (ns : Int64) (tu : Nat) (ba : Int64) (na : Int64) (ca : Nat → Int64) (bo : Nat → Int32) (tr : Nat → Int64) (tH : Int32) (asd : Nat → Int32) (pa : Nat → Int64) (tg : Nat → Int64) (sd : Int64) (sr : Int64) (n : Int32) (T : Nat) (hM : mOk u T) (hpm : pm ≤ 8)  : Ctr l E yX8_pool cX8_pool 3 (some .int) (rmL 6) [.ref (B 0), .int n] (wM E B u kp ik ps pm dd tx ty rw rm th sz he wr mn vl tp lt ra pf pt pl pd prc ns tu ba na ca bo tr tH asd pa tg sd sr) (fun r w => r = some (Value.int (y_pool u T n).1) ∧ (∀ u1, (y_pool u T n).2 = some u1 → w = (wM E B u1 kp ik (psDid ps pm u) (pmDid pm) (dd + 1) tx ty rw rm 0 sz he wr mn vl tp lt ra pf pt pl pd prc ns tu ba na ca bo tr tH u pa tg sd sr)) ∧ ((y_pool u T n).2 = none → w = (wM E B u kp ik ps pm dd tx ty rw rm 0 sz he wr mn vl tp lt ra pf pt pl pd prc ns tu ba na ca bo tr tH asd pa tg sd sr))) := by
  refine Ctr.of (by decide) (Nat.le_of_ble_eq_true rfl) rfl rfl 1 ?_
  intro X hX hR
  obtain ⟨hT, hT1, hT6, hcv⟩ := id hM
  refine rh_aload_n hX dX8_pool_0 rfl ?_
  refine rh_iconst hX dX8_pool_1 ki_0 ?_
  refine rh_put hX gl_X8_48 0 dX8_pool_2 rfl rfl rfl (Nat.le_of_ble_eq_true rfl) rfl ?_
  dsimp only [List.cons_append, List.nil_append, List.set_cons_succ, List.set_cons_zero, vput]
  refine rh_iload_n hX dX8_pool_5 rfl ?_
  refine rh_if_ge (tgt := 11) hX dX8_pool_6 (by decide) (fun h6 => ?_) (fun h6 => ?_)
  · skip
    have h6 : ¬ n < 0 := Int32.not_lt.mpr h6
    refine rh_aload_n hX dX8_pool_11 rfl ?_
    refine rh_pV hX lk_X8_143 mvX8_fullNow (fun l => c_X8_fullNow l E _ _ _ _ _ _ _ _ _ _ _ _ _ _ _ _ _ _ _ _ _ _ _ _ _ _ _ _ _ _ _ _ _ _ _ _ _ _ T hM) ⟨rfl, rfl⟩ ⟨Nat.le_of_ble_eq_true rfl, Nat.le_of_ble_eq_true rfl⟩ [0, 1, 2, 3, 4, 5, 6, 7, 8, 9, 10, 11, 12] rfl rfl 0 rfl dX8_pool_12 rfl rfl (Nat.le_of_ble_eq_true rfl) ?_
    refine rh_aload_n hX dX8_pool_15 rfl ?_
    refine rh_get hX gl_X8_7 0 dX8_pool_16 rfl rfl ?_
    refine rh_bipush hX dX8_pool_19 kb_56 ?_
    refine rh_iaload hX 1 _ dX8_pool_21 rfl rn_c56 (by omega) (by decide) ?_
    refine rh_i2l hX dX8_pool_22 ?_
    refine rh_lsub hX dX8_pool_23 ?_
    refine rh_iload_n hX dX8_pool_24 rfl ?_
    refine rh_i2l hX dX8_pool_25 ?_
    refine rh_ladd hX dX8_pool_26 ?_
    refine rh_ldc2 hX dX8_pool_27 kl_X8_131 ?_
    refine rh_lle (tgt := 37) hX dX8_pool_30 dX8_pool_31 (by decide) (fun h30 => ?_) (fun h30 => ?_)
    · skip
      have h30 := rh_le64.mp h30
      refine rh_aload_n hX dX8_pool_37 rfl ?_
      refine rh_uV hX lk_X8_133 mvX8_does (fun l => c_X8_does l E _ _ _ _ _ _ _ _ _ _ _ _ _ _ _ _ _ _ _ _ _ _ _ _ _ _ _ _ _ _ _ _ _ _ _ _ _ _ (by omega)) ⟨rfl, rfl⟩ ⟨Nat.le_of_ble_eq_true rfl, Nat.le_of_ble_eq_true rfl⟩ [0, 1, 2, 3, 4, 5, 6, 7, 8, 9, 10, 11, 12] rfl rfl 0 rfl dX8_pool_38 rfl rfl (Nat.le_of_ble_eq_true rfl) rfl ?_
      dsimp only [List.cons_append, List.nil_append, List.set_cons_succ, List.set_cons_zero, vput]
      refine rh_aload_n hX dX8_pool_41 rfl ?_
      refine rh_get hX gl_X8_7 0 dX8_pool_42 rfl rfl ?_
      refine rh_bipush hX dX8_pool_45 kb_56 ?_
      refine rh_iaload hX 1 _ dX8_pool_47 rfl rn_c56 (by omega) (by decide) ?_
      refine rh_istn2 hX dX8_pool_48 (by decide) rfl ?_
      refine rh_aload_n hX dX8_pool_49 rfl ?_
      refine rh_get hX gl_X8_7 0 dX8_pool_50 rfl rfl ?_
      refine rh_bipush hX dX8_pool_53 kb_56 ?_
      refine rh_iload_n hX dX8_pool_55 rfl ?_
      refine rh_iastore hX 1 _ dX8_pool_56 rfl rn_c56 (by omega) (by decide) rfl ?_
      dsimp only [List.cons_append, List.nil_append, List.set_cons_succ, List.set_cons_zero, vput]
      refine rh_iload_n hX dX8_pool_57 rfl ?_
      exact rh_iret hX hR dX8_pool_58 (by simp only [List.map_cons, List.map_nil, List.cons_append, List.nil_append]) ⟨by rw [y_pool, if_neg h6, if_neg h30] <;> rfl, (fun z hz => by rw [y_pool, if_neg h6, if_neg h30] at hz; cases hz; rfl), (fun hz => by rw [y_pool, if_neg h6, if_neg h30] at hz; cases hz)⟩
    · skip
      have h30 : 1000000000 < cSize (fm u) T - (u 56).toInt64 + n.toInt64 := Classical.not_not.mp (fun q => h30 (rh_le64.mpr q))
      refine rh_bipush hX dX8_pool_34 kb_m9 ?_
      exact rh_iret hX hR dX8_pool_36 (by simp only [List.map_cons, List.map_nil, List.cons_append, List.nil_append]) (by first | exact ⟨by rw [y_pool, if_neg h6, if_pos h30] <;> rfl, (fun z hz => by rw [y_pool, if_neg h6, if_pos h30] at hz; cases hz), fun _ => rfl⟩)
  · skip
    have h6 : n < 0 := Int32.not_le.mp h6
    refine rh_iconst hX dX8_pool_9 ki_m1 ?_
    exact rh_iret hX hR dX8_pool_10 (by simp only [List.map_cons, List.map_nil, List.cons_append, List.nil_append]) (by first | exact ⟨by rw [y_pool, if_pos h6] <;> rfl, (fun z hz => by rw [y_pool, if_pos h6] at hz; cases hz), fun _ => rfl⟩)

set_option maxRecDepth 100000 in
set_option maxHeartbeats 4000000 in
theorem c_X8_grant (l : Launch) (E : rhE) (B : Nat → Nat) (u : Nat → Int32) (kp : Nat → Int32) (ik : Int32) (ps : Nat → Int32) (pm : Nat) (dd : Int32) (tx : Nat → Int32) (ty : Nat) (rw : Nat → Int64) (rm : Nat) (th : Int32) (sz : Nat) (he : Nat) (wr : Int32) (mn : Nat → Int32) (vl : Int32) (tp : Int32) (lt : Int32) (ra : Int32) (pf : Int32) (pt : Int32) (pl : Int32) (pd : Int64) (prc : Int64) (ns : Int64) (tu : Nat) (ba : Int64) (na : Int64) (ca : Nat → Int64) (bo : Nat → Int32) (tr : Nat → Int64) (tH : Int32) (asd : Nat → Int32) (pa : Nat → Int64) (tg : Nat → Int64) (sd : Int64) (sr : Int64) (h n : Int32) (T : Nat) (hM : mOk u T) (hpm : pm ≤ 8)  : Ctr l E yX8_grant cX8_grant 3 (some .int) (rmL 6) [.ref (B 0), .int h, .int n] (wM E B u kp ik ps pm dd tx ty rw rm th sz he wr mn vl tp lt ra pf pt pl pd prc ns tu ba na ca bo tr tH asd pa tg sd sr) (fun r w => r = some (Value.int (y_grant u h n).1) ∧ (∀ u1, (y_grant u h n).2 = some u1 → w = (wM E B u1 kp ik (psDid ps pm u) (pmDid pm) (dd + 1) tx ty rw rm 0 sz he wr mn vl tp lt ra pf pt pl pd prc ns tu ba na ca bo tr tH u pa tg sd sr)) ∧ ((y_grant u h n).2 = none → w = (wM E B u kp ik ps pm dd tx ty rw rm 0 sz he wr mn vl tp lt ra pf pt pl pd prc ns tu ba na ca bo tr tH asd pa tg sd sr))) := by
  refine Ctr.of (by decide) (Nat.le_of_ble_eq_true rfl) rfl rfl 0 ?_
  intro X hX hR
  obtain ⟨hT, hT1, hT6, hcv⟩ := id hM
  refine rh_aload_n hX dX8_grant_0 rfl ?_
  refine rh_iconst hX dX8_grant_1 ki_0 ?_
  refine rh_put hX gl_X8_48 0 dX8_grant_2 rfl rfl rfl (Nat.le_of_ble_eq_true rfl) rfl ?_
  dsimp only [List.cons_append, List.nil_append, List.set_cons_succ, List.set_cons_zero, vput]
  refine rh_iload_n hX dX8_grant_5 rfl ?_
  refine rh_pS hX lk_X8_140 msX8_isHolder (fun l => c_X8_isHolderH l E _) ⟨rfl, rfl⟩ ⟨Nat.le_of_ble_eq_true rfl, Nat.le_of_ble_eq_true rfl⟩ [] rfl rfl dX8_grant_6 rfl rfl (Nat.le_of_ble_eq_true rfl) ?_
  refine rh_if_eq (tgt := 17) hX dX8_grant_9 (by decide) (fun h9 => ?_) (fun h9 => ?_)
  · skip
    refine rh_iconst hX dX8_grant_17 ki_m1 ?_
    exact rh_iret hX hR dX8_grant_18 (by simp only [List.map_cons, List.map_nil, List.cons_append, List.nil_append]) (by first | exact ⟨by rw [y_grant, if_pos h9] <;> rfl, (fun z hz => by rw [y_grant, if_pos h9] at hz; cases hz), fun _ => rfl⟩ | exact ⟨by rw [y_grant, if_neg h9, if_pos h14] <;> rfl, (fun z hz => by rw [y_grant, if_neg h9, if_pos h14] at hz; cases hz), fun _ => rfl⟩)
  · skip
    obtain ⟨hd, rfl, hdl⟩ := xH_1 h9
    refine rh_iload_n hX dX8_grant_12 rfl ?_
    refine rh_iconst hX dX8_grant_13 ki_1 ?_
    refine rh_icmp_ge (tgt := 19) hX dX8_grant_14 (by decide) (fun h14 => ?_) (fun h14 => ?_)
    · skip
      have h14 : ¬ n < 1 := Int32.not_lt.mpr h14
      refine rh_aload_n hX dX8_grant_19 rfl ?_
      refine rh_get hX gl_X8_7 0 dX8_grant_20 rfl rfl ?_
      refine rh_bipush hX dX8_grant_23 kb_56 ?_
      refine rh_iaload hX 1 _ dX8_grant_25 rfl rn_c56 (by omega) (by decide) ?_
      refine rh_iload_n hX dX8_grant_26 rfl ?_
      refine rh_icmp_ge (tgt := 33) hX dX8_grant_27 (by decide) (fun h27 => ?_) (fun h27 => ?_)
      · skip
        have h27 : ¬ u 56 < n := Int32.not_lt.mpr h27
        refine rh_aload_n hX dX8_grant_33 rfl ?_
        refine rh_uV hX lk_X8_133 mvX8_does (fun l => c_X8_does l E _ _ _ _ _ _ _ _ _ _ _ _ _ _ _ _ _ _ _ _ _ _ _ _ _ _ _ _ _ _ _ _ _ _ _ _ _ _ (by omega)) ⟨rfl, rfl⟩ ⟨Nat.le_of_ble_eq_true rfl, Nat.le_of_ble_eq_true rfl⟩ [0, 1, 2, 3, 4, 5, 6, 7, 8, 9, 10, 11, 12] rfl rfl 0 rfl dX8_grant_34 rfl rfl (Nat.le_of_ble_eq_true rfl) rfl ?_
        dsimp only [List.cons_append, List.nil_append, List.set_cons_succ, List.set_cons_zero, vput]
        refine rh_aload_n hX dX8_grant_37 rfl ?_
        refine rh_get hX gl_X8_7 0 dX8_grant_38 rfl rfl ?_
        refine rh_bipush hX dX8_grant_41 kb_56 ?_
        refine rh_dup2 hX dX8_grant_43 rfl rfl ?_
        refine rh_iaload hX 1 _ dX8_grant_44 rfl rn_c56 (by omega) (by decide) ?_
        refine rh_iload_n hX dX8_grant_45 rfl ?_
        refine rh_isub hX dX8_grant_46 ?_
        refine rh_iastore hX 1 _ dX8_grant_47 rfl rn_c56 (by omega) (by decide) rfl ?_
        dsimp only [List.cons_append, List.nil_append, List.set_cons_succ, List.set_cons_zero, vput]
        refine rh_aload_n hX dX8_grant_48 rfl ?_
        refine rh_get hX gl_X8_7 0 dX8_grant_49 rfl rfl ?_
        refine rh_bipush hX dX8_grant_52 kb_48 ?_
        refine rh_iload_n hX dX8_grant_54 rfl ?_
        refine rh_iadd hX dX8_grant_55 ?_
        refine rh_dup2 hX dX8_grant_56 rfl rfl ?_
        refine rh_iaload hX 1 _ dX8_grant_57 rfl (rn_a rn_c48 rfl) (by omega) (by decide) ?_
        refine rh_iload_n hX dX8_grant_58 rfl ?_
        refine rh_iadd hX dX8_grant_59 ?_
        refine rh_iastore hX 1 _ dX8_grant_60 rfl (rn_a rn_c48 rfl) (by omega) (by decide) rfl ?_
        dsimp only [List.cons_append, List.nil_append, List.set_cons_succ, List.set_cons_zero, vput]
        refine rh_aload_n hX dX8_grant_61 rfl ?_
        refine rh_get hX gl_X8_7 0 dX8_grant_62 rfl rfl ?_
        refine rh_bipush hX dX8_grant_65 kb_56 ?_
        refine rh_iaload hX 1 _ dX8_grant_67 rfl rn_c56 (by omega) (by decide) ?_
        exact rh_iret hX hR dX8_grant_68 (by simp only [List.map_cons, List.map_nil, List.cons_append, List.nil_append]) ⟨by rw [y_grant, if_neg h9, if_neg h14, if_neg h27, nI_clamp (show hd < 2 ^ 31 by omega)] <;> rfl, (fun z hz => by rw [y_grant, if_neg h9, if_neg h14, if_neg h27, nI_clamp (show hd < 2 ^ 31 by omega)] at hz; cases hz; rfl), (fun hz => by rw [y_grant, if_neg h9, if_neg h14, if_neg h27, nI_clamp (show hd < 2 ^ 31 by omega)] at hz; cases hz)⟩
      · skip
        have h27 : u 56 < n := Int32.not_le.mp h27
        refine rh_bipush hX dX8_grant_30 kb_m2 ?_
        exact rh_iret hX hR dX8_grant_32 (by simp only [List.map_cons, List.map_nil, List.cons_append, List.nil_append]) (by first | exact ⟨by rw [y_grant, if_neg h9, if_neg h14, if_pos h27] <;> rfl, (fun z hz => by rw [y_grant, if_neg h9, if_neg h14, if_pos h27] at hz; cases hz), fun _ => rfl⟩)
    · skip
      have h14 : n < 1 := Int32.not_le.mp h14
      refine rh_iconst hX dX8_grant_17 ki_m1 ?_
      exact rh_iret hX hR dX8_grant_18 (by simp only [List.map_cons, List.map_nil, List.cons_append, List.nil_append]) (by first | exact ⟨by rw [y_grant, if_pos h9] <;> rfl, (fun z hz => by rw [y_grant, if_pos h9] at hz; cases hz), fun _ => rfl⟩ | exact ⟨by rw [y_grant, if_neg h9, if_pos h14] <;> rfl, (fun z hz => by rw [y_grant, if_neg h9, if_pos h14] at hz; cases hz), fun _ => rfl⟩)
