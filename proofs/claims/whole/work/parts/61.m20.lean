def mRowI (i : Int32) (rm : Nat) : Bool := decide (0 ≤ i.toInt ∧ i.toInt < rm)
theorem mRowI_in {i : Int32} {rm : Nat} (h : rm ≤ 32) : xIn i.toInt64 0 (nI rm - 1).toInt64 = 0 ↔ ¬ mRowI i rm = true := by
  have e : (nI rm - 1).toInt64.toInt = (rm : Int) - 1 := by
    rw [z_l, z_sub32 (nI_toInt (by omega)) (show (1 : Int32).toInt = 1 by decide) (by omega) (by omega)]
  unfold mRowI
  rw [xIn_0, e, show (0 : Int64).toInt = 0 by decide, decide_eq_true_iff]
  omega
def mByte (v y : Int32) : Int32 := vp_nar .byte (v >>> (y &&& 31)).toInt8.toInt32
def mAdd (s : Nat → Int32) (n : Nat) (v : Int32) : Nat → Int32 := va_up (va_up (va_up (va_up s n (mByte v (8 * 3))) (n + 1) (mByte v (8 * 2))) (n + 1 + 1) (mByte v (8 * 1))) (n + 1 + 1 + 1) (mByte v (8 * 0))
theorem cutN_in {ty : Nat} {x : Int32} : xIn x.toInt64 0 (nI ty).toInt64 = 0 ↔ cutN ty x = none := by
  unfold xIn cutN
  have e1 : x.toInt64 < 0 ↔ x < 0 := i64_lt (b := 0)
  by_cases a : x < 0
  · rw [if_pos a, if_pos (e1.mpr a)]; exact ⟨fun _ => rfl, fun _ => rfl⟩
  · rw [if_neg a, if_neg (fun q => a (e1.mp q))]
    by_cases b : nI ty < x
    · rw [if_pos b, if_pos (i64_lt.mpr b)]; exact ⟨fun _ => rfl, fun _ => rfl⟩
    · rw [if_neg b, if_neg (fun q => b (i64_lt.mp q))]; exact ⟨fun q => absurd q (by decide), fun q => by cases q⟩
theorem cutN_some {ty : Nat} {x : Int32} (h : ¬ cutN ty x = none) : cutN ty x = some x.toNatClampNeg ∧ nI x.toNatClampNeg = x := by
  unfold cutN at *
  by_cases a : x < 0
  · rw [if_pos a] at h; exact absurd rfl h
  · rw [if_neg a] at h ⊢
    by_cases b : nI ty < x
    · rw [if_pos b] at h; exact absurd rfl h
    · rw [if_neg b]; exact ⟨rfl, nI_back a⟩

set_option maxRecDepth 100000 in
set_option maxHeartbeats 4000000 in
theorem c_X8_row (l : Launch) (E : rhE) (B : Nat → Nat) (u : Nat → Int32) (kp : Nat → Int32) (ik : Int32) (ps : Nat → Int32) (pm : Nat) (dd : Int32) (tx : Nat → Int32) (ty : Nat) (rw : Nat → Int64) (rm : Nat) (th : Int32) (sz : Nat) (he : Nat) (wr : Int32) (mn : Nat → Int32) (vl : Int32) (tp : Int32) (lt : Int32) (ra : Int32) (pf : Int32) (pt : Int32) (pl : Int32) (pd : Int64) (prc : Int64) (ns : Int64) (tu : Nat) (ba : Int64) (na : Int64) (ca : Nat → Int64) (bo : Nat → Int32) (tr : Nat → Int64) (tH : Int32) (asd : Nat → Int32) (pa : Nat → Int64) (tg : Nat → Int64) (sd : Int64) (sr : Int64) (i : Int32) (hrm : rm ≤ 32) : Ctr l E yX8_row cX8_row 2 (some .long) (rmL 1) [.ref (B 0), .int i] (wM E B u kp ik ps pm dd tx ty rw rm th sz he wr mn vl tp lt ra pf pt pl pd prc ns tu ba na ca bo tr tH asd pa tg sd sr) (One (some (.long (if mRowI i rm = true then rw i.toNatClampNeg else 0))) (wM E B u kp ik ps pm dd tx ty rw rm (if mRowI i rm = true then 0 else 1) sz he wr mn vl tp lt ra pf pt pl pd prc ns tu ba na ca bo tr tH asd pa tg sd sr)) := by
  refine Ctr.of (by decide) (Nat.le_of_ble_eq_true rfl) rfl rfl 0 ?_
  intro X hX hR
  refine rh_aload_n hX dX8_row_0 rfl ?_
  refine rh_iconst hX dX8_row_1 ki_0 ?_
  refine rh_put hX gl_X8_48 0 dX8_row_2 rfl rfl rfl (Nat.le_of_ble_eq_true rfl) rfl ?_
  dsimp only [List.cons_append, List.nil_append, List.set_cons_succ, List.set_cons_zero, vput]
  refine rh_iload_n hX dX8_row_5 rfl ?_
  refine rh_i2l hX dX8_row_6 ?_
  refine rh_lconst hX dX8_row_7 kL_0 ?_
  refine rh_aload_n hX dX8_row_8 rfl ?_
  refine rh_get hX gl_X8_52 0 dX8_row_9 rfl rfl ?_
  refine rh_iconst hX dX8_row_12 ki_1 ?_
  refine rh_isub hX dX8_row_13 ?_
  refine rh_i2l hX dX8_row_14 ?_
  refine rh_pS hX lk_X8_58 msX8_in (fun l => c_X8_in l E _ _ _) ⟨rfl, rfl⟩ ⟨Nat.le_of_ble_eq_true rfl, Nat.le_of_ble_eq_true rfl⟩ [] rfl rfl dX8_row_15 rfl rfl (Nat.le_of_ble_eq_true rfl) ?_
  refine rh_if_eq (tgt := 30) hX dX8_row_18 (by decide) (fun h18 => ?_) (fun h18 => ?_)
  · skip
    have h18 := (mRowI_in hrm).mp h18
    refine rh_aload_n hX dX8_row_30 rfl ?_
    refine rh_wV hX lk_X8_401 mvX8_lost (fun l => c_X8_lost l E _ _ _ _ _ _ _ _ _ _ _ _ _ _ _ _ _ _ _ _ _ _ _ _ _ _ _ _ _ _ _ _ _ _ _ _ _ _ ) ⟨rfl, rfl⟩ ⟨Nat.le_of_ble_eq_true rfl, Nat.le_of_ble_eq_true rfl⟩ [0, 1, 2, 3, 4, 5, 6, 7, 8, 9, 10, 11, 12] rfl rfl 0 rfl dX8_row_31 rfl rfl (Nat.le_of_ble_eq_true rfl) rfl ?_
    dsimp only [List.cons_append, List.nil_append, List.set_cons_succ, List.set_cons_zero, vput]
    refine rh_i2l hX dX8_row_34 ?_
    exact rh_lret hX hR dX8_row_35 (by simp only [List.map_cons, List.map_nil, List.cons_append, List.nil_append]) ⟨by first | (rw [if_pos h18, nI_clamp (show d < 2 ^ 31 by omega)]; done) | (rw [if_neg h18]; rfl), by first | (rw [if_pos h18]; done) | (rw [if_neg h18]; done)⟩
  · skip
    have h18 : mRowI i rm = true := Classical.not_not.mp (fun q => h18 ((mRowI_in hrm).mpr q))
    obtain ⟨d, rfl, hd⟩ := nI_ex (of_decide_eq_true h18).1
    have hd2 := (of_decide_eq_true h18).2
    refine rh_aload_n hX dX8_row_21 rfl ?_
    refine rh_get hX gl_X8_23 0 dX8_row_22 rfl rfl ?_
    refine rh_iload_n hX dX8_row_25 rfl ?_
    refine rh_laload hX 5 d dX8_row_26 rfl rfl (by omega) (by decide) ?_
    refine rh_goto (tgt := 35) hX dX8_row_27 (by decide) ?_
    exact rh_lret hX hR dX8_row_35 (by simp only [List.map_cons, List.map_nil, List.cons_append, List.nil_append]) ⟨by first | (rw [if_pos h18, nI_clamp (show d < 2 ^ 31 by omega)]; done) | (rw [if_neg h18]; rfl), by first | (rw [if_pos h18]; done) | (rw [if_neg h18]; done)⟩

set_option maxRecDepth 100000 in
set_option maxHeartbeats 4000000 in
theorem c_X8_sign (l : Launch) (E : rhE) (B : Nat → Nat) (u : Nat → Int32) (kp : Nat → Int32) (ik : Int32) (ps : Nat → Int32) (pm : Nat) (dd : Int32) (tx : Nat → Int32) (ty : Nat) (rw : Nat → Int64) (rm : Nat) (th : Int32) (sz : Nat) (he : Nat) (wr : Int32) (mn : Nat → Int32) (vl : Int32) (tp : Int32) (lt : Int32) (ra : Int32) (pf : Int32) (pt : Int32) (pl : Int32) (pd : Int64) (prc : Int64) (ns : Int64) (tu : Nat) (ba : Int64) (na : Int64) (ca : Nat → Int64) (bo : Nat → Int32) (tr : Nat → Int64) (tH : Int32) (asd : Nat → Int32) (pa : Nat → Int64) (tg : Nat → Int64) (sd : Int64) (sr : Int64) (v : Int32) (hty : ty ≤ 200) : Ctr l E yX8_sign cX8_sign 3 (some .int) (rmL 0) [.ref (B 0), .int v] (wM E B u kp ik ps pm dd tx ty rw rm th sz he wr mn vl tp lt ra pf pt pl pd prc ns tu ba na ca bo tr tH asd pa tg sd sr) (One (some (.int (if ty + 4 ≤ 200 then nI (ty + 4) else -1))) (wM E B u kp ik ps pm dd (if ty + 4 ≤ 200 then mAdd tx ty v else tx) (if ty + 4 ≤ 200 then ty + 4 else ty) rw rm 0 sz he wr mn vl tp lt ra pf pt pl pd prc ns tu ba na ca bo tr tH asd pa tg sd sr)) := by
  refine Ctr.of (by decide) (Nat.le_of_ble_eq_true rfl) rfl rfl 1 ?_
  intro X hX hR
  refine rh_aload_n hX dX8_sign_0 rfl ?_
  refine rh_iconst hX dX8_sign_1 ki_0 ?_
  refine rh_put hX gl_X8_48 0 dX8_sign_2 rfl rfl rfl (Nat.le_of_ble_eq_true rfl) rfl ?_
  dsimp only [List.cons_append, List.nil_append, List.set_cons_succ, List.set_cons_zero, vput]
  refine rh_aload_n hX dX8_sign_5 rfl ?_
  refine rh_get hX gl_X8_55 0 dX8_sign_6 rfl rfl ?_
  refine rh_iconst hX dX8_sign_9 ki_4 ?_
  refine rh_iadd hX dX8_sign_10 ?_
  refine rh_sipush hX dX8_sign_11 ks_200 ?_
  rw [show nI ty + 4 = nI (ty + 4) from rn_add ty 4]
  refine rh_icmp_le (tgt := 19) hX dX8_sign_14 (by decide) (fun h14 => ?_) (fun h14 => ?_)
  · skip
    have h14 : ty + 4 ≤ 200 := rn_leI (b := 200) h14 (by omega) (by decide)
    refine rh_iconst hX dX8_sign_19 ki_3 ?_
    refine rh_istn2 hX dX8_sign_20 (by decide) rfl ?_
    refine rh_iload_n hX dX8_sign_21 rfl ?_
    refine rh_if_lt_f (tgt := 54) hX dX8_sign_22 (by decide) (by decide) ?_
    refine rh_aload_n hX dX8_sign_25 rfl ?_
    refine rh_get hX gl_X8_19 0 dX8_sign_26 rfl rfl ?_
    refine rh_aload_n hX dX8_sign_29 rfl ?_
    refine rh_dup hX dX8_sign_30 rfl ?_
    refine rh_get hX gl_X8_55 0 dX8_sign_31 rfl rfl ?_
    refine rh_dup_x1 hX dX8_sign_34 rfl rfl ?_
    refine rh_iconst hX dX8_sign_35 ki_1 ?_
    refine rh_iadd hX dX8_sign_36 ?_
    rw [show nI (ty) + 1 = nI (ty + 1) from (nI_succ (ty)).symm]
    refine rh_put hX gl_X8_55 0 dX8_sign_37 rfl rfl rfl (Nat.le_of_ble_eq_true rfl) rfl ?_
    dsimp only [List.cons_append, List.nil_append, List.set_cons_succ, List.set_cons_zero, vput]
    refine rh_iload_n hX dX8_sign_40 rfl ?_
    refine rh_bipush hX dX8_sign_41 kb_8 ?_
    refine rh_iload_n hX dX8_sign_43 rfl ?_
    refine rh_imul hX dX8_sign_44 ?_
    refine rh_ishr hX dX8_sign_45 ?_
    refine rh_i2b hX dX8_sign_46 ?_
    refine rh_bastore hX 4 (ty) dX8_sign_47 rfl (show nI (ty) = nI (ty) from rfl) (by omega) (by decide) rfl ?_
    dsimp only [List.cons_append, List.nil_append, List.set_cons_succ, List.set_cons_zero, vput]
    refine rh_inc2 hX dX8_sign_48 (by decide) rfl (show (3 : Int32) + Int32.ofInt (-1) = 2 by decide) ?_
    refine rh_goto (tgt := 21) hX dX8_sign_51 (by decide) ?_
    refine rh_iload_n hX dX8_sign_21 rfl ?_
    refine rh_if_lt_f (tgt := 54) hX dX8_sign_22 (by decide) (by decide) ?_
    refine rh_aload_n hX dX8_sign_25 rfl ?_
    refine rh_get hX gl_X8_19 0 dX8_sign_26 rfl rfl ?_
    refine rh_aload_n hX dX8_sign_29 rfl ?_
    refine rh_dup hX dX8_sign_30 rfl ?_
    refine rh_get hX gl_X8_55 0 dX8_sign_31 rfl rfl ?_
    refine rh_dup_x1 hX dX8_sign_34 rfl rfl ?_
    refine rh_iconst hX dX8_sign_35 ki_1 ?_
    refine rh_iadd hX dX8_sign_36 ?_
    rw [show nI (ty + 1) + 1 = nI (ty + 1 + 1) from (nI_succ (ty + 1)).symm]
    refine rh_put hX gl_X8_55 0 dX8_sign_37 rfl rfl rfl (Nat.le_of_ble_eq_true rfl) rfl ?_
    dsimp only [List.cons_append, List.nil_append, List.set_cons_succ, List.set_cons_zero, vput]
    refine rh_iload_n hX dX8_sign_40 rfl ?_
    refine rh_bipush hX dX8_sign_41 kb_8 ?_
    refine rh_iload_n hX dX8_sign_43 rfl ?_
    refine rh_imul hX dX8_sign_44 ?_
    refine rh_ishr hX dX8_sign_45 ?_
    refine rh_i2b hX dX8_sign_46 ?_
    refine rh_bastore hX 4 (ty + 1) dX8_sign_47 rfl (show nI (ty + 1) = nI (ty + 1) from rfl) (by omega) (by decide) rfl ?_
    dsimp only [List.cons_append, List.nil_append, List.set_cons_succ, List.set_cons_zero, vput]
    refine rh_inc2 hX dX8_sign_48 (by decide) rfl (show (2 : Int32) + Int32.ofInt (-1) = 1 by decide) ?_
    refine rh_goto (tgt := 21) hX dX8_sign_51 (by decide) ?_
    refine rh_iload_n hX dX8_sign_21 rfl ?_
    refine rh_if_lt_f (tgt := 54) hX dX8_sign_22 (by decide) (by decide) ?_
    refine rh_aload_n hX dX8_sign_25 rfl ?_
    refine rh_get hX gl_X8_19 0 dX8_sign_26 rfl rfl ?_
    refine rh_aload_n hX dX8_sign_29 rfl ?_
    refine rh_dup hX dX8_sign_30 rfl ?_
    refine rh_get hX gl_X8_55 0 dX8_sign_31 rfl rfl ?_
    refine rh_dup_x1 hX dX8_sign_34 rfl rfl ?_
    refine rh_iconst hX dX8_sign_35 ki_1 ?_
    refine rh_iadd hX dX8_sign_36 ?_
    rw [show nI (ty + 1 + 1) + 1 = nI (ty + 1 + 1 + 1) from (nI_succ (ty + 1 + 1)).symm]
    refine rh_put hX gl_X8_55 0 dX8_sign_37 rfl rfl rfl (Nat.le_of_ble_eq_true rfl) rfl ?_
    dsimp only [List.cons_append, List.nil_append, List.set_cons_succ, List.set_cons_zero, vput]
    refine rh_iload_n hX dX8_sign_40 rfl ?_
    refine rh_bipush hX dX8_sign_41 kb_8 ?_
    refine rh_iload_n hX dX8_sign_43 rfl ?_
    refine rh_imul hX dX8_sign_44 ?_
    refine rh_ishr hX dX8_sign_45 ?_
    refine rh_i2b hX dX8_sign_46 ?_
    refine rh_bastore hX 4 (ty + 1 + 1) dX8_sign_47 rfl (show nI (ty + 1 + 1) = nI (ty + 1 + 1) from rfl) (by omega) (by decide) rfl ?_
    dsimp only [List.cons_append, List.nil_append, List.set_cons_succ, List.set_cons_zero, vput]
    refine rh_inc2 hX dX8_sign_48 (by decide) rfl (show (1 : Int32) + Int32.ofInt (-1) = 0 by decide) ?_
    refine rh_goto (tgt := 21) hX dX8_sign_51 (by decide) ?_
    refine rh_iload_n hX dX8_sign_21 rfl ?_
    refine rh_if_lt_f (tgt := 54) hX dX8_sign_22 (by decide) (by decide) ?_
    refine rh_aload_n hX dX8_sign_25 rfl ?_
    refine rh_get hX gl_X8_19 0 dX8_sign_26 rfl rfl ?_
    refine rh_aload_n hX dX8_sign_29 rfl ?_
    refine rh_dup hX dX8_sign_30 rfl ?_
    refine rh_get hX gl_X8_55 0 dX8_sign_31 rfl rfl ?_
    refine rh_dup_x1 hX dX8_sign_34 rfl rfl ?_
    refine rh_iconst hX dX8_sign_35 ki_1 ?_
    refine rh_iadd hX dX8_sign_36 ?_
    rw [show nI (ty + 1 + 1 + 1) + 1 = nI (ty + 1 + 1 + 1 + 1) from (nI_succ (ty + 1 + 1 + 1)).symm]
    refine rh_put hX gl_X8_55 0 dX8_sign_37 rfl rfl rfl (Nat.le_of_ble_eq_true rfl) rfl ?_
    dsimp only [List.cons_append, List.nil_append, List.set_cons_succ, List.set_cons_zero, vput]
    refine rh_iload_n hX dX8_sign_40 rfl ?_
    refine rh_bipush hX dX8_sign_41 kb_8 ?_
    refine rh_iload_n hX dX8_sign_43 rfl ?_
    refine rh_imul hX dX8_sign_44 ?_
    refine rh_ishr hX dX8_sign_45 ?_
    refine rh_i2b hX dX8_sign_46 ?_
    refine rh_bastore hX 4 (ty + 1 + 1 + 1) dX8_sign_47 rfl (show nI (ty + 1 + 1 + 1) = nI (ty + 1 + 1 + 1) from rfl) (by omega) (by decide) rfl ?_
    dsimp only [List.cons_append, List.nil_append, List.set_cons_succ, List.set_cons_zero, vput]
    refine rh_inc2 hX dX8_sign_48 (by decide) rfl (show (0 : Int32) + Int32.ofInt (-1) = (-1) by decide) ?_
    refine rh_goto (tgt := 21) hX dX8_sign_51 (by decide) ?_
    refine rh_iload_n hX dX8_sign_21 rfl ?_
    refine rh_if_lt_t (tgt := 54) hX dX8_sign_22 (by decide) (by decide) ?_
    refine rh_aload_n hX dX8_sign_54 rfl ?_
    refine rh_get hX gl_X8_55 0 dX8_sign_55 rfl rfl ?_
    exact rh_iret hX hR dX8_sign_58 (by simp only [List.map_cons, List.map_nil, List.cons_append, List.nil_append]) ⟨by rw [if_pos h14], by rw [if_pos h14, if_pos h14]; rfl⟩
  · skip
    have h14 : ¬ ty + 4 ≤ 200 := fun q => h14 (nI_le (b := 200) q (by decide))
    refine rh_iconst hX dX8_sign_17 ki_m1 ?_
    exact rh_iret hX hR dX8_sign_18 (by simp only [List.map_cons, List.map_nil, List.cons_append, List.nil_append]) ⟨by rw [if_neg h14], by rw [if_neg h14, if_neg h14]⟩

set_option maxRecDepth 100000 in
set_option maxHeartbeats 4000000 in
theorem c_X8_end (l : Launch) (E : rhE) (B : Nat → Nat) (u : Nat → Int32) (kp : Nat → Int32) (ik : Int32) (ps : Nat → Int32) (pm : Nat) (dd : Int32) (tx : Nat → Int32) (ty : Nat) (rw : Nat → Int64) (rm : Nat) (th : Int32) (sz : Nat) (he : Nat) (wr : Int32) (mn : Nat → Int32) (vl : Int32) (tp : Int32) (lt : Int32) (ra : Int32) (pf : Int32) (pt : Int32) (pl : Int32) (pd : Int64) (prc : Int64) (ns : Int64) (tu : Nat) (ba : Int64) (na : Int64) (ca : Nat → Int64) (bo : Nat → Int32) (tr : Nat → Int64) (tH : Int32) (asd : Nat → Int32) (pa : Nat → Int64) (tg : Nat → Int64) (sd : Int64) (sr : Int64) (x : Int32) (hty : ty ≤ 200) : Ctr l E yX8_end cX8_end 2 (some .boolean) (rmL 1) [.ref (B 0), .int x] (wM E B u kp ik ps pm dd tx ty rw rm th sz he wr mn vl tp lt ra pf pt pl pd prc ns tu ba na ca bo tr tH asd pa tg sd sr) (One (some (.int (if (cutN ty x).isSome = true then 1 else 0))) (wM E B u kp ik ps pm dd tx ((cutN ty x).getD ty) rw rm 0 sz he wr mn vl tp lt ra pf pt pl pd prc ns tu ba na ca bo tr tH asd pa tg sd sr)) := by
  refine Ctr.of (by decide) (Nat.le_of_ble_eq_true rfl) rfl rfl 0 ?_
  intro X hX hR
  refine rh_aload_n hX dX8_end_0 rfl ?_
  refine rh_iconst hX dX8_end_1 ki_0 ?_
  refine rh_put hX gl_X8_48 0 dX8_end_2 rfl rfl rfl (Nat.le_of_ble_eq_true rfl) rfl ?_
  dsimp only [List.cons_append, List.nil_append, List.set_cons_succ, List.set_cons_zero, vput]
  refine rh_iload_n hX dX8_end_5 rfl ?_
  refine rh_i2l hX dX8_end_6 ?_
  refine rh_lconst hX dX8_end_7 kL_0 ?_
  refine rh_aload_n hX dX8_end_8 rfl ?_
  refine rh_get hX gl_X8_55 0 dX8_end_9 rfl rfl ?_
  refine rh_i2l hX dX8_end_12 ?_
  refine rh_pS hX lk_X8_58 msX8_in (fun l => c_X8_in l E _ _ _) ⟨rfl, rfl⟩ ⟨Nat.le_of_ble_eq_true rfl, Nat.le_of_ble_eq_true rfl⟩ [] rfl rfl dX8_end_13 rfl rfl (Nat.le_of_ble_eq_true rfl) ?_
  refine rh_if_ne (tgt := 21) hX dX8_end_16 (by decide) (fun h16 => ?_) (fun h16 => ?_)
  · skip
    obtain ⟨hc, hx⟩ := cutN_some (fun q => h16 (cutN_in.mpr q))
    refine rh_aload_n hX dX8_end_21 rfl ?_
    refine rh_iload_n hX dX8_end_22 rfl ?_
    rw [show Value.int x = Value.int (nI x.toNatClampNeg) by rw [hx]]
    refine rh_put hX gl_X8_55 0 dX8_end_23 rfl rfl rfl (Nat.le_of_ble_eq_true rfl) rfl ?_
    dsimp only [List.cons_append, List.nil_append, List.set_cons_succ, List.set_cons_zero, vput]
    refine rh_iconst hX dX8_end_26 ki_1 ?_
    exact rh_zret hX hR dX8_end_27 rfl (by simp only [List.map_cons, List.map_nil, List.cons_append, List.nil_append]) ⟨by rw [hc]; rfl, by rw [hc]; rfl⟩
  · skip
    have hc := cutN_in.mp h16
    refine rh_iconst hX dX8_end_19 ki_0 ?_
    exact rh_zret hX hR dX8_end_20 rfl (by simp only [List.map_cons, List.map_nil, List.cons_append, List.nil_append]) ⟨by rw [hc]; rfl, by rw [hc]; rfl⟩

def y_back (kp : Nat → Int32) (ik : Int32) (Tk : Nat) : YR := if ik = 0 then (-2, none) else ((cSize (fm kp) Tk).toInt32, some kp)

set_option maxRecDepth 100000 in
set_option maxHeartbeats 4000000 in
theorem c_X8_back (l : Launch) (E : rhE) (B : Nat → Nat) (u : Nat → Int32) (kp : Nat → Int32) (ik : Int32) (ps : Nat → Int32) (pm : Nat) (dd : Int32) (tx : Nat → Int32) (ty : Nat) (rw : Nat → Int64) (rm : Nat) (th : Int32) (sz : Nat) (he : Nat) (wr : Int32) (mn : Nat → Int32) (vl : Int32) (tp : Int32) (lt : Int32) (ra : Int32) (pf : Int32) (pt : Int32) (pl : Int32) (pd : Int64) (prc : Int64) (ns : Int64) (tu : Nat) (ba : Int64) (na : Int64) (ca : Nat → Int64) (bo : Nat → Int32) (tr : Nat → Int64) (tH : Int32) (asd : Nat → Int32) (pa : Nat → Int64) (tg : Nat → Int64) (sd : Int64) (sr : Int64) (Tk : Nat) (hK : ¬ ik = 0 → mOk kp Tk) (hpm : pm ≤ 8)  : Ctr l E yX8_back cX8_back 2 (some .int) (rmL 5) [.ref (B 0)] (wM E B u kp ik ps pm dd tx ty rw rm th sz he wr mn vl tp lt ra pf pt pl pd prc ns tu ba na ca bo tr tH asd pa tg sd sr) (fun r w => r = some (Value.int (y_back kp ik Tk).1) ∧ (∀ u1, (y_back kp ik Tk).2 = some u1 → w = (wM E B u1 kp ik (psDid ps pm u) (pmDid pm) (dd + 1) tx ty rw rm 0 sz he wr mn vl tp lt ra pf pt pl pd prc ns tu ba na ca bo tr tH u pa tg sd sr)) ∧ ((y_back kp ik Tk).2 = none → w = (wM E B u kp ik ps pm dd tx ty rw rm 0 sz he wr mn vl tp lt ra pf pt pl pd prc ns tu ba na ca bo tr tH asd pa tg sd sr))) := by
  refine Ctr.of (by decide) (Nat.le_of_ble_eq_true rfl) rfl rfl 1 ?_
  intro X hX hR
  refine rh_aload_n hX dX8_back_0 rfl ?_
  refine rh_iconst hX dX8_back_1 ki_0 ?_
  refine rh_put hX gl_X8_48 0 dX8_back_2 rfl rfl rfl (Nat.le_of_ble_eq_true rfl) rfl ?_
  dsimp only [List.cons_append, List.nil_append, List.set_cons_succ, List.set_cons_zero, vput]
  refine rh_aload_n hX dX8_back_5 rfl ?_
  refine rh_get hX gl_X8_386 0 dX8_back_6 rfl rfl ?_
  refine rh_if_ne (tgt := 15) hX dX8_back_9 (by decide) (fun h9 => ?_) (fun h9 => ?_)
  · skip
    have hK := hK h9
    refine rh_aload_n hX dX8_back_15 rfl ?_
    refine rh_uV hX lk_X8_133 mvX8_does (fun l => c_X8_does l E _ _ _ _ _ _ _ _ _ _ _ _ _ _ _ _ _ _ _ _ _ _ _ _ _ _ _ _ _ _ _ _ _ _ _ _ _ _ (by omega)) ⟨rfl, rfl⟩ ⟨Nat.le_of_ble_eq_true rfl, Nat.le_of_ble_eq_true rfl⟩ [0, 1, 2, 3, 4, 5, 6, 7, 8, 9, 10, 11, 12] rfl rfl 0 rfl dX8_back_16 rfl rfl (Nat.le_of_ble_eq_true rfl) rfl ?_
    dsimp only [List.cons_append, List.nil_append, List.set_cons_succ, List.set_cons_zero, vput]
    refine rh_iconst hX dX8_back_19 ki_0 ?_
    refine rh_istn1 hX dX8_back_20 (by decide) rfl ?_
    suffices hP0 : G X 21 [some (.ref (B 0)), some (.int 0)] [] (wM E B (rowTI kp u 0) kp ik (psDid ps pm u) (pmDid pm) (dd + 1) tx ty rw rm 0 sz he wr mn vl tp lt ra pf pt pl pd prc ns tu ba na ca bo tr tH u pa tg sd sr) by rw [rowTI_0] at hP0; exact hP0
    refine rh_loop (P := fun i => G X 21 [some (.ref (B 0)), some (.int (nI i))] [] (wM E B (rowTI kp u i) kp ik (psDid ps pm u) (pmDid pm) (dd + 1) tx ty rw rm 0 sz he wr mn vl tp lt ra pf pt pl pd prc ns tu ba na ca bo tr tH u pa tg sd sr)) (0) (172) (by omega) ?_ ?_
    · skip
      refine rh_extI (q := 1) (g := kp) rfl (fun j hj => rowTI_lt kp u 172 j hj) rfl ?_
      dsimp only [List.cons_append, List.nil_append, List.set_cons_succ, List.set_cons_zero]
      refine rh_iload_n hX dX8_back_21 rfl ?_
      refine rh_sipush hX dX8_back_22 ks_172 ?_
      refine rh_icmp_ge_t (tgt := 46) hX dX8_back_25 (by decide) (nI_le (a := 172) (b := 172) (Nat.le_refl 172) (by decide)) ?_
      refine rh_aload_n hX dX8_back_46 rfl ?_
      refine rh_pV hX lk_X8_143 mvX8_fullNow (fun l => c_X8_fullNow l E _ _ _ _ _ _ _ _ _ _ _ _ _ _ _ _ _ _ _ _ _ _ _ _ _ _ _ _ _ _ _ _ _ _ _ _ _ _ Tk hK) ⟨rfl, rfl⟩ ⟨Nat.le_of_ble_eq_true rfl, Nat.le_of_ble_eq_true rfl⟩ [0, 1, 2, 3, 4, 5, 6, 7, 8, 9, 10, 11, 12] rfl rfl 0 rfl dX8_back_47 rfl rfl (Nat.le_of_ble_eq_true rfl) ?_
      refine rh_l2i hX dX8_back_50 ?_
      exact rh_iret hX hR dX8_back_51 (by simp only [List.map_cons, List.map_nil, List.cons_append, List.nil_append]) ⟨by rw [y_back, if_neg h9] <;> rfl, (fun z hz => by rw [y_back, if_neg h9] at hz; cases hz; rfl), (fun hz => by rw [y_back, if_neg h9] at hz; cases hz)⟩
    · intro i hi0 hi ih
      refine rh_iload_n hX dX8_back_21 rfl ?_
      refine rh_sipush hX dX8_back_22 ks_172 ?_
      refine rh_icmp_ge_f (tgt := 46) hX dX8_back_25 (by decide) (nI_ge (b := 172) hi (by decide)) ?_
      refine rh_aload_n hX dX8_back_28 rfl ?_
      refine rh_get hX gl_X8_7 0 dX8_back_29 rfl rfl ?_
      refine rh_iload_n hX dX8_back_32 rfl ?_
      refine rh_aload_n hX dX8_back_33 rfl ?_
      refine rh_get hX gl_X8_13 0 dX8_back_34 rfl rfl ?_
      refine rh_iload_n hX dX8_back_37 rfl ?_
      refine rh_iaload hX 2 _ dX8_back_38 rfl rfl (by omega) (by decide) ?_
      refine rh_iastore hX 1 _ dX8_back_39 rfl rfl (by omega) (by decide) rfl ?_
      dsimp only [List.cons_append, List.nil_append, List.set_cons_succ, List.set_cons_zero, vput]
      refine rh_inc1 hX dX8_back_40 (by decide) rfl (rn_i1 _) ?_
      refine rh_goto (tgt := 21) hX dX8_back_43 (by decide) ?_
      rw [← rowTI_s kp] at ih
      exact ih
  · skip
    refine rh_bipush hX dX8_back_12 kb_m2 ?_
    exact rh_iret hX hR dX8_back_14 (by simp only [List.map_cons, List.map_nil, List.cons_append, List.nil_append]) (by first | exact ⟨by rw [y_back, if_pos h9] <;> rfl, (fun z hz => by rw [y_back, if_pos h9] at hz; cases hz), fun _ => rfl⟩)

def y_term (u : Nat → Int32) (T : Nat) (t w v : Int32) : YR := if xSe T t = 0 then (-1, none) else if w < 0 then (-1, none) else if 3 < w then (-1, none) else if v < 0 then (-1, none) else if mostT w < v then (-1, none) else (u (58 + 6 * (2 + w.toNatClampNeg) + t.toNatClampNeg), some (va_up u (58 + 6 * (2 + w.toNatClampNeg) + t.toNatClampNeg) v))

set_option maxRecDepth 100000 in
set_option maxHeartbeats 4000000 in
theorem c_X8_term (l : Launch) (E : rhE) (B : Nat → Nat) (u : Nat → Int32) (kp : Nat → Int32) (ik : Int32) (ps : Nat → Int32) (pm : Nat) (dd : Int32) (tx : Nat → Int32) (ty : Nat) (rw : Nat → Int64) (rm : Nat) (th : Int32) (sz : Nat) (he : Nat) (wr : Int32) (mn : Nat → Int32) (vl : Int32) (tp : Int32) (lt : Int32) (ra : Int32) (pf : Int32) (pt : Int32) (pl : Int32) (pd : Int64) (prc : Int64) (ns : Int64) (tu : Nat) (ba : Int64) (na : Int64) (ca : Nat → Int64) (bo : Nat → Int32) (tr : Nat → Int64) (tH : Int32) (asd : Nat → Int32) (pa : Nat → Int64) (tg : Nat → Int64) (sd : Int64) (sr : Int64) (t wh v : Int32) (T : Nat) (hM : mOk u T) (hpm : pm ≤ 8)  : Ctr l E yX8_term cX8_term 5 (some .int) (rmL 3) [.ref (B 0), .int t, .int wh, .int v] (wM E B u kp ik ps pm dd tx ty rw rm th sz he wr mn vl tp lt ra pf pt pl pd prc ns tu ba na ca bo tr tH asd pa tg sd sr) (fun r w => r = some (Value.int (y_term u T t wh v).1) ∧ (∀ u1, (y_term u T t wh v).2 = some u1 → w = (wM E B u1 kp ik (psDid ps pm u) (pmDid pm) (dd + 1) tx ty rw rm 0 sz he wr mn vl tp lt ra pf pt pl pd prc ns tu ba na ca bo tr tH u pa tg sd sr)) ∧ ((y_term u T t wh v).2 = none → w = (wM E B u kp ik ps pm dd tx ty rw rm 0 sz he wr mn vl tp lt ra pf pt pl pd prc ns tu ba na ca bo tr tH asd pa tg sd sr))) := by
  refine Ctr.of (by decide) (Nat.le_of_ble_eq_true rfl) rfl rfl 1 ?_
  intro X hX hR
  obtain ⟨hT, hT1, hT6, hcv⟩ := id hM
  refine rh_aload_n hX dX8_term_0 rfl ?_
  refine rh_iconst hX dX8_term_1 ki_0 ?_
  refine rh_put hX gl_X8_48 0 dX8_term_2 rfl rfl rfl (Nat.le_of_ble_eq_true rfl) rfl ?_
  dsimp only [List.cons_append, List.nil_append, List.set_cons_succ, List.set_cons_zero, vput]
  refine rh_aload_n hX dX8_term_5 rfl ?_
  refine rh_iload_n hX dX8_term_6 rfl ?_
  refine rh_pV hX lk_X8_162 mvX8_isRound (fun l => c_X8_isRound l E _ _ _ _ _ _ _ _ _ _ _ _ _ _ _ _ _ _ _ _ _ _ _ _ _ _ _ _ _ _ _ _ _ _ _ _ _ _ _ T hM) ⟨rfl, rfl⟩ ⟨Nat.le_of_ble_eq_true rfl, Nat.le_of_ble_eq_true rfl⟩ [0, 1, 2, 3, 4, 5, 6, 7, 8, 9, 10, 11, 12] rfl rfl 0 rfl dX8_term_7 rfl rfl (Nat.le_of_ble_eq_true rfl) ?_
  refine rh_if_eq (tgt := 56) hX dX8_term_10 (by decide) (fun h10 => ?_) (fun h10 => ?_)
  · skip
    refine rh_iconst hX dX8_term_56 ki_m1 ?_
    exact rh_iret hX hR dX8_term_57 (by simp only [List.map_cons, List.map_nil, List.cons_append, List.nil_append]) (by first | exact ⟨by rw [y_term, if_pos h10] <;> rfl, (fun z hz => by rw [y_term, if_pos h10] at hz; cases hz), fun _ => rfl⟩ | exact ⟨by rw [y_term, if_neg h10, rng_no (by decide) h22] <;> rfl, (fun z hz => by rw [y_term, if_neg h10, rng_no (by decide) h22] at hz; cases hz), fun _ => rfl⟩ | exact ⟨by rw [y_term, if_neg h10, rng_yes (by decide) hw, show mostT (nI wd) = 3 by rw [mostT, if_pos h29], rng_no (by decide) h53] <;> rfl, (fun z hz => by rw [y_term, if_neg h10, rng_yes (by decide) hw, show mostT (nI wd) = 3 by rw [mostT, if_pos h29], rng_no (by decide) h53] at hz; cases hz), fun _ => rfl⟩ | exact ⟨by rw [y_term, if_neg h10, rng_yes (by decide) hw, show mostT (nI wd) = 50 by rw [mostT, if_neg h29, if_pos h40], rng_no (by decide) h53] <;> rfl, (fun z hz => by rw [y_term, if_neg h10, rng_yes (by decide) hw, show mostT (nI wd) = 50 by rw [mostT, if_neg h29, if_pos h40], rng_no (by decide) h53] at hz; cases hz), fun _ => rfl⟩ | exact ⟨by rw [y_term, if_neg h10, rng_yes (by decide) hw, show mostT (nI wd) = 1 by rw [mostT, if_neg h29, if_neg h40], rng_no (by decide) h53] <;> rfl, (fun z hz => by rw [y_term, if_neg h10, rng_yes (by decide) hw, show mostT (nI wd) = 1 by rw [mostT, if_neg h29, if_neg h40], rng_no (by decide) h53] at hz; cases hz), fun _ => rfl⟩)
  · skip
    obtain ⟨td, rfl, htd1, htd⟩ := xSe_1 hT6 h10
    refine rh_iload_n hX dX8_term_13 rfl ?_
    refine rh_i2l hX dX8_term_14 ?_
    refine rh_lconst hX dX8_term_15 kL_0 ?_
    refine rh_ldc2 hX dX8_term_16 kl_X8_165 ?_
    refine rh_pS hX lk_X8_58 msX8_in (fun l => c_X8_in l E _ _ _) ⟨rfl, rfl⟩ ⟨Nat.le_of_ble_eq_true rfl, Nat.le_of_ble_eq_true rfl⟩ [] rfl rfl dX8_term_19 rfl rfl (Nat.le_of_ble_eq_true rfl) ?_
    refine rh_if_eq (tgt := 56) hX dX8_term_22 (by decide) (fun h22 => ?_) (fun h22 => ?_)
    · skip
      refine rh_iconst hX dX8_term_56 ki_m1 ?_
      exact rh_iret hX hR dX8_term_57 (by simp only [List.map_cons, List.map_nil, List.cons_append, List.nil_append]) (by first | exact ⟨by rw [y_term, if_pos h10] <;> rfl, (fun z hz => by rw [y_term, if_pos h10] at hz; cases hz), fun _ => rfl⟩ | exact ⟨by rw [y_term, if_neg h10, rng_no (by decide) h22] <;> rfl, (fun z hz => by rw [y_term, if_neg h10, rng_no (by decide) h22] at hz; cases hz), fun _ => rfl⟩ | exact ⟨by rw [y_term, if_neg h10, rng_yes (by decide) hw, show mostT (nI wd) = 3 by rw [mostT, if_pos h29], rng_no (by decide) h53] <;> rfl, (fun z hz => by rw [y_term, if_neg h10, rng_yes (by decide) hw, show mostT (nI wd) = 3 by rw [mostT, if_pos h29], rng_no (by decide) h53] at hz; cases hz), fun _ => rfl⟩ | exact ⟨by rw [y_term, if_neg h10, rng_yes (by decide) hw, show mostT (nI wd) = 50 by rw [mostT, if_neg h29, if_pos h40], rng_no (by decide) h53] <;> rfl, (fun z hz => by rw [y_term, if_neg h10, rng_yes (by decide) hw, show mostT (nI wd) = 50 by rw [mostT, if_neg h29, if_pos h40], rng_no (by decide) h53] at hz; cases hz), fun _ => rfl⟩ | exact ⟨by rw [y_term, if_neg h10, rng_yes (by decide) hw, show mostT (nI wd) = 1 by rw [mostT, if_neg h29, if_neg h40], rng_no (by decide) h53] <;> rfl, (fun z hz => by rw [y_term, if_neg h10, rng_yes (by decide) hw, show mostT (nI wd) = 1 by rw [mostT, if_neg h29, if_neg h40], rng_no (by decide) h53] at hz; cases hz), fun _ => rfl⟩)
    · skip
      have hw := h22
      obtain ⟨wd, rfl, hwd⟩ := rng_nI h22
      have hwd : wd < 4 := by have : (3 : Int64).toInt = 3 := by decide
                              omega
      refine rh_iload_n hX dX8_term_25 rfl ?_
      refine rh_i2l hX dX8_term_26 ?_
      refine rh_lconst hX dX8_term_27 kL_0 ?_
      refine rh_iload_n hX dX8_term_28 rfl ?_
      refine rh_if_ne (tgt := 38) hX dX8_term_29 (by decide) (fun h29 => ?_) (fun h29 => ?_)
      · skip
        refine rh_iload_n hX dX8_term_38 rfl ?_
        refine rh_iconst hX dX8_term_39 ki_1 ?_
        refine rh_icmp_ne (tgt := 49) hX dX8_term_40 (by decide) (fun h40 => ?_) (fun h40 => ?_)
        · skip
          refine rh_lconst hX dX8_term_49 kL_1 ?_
          refine rh_pS hX lk_X8_58 msX8_in (fun l => c_X8_in l E _ _ _) ⟨rfl, rfl⟩ ⟨Nat.le_of_ble_eq_true rfl, Nat.le_of_ble_eq_true rfl⟩ [] rfl rfl dX8_term_50 rfl rfl (Nat.le_of_ble_eq_true rfl) ?_
          refine rh_if_ne (tgt := 58) hX dX8_term_53 (by decide) (fun h53 => ?_) (fun h53 => ?_)
          · skip
            refine rh_aload_n hX dX8_term_58 rfl ?_
            refine rh_uV hX lk_X8_133 mvX8_does (fun l => c_X8_does l E _ _ _ _ _ _ _ _ _ _ _ _ _ _ _ _ _ _ _ _ _ _ _ _ _ _ _ _ _ _ _ _ _ _ _ _ _ _ (by omega)) ⟨rfl, rfl⟩ ⟨Nat.le_of_ble_eq_true rfl, Nat.le_of_ble_eq_true rfl⟩ [0, 1, 2, 3, 4, 5, 6, 7, 8, 9, 10, 11, 12] rfl rfl 0 rfl dX8_term_59 rfl rfl (Nat.le_of_ble_eq_true rfl) rfl ?_
            dsimp only [List.cons_append, List.nil_append, List.set_cons_succ, List.set_cons_zero, vput]
            refine rh_aload_n hX dX8_term_62 rfl ?_
            refine rh_get hX gl_X8_7 0 dX8_term_63 rfl rfl ?_
            refine rh_aload_n hX dX8_term_66 rfl ?_
            refine rh_iload_n hX dX8_term_67 rfl ?_
            refine rh_iload_n hX dX8_term_68 rfl ?_
            refine rh_pV hX lk_X8_169 mvX8_termAt (fun l => c_X8_termAt l E _ _ _ _ _ _ _ _ _ _ _ _ _ _ _ _ _ _ _ _ _ _ _ _ _ _ _ _ _ _ _ _ _ _ _ _ _ _ td wd (by omega)) ⟨rfl, rfl⟩ ⟨Nat.le_of_ble_eq_true rfl, Nat.le_of_ble_eq_true rfl⟩ [0, 1, 2, 3, 4, 5, 6, 7, 8, 9, 10, 11, 12] rfl rfl 0 rfl dX8_term_69 rfl rfl (Nat.le_of_ble_eq_true rfl) ?_
            refine rh_iaload hX 1 (58 + 6 * (2 + wd) + td) dX8_term_72 rfl rfl (by omega) (by decide) ?_
            refine rh_ist4 hX dX8_term_73 (by decide) rfl ?_
            refine rh_aload_n hX dX8_term_75 rfl ?_
            refine rh_get hX gl_X8_7 0 dX8_term_76 rfl rfl ?_
            refine rh_aload_n hX dX8_term_79 rfl ?_
            refine rh_iload_n hX dX8_term_80 rfl ?_
            refine rh_iload_n hX dX8_term_81 rfl ?_
            refine rh_pV hX lk_X8_169 mvX8_termAt (fun l => c_X8_termAt l E _ _ _ _ _ _ _ _ _ _ _ _ _ _ _ _ _ _ _ _ _ _ _ _ _ _ _ _ _ _ _ _ _ _ _ _ _ _ td wd (by omega)) ⟨rfl, rfl⟩ ⟨Nat.le_of_ble_eq_true rfl, Nat.le_of_ble_eq_true rfl⟩ [0, 1, 2, 3, 4, 5, 6, 7, 8, 9, 10, 11, 12] rfl rfl 0 rfl dX8_term_82 rfl rfl (Nat.le_of_ble_eq_true rfl) ?_
            refine rh_iload_n hX dX8_term_85 rfl ?_
            refine rh_iastore hX 1 (58 + 6 * (2 + wd) + td) dX8_term_86 rfl rfl (by omega) (by decide) rfl ?_
            dsimp only [List.cons_append, List.nil_append, List.set_cons_succ, List.set_cons_zero, vput]
            refine rh_iload hX dX8_term_87 rfl ?_
            exact rh_iret hX hR dX8_term_89 (by simp only [List.map_cons, List.map_nil, List.cons_append, List.nil_append]) (by first | exact ⟨by rw [y_term, if_neg h10, rng_yes (by decide) hw, show mostT (nI wd) = 3 by rw [mostT, if_pos h29], rng_yes (by decide) h53, nI_clamp (show td < 2 ^ 31 by omega), nI_clamp (show wd < 2 ^ 31 by omega)] <;> rfl, (fun z hz => by rw [y_term, if_neg h10, rng_yes (by decide) hw, show mostT (nI wd) = 3 by rw [mostT, if_pos h29], rng_yes (by decide) h53, nI_clamp (show td < 2 ^ 31 by omega), nI_clamp (show wd < 2 ^ 31 by omega)] at hz; cases hz; rfl), (fun hz => by rw [y_term, if_neg h10, rng_yes (by decide) hw, show mostT (nI wd) = 3 by rw [mostT, if_pos h29], rng_yes (by decide) h53, nI_clamp (show td < 2 ^ 31 by omega), nI_clamp (show wd < 2 ^ 31 by omega)] at hz; cases hz)⟩ | exact ⟨by rw [y_term, if_neg h10, rng_yes (by decide) hw, show mostT (nI wd) = 50 by rw [mostT, if_neg h29, if_pos h40], rng_yes (by decide) h53, nI_clamp (show td < 2 ^ 31 by omega), nI_clamp (show wd < 2 ^ 31 by omega)] <;> rfl, (fun z hz => by rw [y_term, if_neg h10, rng_yes (by decide) hw, show mostT (nI wd) = 50 by rw [mostT, if_neg h29, if_pos h40], rng_yes (by decide) h53, nI_clamp (show td < 2 ^ 31 by omega), nI_clamp (show wd < 2 ^ 31 by omega)] at hz; cases hz; rfl), (fun hz => by rw [y_term, if_neg h10, rng_yes (by decide) hw, show mostT (nI wd) = 50 by rw [mostT, if_neg h29, if_pos h40], rng_yes (by decide) h53, nI_clamp (show td < 2 ^ 31 by omega), nI_clamp (show wd < 2 ^ 31 by omega)] at hz; cases hz)⟩ | exact ⟨by rw [y_term, if_neg h10, rng_yes (by decide) hw, show mostT (nI wd) = 1 by rw [mostT, if_neg h29, if_neg h40], rng_yes (by decide) h53, nI_clamp (show td < 2 ^ 31 by omega), nI_clamp (show wd < 2 ^ 31 by omega)] <;> rfl, (fun z hz => by rw [y_term, if_neg h10, rng_yes (by decide) hw, show mostT (nI wd) = 1 by rw [mostT, if_neg h29, if_neg h40], rng_yes (by decide) h53, nI_clamp (show td < 2 ^ 31 by omega), nI_clamp (show wd < 2 ^ 31 by omega)] at hz; cases hz; rfl), (fun hz => by rw [y_term, if_neg h10, rng_yes (by decide) hw, show mostT (nI wd) = 1 by rw [mostT, if_neg h29, if_neg h40], rng_yes (by decide) h53, nI_clamp (show td < 2 ^ 31 by omega), nI_clamp (show wd < 2 ^ 31 by omega)] at hz; cases hz)⟩)
          · skip
            refine rh_iconst hX dX8_term_56 ki_m1 ?_
            exact rh_iret hX hR dX8_term_57 (by simp only [List.map_cons, List.map_nil, List.cons_append, List.nil_append]) (by first | exact ⟨by rw [y_term, if_pos h10] <;> rfl, (fun z hz => by rw [y_term, if_pos h10] at hz; cases hz), fun _ => rfl⟩ | exact ⟨by rw [y_term, if_neg h10, rng_no (by decide) h22] <;> rfl, (fun z hz => by rw [y_term, if_neg h10, rng_no (by decide) h22] at hz; cases hz), fun _ => rfl⟩ | exact ⟨by rw [y_term, if_neg h10, rng_yes (by decide) hw, show mostT (nI wd) = 3 by rw [mostT, if_pos h29], rng_no (by decide) h53] <;> rfl, (fun z hz => by rw [y_term, if_neg h10, rng_yes (by decide) hw, show mostT (nI wd) = 3 by rw [mostT, if_pos h29], rng_no (by decide) h53] at hz; cases hz), fun _ => rfl⟩ | exact ⟨by rw [y_term, if_neg h10, rng_yes (by decide) hw, show mostT (nI wd) = 50 by rw [mostT, if_neg h29, if_pos h40], rng_no (by decide) h53] <;> rfl, (fun z hz => by rw [y_term, if_neg h10, rng_yes (by decide) hw, show mostT (nI wd) = 50 by rw [mostT, if_neg h29, if_pos h40], rng_no (by decide) h53] at hz; cases hz), fun _ => rfl⟩ | exact ⟨by rw [y_term, if_neg h10, rng_yes (by decide) hw, show mostT (nI wd) = 1 by rw [mostT, if_neg h29, if_neg h40], rng_no (by decide) h53] <;> rfl, (fun z hz => by rw [y_term, if_neg h10, rng_yes (by decide) hw, show mostT (nI wd) = 1 by rw [mostT, if_neg h29, if_neg h40], rng_no (by decide) h53] at hz; cases hz), fun _ => rfl⟩)
        · skip
          refine rh_ldc2 hX dX8_term_43 kl_X8_167 ?_
          refine rh_goto (tgt := 50) hX dX8_term_46 (by decide) ?_
          refine rh_pS hX lk_X8_58 msX8_in (fun l => c_X8_in l E _ _ _) ⟨rfl, rfl⟩ ⟨Nat.le_of_ble_eq_true rfl, Nat.le_of_ble_eq_true rfl⟩ [] rfl rfl dX8_term_50 rfl rfl (Nat.le_of_ble_eq_true rfl) ?_
          refine rh_if_ne (tgt := 58) hX dX8_term_53 (by decide) (fun h53 => ?_) (fun h53 => ?_)
          · skip
            refine rh_aload_n hX dX8_term_58 rfl ?_
            refine rh_uV hX lk_X8_133 mvX8_does (fun l => c_X8_does l E _ _ _ _ _ _ _ _ _ _ _ _ _ _ _ _ _ _ _ _ _ _ _ _ _ _ _ _ _ _ _ _ _ _ _ _ _ _ (by omega)) ⟨rfl, rfl⟩ ⟨Nat.le_of_ble_eq_true rfl, Nat.le_of_ble_eq_true rfl⟩ [0, 1, 2, 3, 4, 5, 6, 7, 8, 9, 10, 11, 12] rfl rfl 0 rfl dX8_term_59 rfl rfl (Nat.le_of_ble_eq_true rfl) rfl ?_
            dsimp only [List.cons_append, List.nil_append, List.set_cons_succ, List.set_cons_zero, vput]
            refine rh_aload_n hX dX8_term_62 rfl ?_
            refine rh_get hX gl_X8_7 0 dX8_term_63 rfl rfl ?_
            refine rh_aload_n hX dX8_term_66 rfl ?_
            refine rh_iload_n hX dX8_term_67 rfl ?_
            refine rh_iload_n hX dX8_term_68 rfl ?_
            refine rh_pV hX lk_X8_169 mvX8_termAt (fun l => c_X8_termAt l E _ _ _ _ _ _ _ _ _ _ _ _ _ _ _ _ _ _ _ _ _ _ _ _ _ _ _ _ _ _ _ _ _ _ _ _ _ _ td wd (by omega)) ⟨rfl, rfl⟩ ⟨Nat.le_of_ble_eq_true rfl, Nat.le_of_ble_eq_true rfl⟩ [0, 1, 2, 3, 4, 5, 6, 7, 8, 9, 10, 11, 12] rfl rfl 0 rfl dX8_term_69 rfl rfl (Nat.le_of_ble_eq_true rfl) ?_
            refine rh_iaload hX 1 (58 + 6 * (2 + wd) + td) dX8_term_72 rfl rfl (by omega) (by decide) ?_
            refine rh_ist4 hX dX8_term_73 (by decide) rfl ?_
            refine rh_aload_n hX dX8_term_75 rfl ?_
            refine rh_get hX gl_X8_7 0 dX8_term_76 rfl rfl ?_
            refine rh_aload_n hX dX8_term_79 rfl ?_
            refine rh_iload_n hX dX8_term_80 rfl ?_
            refine rh_iload_n hX dX8_term_81 rfl ?_
            refine rh_pV hX lk_X8_169 mvX8_termAt (fun l => c_X8_termAt l E _ _ _ _ _ _ _ _ _ _ _ _ _ _ _ _ _ _ _ _ _ _ _ _ _ _ _ _ _ _ _ _ _ _ _ _ _ _ td wd (by omega)) ⟨rfl, rfl⟩ ⟨Nat.le_of_ble_eq_true rfl, Nat.le_of_ble_eq_true rfl⟩ [0, 1, 2, 3, 4, 5, 6, 7, 8, 9, 10, 11, 12] rfl rfl 0 rfl dX8_term_82 rfl rfl (Nat.le_of_ble_eq_true rfl) ?_
            refine rh_iload_n hX dX8_term_85 rfl ?_
            refine rh_iastore hX 1 (58 + 6 * (2 + wd) + td) dX8_term_86 rfl rfl (by omega) (by decide) rfl ?_
            dsimp only [List.cons_append, List.nil_append, List.set_cons_succ, List.set_cons_zero, vput]
            refine rh_iload hX dX8_term_87 rfl ?_
            exact rh_iret hX hR dX8_term_89 (by simp only [List.map_cons, List.map_nil, List.cons_append, List.nil_append]) (by first | exact ⟨by rw [y_term, if_neg h10, rng_yes (by decide) hw, show mostT (nI wd) = 3 by rw [mostT, if_pos h29], rng_yes (by decide) h53, nI_clamp (show td < 2 ^ 31 by omega), nI_clamp (show wd < 2 ^ 31 by omega)] <;> rfl, (fun z hz => by rw [y_term, if_neg h10, rng_yes (by decide) hw, show mostT (nI wd) = 3 by rw [mostT, if_pos h29], rng_yes (by decide) h53, nI_clamp (show td < 2 ^ 31 by omega), nI_clamp (show wd < 2 ^ 31 by omega)] at hz; cases hz; rfl), (fun hz => by rw [y_term, if_neg h10, rng_yes (by decide) hw, show mostT (nI wd) = 3 by rw [mostT, if_pos h29], rng_yes (by decide) h53, nI_clamp (show td < 2 ^ 31 by omega), nI_clamp (show wd < 2 ^ 31 by omega)] at hz; cases hz)⟩ | exact ⟨by rw [y_term, if_neg h10, rng_yes (by decide) hw, show mostT (nI wd) = 50 by rw [mostT, if_neg h29, if_pos h40], rng_yes (by decide) h53, nI_clamp (show td < 2 ^ 31 by omega), nI_clamp (show wd < 2 ^ 31 by omega)] <;> rfl, (fun z hz => by rw [y_term, if_neg h10, rng_yes (by decide) hw, show mostT (nI wd) = 50 by rw [mostT, if_neg h29, if_pos h40], rng_yes (by decide) h53, nI_clamp (show td < 2 ^ 31 by omega), nI_clamp (show wd < 2 ^ 31 by omega)] at hz; cases hz; rfl), (fun hz => by rw [y_term, if_neg h10, rng_yes (by decide) hw, show mostT (nI wd) = 50 by rw [mostT, if_neg h29, if_pos h40], rng_yes (by decide) h53, nI_clamp (show td < 2 ^ 31 by omega), nI_clamp (show wd < 2 ^ 31 by omega)] at hz; cases hz)⟩ | exact ⟨by rw [y_term, if_neg h10, rng_yes (by decide) hw, show mostT (nI wd) = 1 by rw [mostT, if_neg h29, if_neg h40], rng_yes (by decide) h53, nI_clamp (show td < 2 ^ 31 by omega), nI_clamp (show wd < 2 ^ 31 by omega)] <;> rfl, (fun z hz => by rw [y_term, if_neg h10, rng_yes (by decide) hw, show mostT (nI wd) = 1 by rw [mostT, if_neg h29, if_neg h40], rng_yes (by decide) h53, nI_clamp (show td < 2 ^ 31 by omega), nI_clamp (show wd < 2 ^ 31 by omega)] at hz; cases hz; rfl), (fun hz => by rw [y_term, if_neg h10, rng_yes (by decide) hw, show mostT (nI wd) = 1 by rw [mostT, if_neg h29, if_neg h40], rng_yes (by decide) h53, nI_clamp (show td < 2 ^ 31 by omega), nI_clamp (show wd < 2 ^ 31 by omega)] at hz; cases hz)⟩)
          · skip
            refine rh_iconst hX dX8_term_56 ki_m1 ?_
            exact rh_iret hX hR dX8_term_57 (by simp only [List.map_cons, List.map_nil, List.cons_append, List.nil_append]) (by first | exact ⟨by rw [y_term, if_pos h10] <;> rfl, (fun z hz => by rw [y_term, if_pos h10] at hz; cases hz), fun _ => rfl⟩ | exact ⟨by rw [y_term, if_neg h10, rng_no (by decide) h22] <;> rfl, (fun z hz => by rw [y_term, if_neg h10, rng_no (by decide) h22] at hz; cases hz), fun _ => rfl⟩ | exact ⟨by rw [y_term, if_neg h10, rng_yes (by decide) hw, show mostT (nI wd) = 3 by rw [mostT, if_pos h29], rng_no (by decide) h53] <;> rfl, (fun z hz => by rw [y_term, if_neg h10, rng_yes (by decide) hw, show mostT (nI wd) = 3 by rw [mostT, if_pos h29], rng_no (by decide) h53] at hz; cases hz), fun _ => rfl⟩ | exact ⟨by rw [y_term, if_neg h10, rng_yes (by decide) hw, show mostT (nI wd) = 50 by rw [mostT, if_neg h29, if_pos h40], rng_no (by decide) h53] <;> rfl, (fun z hz => by rw [y_term, if_neg h10, rng_yes (by decide) hw, show mostT (nI wd) = 50 by rw [mostT, if_neg h29, if_pos h40], rng_no (by decide) h53] at hz; cases hz), fun _ => rfl⟩ | exact ⟨by rw [y_term, if_neg h10, rng_yes (by decide) hw, show mostT (nI wd) = 1 by rw [mostT, if_neg h29, if_neg h40], rng_no (by decide) h53] <;> rfl, (fun z hz => by rw [y_term, if_neg h10, rng_yes (by decide) hw, show mostT (nI wd) = 1 by rw [mostT, if_neg h29, if_neg h40], rng_no (by decide) h53] at hz; cases hz), fun _ => rfl⟩)
      · skip
        refine rh_ldc2 hX dX8_term_32 kl_X8_165 ?_
        refine rh_goto (tgt := 50) hX dX8_term_35 (by decide) ?_
        refine rh_pS hX lk_X8_58 msX8_in (fun l => c_X8_in l E _ _ _) ⟨rfl, rfl⟩ ⟨Nat.le_of_ble_eq_true rfl, Nat.le_of_ble_eq_true rfl⟩ [] rfl rfl dX8_term_50 rfl rfl (Nat.le_of_ble_eq_true rfl) ?_
        refine rh_if_ne (tgt := 58) hX dX8_term_53 (by decide) (fun h53 => ?_) (fun h53 => ?_)
        · skip
          refine rh_aload_n hX dX8_term_58 rfl ?_
          refine rh_uV hX lk_X8_133 mvX8_does (fun l => c_X8_does l E _ _ _ _ _ _ _ _ _ _ _ _ _ _ _ _ _ _ _ _ _ _ _ _ _ _ _ _ _ _ _ _ _ _ _ _ _ _ (by omega)) ⟨rfl, rfl⟩ ⟨Nat.le_of_ble_eq_true rfl, Nat.le_of_ble_eq_true rfl⟩ [0, 1, 2, 3, 4, 5, 6, 7, 8, 9, 10, 11, 12] rfl rfl 0 rfl dX8_term_59 rfl rfl (Nat.le_of_ble_eq_true rfl) rfl ?_
          dsimp only [List.cons_append, List.nil_append, List.set_cons_succ, List.set_cons_zero, vput]
          refine rh_aload_n hX dX8_term_62 rfl ?_
          refine rh_get hX gl_X8_7 0 dX8_term_63 rfl rfl ?_
          refine rh_aload_n hX dX8_term_66 rfl ?_
          refine rh_iload_n hX dX8_term_67 rfl ?_
          refine rh_iload_n hX dX8_term_68 rfl ?_
          refine rh_pV hX lk_X8_169 mvX8_termAt (fun l => c_X8_termAt l E _ _ _ _ _ _ _ _ _ _ _ _ _ _ _ _ _ _ _ _ _ _ _ _ _ _ _ _ _ _ _ _ _ _ _ _ _ _ td wd (by omega)) ⟨rfl, rfl⟩ ⟨Nat.le_of_ble_eq_true rfl, Nat.le_of_ble_eq_true rfl⟩ [0, 1, 2, 3, 4, 5, 6, 7, 8, 9, 10, 11, 12] rfl rfl 0 rfl dX8_term_69 rfl rfl (Nat.le_of_ble_eq_true rfl) ?_
          refine rh_iaload hX 1 (58 + 6 * (2 + wd) + td) dX8_term_72 rfl rfl (by omega) (by decide) ?_
          refine rh_ist4 hX dX8_term_73 (by decide) rfl ?_
          refine rh_aload_n hX dX8_term_75 rfl ?_
          refine rh_get hX gl_X8_7 0 dX8_term_76 rfl rfl ?_
          refine rh_aload_n hX dX8_term_79 rfl ?_
          refine rh_iload_n hX dX8_term_80 rfl ?_
          refine rh_iload_n hX dX8_term_81 rfl ?_
          refine rh_pV hX lk_X8_169 mvX8_termAt (fun l => c_X8_termAt l E _ _ _ _ _ _ _ _ _ _ _ _ _ _ _ _ _ _ _ _ _ _ _ _ _ _ _ _ _ _ _ _ _ _ _ _ _ _ td wd (by omega)) ⟨rfl, rfl⟩ ⟨Nat.le_of_ble_eq_true rfl, Nat.le_of_ble_eq_true rfl⟩ [0, 1, 2, 3, 4, 5, 6, 7, 8, 9, 10, 11, 12] rfl rfl 0 rfl dX8_term_82 rfl rfl (Nat.le_of_ble_eq_true rfl) ?_
          refine rh_iload_n hX dX8_term_85 rfl ?_
          refine rh_iastore hX 1 (58 + 6 * (2 + wd) + td) dX8_term_86 rfl rfl (by omega) (by decide) rfl ?_
          dsimp only [List.cons_append, List.nil_append, List.set_cons_succ, List.set_cons_zero, vput]
          refine rh_iload hX dX8_term_87 rfl ?_
          exact rh_iret hX hR dX8_term_89 (by simp only [List.map_cons, List.map_nil, List.cons_append, List.nil_append]) (by first | exact ⟨by rw [y_term, if_neg h10, rng_yes (by decide) hw, show mostT (nI wd) = 3 by rw [mostT, if_pos h29], rng_yes (by decide) h53, nI_clamp (show td < 2 ^ 31 by omega), nI_clamp (show wd < 2 ^ 31 by omega)] <;> rfl, (fun z hz => by rw [y_term, if_neg h10, rng_yes (by decide) hw, show mostT (nI wd) = 3 by rw [mostT, if_pos h29], rng_yes (by decide) h53, nI_clamp (show td < 2 ^ 31 by omega), nI_clamp (show wd < 2 ^ 31 by omega)] at hz; cases hz; rfl), (fun hz => by rw [y_term, if_neg h10, rng_yes (by decide) hw, show mostT (nI wd) = 3 by rw [mostT, if_pos h29], rng_yes (by decide) h53, nI_clamp (show td < 2 ^ 31 by omega), nI_clamp (show wd < 2 ^ 31 by omega)] at hz; cases hz)⟩ | exact ⟨by rw [y_term, if_neg h10, rng_yes (by decide) hw, show mostT (nI wd) = 50 by rw [mostT, if_neg h29, if_pos h40], rng_yes (by decide) h53, nI_clamp (show td < 2 ^ 31 by omega), nI_clamp (show wd < 2 ^ 31 by omega)] <;> rfl, (fun z hz => by rw [y_term, if_neg h10, rng_yes (by decide) hw, show mostT (nI wd) = 50 by rw [mostT, if_neg h29, if_pos h40], rng_yes (by decide) h53, nI_clamp (show td < 2 ^ 31 by omega), nI_clamp (show wd < 2 ^ 31 by omega)] at hz; cases hz; rfl), (fun hz => by rw [y_term, if_neg h10, rng_yes (by decide) hw, show mostT (nI wd) = 50 by rw [mostT, if_neg h29, if_pos h40], rng_yes (by decide) h53, nI_clamp (show td < 2 ^ 31 by omega), nI_clamp (show wd < 2 ^ 31 by omega)] at hz; cases hz)⟩ | exact ⟨by rw [y_term, if_neg h10, rng_yes (by decide) hw, show mostT (nI wd) = 1 by rw [mostT, if_neg h29, if_neg h40], rng_yes (by decide) h53, nI_clamp (show td < 2 ^ 31 by omega), nI_clamp (show wd < 2 ^ 31 by omega)] <;> rfl, (fun z hz => by rw [y_term, if_neg h10, rng_yes (by decide) hw, show mostT (nI wd) = 1 by rw [mostT, if_neg h29, if_neg h40], rng_yes (by decide) h53, nI_clamp (show td < 2 ^ 31 by omega), nI_clamp (show wd < 2 ^ 31 by omega)] at hz; cases hz; rfl), (fun hz => by rw [y_term, if_neg h10, rng_yes (by decide) hw, show mostT (nI wd) = 1 by rw [mostT, if_neg h29, if_neg h40], rng_yes (by decide) h53, nI_clamp (show td < 2 ^ 31 by omega), nI_clamp (show wd < 2 ^ 31 by omega)] at hz; cases hz)⟩)
        · skip
          refine rh_iconst hX dX8_term_56 ki_m1 ?_
          exact rh_iret hX hR dX8_term_57 (by simp only [List.map_cons, List.map_nil, List.cons_append, List.nil_append]) (by first | exact ⟨by rw [y_term, if_pos h10] <;> rfl, (fun z hz => by rw [y_term, if_pos h10] at hz; cases hz), fun _ => rfl⟩ | exact ⟨by rw [y_term, if_neg h10, rng_no (by decide) h22] <;> rfl, (fun z hz => by rw [y_term, if_neg h10, rng_no (by decide) h22] at hz; cases hz), fun _ => rfl⟩ | exact ⟨by rw [y_term, if_neg h10, rng_yes (by decide) hw, show mostT (nI wd) = 3 by rw [mostT, if_pos h29], rng_no (by decide) h53] <;> rfl, (fun z hz => by rw [y_term, if_neg h10, rng_yes (by decide) hw, show mostT (nI wd) = 3 by rw [mostT, if_pos h29], rng_no (by decide) h53] at hz; cases hz), fun _ => rfl⟩ | exact ⟨by rw [y_term, if_neg h10, rng_yes (by decide) hw, show mostT (nI wd) = 50 by rw [mostT, if_neg h29, if_pos h40], rng_no (by decide) h53] <;> rfl, (fun z hz => by rw [y_term, if_neg h10, rng_yes (by decide) hw, show mostT (nI wd) = 50 by rw [mostT, if_neg h29, if_pos h40], rng_no (by decide) h53] at hz; cases hz), fun _ => rfl⟩ | exact ⟨by rw [y_term, if_neg h10, rng_yes (by decide) hw, show mostT (nI wd) = 1 by rw [mostT, if_neg h29, if_neg h40], rng_no (by decide) h53] <;> rfl, (fun z hz => by rw [y_term, if_neg h10, rng_yes (by decide) hw, show mostT (nI wd) = 1 by rw [mostT, if_neg h29, if_neg h40], rng_no (by decide) h53] at hz; cases hz), fun _ => rfl⟩)

theorem setV_shv (f : Nat → Int64) (T s : Nat) : ∀ h : Nat, setV f T (nI s) h = shv (fun h => cVotes f h T) s h
  | 0 => by rw [setV_0, shv_0]
  | h + 1 => by rw [setV_s, shv_s, setV_shv f T s h]; rfl
theorem mSw_n (f : Nat → Int64) (T h : Nat) : ∀ s : Nat, mSw f T h s = nI (swN (fun h => cVotes f h T) h (cAllVotes f T) s)
  | 0 => by rw [mSw_0, swN_0]; rfl
  | s + 1 => by
    rw [swN_s, mSw, setV_shv, mSw_n f T h s]
    rcases sBit_01 (nI s) h with q | q
    · rw [if_neg (by rw [q]; decide), if_pos (show (nI s >>> (nI h &&& 31)) &&& 1 = 0 from q)]
      by_cases a : cAllVotes f T < 2 * shv (fun h => cVotes f h T) s 8
      · rw [if_pos a, if_pos a, Int32.add_zero]
      · rw [if_neg a, if_neg a]
        by_cases b : 2 * (shv (fun h => cVotes f h T) s 8 + cVotes f h T) ≤ cAllVotes f T
        · rw [if_pos b, if_pos b, Int32.add_zero]
        · rw [if_neg b, if_neg b]
          exact rn_add _ 1
    · rw [if_pos q, if_neg (show ¬ (nI s >>> (nI h &&& 31)) &&& 1 = 0 from fun z => by rw [show (nI s >>> (nI h &&& 31)) &&& 1 = 1 from q] at z; exact absurd z (by decide))]
theorem mSw_S {C : CT} {u : Nat → Int32} (h : C.1 = fm u) (T d : Nat) : mSw (fm u) T d 256 = swS C T d := by
  rw [mSw_n, swS, h]
  unfold UvF
  rw [h]

set_option maxRecDepth 100000 in
set_option maxHeartbeats 4000000 in
theorem c_X8_swing (l : Launch) (E : rhE) (B : Nat → Nat) (u : Nat → Int32) (kp : Nat → Int32) (ik : Int32) (ps : Nat → Int32) (pm : Nat) (dd : Int32) (tx : Nat → Int32) (ty : Nat) (rw : Nat → Int64) (rm : Nat) (th : Int32) (sz : Nat) (he : Nat) (wr : Int32) (mn : Nat → Int32) (vl : Int32) (tp : Int32) (lt : Int32) (ra : Int32) (pf : Int32) (pt : Int32) (pl : Int32) (pd : Int64) (prc : Int64) (ns : Int64) (tu : Nat) (ba : Int64) (na : Int64) (ca : Nat → Int64) (bo : Nat → Int32) (tr : Nat → Int64) (tH : Int32) (asd : Nat → Int32) (pa : Nat → Int64) (tg : Nat → Int64) (sd : Int64) (sr : Int64) (h : Int32) (C : CT) (hCu : C.1 = fm u) (T : Nat) (hM : mOk u T)  : Ctr l E yX8_swing cX8_swing 3 (some .int) (rmL 5) [.ref (B 0), .int h] (wM E B u kp ik ps pm dd tx ty rw rm th sz he wr mn vl tp lt ra pf pt pl pd prc ns tu ba na ca bo tr tH asd pa tg sd sr) (fun r w => ∃ rw1 rm1, r = some (Value.int (x_swing C T h).1) ∧ mTold rw rm rw1 rm1 (x_swing C T h).2 ∧ w = (wM E B u kp ik ps pm dd tx ty rw1 rm1 0 sz he wr mn vl tp lt ra pf pt pl pd prc ns tu ba na ca bo tr tH asd pa tg sd sr)) := by
  refine Ctr.of (by decide) (Nat.le_of_ble_eq_true rfl) rfl rfl 1 ?_
  intro X hX hR
  obtain ⟨hT, hT1, hT6, hcv⟩ := id hM
  refine rh_aload_n hX dX8_swing_0 rfl ?_
  refine rh_iconst hX dX8_swing_1 ki_0 ?_
  refine rh_put hX gl_X8_48 0 dX8_swing_2 rfl rfl rfl (Nat.le_of_ble_eq_true rfl) rfl ?_
  dsimp only [List.cons_append, List.nil_append, List.set_cons_succ, List.set_cons_zero, vput]
  refine rh_iload_n hX dX8_swing_5 rfl ?_
  refine rh_pS hX lk_X8_140 msX8_isHolder (fun l => c_X8_isHolderH l E _) ⟨rfl, rfl⟩ ⟨Nat.le_of_ble_eq_true rfl, Nat.le_of_ble_eq_true rfl⟩ [] rfl rfl dX8_swing_6 rfl rfl (Nat.le_of_ble_eq_true rfl) ?_
  refine rh_if_ne (tgt := 14) hX dX8_swing_9 (by decide) (fun h9 => ?_) (fun h9 => ?_)
  · skip
    obtain ⟨hd, rfl, hdl⟩ := xH_1 h9
    refine rh_aload_n hX dX8_swing_14 rfl ?_
    refine rh_iconst hX dX8_swing_15 ki_0 ?_
    refine rh_put hX gl_X8_52 0 dX8_swing_16 rfl rfl rfl (Nat.le_of_ble_eq_true rfl) rfl ?_
    dsimp only [List.cons_append, List.nil_append, List.set_cons_succ, List.set_cons_zero, vput]
    refine rh_iconst hX dX8_swing_19 ki_0 ?_
    refine rh_istn2 hX dX8_swing_20 (by decide) rfl ?_
    refine (rh_loop (P := fun i => ∀ g1, rowOk g1 ((List.range i).map (fun i => (swS C T i).toInt64)) → G X 21 [some (.ref (B 0)), some (.int (nI hd)), some (.int (nI i))] [] (wM E B u kp ik ps pm dd tx ty g1 i 0 sz he wr mn vl tp lt ra pf pt pl pd prc ns tu ba na ca bo tr tH asd pa tg sd sr)) (0) (8) (by omega) ?_ ?_) _ (rowOk_nil _)
    · intro g1 hg
      refine rh_iload_n hX dX8_swing_21 rfl ?_
      refine rh_bipush hX dX8_swing_22 kb_8 ?_
      refine rh_icmp_ge_t (tgt := 43) hX dX8_swing_24 (by decide) (nI_le (a := 8) (b := 8) (Nat.le_refl 8) (by decide)) ?_
      refine rh_aload_n hX dX8_swing_43 rfl ?_
      refine rh_get hX gl_X8_23 0 dX8_swing_44 rfl rfl ?_
      refine rh_iload_n hX dX8_swing_47 rfl ?_
      refine rh_laload hX 5 hd dX8_swing_48 rfl rfl (by omega) (by decide) ?_
      rw [hg hd (swS C T hd).toInt64 (by simp [hdl])]
      refine rh_l2i hX dX8_swing_49 ?_
      exact rh_iret hX hR dX8_swing_50 (by simp only [List.map_cons, List.map_nil, List.cons_append, List.nil_append]) ⟨g1, 8, by rw [x_swing, if_neg h9, nI_clamp (show hd < 2 ^ 31 by omega), Int32.toInt32_toInt64], by rw [x_swing, if_neg h9]; exact ⟨hg, by rw [List.length_map, List.length_range]⟩, rfl⟩
    · intro i hi0 hi ih g1 hg
      refine rh_iload_n hX dX8_swing_21 rfl ?_
      refine rh_bipush hX dX8_swing_22 kb_8 ?_
      refine rh_icmp_ge_f (tgt := 43) hX dX8_swing_24 (by decide) (nI_ge (b := 8) hi (by decide)) ?_
      refine rh_aload_n hX dX8_swing_27 rfl ?_
      refine rh_aload_n hX dX8_swing_28 rfl ?_
      refine rh_iload_n hX dX8_swing_29 rfl ?_
      refine rh_pV hX lk_X8_335 mvX8_swings (fun l => c_X8_swings l E _ _ _ _ _ _ _ _ _ _ _ _ _ _ _ _ _ _ _ _ _ _ _ _ _ _ _ _ _ _ _ _ _ _ _ _ _ _ i T hM (by omega)) ⟨rfl, rfl⟩ ⟨Nat.le_of_ble_eq_true rfl, Nat.le_of_ble_eq_true rfl⟩ [0, 1, 2, 3, 4, 5, 6, 7, 8, 9, 10, 11, 12] rfl rfl 0 rfl dX8_swing_30 rfl rfl (Nat.le_of_ble_eq_true rfl) ?_
      rw [mSw_S hCu]
      refine rh_i2l hX dX8_swing_33 ?_
      refine rh_uV hX lk_X8_299 mvX8_tell (fun l => c_X8_tell l E _ _ _ _ _ _ _ _ _ _ i _ _ _ _ _ _ _ _ _ _ _ _ _ _ _ _ _ _ _ _ _ _ _ _ _ _ _ _ (by omega)) ⟨rfl, rfl⟩ ⟨Nat.le_of_ble_eq_true rfl, Nat.le_of_ble_eq_true rfl⟩ [0, 1, 2, 3, 4, 5, 6, 7, 8, 9, 10, 11, 12] rfl rfl 0 rfl dX8_swing_34 rfl rfl (Nat.le_of_ble_eq_true rfl) rfl ?_
      dsimp only [List.cons_append, List.nil_append, List.set_cons_succ, List.set_cons_zero, vput]
      refine rh_inc2 hX dX8_swing_37 (by decide) rfl (rn_i1 _) ?_
      refine rh_goto (tgt := 21) hX dX8_swing_40 (by decide) ?_
      exact ih _ (by rw [range_push]; exact rowOk_push _ hg (by rw [List.length_map, List.length_range]))
  · skip
    refine rh_iconst hX dX8_swing_12 ki_m1 ?_
    exact rh_iret hX hR dX8_swing_13 (by simp only [List.map_cons, List.map_nil, List.cons_append, List.nil_append]) (by first | exact ⟨rw, rm, by rw [x_swing, if_pos h9] <;> rfl, by rw [x_swing, if_pos h9]; exact ⟨rfl, rfl⟩, rfl⟩)

theorem ahN_pos {u : Nat → Int64} {h o : Nat} (q : ahB u h o) : ∀ n : Nat, o < n → 0 < ahN u h n
  | 0, ho => absurd ho (by omega)
  | n + 1, ho => by
    by_cases e : o = n
    · subst e; rw [ahN_t q]; omega
    · have := ahN_pos q n (by omega)
      by_cases z : ahB u h n
      · rw [ahN_t z]; omega
      · rw [ahN_f z]; exact this
theorem ahN_zero {u : Nat → Int64} {h : Nat} : ∀ n : Nat, (∀ o, o < n → ¬ ahB u h o) → ahN u h n = 0
  | 0, _ => ahN_0 u h
  | n + 1, q => by rw [ahN_f (q n (by omega))]; exact ahN_zero n (fun o ho => q o (by omega))
/-- of two the one ahead has the lesser rank -/
theorem ahN_of {u : Nat → Int64} {a b : Nat} (ha : a < 8) (hb : b < 8) (h : ahB u a b) : ahN u b 8 < ahN u a 8 := ahN_strict (fun o q => ahB_trans h q) h (ahB_self u b) 8 hb
theorem ahN_inj {u : Nat → Int64} {a b : Nat} (ha : a < 8) (hb : b < 8) (h : ahN u a 8 = ahN u b 8) : a = b := by
  by_cases e : a = b
  · exact e
  · rcases ahB_total (u := u) e with q | q
    · have := ahN_of ha hb q; omega
    · have := ahN_of hb ha q; omega
theorem rkN_r {u : Nat → Int64} {j : Nat} (hj : j < 8) : rkN u 8 j < 8 ∧ ahN u (rkN u 8 j) 8 = j := ⟨rkN_lt u j 8 (Nat.le_refl 8), rkN_at u j 8 (ahN_onto u 8 j hj)⟩
theorem rkN_eq {u : Nat → Int64} {b j : Nat} (hb : b < 8) (hj : j < 8) (h : ahN u b 8 = j) : rkN u 8 j = b := ahN_inj (rkN_r hj).1 hb (by rw [(rkN_r hj).2, h])
/-- the first of the greatest among the first i -/
def topI (w : Nat → Int64) (i b : Nat) : Prop := b < i ∧ ∀ o, o < i → ¬ ahB w b o
theorem topI_1 (w : Nat → Int64) : topI w 1 0 := ⟨by omega, fun o ho => by rw [show o = 0 by omega]; exact ahB_self w 0⟩
theorem topI_g {w : Nat → Int64} {i b : Nat} (h : topI w i b) (q : w b < w i) : topI w (i + 1) i := by
  refine ⟨by omega, fun o ho => ?_⟩
  by_cases e : o = i
  · rw [e]; exact ahB_self w i
  · have := h.2 o (by omega)
    intro z
    apply this
    unfold ahB at *
    rw [z_lt] at q
    rcases z with z | z
    · rw [z_lt] at z; exact Or.inl (by rw [z_lt]; omega)
    · rw [z.1]; exact Or.inl (by rw [z_lt]; omega)
theorem topI_s {w : Nat → Int64} {i b : Nat} (h : topI w i b) (q : ¬ w b < w i) : topI w (i + 1) b := by
  refine ⟨Nat.lt_succ_of_lt h.1, fun o ho => ?_⟩
  by_cases e : o = i
  · rw [e]
    rintro (z | z)
    · exact q z
    · have := h.1; omega
  · exact h.2 o (by omega)
theorem topI_8 {w : Nat → Int64} {b : Nat} (h : topI w 8 b) : rkN w 8 0 = b := rkN_eq h.1 (by omega) (ahN_zero 8 h.2)

set_option maxRecDepth 100000 in
set_option maxHeartbeats 4000000 in
theorem c_X8_leads (l : Launch) (E : rhE) (B : Nat → Nat) (u : Nat → Int32) (kp : Nat → Int32) (ik : Int32) (ps : Nat → Int32) (pm : Nat) (dd : Int32) (tx : Nat → Int32) (ty : Nat) (rw : Nat → Int64) (rm : Nat) (th : Int32) (sz : Nat) (he : Nat) (wr : Int32) (mn : Nat → Int32) (vl : Int32) (tp : Int32) (lt : Int32) (ra : Int32) (pf : Int32) (pt : Int32) (pl : Int32) (pd : Int64) (prc : Int64) (ns : Int64) (tu : Nat) (ba : Int64) (na : Int64) (ca : Nat → Int64) (bo : Nat → Int32) (tr : Nat → Int64) (tH : Int32) (asd : Nat → Int32) (pa : Nat → Int64) (tg : Nat → Int64) (sd : Int64) (sr : Int64) (t : Int32) (C : CT) (hCu : C.1 = fm u) (T : Nat) (hM : mOk u T) (hB : fB (fm u) T) : Ctr l E yX8_leads cX8_leads 6 (some .int) (rmL 4) [.ref (B 0), .int t] (wM E B u kp ik ps pm dd tx ty rw rm th sz he wr mn vl tp lt ra pf pt pl pd prc ns tu ba na ca bo tr tH asd pa tg sd sr) (fun r w => ∃ rw1 rm1, r = some (Value.int (x_leads C T t).1) ∧ mTold rw rm rw1 rm1 (x_leads C T t).2 ∧ w = (wM E B u kp ik ps pm dd tx ty rw1 rm1 0 sz he wr mn vl tp lt ra pf pt pl pd prc ns tu ba na ca bo tr tH asd pa tg sd sr)) := by
  refine Ctr.of (by decide) (Nat.le_of_ble_eq_true rfl) rfl rfl 4 ?_
  intro X hX hR
  obtain ⟨hT, hT1, hT6, hcv⟩ := id hM
  refine rh_aload_n hX dX8_leads_0 rfl ?_
  refine rh_iconst hX dX8_leads_1 ki_0 ?_
  refine rh_put hX gl_X8_48 0 dX8_leads_2 rfl rfl rfl (Nat.le_of_ble_eq_true rfl) rfl ?_
  dsimp only [List.cons_append, List.nil_append, List.set_cons_succ, List.set_cons_zero, vput]
  refine rh_aload_n hX dX8_leads_5 rfl ?_
  refine rh_iload_n hX dX8_leads_6 rfl ?_
  refine rh_pV hX lk_X8_64 mvX8_isType (fun l => c_X8_isType l E _ _ _ _ _ _ _ _ _ _ _ _ _ _ _ _ _ _ _ _ _ _ _ _ _ _ _ _ _ _ _ _ _ _ _ _ _ _ _ T hM) ⟨rfl, rfl⟩ ⟨Nat.le_of_ble_eq_true rfl, Nat.le_of_ble_eq_true rfl⟩ [0, 1, 2, 3, 4, 5, 6, 7, 8, 9, 10, 11, 12] rfl rfl 0 rfl dX8_leads_7 rfl rfl (Nat.le_of_ble_eq_true rfl) ?_
  refine rh_if_ne (tgt := 15) hX dX8_leads_10 (by decide) (fun h10 => ?_) (fun h10 => ?_)
  · skip
    obtain ⟨td, rfl, htd⟩ := xTy_1 hT6 h10
    refine rh_aload_n hX dX8_leads_15 rfl ?_
    refine rh_iload_n hX dX8_leads_16 rfl ?_
    refine rh_pV hX lk_X8_154 mvX8_allShares (fun l => c_X8_allShares l E _ _ _ _ _ _ _ _ _ _ _ _ _ _ _ _ _ _ _ _ _ _ _ _ _ _ _ _ _ _ _ _ _ _ _ _ _ _ td (by omega)) ⟨rfl, rfl⟩ ⟨Nat.le_of_ble_eq_true rfl, Nat.le_of_ble_eq_true rfl⟩ [0, 1, 2, 3, 4, 5, 6, 7, 8, 9, 10, 11, 12] rfl rfl 0 rfl dX8_leads_17 rfl rfl (Nat.le_of_ble_eq_true rfl) ?_
    refine rh_lstn2 hX dX8_leads_20 (by decide) rfl ?_
    refine rh_lload_n hX dX8_leads_21 rfl ?_
    refine rh_lconst hX dX8_leads_22 kL_0 ?_
    refine rh_lne (tgt := 30) hX dX8_leads_23 dX8_leads_24 (by decide) (fun h24 => ?_) (fun h24 => ?_)
    · skip
      refine rh_iconst hX dX8_leads_30 ki_0 ?_
      refine rh_ist4 hX dX8_leads_31 (by decide) rfl ?_
      refine rh_iconst hX dX8_leads_33 ki_1 ?_
      refine rh_ist5 hX dX8_leads_34 (by decide) rfl ?_
      refine (rh_loop (P := fun i => ∀ b, (topI (fun h => cHeld (fm u) h td) i b) → G X 36 [some (.ref (B 0)), some (.int (nI td)), some (.long (cAllHeld (fm u) td)), none, some (.int (nI b)), some (.int (nI i))] [] (wM E B u kp ik ps pm dd tx ty rw rm 0 sz he wr mn vl tp lt ra pf pt pl pd prc ns tu ba na ca bo tr tH asd pa tg sd sr)) (1) (8) (by omega) ?_ ?_) 0 (topI_1 _)
      · intro b hH
        have hb8 := hH.1
        refine rh_iload hX dX8_leads_36 rfl ?_
        refine rh_bipush hX dX8_leads_38 kb_8 ?_
        refine rh_icmp_ge_t (tgt := 70) hX dX8_leads_40 (by decide) (nI_le (a := 8) (b := 8) (Nat.le_refl 8) (by decide)) ?_
        refine rh_aload_n hX dX8_leads_70 rfl ?_
        refine rh_iconst hX dX8_leads_71 ki_0 ?_
        refine rh_put hX gl_X8_52 0 dX8_leads_72 rfl rfl rfl (Nat.le_of_ble_eq_true rfl) rfl ?_
        dsimp only [List.cons_append, List.nil_append, List.set_cons_succ, List.set_cons_zero, vput]
        refine rh_aload_n hX dX8_leads_75 rfl ?_
        refine rh_aload_n hX dX8_leads_76 rfl ?_
        refine rh_iload hX dX8_leads_77 rfl ?_
        refine rh_iload_n hX dX8_leads_79 rfl ?_
        refine rh_pV hX lk_X8_80 mvX8_sharesOf (fun l => c_X8_sharesOf l E _ _ _ _ _ _ _ _ _ _ _ _ _ _ _ _ _ _ _ _ _ _ _ _ _ _ _ _ _ _ _ _ _ _ _ _ _ _ b td (by omega) (by omega)) ⟨rfl, rfl⟩ ⟨Nat.le_of_ble_eq_true rfl, Nat.le_of_ble_eq_true rfl⟩ [0, 1, 2, 3, 4, 5, 6, 7, 8, 9, 10, 11, 12] rfl rfl 0 rfl dX8_leads_80 rfl rfl (Nat.le_of_ble_eq_true rfl) ?_
        refine rh_i2l hX dX8_leads_83 ?_
        rw [fm_held u (h := b) (t := td) (by omega) (by omega)]
        refine rh_lload_n hX dX8_leads_84 rfl ?_
        refine rh_pS hX lk_X8_305 msX8_thousandths (fun l => c_X8_thousandths l E _ _) ⟨rfl, rfl⟩ ⟨Nat.le_of_ble_eq_true rfl, Nat.le_of_ble_eq_true rfl⟩ [] rfl rfl dX8_leads_85 rfl rfl (Nat.le_of_ble_eq_true rfl) ?_
        rw [mThou _ _ (z_le.mpr (cAllHeld_b hB htd).1)]
        refine rh_uV hX lk_X8_299 mvX8_tell (fun l => c_X8_tell l E _ _ _ _ _ _ _ _ _ _ 0 _ _ _ _ _ _ _ _ _ _ _ _ _ _ _ _ _ _ _ _ _ _ _ _ _ _ _ _ (by omega)) ⟨rfl, rfl⟩ ⟨Nat.le_of_ble_eq_true rfl, Nat.le_of_ble_eq_true rfl⟩ [0, 1, 2, 3, 4, 5, 6, 7, 8, 9, 10, 11, 12] rfl rfl 0 rfl dX8_leads_88 rfl rfl (Nat.le_of_ble_eq_true rfl) rfl ?_
        dsimp only [List.cons_append, List.nil_append, List.set_cons_succ, List.set_cons_zero, vput]
        refine rh_aload_n hX dX8_leads_91 rfl ?_
        refine rh_ldc2 hX dX8_leads_92 kl_X8_152 ?_
        refine rh_aload_n hX dX8_leads_95 rfl ?_
        refine rh_iload hX dX8_leads_96 rfl ?_
        refine rh_iload_n hX dX8_leads_98 rfl ?_
        refine rh_pV hX lk_X8_80 mvX8_sharesOf (fun l => c_X8_sharesOf l E _ _ _ _ _ _ _ _ _ _ _ _ _ _ _ _ _ _ _ _ _ _ _ _ _ _ _ _ _ _ _ _ _ _ _ _ _ _ b td (by omega) (by omega)) ⟨rfl, rfl⟩ ⟨Nat.le_of_ble_eq_true rfl, Nat.le_of_ble_eq_true rfl⟩ [0, 1, 2, 3, 4, 5, 6, 7, 8, 9, 10, 11, 12] rfl rfl 0 rfl dX8_leads_99 rfl rfl (Nat.le_of_ble_eq_true rfl) ?_
        refine rh_i2l hX dX8_leads_102 ?_
        rw [fm_held u (h := b) (t := td) (by omega) (by omega)]
        refine rh_lmul hX dX8_leads_103 ?_
        refine rh_lload_n hX dX8_leads_104 rfl ?_
        refine rh_lle (tgt := 113) hX dX8_leads_105 dX8_leads_106 (by decide) (fun h106 => ?_) (fun h106 => ?_)
        · skip
          refine rh_lconst hX dX8_leads_113 kL_0 ?_
          refine rh_uV hX lk_X8_299 mvX8_tell (fun l => c_X8_tell l E _ _ _ _ _ _ _ _ _ _ (0 + 1) _ _ _ _ _ _ _ _ _ _ _ _ _ _ _ _ _ _ _ _ _ _ _ _ _ _ _ _ (by omega)) ⟨rfl, rfl⟩ ⟨Nat.le_of_ble_eq_true rfl, Nat.le_of_ble_eq_true rfl⟩ [0, 1, 2, 3, 4, 5, 6, 7, 8, 9, 10, 11, 12] rfl rfl 0 rfl dX8_leads_114 rfl rfl (Nat.le_of_ble_eq_true rfl) rfl ?_
          dsimp only [List.cons_append, List.nil_append, List.set_cons_succ, List.set_cons_zero, vput]
          refine rh_iload hX dX8_leads_117 rfl ?_
          exact rh_iret hX hR dX8_leads_119 (by simp only [List.map_cons, List.map_nil, List.cons_append, List.nil_append]) (by first | (refine ⟨(va_up (va_up rw 0 _) (0 + 1) _), (0 + 1 + 1), ?ga, ?gb, rfl⟩; (case ga => rw [x_leads, if_neg h10, nI_clamp (show td < 2 ^ 31 by omega), hCu, if_neg h24, show UhF C td = (fun h => cHeld (fm u) h td) by unfold UhF; rw [hCu], topI_8 hH]); (case gb => rw [x_leads, if_neg h10, nI_clamp (show td < 2 ^ 31 by omega), hCu, if_neg h24, show UhF C td = (fun h => cHeld (fm u) h td) by unfold UhF; rw [hCu], topI_8 hH, if_pos h106]; exact ⟨rowOk2 _ _ _, rfl⟩)) | (refine ⟨(va_up (va_up rw 0 _) (0 + 1) _), (0 + 1 + 1), ?ga, ?gb, rfl⟩; (case ga => rw [x_leads, if_neg h10, nI_clamp (show td < 2 ^ 31 by omega), hCu, if_neg h24, show UhF C td = (fun h => cHeld (fm u) h td) by unfold UhF; rw [hCu], topI_8 hH]); (case gb => rw [x_leads, if_neg h10, nI_clamp (show td < 2 ^ 31 by omega), hCu, if_neg h24, show UhF C td = (fun h => cHeld (fm u) h td) by unfold UhF; rw [hCu], topI_8 hH, if_neg h106]; exact ⟨rowOk2 _ _ _, rfl⟩)))
        · skip
          refine rh_lconst hX dX8_leads_109 kL_1 ?_
          refine rh_goto (tgt := 114) hX dX8_leads_110 (by decide) ?_
          refine rh_uV hX lk_X8_299 mvX8_tell (fun l => c_X8_tell l E _ _ _ _ _ _ _ _ _ _ (0 + 1) _ _ _ _ _ _ _ _ _ _ _ _ _ _ _ _ _ _ _ _ _ _ _ _ _ _ _ _ (by omega)) ⟨rfl, rfl⟩ ⟨Nat.le_of_ble_eq_true rfl, Nat.le_of_ble_eq_true rfl⟩ [0, 1, 2, 3, 4, 5, 6, 7, 8, 9, 10, 11, 12] rfl rfl 0 rfl dX8_leads_114 rfl rfl (Nat.le_of_ble_eq_true rfl) rfl ?_
          dsimp only [List.cons_append, List.nil_append, List.set_cons_succ, List.set_cons_zero, vput]
          refine rh_iload hX dX8_leads_117 rfl ?_
          exact rh_iret hX hR dX8_leads_119 (by simp only [List.map_cons, List.map_nil, List.cons_append, List.nil_append]) (by first | (refine ⟨(va_up (va_up rw 0 _) (0 + 1) _), (0 + 1 + 1), ?ga, ?gb, rfl⟩; (case ga => rw [x_leads, if_neg h10, nI_clamp (show td < 2 ^ 31 by omega), hCu, if_neg h24, show UhF C td = (fun h => cHeld (fm u) h td) by unfold UhF; rw [hCu], topI_8 hH]); (case gb => rw [x_leads, if_neg h10, nI_clamp (show td < 2 ^ 31 by omega), hCu, if_neg h24, show UhF C td = (fun h => cHeld (fm u) h td) by unfold UhF; rw [hCu], topI_8 hH, if_pos h106]; exact ⟨rowOk2 _ _ _, rfl⟩)) | (refine ⟨(va_up (va_up rw 0 _) (0 + 1) _), (0 + 1 + 1), ?ga, ?gb, rfl⟩; (case ga => rw [x_leads, if_neg h10, nI_clamp (show td < 2 ^ 31 by omega), hCu, if_neg h24, show UhF C td = (fun h => cHeld (fm u) h td) by unfold UhF; rw [hCu], topI_8 hH]); (case gb => rw [x_leads, if_neg h10, nI_clamp (show td < 2 ^ 31 by omega), hCu, if_neg h24, show UhF C td = (fun h => cHeld (fm u) h td) by unfold UhF; rw [hCu], topI_8 hH, if_neg h106]; exact ⟨rowOk2 _ _ _, rfl⟩)))
      · intro i hi0 hi ih b hH
        have hb8 := hH.1
        refine rh_iload hX dX8_leads_36 rfl ?_
        refine rh_bipush hX dX8_leads_38 kb_8 ?_
        refine rh_icmp_ge_f (tgt := 70) hX dX8_leads_40 (by decide) (nI_ge (b := 8) hi (by decide)) ?_
        refine rh_aload_n hX dX8_leads_43 rfl ?_
        refine rh_iload hX dX8_leads_44 rfl ?_
        refine rh_iload_n hX dX8_leads_46 rfl ?_
        refine rh_pV hX lk_X8_80 mvX8_sharesOf (fun l => c_X8_sharesOf l E _ _ _ _ _ _ _ _ _ _ _ _ _ _ _ _ _ _ _ _ _ _ _ _ _ _ _ _ _ _ _ _ _ _ _ _ _ _ i td (by omega) (by omega)) ⟨rfl, rfl⟩ ⟨Nat.le_of_ble_eq_true rfl, Nat.le_of_ble_eq_true rfl⟩ [0, 1, 2, 3, 4, 5, 6, 7, 8, 9, 10, 11, 12] rfl rfl 0 rfl dX8_leads_47 rfl rfl (Nat.le_of_ble_eq_true rfl) ?_
        refine rh_aload_n hX dX8_leads_50 rfl ?_
        refine rh_iload hX dX8_leads_51 rfl ?_
        refine rh_iload_n hX dX8_leads_53 rfl ?_
        refine rh_pV hX lk_X8_80 mvX8_sharesOf (fun l => c_X8_sharesOf l E _ _ _ _ _ _ _ _ _ _ _ _ _ _ _ _ _ _ _ _ _ _ _ _ _ _ _ _ _ _ _ _ _ _ _ _ _ _ b td (by omega) (by omega)) ⟨rfl, rfl⟩ ⟨Nat.le_of_ble_eq_true rfl, Nat.le_of_ble_eq_true rfl⟩ [0, 1, 2, 3, 4, 5, 6, 7, 8, 9, 10, 11, 12] rfl rfl 0 rfl dX8_leads_54 rfl rfl (Nat.le_of_ble_eq_true rfl) ?_
        refine rh_icmp_le (tgt := 64) hX dX8_leads_57 (by decide) (fun h57 => ?_) (fun h57 => ?_)
        · skip
          refine rh_inc5 hX dX8_leads_64 (by decide) rfl (rn_i1 _) ?_
          refine rh_goto (tgt := 36) hX dX8_leads_67 (by decide) ?_
          first | exact ih _ (topI_g hH (show cHeld (fm u) b td < cHeld (fm u) i td by rw [← fm_held u (h := b) (t := td) (by omega) (by omega), ← fm_held u (h := i) (t := td) (by omega) (by omega), i64_lt]; rw [z_lt32]; rw [z_le32] at h57; omega)) | exact ih _ (topI_s hH (show ¬ cHeld (fm u) b td < cHeld (fm u) i td by rw [← fm_held u (h := b) (t := td) (by omega) (by omega), ← fm_held u (h := i) (t := td) (by omega) (by omega), i64_lt]; rw [z_lt32]; rw [z_le32] at h57; omega))
        · skip
          refine rh_iload hX dX8_leads_60 rfl ?_
          refine rh_ist4 hX dX8_leads_62 (by decide) rfl ?_
          refine rh_inc5 hX dX8_leads_64 (by decide) rfl (rn_i1 _) ?_
          refine rh_goto (tgt := 36) hX dX8_leads_67 (by decide) ?_
          first | exact ih _ (topI_g hH (show cHeld (fm u) b td < cHeld (fm u) i td by rw [← fm_held u (h := b) (t := td) (by omega) (by omega), ← fm_held u (h := i) (t := td) (by omega) (by omega), i64_lt]; rw [z_lt32]; rw [z_le32] at h57; omega)) | exact ih _ (topI_s hH (show ¬ cHeld (fm u) b td < cHeld (fm u) i td by rw [← fm_held u (h := b) (t := td) (by omega) (by omega), ← fm_held u (h := i) (t := td) (by omega) (by omega), i64_lt]; rw [z_lt32]; rw [z_le32] at h57; omega))
    · skip
      refine rh_bipush hX dX8_leads_27 kb_m2 ?_
      exact rh_iret hX hR dX8_leads_29 (by simp only [List.map_cons, List.map_nil, List.cons_append, List.nil_append]) (by first | exact ⟨rw, rm, by rw [x_leads, if_neg h10, nI_clamp (show td < 2 ^ 31 by omega), hCu, if_pos h24] <;> rfl, by rw [x_leads, if_neg h10, nI_clamp (show td < 2 ^ 31 by omega), hCu, if_pos h24]; exact ⟨rfl, rfl⟩, rfl⟩)
  · skip
    refine rh_iconst hX dX8_leads_13 ki_m1 ?_
    exact rh_iret hX hR dX8_leads_14 (by simp only [List.map_cons, List.map_nil, List.cons_append, List.nil_append]) (by first | exact ⟨rw, rm, by rw [x_leads, if_pos h10] <;> rfl, by rw [x_leads, if_pos h10]; exact ⟨rfl, rfl⟩, rfl⟩)
