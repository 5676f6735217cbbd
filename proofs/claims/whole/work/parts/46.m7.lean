theorem cQuot_0 {a b : Int64} (h : b = 0) : cQuot a b = 0 := by
  unfold cQuot
  rw [if_neg (by rw [h]; decide)]
theorem cQuot_n {a b : Int64} (h : ¬ b = 0) (h0 : 0 ≤ b) : cQuot a b = a / b := by
  unfold cQuot
  rw [if_pos ?_]
  rw [Int64.lt_iff_toInt_lt]
  rw [Int64.le_iff_toInt_le] at h0
  have : b.toInt ≠ 0 := fun q => h (Int64.toInt_inj.mp q)
  rw [show (0 : Int64).toInt = 0 by decide] at h0 ⊢
  omega

set_option maxRecDepth 100000 in
set_option maxHeartbeats 4000000 in
theorem c_X8_needs (l : Launch) (E : rhE) (B : Nat → Nat) (u : Nat → Int32) (kp : Nat → Int32) (ik : Int32) (ps : Nat → Int32) (pm : Nat) (dd : Int32) (tx : Nat → Int32) (ty : Nat) (rw : Nat → Int64) (rm : Nat) (th : Int32) (sz : Nat) (he : Nat) (wr : Int32) (mn : Nat → Int32) (vl : Int32) (tp : Int32) (lt : Int32) (ra : Int32) (pf : Int32) (pt : Int32) (pl : Int32) (pd : Int64) (prc : Int64) (ns : Int64) (tu : Nat) (ba : Int64) (na : Int64) (ca : Nat → Int64) (bo : Nat → Int32) (tr : Nat → Int64) (tH : Int32) (asd : Nat → Int32) (pa : Nat → Int64) (tg : Nat → Int64) (sd : Int64) (sr : Int64) (h n : Int32) (C : CT) (hCu : C.1 = fm u) (T : Nat) (hM : mOk u T) (hS : 0 ≤ cSize (fm u) T) : Ctr l E yX8_needs cX8_needs 5 (some .int) (rmL 5) [.ref (B 0), .int h, .int n] (wM E B u kp ik ps pm dd tx ty rw rm th sz he wr mn vl tp lt ra pf pt pl pd prc ns tu ba na ca bo tr tH asd pa tg sd sr) (One (some (.int (x_needs C T h n))) (wM E B u kp ik ps pm dd tx ty rw rm 0 sz he wr mn vl tp lt ra pf pt pl pd prc ns tu ba na ca bo tr tH asd pa tg sd sr)) := by
  refine Ctr.of (by decide) (Nat.le_of_ble_eq_true rfl) rfl rfl 2 ?_
  intro X hX hR
  obtain ⟨hT, hT1, hT6, hcv⟩ := id hM
  refine rh_aload_n hX dX8_needs_0 rfl ?_
  refine rh_iconst hX dX8_needs_1 ki_0 ?_
  refine rh_put hX gl_X8_48 0 dX8_needs_2 rfl rfl rfl (Nat.le_of_ble_eq_true rfl) rfl ?_
  dsimp only [List.cons_append, List.nil_append, List.set_cons_succ, List.set_cons_zero, vput]
  refine rh_iload_n hX dX8_needs_5 rfl ?_
  refine rh_pS hX lk_X8_140 msX8_isHolder (fun l => c_X8_isHolderH l E _) ⟨rfl, rfl⟩ ⟨Nat.le_of_ble_eq_true rfl, Nat.le_of_ble_eq_true rfl⟩ [] rfl rfl dX8_needs_6 rfl rfl (Nat.le_of_ble_eq_true rfl) ?_
  refine rh_if_eq (tgt := 24) hX dX8_needs_9 (by decide) (fun h9 => ?_) (fun h9 => ?_)
  · skip
    refine rh_iconst hX dX8_needs_24 ki_m1 ?_
    exact rh_iret hX hR dX8_needs_25 (by simp only [List.map_cons, List.map_nil, List.cons_append, List.nil_append]) ⟨by first | (rw [x_needs, if_pos h9] <;> rfl) | (rw [x_needs, if_neg h9, if_pos h21] <;> rfl), rfl⟩
  · skip
    obtain ⟨hd, rfl, hdl⟩ := xH_1 h9
    refine rh_iload_n hX dX8_needs_12 rfl ?_
    refine rh_i2l hX dX8_needs_13 ?_
    refine rh_lconst hX dX8_needs_14 kL_1 ?_
    refine rh_ldc2 hX dX8_needs_15 kl_X8_131 ?_
    refine rh_pS hX lk_X8_58 msX8_in (fun l => c_X8_in l E _ _ _) ⟨rfl, rfl⟩ ⟨Nat.le_of_ble_eq_true rfl, Nat.le_of_ble_eq_true rfl⟩ [] rfl rfl dX8_needs_18 rfl rfl (Nat.le_of_ble_eq_true rfl) ?_
    rw [xIn_U]
    refine rh_if_ne (tgt := 26) hX dX8_needs_21 (by decide) (fun h21 => ?_) (fun h21 => ?_)
    · skip
      refine rh_aload_n hX dX8_needs_26 rfl ?_
      refine rh_pV hX lk_X8_143 mvX8_fullNow (fun l => c_X8_fullNow l E _ _ _ _ _ _ _ _ _ _ _ _ _ _ _ _ _ _ _ _ _ _ _ _ _ _ _ _ _ _ _ _ _ _ _ _ _ _ T hM) ⟨rfl, rfl⟩ ⟨Nat.le_of_ble_eq_true rfl, Nat.le_of_ble_eq_true rfl⟩ [0, 1, 2, 3, 4, 5, 6, 7, 8, 9, 10, 11, 12] rfl rfl 0 rfl dX8_needs_27 rfl rfl (Nat.le_of_ble_eq_true rfl) ?_
      refine rh_lstn3 hX dX8_needs_30 (by decide) rfl ?_
      refine rh_lload_n hX dX8_needs_31 rfl ?_
      refine rh_lconst hX dX8_needs_32 kL_0 ?_
      refine rh_lne (tgt := 41) hX dX8_needs_33 dX8_needs_34 (by decide) (fun h34 => ?_) (fun h34 => ?_)
      · skip
        refine rh_iload_n hX dX8_needs_41 rfl ?_
        refine rh_i2l hX dX8_needs_42 ?_
        refine rh_aload_n hX dX8_needs_43 rfl ?_
        refine rh_iload_n hX dX8_needs_44 rfl ?_
        refine rh_pV hX lk_X8_149 mvX8_stakeOf (fun l => c_X8_stakeOf l E _ _ _ _ _ _ _ _ _ _ _ _ _ _ _ _ _ _ _ _ _ _ _ _ _ _ _ _ _ _ _ _ _ _ _ _ _ _ hd T hM (by omega)) ⟨rfl, rfl⟩ ⟨Nat.le_of_ble_eq_true rfl, Nat.le_of_ble_eq_true rfl⟩ [0, 1, 2, 3, 4, 5, 6, 7, 8, 9, 10, 11, 12] rfl rfl 0 rfl dX8_needs_45 rfl rfl (Nat.le_of_ble_eq_true rfl) ?_
        refine rh_lmul hX dX8_needs_48 ?_
        refine rh_lload_n hX dX8_needs_49 rfl ?_
        refine rh_ladd hX dX8_needs_50 ?_
        refine rh_lconst hX dX8_needs_51 kL_1 ?_
        refine rh_lsub hX dX8_needs_52 ?_
        refine rh_lload_n hX dX8_needs_53 rfl ?_
        refine rh_ldiv hX dX8_needs_54 h34 ?_
        refine rh_l2i hX dX8_needs_55 ?_
        exact rh_iret hX hR dX8_needs_56 (by simp only [List.map_cons, List.map_nil, List.cons_append, List.nil_append]) ⟨by first | (rw [x_needs, if_neg h9, if_neg h21, nI_clamp (show hd < 2 ^ 31 by omega), hCu, cQuot_0 h34] <;> rfl) | (rw [x_needs, if_neg h9, if_neg h21, nI_clamp (show hd < 2 ^ 31 by omega), hCu, cQuot_n h34 hS] <;> rfl), rfl⟩
      · skip
        refine rh_iconst hX dX8_needs_37 ki_0 ?_
        refine rh_goto (tgt := 56) hX dX8_needs_38 (by decide) ?_
        exact rh_iret hX hR dX8_needs_56 (by simp only [List.map_cons, List.map_nil, List.cons_append, List.nil_append]) ⟨by first | (rw [x_needs, if_neg h9, if_neg h21, nI_clamp (show hd < 2 ^ 31 by omega), hCu, cQuot_0 h34] <;> rfl) | (rw [x_needs, if_neg h9, if_neg h21, nI_clamp (show hd < 2 ^ 31 by omega), hCu, cQuot_n h34 hS] <;> rfl), rfl⟩
    · skip
      refine rh_iconst hX dX8_needs_24 ki_m1 ?_
      exact rh_iret hX hR dX8_needs_25 (by simp only [List.map_cons, List.map_nil, List.cons_append, List.nil_append]) ⟨by first | (rw [x_needs, if_pos h9] <;> rfl) | (rw [x_needs, if_neg h9, if_pos h21] <;> rfl), rfl⟩

set_option maxRecDepth 100000 in
set_option maxHeartbeats 4000000 in
theorem c_X8_paid (l : Launch) (E : rhE) (B : Nat → Nat) (u : Nat → Int32) (kp : Nat → Int32) (ik : Int32) (ps : Nat → Int32) (pm : Nat) (dd : Int32) (tx : Nat → Int32) (ty : Nat) (rw : Nat → Int64) (rm : Nat) (th : Int32) (sz : Nat) (he : Nat) (wr : Int32) (mn : Nat → Int32) (vl : Int32) (tp : Int32) (lt : Int32) (ra : Int32) (pf : Int32) (pt : Int32) (pl : Int32) (pd : Int64) (prc : Int64) (ns : Int64) (tu : Nat) (ba : Int64) (na : Int64) (ca : Nat → Int64) (bo : Nat → Int32) (tr : Nat → Int64) (tH : Int32) (asd : Nat → Int32) (pa : Nat → Int64) (tg : Nat → Int64) (sd : Int64) (sr : Int64) (h : Int32) (C : CT) (hCu : C.1 = fm u) (T : Nat) (hM : mOk u T)  : Ctr l E yX8_paid cX8_paid 3 (some .int) (rmL 5) [.ref (B 0), .int h] (wM E B u kp ik ps pm dd tx ty rw rm th sz he wr mn vl tp lt ra pf pt pl pd prc ns tu ba na ca bo tr tH asd pa tg sd sr) (fun r w => ∃ rw1 rm1, r = some (Value.int (x_paid C T h).1) ∧ mTold rw rm rw1 rm1 (x_paid C T h).2 ∧ w = (wM E B u kp ik ps pm dd tx ty rw1 rm1 0 sz he wr mn vl tp lt ra pf pt pl pd prc ns tu ba na ca bo tr tH asd pa tg sd sr)) := by
  refine Ctr.of (by decide) (Nat.le_of_ble_eq_true rfl) rfl rfl 1 ?_
  intro X hX hR
  obtain ⟨hT, hT1, hT6, hcv⟩ := id hM
  refine rh_aload_n hX dX8_paid_0 rfl ?_
  refine rh_iconst hX dX8_paid_1 ki_0 ?_
  refine rh_put hX gl_X8_48 0 dX8_paid_2 rfl rfl rfl (Nat.le_of_ble_eq_true rfl) rfl ?_
  dsimp only [List.cons_append, List.nil_append, List.set_cons_succ, List.set_cons_zero, vput]
  refine rh_iload_n hX dX8_paid_5 rfl ?_
  refine rh_pS hX lk_X8_140 msX8_isHolder (fun l => c_X8_isHolderH l E _) ⟨rfl, rfl⟩ ⟨Nat.le_of_ble_eq_true rfl, Nat.le_of_ble_eq_true rfl⟩ [] rfl rfl dX8_paid_6 rfl rfl (Nat.le_of_ble_eq_true rfl) ?_
  refine rh_if_ne (tgt := 14) hX dX8_paid_9 (by decide) (fun h9 => ?_) (fun h9 => ?_)
  · skip
    obtain ⟨hd, rfl, hdl⟩ := xH_1 h9
    refine rh_aload_n hX dX8_paid_14 rfl ?_
    refine rh_iconst hX dX8_paid_15 ki_0 ?_
    refine rh_put hX gl_X8_52 0 dX8_paid_16 rfl rfl rfl (Nat.le_of_ble_eq_true rfl) rfl ?_
    dsimp only [List.cons_append, List.nil_append, List.set_cons_succ, List.set_cons_zero, vput]
    refine rh_iconst hX dX8_paid_19 ki_1 ?_
    refine rh_istn2 hX dX8_paid_20 (by decide) rfl ?_
    refine (rh_loop (P := fun c => ∀ g1, rowOk g1 ((List.range (c - 1)).map (fun k => cGiven (fm u) hd (k + 1))) → G X 21 [some (.ref (B 0)), some (.int (nI hd)), some (.int (nI c))] [] (wM E B u kp ik ps pm dd tx ty g1 (c - 1) 0 sz he wr mn vl tp lt ra pf pt pl pd prc ns tu ba na ca bo tr tH asd pa tg sd sr)) (1) (T) (by omega) ?_ ?_) _ (rowOk_nil _)
    · intro g1 hg
      refine rh_iload_n hX dX8_paid_21 rfl ?_
      refine rh_aload_n hX dX8_paid_22 rfl ?_
      refine rh_get hX gl_X8_7 0 dX8_paid_23 rfl rfl ?_
      refine rh_bipush hX dX8_paid_26 kb_57 ?_
      refine rh_iaload hX 1 _ dX8_paid_28 rfl rn_c57 (by omega) (by decide) ?_
      refine rh_icmp_ge_t (tgt := 57) hX dX8_paid_29 (by decide) (by rw [hT]; exact nI_le (Nat.le_refl T) (by omega)) ?_
      refine rh_aload_n hX dX8_paid_57 rfl ?_
      refine rh_iload_n hX dX8_paid_58 rfl ?_
      refine rh_pV hX lk_X8_330 mvX8_gave (fun l => c_X8_gave l E _ _ _ _ _ _ _ _ _ _ _ _ _ _ _ _ _ _ _ _ _ _ _ _ _ _ _ _ _ _ _ _ _ _ _ _ _ _ hd T hM (by omega)) ⟨rfl, rfl⟩ ⟨Nat.le_of_ble_eq_true rfl, Nat.le_of_ble_eq_true rfl⟩ [0, 1, 2, 3, 4, 5, 6, 7, 8, 9, 10, 11, 12] rfl rfl 0 rfl dX8_paid_59 rfl rfl (Nat.le_of_ble_eq_true rfl) ?_
      refine rh_l2i hX dX8_paid_62 ?_
      exact rh_iret hX hR dX8_paid_63 (by simp only [List.map_cons, List.map_nil, List.cons_append, List.nil_append]) ⟨g1, T - 1, by rw [x_paid, if_neg h9, nI_clamp (show hd < 2 ^ 31 by omega), hCu], by rw [x_paid, if_neg h9, nI_clamp (show hd < 2 ^ 31 by omega), hCu]; exact ⟨hg, by rw [List.length_map, List.length_range]⟩, rfl⟩
    · intro c hc0 hc ihc g1 hg
      obtain ⟨e, rfl⟩ : ∃ e, c = e + 1 := ⟨c - 1, by omega⟩
      refine rh_iload_n hX dX8_paid_21 rfl ?_
      refine rh_aload_n hX dX8_paid_22 rfl ?_
      refine rh_get hX gl_X8_7 0 dX8_paid_23 rfl rfl ?_
      refine rh_bipush hX dX8_paid_26 kb_57 ?_
      refine rh_iaload hX 1 _ dX8_paid_28 rfl rn_c57 (by omega) (by decide) ?_
      refine rh_icmp_ge_f (tgt := 57) hX dX8_paid_29 (by decide) (by rw [hT]; exact nI_ge hc (by omega)) ?_
      refine rh_aload_n hX dX8_paid_32 rfl ?_
      refine rh_aload_n hX dX8_paid_33 rfl ?_
      refine rh_get hX gl_X8_7 0 dX8_paid_34 rfl rfl ?_
      refine rh_bipush hX dX8_paid_37 kb_124 ?_
      refine rh_bipush hX dX8_paid_39 kb_6 ?_
      refine rh_iload_n hX dX8_paid_41 rfl ?_
      refine rh_imul hX dX8_paid_42 ?_
      refine rh_iadd hX dX8_paid_43 ?_
      refine rh_iload_n hX dX8_paid_44 rfl ?_
      refine rh_iadd hX dX8_paid_45 ?_
      refine rh_iaload hX 1 _ dX8_paid_46 rfl (rn_a (rn_a rn_c124 (rn_m rn_c6 rfl)) rfl) (by omega) (by decide) ?_
      refine rh_i2l hX dX8_paid_47 ?_
      rw [fm_given u (h := hd) (t := e + 1) (by omega) (by omega)]
      refine rh_uV hX lk_X8_299 mvX8_tell (fun l => c_X8_tell l E _ _ _ _ _ _ _ _ _ _ e _ _ _ _ _ _ _ _ _ _ _ _ _ _ _ _ _ _ _ _ _ _ _ _ _ _ _ _ (by omega)) ⟨rfl, rfl⟩ ⟨Nat.le_of_ble_eq_true rfl, Nat.le_of_ble_eq_true rfl⟩ [0, 1, 2, 3, 4, 5, 6, 7, 8, 9, 10, 11, 12] rfl rfl 0 rfl dX8_paid_48 rfl rfl (Nat.le_of_ble_eq_true rfl) rfl ?_
      dsimp only [List.cons_append, List.nil_append, List.set_cons_succ, List.set_cons_zero, vput]
      refine rh_inc2 hX dX8_paid_51 (by decide) rfl (rn_i1 _) ?_
      refine rh_goto (tgt := 21) hX dX8_paid_54 (by decide) ?_
      exact ihc _ (by rw [show e + 1 + 1 - 1 = e + 1 by omega, range_push]; exact rowOk_push _ hg (by rw [List.length_map, List.length_range] <;> rfl))
  · skip
    refine rh_iconst hX dX8_paid_12 ki_m1 ?_
    exact rh_iret hX hR dX8_paid_13 (by simp only [List.map_cons, List.map_nil, List.cons_append, List.nil_append]) (by first | exact ⟨rw, rm, by rw [x_paid, if_pos h9] <;> rfl, by rw [x_paid, if_pos h9]; exact ⟨rfl, rfl⟩, rfl⟩)

set_option maxRecDepth 100000 in
set_option maxHeartbeats 4000000 in
theorem c_X8_value (l : Launch) (E : rhE) (B : Nat → Nat) (u : Nat → Int32) (kp : Nat → Int32) (ik : Int32) (ps : Nat → Int32) (pm : Nat) (dd : Int32) (tx : Nat → Int32) (ty : Nat) (rw : Nat → Int64) (rm : Nat) (th : Int32) (sz : Nat) (he : Nat) (wr : Int32) (mn : Nat → Int32) (vl : Int32) (tp : Int32) (lt : Int32) (ra : Int32) (pf : Int32) (pt : Int32) (pl : Int32) (pd : Int64) (prc : Int64) (ns : Int64) (tu : Nat) (ba : Int64) (na : Int64) (ca : Nat → Int64) (bo : Nat → Int32) (tr : Nat → Int64) (tH : Int32) (asd : Nat → Int32) (pa : Nat → Int64) (tg : Nat → Int64) (sd : Int64) (sr : Int64)  (C : CT) (hCu : C.1 = fm u) (T : Nat) (hM : mOk u T)  : Ctr l E yX8_value cX8_value 2 (some .int) (rmL 5) [.ref (B 0)] (wM E B u kp ik ps pm dd tx ty rw rm th sz he wr mn vl tp lt ra pf pt pl pd prc ns tu ba na ca bo tr tH asd pa tg sd sr) (fun r w => ∃ rw1 rm1, r = some (Value.int (x_value C T).1) ∧ mTold rw rm rw1 rm1 (x_value C T).2 ∧ w = (wM E B u kp ik ps pm dd tx ty rw1 rm1 0 sz he wr mn vl tp lt ra pf pt pl pd prc ns tu ba na ca bo tr tH asd pa tg sd sr)) := by
  refine Ctr.of (by decide) (Nat.le_of_ble_eq_true rfl) rfl rfl 1 ?_
  intro X hX hR
  obtain ⟨hT, hT1, hT6, hcv⟩ := id hM
  refine rh_aload_n hX dX8_value_0 rfl ?_
  refine rh_iconst hX dX8_value_1 ki_0 ?_
  refine rh_put hX gl_X8_48 0 dX8_value_2 rfl rfl rfl (Nat.le_of_ble_eq_true rfl) rfl ?_
  dsimp only [List.cons_append, List.nil_append, List.set_cons_succ, List.set_cons_zero, vput]
  refine rh_aload_n hX dX8_value_5 rfl ?_
  refine rh_get hX gl_X8_7 0 dX8_value_6 rfl rfl ?_
  refine rh_bipush hX dX8_value_9 kb_57 ?_
  refine rh_iaload hX 1 _ dX8_value_11 rfl rn_c57 (by omega) (by decide) ?_
  rw [hT]
  refine rh_iconst hX dX8_value_12 ki_1 ?_
  refine rh_isub hX dX8_value_13 ?_
  rw [show nI T - 1 = nI (T - 1) from rn_sub (b := 1) hT1]
  refine rh_istn1 hX dX8_value_14 (by decide) rfl ?_
  refine rh_iload_n hX dX8_value_15 rfl ?_
  refine rh_if_ne (tgt := 22) hX dX8_value_16 (by decide) (fun h16 => ?_) (fun h16 => ?_)
  · skip
    have h16 : ¬ T = 1 := fun q => h16 (by rw [q]; rfl)
    refine rh_aload_n hX dX8_value_22 rfl ?_
    refine rh_iconst hX dX8_value_23 ki_0 ?_
    refine rh_put hX gl_X8_52 0 dX8_value_24 rfl rfl rfl (Nat.le_of_ble_eq_true rfl) rfl ?_
    dsimp only [List.cons_append, List.nil_append, List.set_cons_succ, List.set_cons_zero, vput]
    refine rh_aload_n hX dX8_value_27 rfl ?_
    refine rh_iload_n hX dX8_value_28 rfl ?_
    refine rh_i2l hX dX8_value_29 ?_
    refine rh_uV hX lk_X8_299 mvX8_tell (fun l => c_X8_tell l E _ _ _ _ _ _ _ _ _ _ 0 _ _ _ _ _ _ _ _ _ _ _ _ _ _ _ _ _ _ _ _ _ _ _ _ _ _ _ _ (by omega)) ⟨rfl, rfl⟩ ⟨Nat.le_of_ble_eq_true rfl, Nat.le_of_ble_eq_true rfl⟩ [0, 1, 2, 3, 4, 5, 6, 7, 8, 9, 10, 11, 12] rfl rfl 0 rfl dX8_value_30 rfl rfl (Nat.le_of_ble_eq_true rfl) rfl ?_
    dsimp only [List.cons_append, List.nil_append, List.set_cons_succ, List.set_cons_zero, vput]
    refine rh_aload_n hX dX8_value_33 rfl ?_
    refine rh_aload_n hX dX8_value_34 rfl ?_
    refine rh_get hX gl_X8_7 0 dX8_value_35 rfl rfl ?_
    refine rh_bipush hX dX8_value_38 kb_94 ?_
    refine rh_iconst hX dX8_value_40 ki_5 ?_
    refine rh_iload_n hX dX8_value_41 rfl ?_
    refine rh_imul hX dX8_value_42 ?_
    refine rh_iadd hX dX8_value_43 ?_
    refine rh_iaload hX 1 _ dX8_value_44 rfl (rn_a rn_c94 (rn_m rn_c5 rfl)) (by omega) (by decide) ?_
    refine rh_i2l hX dX8_value_45 ?_
    rw [show (u (94 + 5 * (T - 1))).toInt64 = cFact (fm u) (T - 1) 6 from fm_told u (k := 0) (by omega) (by omega)]
    refine rh_aload_n hX dX8_value_46 rfl ?_
    refine rh_get hX gl_X8_7 0 dX8_value_47 rfl rfl ?_
    refine rh_bipush hX dX8_value_50 kb_94 ?_
    refine rh_iconst hX dX8_value_52 ki_5 ?_
    refine rh_iload_n hX dX8_value_53 rfl ?_
    refine rh_imul hX dX8_value_54 ?_
    refine rh_iadd hX dX8_value_55 ?_
    refine rh_iconst hX dX8_value_56 ki_1 ?_
    refine rh_iadd hX dX8_value_57 ?_
    refine rh_iaload hX 1 _ dX8_value_58 rfl (rn_a (rn_a rn_c94 (rn_m rn_c5 rfl)) rn_c1) (by omega) (by decide) ?_
    refine rh_i2l hX dX8_value_59 ?_
    rw [show (u (94 + 5 * (T - 1) + 1)).toInt64 = cFact (fm u) (T - 1) 7 from fm_told u (k := 1) (by omega) (by omega)]
    refine rh_ladd hX dX8_value_60 ?_
    refine rh_uV hX lk_X8_299 mvX8_tell (fun l => c_X8_tell l E _ _ _ _ _ _ _ _ _ _ (0 + 1) _ _ _ _ _ _ _ _ _ _ _ _ _ _ _ _ _ _ _ _ _ _ _ _ _ _ _ _ (by omega)) ⟨rfl, rfl⟩ ⟨Nat.le_of_ble_eq_true rfl, Nat.le_of_ble_eq_true rfl⟩ [0, 1, 2, 3, 4, 5, 6, 7, 8, 9, 10, 11, 12] rfl rfl 0 rfl dX8_value_61 rfl rfl (Nat.le_of_ble_eq_true rfl) rfl ?_
    dsimp only [List.cons_append, List.nil_append, List.set_cons_succ, List.set_cons_zero, vput]
    refine rh_ldc2 hX dX8_value_64 kl_X8_333 ?_
    refine rh_aload_n hX dX8_value_67 rfl ?_
    refine rh_pV hX lk_X8_143 mvX8_fullNow (fun l => c_X8_fullNow l E _ _ _ _ _ _ _ _ _ _ _ _ _ _ _ _ _ _ _ _ _ _ _ _ _ _ _ _ _ _ _ _ _ _ _ _ _ _ T hM) ⟨rfl, rfl⟩ ⟨Nat.le_of_ble_eq_true rfl, Nat.le_of_ble_eq_true rfl⟩ [0, 1, 2, 3, 4, 5, 6, 7, 8, 9, 10, 11, 12] rfl rfl 0 rfl dX8_value_68 rfl rfl (Nat.le_of_ble_eq_true rfl) ?_
    refine rh_aload_n hX dX8_value_71 rfl ?_
    refine rh_get hX gl_X8_7 0 dX8_value_72 rfl rfl ?_
    refine rh_bipush hX dX8_value_75 kb_58 ?_
    refine rh_iload_n hX dX8_value_77 rfl ?_
    refine rh_iadd hX dX8_value_78 ?_
    refine rh_iaload hX 1 _ dX8_value_79 rfl (rn_a rn_c58 rfl) (by omega) (by decide) ?_
    refine rh_i2l hX dX8_value_80 ?_
    rw [show (u (58 + (T - 1))).toInt64 = cFact (fm u) (T - 1) 0 from fm_fact u (k := 0) (by omega) (by omega)]
    refine rh_lmul hX dX8_value_81 ?_
    refine rh_ldc2 hX dX8_value_82 kl_X8_267 ?_
    refine rh_ldiv hX dX8_value_85 (by decide) ?_
    refine rh_minl hX mm_X8_261 dX8_value_86 (Nat.le_of_ble_eq_true rfl) (Nat.le_of_ble_eq_true rfl) ?_
    refine rh_l2i hX dX8_value_89 ?_
    exact rh_iret hX hR dX8_value_90 (by simp only [List.map_cons, List.map_nil, List.cons_append, List.nil_append]) (by refine ⟨(va_up (va_up rw 0 _) (0 + 1) _), (0 + 1 + 1), ?ga, ?gb, rfl⟩; (case ga => rw [x_value, if_neg h16, hCu]; exact congrArg (fun z : Int64 => some (Value.int z.toInt32)) (minl_comm _ _)); (case gb => rw [x_value, if_neg h16, hCu]; exact ⟨rowOk2 _ _ _, rfl⟩))
  · skip
    have h16 : T = 1 := by have := nI_z h16 (by omega); omega
    refine rh_bipush hX dX8_value_19 kb_m2 ?_
    exact rh_iret hX hR dX8_value_21 (by simp only [List.map_cons, List.map_nil, List.cons_append, List.nil_append]) (by first | exact ⟨rw, rm, by rw [x_value, if_pos h16] <;> rfl, by rw [x_value, if_pos h16]; exact ⟨rfl, rfl⟩, rfl⟩)
