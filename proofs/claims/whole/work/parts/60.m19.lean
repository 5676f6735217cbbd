theorem nI_ex {w : Int32} (h : 0 ≤ w.toInt) : ∃ d : Nat, w = nI d ∧ (d : Int) = w.toInt := by
  have h2 := (z_rng32 w).2
  exact ⟨w.toInt.toNat, Int32.toInt_inj.mp (by rw [nI_toInt (by omega)]; omega), by omega⟩
theorem xIn_0 {w : Int32} {lo hi : Int64} : xIn w.toInt64 lo hi = 0 ↔ (w.toInt < lo.toInt ∨ hi.toInt < w.toInt) := by
  unfold xIn
  by_cases a : w.toInt64 < lo
  · rw [if_pos a]; rw [z_lt, z_l] at a; exact ⟨fun _ => Or.inl a, fun _ => rfl⟩
  · rw [if_neg a]
    rw [z_lt, z_l] at a
    by_cases b : hi < w.toInt64
    · rw [if_pos b]; rw [z_lt, z_l] at b; exact ⟨fun _ => Or.inr b, fun _ => rfl⟩
    · rw [if_neg b]
      rw [z_lt, z_l] at b
      exact ⟨fun q => absurd q (by decide), fun q => by omega⟩
theorem rng_no {α : Type} {w n : Int32} {lim : Int64} (hl : lim.toInt = n.toInt) {a z : α} (h : xIn w.toInt64 0 lim = 0) : (if w < 0 then a else if n < w then a else z) = a := by
  rw [xIn_0] at h
  by_cases q : w < 0
  · rw [if_pos q]
  · rw [if_neg q, if_pos]
    rw [z_lt32] at q ⊢
    rw [show (0 : Int32).toInt = 0 by decide] at q
    rw [show (0 : Int64).toInt = 0 by decide] at h
    omega
theorem rng_yes {α : Type} {w n : Int32} {lim : Int64} (hl : lim.toInt = n.toInt) {a z : α} (h : ¬ xIn w.toInt64 0 lim = 0) : (if w < 0 then a else if n < w then a else z) = z := by
  rw [xIn_0, show (0 : Int64).toInt = 0 by decide] at h
  rw [if_neg (fun q => by rw [z_lt32, show (0 : Int32).toInt = 0 by decide] at q; omega), if_neg (fun q => by rw [z_lt32] at q; omega)]
theorem rng_nI {w : Int32} {lim : Int64} (h : ¬ xIn w.toInt64 0 lim = 0) : ∃ d : Nat, w = nI d ∧ (d : Int) ≤ lim.toInt := by
  rw [xIn_0, show (0 : Int64).toInt = 0 by decide] at h
  obtain ⟨d, h1, h2⟩ := nI_ex (w := w) (by omega)
  exact ⟨d, h1, by omega⟩

set_option maxRecDepth 100000 in
set_option maxHeartbeats 4000000 in
theorem c_X8_told (l : Launch) (E : rhE) (B : Nat → Nat) (u : Nat → Int32) (kp : Nat → Int32) (ik : Int32) (ps : Nat → Int32) (pm : Nat) (dd : Int32) (tx : Nat → Int32) (ty : Nat) (rw : Nat → Int64) (rm : Nat) (th : Int32) (sz : Nat) (he : Nat) (wr : Int32) (mn : Nat → Int32) (vl : Int32) (tp : Int32) (lt : Int32) (ra : Int32) (pf : Int32) (pt : Int32) (pl : Int32) (pd : Int64) (prc : Int64) (ns : Int64) (tu : Nat) (ba : Int64) (na : Int64) (ca : Nat → Int64) (bo : Nat → Int32) (tr : Nat → Int64) (tH : Int32) (asd : Nat → Int32) (pa : Nat → Int64) (tg : Nat → Int64) (sd : Int64) (sr : Int64) (t wh : Int32) (C : CT) (hCu : C.1 = fm u) (T : Nat) (hM : mOk u T)  : Ctr l E yX8_told cX8_told 3 (some .int) (rmL 3) [.ref (B 0), .int t, .int wh] (wM E B u kp ik ps pm dd tx ty rw rm th sz he wr mn vl tp lt ra pf pt pl pd prc ns tu ba na ca bo tr tH asd pa tg sd sr) (One (some (.int (x_told C T t wh))) (wM E B u kp ik ps pm dd tx ty rw rm 0 sz he wr mn vl tp lt ra pf pt pl pd prc ns tu ba na ca bo tr tH asd pa tg sd sr)) := by
  refine Ctr.of (by decide) (Nat.le_of_ble_eq_true rfl) rfl rfl 0 ?_
  intro X hX hR
  obtain ⟨hT, hT1, hT6, hcv⟩ := id hM
  refine rh_aload_n hX dX8_told_0 rfl ?_
  refine rh_iconst hX dX8_told_1 ki_0 ?_
  refine rh_put hX gl_X8_48 0 dX8_told_2 rfl rfl rfl (Nat.le_of_ble_eq_true rfl) rfl ?_
  dsimp only [List.cons_append, List.nil_append, List.set_cons_succ, List.set_cons_zero, vput]
  refine rh_aload_n hX dX8_told_5 rfl ?_
  refine rh_iload_n hX dX8_told_6 rfl ?_
  refine rh_pV hX lk_X8_162 mvX8_isRound (fun l => c_X8_isRound l E _ _ _ _ _ _ _ _ _ _ _ _ _ _ _ _ _ _ _ _ _ _ _ _ _ _ _ _ _ _ _ _ _ _ _ _ _ _ _ T hM) ⟨rfl, rfl⟩ ⟨Nat.le_of_ble_eq_true rfl, Nat.le_of_ble_eq_true rfl⟩ [0, 1, 2, 3, 4, 5, 6, 7, 8, 9, 10, 11, 12] rfl rfl 0 rfl dX8_told_7 rfl rfl (Nat.le_of_ble_eq_true rfl) ?_
  refine rh_if_eq (tgt := 41) hX dX8_told_10 (by decide) (fun h10 => ?_) (fun h10 => ?_)
  · skip
    refine rh_iconst hX dX8_told_41 ki_m1 ?_
    exact rh_iret hX hR dX8_told_42 (by simp only [List.map_cons, List.map_nil, List.cons_append, List.nil_append]) ⟨by first | (rw [x_told, if_pos h10]; done) | (rw [x_told, if_neg h10, rng_no (by decide) h22]; done) | (rw [x_told, if_neg h10, rng_yes (by decide) hw, nI_clamp (show td < 2 ^ 31 by omega), nI_clamp (show wd < 2 ^ 31 by omega), hCu, ← fm_told u (t := td) (k := wd) (by omega) (by omega), Int32.toInt32_toInt64]; done), rfl⟩
  · skip
    obtain ⟨td, rfl, htd1, htd⟩ := xSe_1 hT6 h10
    refine rh_iload_n hX dX8_told_13 rfl ?_
    refine rh_i2l hX dX8_told_14 ?_
    refine rh_lconst hX dX8_told_15 kL_0 ?_
    refine rh_ldc2 hX dX8_told_16 kl_X8_303 ?_
    refine rh_pS hX lk_X8_58 msX8_in (fun l => c_X8_in l E _ _ _) ⟨rfl, rfl⟩ ⟨Nat.le_of_ble_eq_true rfl, Nat.le_of_ble_eq_true rfl⟩ [] rfl rfl dX8_told_19 rfl rfl (Nat.le_of_ble_eq_true rfl) ?_
    refine rh_if_eq (tgt := 41) hX dX8_told_22 (by decide) (fun h22 => ?_) (fun h22 => ?_)
    · skip
      refine rh_iconst hX dX8_told_41 ki_m1 ?_
      exact rh_iret hX hR dX8_told_42 (by simp only [List.map_cons, List.map_nil, List.cons_append, List.nil_append]) ⟨by first | (rw [x_told, if_pos h10]; done) | (rw [x_told, if_neg h10, rng_no (by decide) h22]; done) | (rw [x_told, if_neg h10, rng_yes (by decide) hw, nI_clamp (show td < 2 ^ 31 by omega), nI_clamp (show wd < 2 ^ 31 by omega), hCu, ← fm_told u (t := td) (k := wd) (by omega) (by omega), Int32.toInt32_toInt64]; done), rfl⟩
    · skip
      have hw := h22
      obtain ⟨wd, rfl, hwd⟩ := rng_nI h22
      have hwd : wd ≤ 4 := by have : (4 : Int64).toInt = 4 := by decide
                              omega
      refine rh_aload_n hX dX8_told_25 rfl ?_
      refine rh_get hX gl_X8_7 0 dX8_told_26 rfl rfl ?_
      refine rh_bipush hX dX8_told_29 kb_94 ?_
      refine rh_iconst hX dX8_told_31 ki_5 ?_
      refine rh_iload_n hX dX8_told_32 rfl ?_
      refine rh_imul hX dX8_told_33 ?_
      refine rh_iadd hX dX8_told_34 ?_
      refine rh_iload_n hX dX8_told_35 rfl ?_
      refine rh_iadd hX dX8_told_36 ?_
      refine rh_iaload hX 1 (94 + 5 * td + wd) dX8_told_37 rfl (rn_a (rn_a rn_c94 (rn_m rn_c5 rfl)) rfl) (by omega) (by decide) ?_
      refine rh_goto (tgt := 42) hX dX8_told_38 (by decide) ?_
      exact rh_iret hX hR dX8_told_42 (by simp only [List.map_cons, List.map_nil, List.cons_append, List.nil_append]) ⟨by first | (rw [x_told, if_pos h10]; done) | (rw [x_told, if_neg h10, rng_no (by decide) h22]; done) | (rw [x_told, if_neg h10, rng_yes (by decide) hw, nI_clamp (show td < 2 ^ 31 by omega), nI_clamp (show wd < 2 ^ 31 by omega), hCu, ← fm_told u (t := td) (k := wd) (by omega) (by omega), Int32.toInt32_toInt64]; done), rfl⟩

set_option maxRecDepth 100000 in
set_option maxHeartbeats 4000000 in
theorem c_X8_type_0 (l : Launch) (E : rhE) (B : Nat → Nat) (u : Nat → Int32) (kp : Nat → Int32) (ik : Int32) (ps : Nat → Int32) (pm : Nat) (dd : Int32) (tx : Nat → Int32) (ty : Nat) (rw : Nat → Int64) (rm : Nat) (th : Int32) (sz : Nat) (he : Nat) (wr : Int32) (mn : Nat → Int32) (vl : Int32) (tp : Int32) (lt : Int32) (ra : Int32) (pf : Int32) (pt : Int32) (pl : Int32) (pd : Int64) (prc : Int64) (ns : Int64) (tu : Nat) (ba : Int64) (na : Int64) (ca : Nat → Int64) (bo : Nat → Int32) (tr : Nat → Int64) (tH : Int32) (asd : Nat → Int32) (pa : Nat → Int64) (tg : Nat → Int64) (sd : Int64) (sr : Int64) (t : Int32) (C : CT) (hCu : C.1 = fm u) (T : Nat) (hM : mOk u T)  : Ctr l E yX8_type cX8_type 3 (some .int) (rmL 3) [.ref (B 0), .int t, .int (nI 0)] (wM E B u kp ik ps pm dd tx ty rw rm th sz he wr mn vl tp lt ra pf pt pl pd prc ns tu ba na ca bo tr tH asd pa tg sd sr) (One (some (.int (x_type C T t (nI 0)))) (wM E B u kp ik ps pm dd tx ty rw rm 0 sz he wr mn vl tp lt ra pf pt pl pd prc ns tu ba na ca bo tr tH asd pa tg sd sr)) := by
  refine Ctr.of (by decide) (Nat.le_of_ble_eq_true rfl) rfl rfl 0 ?_
  intro X hX hR
  obtain ⟨hT, hT1, hT6, hcv⟩ := id hM
  refine rh_aload_n hX dX8_type_0 rfl ?_
  refine rh_iconst hX dX8_type_1 ki_0 ?_
  refine rh_put hX gl_X8_48 0 dX8_type_2 rfl rfl rfl (Nat.le_of_ble_eq_true rfl) rfl ?_
  dsimp only [List.cons_append, List.nil_append, List.set_cons_succ, List.set_cons_zero, vput]
  refine rh_aload_n hX dX8_type_5 rfl ?_
  refine rh_iload_n hX dX8_type_6 rfl ?_
  refine rh_pV hX lk_X8_64 mvX8_isType (fun l => c_X8_isType l E _ _ _ _ _ _ _ _ _ _ _ _ _ _ _ _ _ _ _ _ _ _ _ _ _ _ _ _ _ _ _ _ _ _ _ _ _ _ _ T hM) ⟨rfl, rfl⟩ ⟨Nat.le_of_ble_eq_true rfl, Nat.le_of_ble_eq_true rfl⟩ [0, 1, 2, 3, 4, 5, 6, 7, 8, 9, 10, 11, 12] rfl rfl 0 rfl dX8_type_7 rfl rfl (Nat.le_of_ble_eq_true rfl) ?_
  refine rh_if_eq (tgt := 41) hX dX8_type_10 (by decide) (fun h10 => ?_) (fun h10 => ?_)
  · skip
    refine rh_iconst hX dX8_type_41 ki_m1 ?_
    exact rh_iret hX hR dX8_type_42 (by simp only [List.map_cons, List.map_nil, List.cons_append, List.nil_append]) ⟨by first | (rw [x_type, if_pos h10]; done) | (rw [x_type, if_neg h10, if_neg (by decide), if_neg (by decide), if_neg (by decide), if_neg (by decide), if_pos (by rw [h26]; rfl)]; done), rfl⟩
  · skip
    obtain ⟨td, rfl, htd⟩ := xTy_1 hT6 h10
    refine rh_iload_n hX dX8_type_13 rfl ?_
    refine rh_i2l hX dX8_type_14 ?_
    refine rh_lconst hX dX8_type_15 kL_0 ?_
    refine rh_ldc2 hX dX8_type_16 kl_X8_62 ?_
    refine rh_pS hX lk_X8_58 msX8_in (fun l => c_X8_in l E _ _ _) ⟨rfl, rfl⟩ ⟨Nat.le_of_ble_eq_true rfl, Nat.le_of_ble_eq_true rfl⟩ [] rfl rfl dX8_type_19 rfl rfl (Nat.le_of_ble_eq_true rfl) ?_
    refine rh_if_eq_f (tgt := 41) hX dX8_type_22 (by decide) (by decide) ?_
    refine rh_iload_n hX dX8_type_25 rfl ?_
    refine rh_if_ne (tgt := 43) hX dX8_type_26 (by decide) (fun h26 => ?_) (fun h26 => ?_)
    · skip
      have h26 : ¬ td = 0 := fun q => h26 (by rw [q]; rfl)
      refine rh_iload_n hX dX8_type_43 rfl ?_
      refine rh_tabIn (tgt := 92) (off := 48) hX dX8_type_44 (by decide) (by decide) (by decide) (by decide) ?_
      refine rh_aload_n hX dX8_type_92 rfl ?_
      refine rh_iload_n hX dX8_type_93 rfl ?_
      refine rh_pV hX lk_X8_154 mvX8_allShares (fun l => c_X8_allShares l E _ _ _ _ _ _ _ _ _ _ _ _ _ _ _ _ _ _ _ _ _ _ _ _ _ _ _ _ _ _ _ _ _ _ _ _ _ _ td (by omega)) ⟨rfl, rfl⟩ ⟨Nat.le_of_ble_eq_true rfl, Nat.le_of_ble_eq_true rfl⟩ [0, 1, 2, 3, 4, 5, 6, 7, 8, 9, 10, 11, 12] rfl rfl 0 rfl dX8_type_94 rfl rfl (Nat.le_of_ble_eq_true rfl) ?_
      refine rh_l2i hX dX8_type_97 ?_
      exact rh_iret hX hR dX8_type_98 (by simp only [List.map_cons, List.map_nil, List.cons_append, List.nil_append]) ⟨by first | (rw [x_type, if_neg h10, if_neg (by decide), if_neg (by decide), if_pos (by decide), nI_clamp (show td < 2 ^ 31 by omega), hCu]; done), rfl⟩
    · skip
      have h26 : td = 0 := nI_z h26 (by omega)
      refine rh_iload_n hX dX8_type_29 rfl ?_
      refine rh_i2l hX dX8_type_30 ?_
      refine rh_lconst hX dX8_type_31 kL_1 ?_
      refine rh_ldc2 hX dX8_type_32 kl_X8_319 ?_
      refine rh_pS hX lk_X8_58 msX8_in (fun l => c_X8_in l E _ _ _) ⟨rfl, rfl⟩ ⟨Nat.le_of_ble_eq_true rfl, Nat.le_of_ble_eq_true rfl⟩ [] rfl rfl dX8_type_35 rfl rfl (Nat.le_of_ble_eq_true rfl) ?_
      refine rh_if_eq_t (tgt := 43) hX dX8_type_38 (by decide) (by decide) ?_
      refine rh_iload_n hX dX8_type_43 rfl ?_
      refine rh_tabIn (tgt := 92) (off := 48) hX dX8_type_44 (by decide) (by decide) (by decide) (by decide) ?_
      refine rh_aload_n hX dX8_type_92 rfl ?_
      refine rh_iload_n hX dX8_type_93 rfl ?_
      refine rh_pV hX lk_X8_154 mvX8_allShares (fun l => c_X8_allShares l E _ _ _ _ _ _ _ _ _ _ _ _ _ _ _ _ _ _ _ _ _ _ _ _ _ _ _ _ _ _ _ _ _ _ _ _ _ _ td (by omega)) ⟨rfl, rfl⟩ ⟨Nat.le_of_ble_eq_true rfl, Nat.le_of_ble_eq_true rfl⟩ [0, 1, 2, 3, 4, 5, 6, 7, 8, 9, 10, 11, 12] rfl rfl 0 rfl dX8_type_94 rfl rfl (Nat.le_of_ble_eq_true rfl) ?_
      refine rh_l2i hX dX8_type_97 ?_
      exact rh_iret hX hR dX8_type_98 (by simp only [List.map_cons, List.map_nil, List.cons_append, List.nil_append]) ⟨by first | (rw [x_type, if_neg h10, if_neg (by decide), if_neg (by decide), if_pos (by decide), nI_clamp (show td < 2 ^ 31 by omega), hCu]; done), rfl⟩

set_option maxRecDepth 100000 in
set_option maxHeartbeats 4000000 in
theorem c_X8_type_1 (l : Launch) (E : rhE) (B : Nat → Nat) (u : Nat → Int32) (kp : Nat → Int32) (ik : Int32) (ps : Nat → Int32) (pm : Nat) (dd : Int32) (tx : Nat → Int32) (ty : Nat) (rw : Nat → Int64) (rm : Nat) (th : Int32) (sz : Nat) (he : Nat) (wr : Int32) (mn : Nat → Int32) (vl : Int32) (tp : Int32) (lt : Int32) (ra : Int32) (pf : Int32) (pt : Int32) (pl : Int32) (pd : Int64) (prc : Int64) (ns : Int64) (tu : Nat) (ba : Int64) (na : Int64) (ca : Nat → Int64) (bo : Nat → Int32) (tr : Nat → Int64) (tH : Int32) (asd : Nat → Int32) (pa : Nat → Int64) (tg : Nat → Int64) (sd : Int64) (sr : Int64) (t : Int32) (C : CT) (hCu : C.1 = fm u) (T : Nat) (hM : mOk u T)  : Ctr l E yX8_type cX8_type 3 (some .int) (rmL 3) [.ref (B 0), .int t, .int (nI 1)] (wM E B u kp ik ps pm dd tx ty rw rm th sz he wr mn vl tp lt ra pf pt pl pd prc ns tu ba na ca bo tr tH asd pa tg sd sr) (One (some (.int (x_type C T t (nI 1)))) (wM E B u kp ik ps pm dd tx ty rw rm 0 sz he wr mn vl tp lt ra pf pt pl pd prc ns tu ba na ca bo tr tH asd pa tg sd sr)) := by
  refine Ctr.of (by decide) (Nat.le_of_ble_eq_true rfl) rfl rfl 0 ?_
  intro X hX hR
  obtain ⟨hT, hT1, hT6, hcv⟩ := id hM
  refine rh_aload_n hX dX8_type_0 rfl ?_
  refine rh_iconst hX dX8_type_1 ki_0 ?_
  refine rh_put hX gl_X8_48 0 dX8_type_2 rfl rfl rfl (Nat.le_of_ble_eq_true rfl) rfl ?_
  dsimp only [List.cons_append, List.nil_append, List.set_cons_succ, List.set_cons_zero, vput]
  refine rh_aload_n hX dX8_type_5 rfl ?_
  refine rh_iload_n hX dX8_type_6 rfl ?_
  refine rh_pV hX lk_X8_64 mvX8_isType (fun l => c_X8_isType l E _ _ _ _ _ _ _ _ _ _ _ _ _ _ _ _ _ _ _ _ _ _ _ _ _ _ _ _ _ _ _ _ _ _ _ _ _ _ _ T hM) ⟨rfl, rfl⟩ ⟨Nat.le_of_ble_eq_true rfl, Nat.le_of_ble_eq_true rfl⟩ [0, 1, 2, 3, 4, 5, 6, 7, 8, 9, 10, 11, 12] rfl rfl 0 rfl dX8_type_7 rfl rfl (Nat.le_of_ble_eq_true rfl) ?_
  refine rh_if_eq (tgt := 41) hX dX8_type_10 (by decide) (fun h10 => ?_) (fun h10 => ?_)
  · skip
    refine rh_iconst hX dX8_type_41 ki_m1 ?_
    exact rh_iret hX hR dX8_type_42 (by simp only [List.map_cons, List.map_nil, List.cons_append, List.nil_append]) ⟨by first | (rw [x_type, if_pos h10]; done) | (rw [x_type, if_neg h10, if_neg (by decide), if_neg (by decide), if_neg (by decide), if_neg (by decide), if_pos (by rw [h26]; rfl)]; done), rfl⟩
  · skip
    obtain ⟨td, rfl, htd⟩ := xTy_1 hT6 h10
    refine rh_iload_n hX dX8_type_13 rfl ?_
    refine rh_i2l hX dX8_type_14 ?_
    refine rh_lconst hX dX8_type_15 kL_0 ?_
    refine rh_ldc2 hX dX8_type_16 kl_X8_62 ?_
    refine rh_pS hX lk_X8_58 msX8_in (fun l => c_X8_in l E _ _ _) ⟨rfl, rfl⟩ ⟨Nat.le_of_ble_eq_true rfl, Nat.le_of_ble_eq_true rfl⟩ [] rfl rfl dX8_type_19 rfl rfl (Nat.le_of_ble_eq_true rfl) ?_
    refine rh_if_eq_f (tgt := 41) hX dX8_type_22 (by decide) (by decide) ?_
    refine rh_iload_n hX dX8_type_25 rfl ?_
    refine rh_if_ne (tgt := 43) hX dX8_type_26 (by decide) (fun h26 => ?_) (fun h26 => ?_)
    · skip
      have h26 : ¬ td = 0 := fun q => h26 (by rw [q]; rfl)
      refine rh_iload_n hX dX8_type_43 rfl ?_
      refine rh_tabIn (tgt := 99) (off := 55) hX dX8_type_44 (by decide) (by decide) (by decide) (by decide) ?_
      refine rh_aload_n hX dX8_type_99 rfl ?_
      refine rh_get hX gl_X8_7 0 dX8_type_100 rfl rfl ?_
      refine rh_bipush hX dX8_type_103 kb_58 ?_
      refine rh_iload_n hX dX8_type_105 rfl ?_
      refine rh_iadd hX dX8_type_106 ?_
      refine rh_iaload hX 1 _ dX8_type_107 rfl (rn_a rn_c58 rfl) (by omega) (by decide) ?_
      exact rh_iret hX hR dX8_type_108 (by simp only [List.map_cons, List.map_nil, List.cons_append, List.nil_append]) ⟨by first | (rw [x_type, if_neg h10, if_neg (by decide), if_neg (by decide), if_neg (by decide), if_neg (by decide), if_neg (fun q => h26 (nI_z q (by omega))), nI_clamp (show td < 2 ^ 31 by omega), hCu, show cFact (fm u) td ((nI 1).toNatClampNeg - 1) = cFact (fm u) td 0 from rfl, ← fm_fact u (t := td) (k := 0) (by omega) (by omega), Int32.toInt32_toInt64]; done), rfl⟩
    · skip
      have h26 : td = 0 := nI_z h26 (by omega)
      refine rh_iload_n hX dX8_type_29 rfl ?_
      refine rh_i2l hX dX8_type_30 ?_
      refine rh_lconst hX dX8_type_31 kL_1 ?_
      refine rh_ldc2 hX dX8_type_32 kl_X8_319 ?_
      refine rh_pS hX lk_X8_58 msX8_in (fun l => c_X8_in l E _ _ _) ⟨rfl, rfl⟩ ⟨Nat.le_of_ble_eq_true rfl, Nat.le_of_ble_eq_true rfl⟩ [] rfl rfl dX8_type_35 rfl rfl (Nat.le_of_ble_eq_true rfl) ?_
      refine rh_if_eq_f (tgt := 43) hX dX8_type_38 (by decide) (by decide) ?_
      refine rh_iconst hX dX8_type_41 ki_m1 ?_
      exact rh_iret hX hR dX8_type_42 (by simp only [List.map_cons, List.map_nil, List.cons_append, List.nil_append]) ⟨by first | (rw [x_type, if_pos h10]; done) | (rw [x_type, if_neg h10, if_neg (by decide), if_neg (by decide), if_neg (by decide), if_neg (by decide), if_pos (by rw [h26]; rfl)]; done), rfl⟩

set_option maxRecDepth 100000 in
set_option maxHeartbeats 4000000 in
theorem c_X8_type_2 (l : Launch) (E : rhE) (B : Nat → Nat) (u : Nat → Int32) (kp : Nat → Int32) (ik : Int32) (ps : Nat → Int32) (pm : Nat) (dd : Int32) (tx : Nat → Int32) (ty : Nat) (rw : Nat → Int64) (rm : Nat) (th : Int32) (sz : Nat) (he : Nat) (wr : Int32) (mn : Nat → Int32) (vl : Int32) (tp : Int32) (lt : Int32) (ra : Int32) (pf : Int32) (pt : Int32) (pl : Int32) (pd : Int64) (prc : Int64) (ns : Int64) (tu : Nat) (ba : Int64) (na : Int64) (ca : Nat → Int64) (bo : Nat → Int32) (tr : Nat → Int64) (tH : Int32) (asd : Nat → Int32) (pa : Nat → Int64) (tg : Nat → Int64) (sd : Int64) (sr : Int64) (t : Int32) (C : CT) (hCu : C.1 = fm u) (T : Nat) (hM : mOk u T)  : Ctr l E yX8_type cX8_type 3 (some .int) (rmL 3) [.ref (B 0), .int t, .int (nI 2)] (wM E B u kp ik ps pm dd tx ty rw rm th sz he wr mn vl tp lt ra pf pt pl pd prc ns tu ba na ca bo tr tH asd pa tg sd sr) (One (some (.int (x_type C T t (nI 2)))) (wM E B u kp ik ps pm dd tx ty rw rm 0 sz he wr mn vl tp lt ra pf pt pl pd prc ns tu ba na ca bo tr tH asd pa tg sd sr)) := by
  refine Ctr.of (by decide) (Nat.le_of_ble_eq_true rfl) rfl rfl 0 ?_
  intro X hX hR
  obtain ⟨hT, hT1, hT6, hcv⟩ := id hM
  refine rh_aload_n hX dX8_type_0 rfl ?_
  refine rh_iconst hX dX8_type_1 ki_0 ?_
  refine rh_put hX gl_X8_48 0 dX8_type_2 rfl rfl rfl (Nat.le_of_ble_eq_true rfl) rfl ?_
  dsimp only [List.cons_append, List.nil_append, List.set_cons_succ, List.set_cons_zero, vput]
  refine rh_aload_n hX dX8_type_5 rfl ?_
  refine rh_iload_n hX dX8_type_6 rfl ?_
  refine rh_pV hX lk_X8_64 mvX8_isType (fun l => c_X8_isType l E _ _ _ _ _ _ _ _ _ _ _ _ _ _ _ _ _ _ _ _ _ _ _ _ _ _ _ _ _ _ _ _ _ _ _ _ _ _ _ T hM) ⟨rfl, rfl⟩ ⟨Nat.le_of_ble_eq_true rfl, Nat.le_of_ble_eq_true rfl⟩ [0, 1, 2, 3, 4, 5, 6, 7, 8, 9, 10, 11, 12] rfl rfl 0 rfl dX8_type_7 rfl rfl (Nat.le_of_ble_eq_true rfl) ?_
  refine rh_if_eq (tgt := 41) hX dX8_type_10 (by decide) (fun h10 => ?_) (fun h10 => ?_)
  · skip
    refine rh_iconst hX dX8_type_41 ki_m1 ?_
    exact rh_iret hX hR dX8_type_42 (by simp only [List.map_cons, List.map_nil, List.cons_append, List.nil_append]) ⟨by first | (rw [x_type, if_pos h10]; done) | (rw [x_type, if_neg h10, if_neg (by decide), if_neg (by decide), if_neg (by decide), if_neg (by decide), if_pos (by rw [h26]; rfl)]; done), rfl⟩
  · skip
    obtain ⟨td, rfl, htd⟩ := xTy_1 hT6 h10
    refine rh_iload_n hX dX8_type_13 rfl ?_
    refine rh_i2l hX dX8_type_14 ?_
    refine rh_lconst hX dX8_type_15 kL_0 ?_
    refine rh_ldc2 hX dX8_type_16 kl_X8_62 ?_
    refine rh_pS hX lk_X8_58 msX8_in (fun l => c_X8_in l E _ _ _) ⟨rfl, rfl⟩ ⟨Nat.le_of_ble_eq_true rfl, Nat.le_of_ble_eq_true rfl⟩ [] rfl rfl dX8_type_19 rfl rfl (Nat.le_of_ble_eq_true rfl) ?_
    refine rh_if_eq_f (tgt := 41) hX dX8_type_22 (by decide) (by decide) ?_
    refine rh_iload_n hX dX8_type_25 rfl ?_
    refine rh_if_ne (tgt := 43) hX dX8_type_26 (by decide) (fun h26 => ?_) (fun h26 => ?_)
    · skip
      have h26 : ¬ td = 0 := fun q => h26 (by rw [q]; rfl)
      refine rh_iload_n hX dX8_type_43 rfl ?_
      refine rh_tabIn (tgt := 109) (off := 65) hX dX8_type_44 (by decide) (by decide) (by decide) (by decide) ?_
      refine rh_aload_n hX dX8_type_109 rfl ?_
      refine rh_get hX gl_X8_7 0 dX8_type_110 rfl rfl ?_
      refine rh_bipush hX dX8_type_113 kb_64 ?_
      refine rh_iload_n hX dX8_type_115 rfl ?_
      refine rh_iadd hX dX8_type_116 ?_
      refine rh_iaload hX 1 _ dX8_type_117 rfl (rn_a rn_c64 rfl) (by omega) (by decide) ?_
      exact rh_iret hX hR dX8_type_118 (by simp only [List.map_cons, List.map_nil, List.cons_append, List.nil_append]) ⟨by first | (rw [x_type, if_neg h10, if_neg (by decide), if_neg (by decide), if_neg (by decide), if_neg (by decide), if_neg (fun q => h26 (nI_z q (by omega))), nI_clamp (show td < 2 ^ 31 by omega), hCu, show cFact (fm u) td ((nI 2).toNatClampNeg - 1) = cFact (fm u) td 1 from rfl, ← fm_fact u (t := td) (k := 1) (by omega) (by omega), Int32.toInt32_toInt64]; done), rfl⟩
    · skip
      have h26 : td = 0 := nI_z h26 (by omega)
      refine rh_iload_n hX dX8_type_29 rfl ?_
      refine rh_i2l hX dX8_type_30 ?_
      refine rh_lconst hX dX8_type_31 kL_1 ?_
      refine rh_ldc2 hX dX8_type_32 kl_X8_319 ?_
      refine rh_pS hX lk_X8_58 msX8_in (fun l => c_X8_in l E _ _ _) ⟨rfl, rfl⟩ ⟨Nat.le_of_ble_eq_true rfl, Nat.le_of_ble_eq_true rfl⟩ [] rfl rfl dX8_type_35 rfl rfl (Nat.le_of_ble_eq_true rfl) ?_
      refine rh_if_eq_f (tgt := 43) hX dX8_type_38 (by decide) (by decide) ?_
      refine rh_iconst hX dX8_type_41 ki_m1 ?_
      exact rh_iret hX hR dX8_type_42 (by simp only [List.map_cons, List.map_nil, List.cons_append, List.nil_append]) ⟨by first | (rw [x_type, if_pos h10]; done) | (rw [x_type, if_neg h10, if_neg (by decide), if_neg (by decide), if_neg (by decide), if_neg (by decide), if_pos (by rw [h26]; rfl)]; done), rfl⟩

set_option maxRecDepth 100000 in
set_option maxHeartbeats 4000000 in
theorem c_X8_type_3 (l : Launch) (E : rhE) (B : Nat → Nat) (u : Nat → Int32) (kp : Nat → Int32) (ik : Int32) (ps : Nat → Int32) (pm : Nat) (dd : Int32) (tx : Nat → Int32) (ty : Nat) (rw : Nat → Int64) (rm : Nat) (th : Int32) (sz : Nat) (he : Nat) (wr : Int32) (mn : Nat → Int32) (vl : Int32) (tp : Int32) (lt : Int32) (ra : Int32) (pf : Int32) (pt : Int32) (pl : Int32) (pd : Int64) (prc : Int64) (ns : Int64) (tu : Nat) (ba : Int64) (na : Int64) (ca : Nat → Int64) (bo : Nat → Int32) (tr : Nat → Int64) (tH : Int32) (asd : Nat → Int32) (pa : Nat → Int64) (tg : Nat → Int64) (sd : Int64) (sr : Int64) (t : Int32) (C : CT) (hCu : C.1 = fm u) (T : Nat) (hM : mOk u T)  : Ctr l E yX8_type cX8_type 3 (some .int) (rmL 3) [.ref (B 0), .int t, .int (nI 3)] (wM E B u kp ik ps pm dd tx ty rw rm th sz he wr mn vl tp lt ra pf pt pl pd prc ns tu ba na ca bo tr tH asd pa tg sd sr) (One (some (.int (x_type C T t (nI 3)))) (wM E B u kp ik ps pm dd tx ty rw rm 0 sz he wr mn vl tp lt ra pf pt pl pd prc ns tu ba na ca bo tr tH asd pa tg sd sr)) := by
  refine Ctr.of (by decide) (Nat.le_of_ble_eq_true rfl) rfl rfl 0 ?_
  intro X hX hR
  obtain ⟨hT, hT1, hT6, hcv⟩ := id hM
  refine rh_aload_n hX dX8_type_0 rfl ?_
  refine rh_iconst hX dX8_type_1 ki_0 ?_
  refine rh_put hX gl_X8_48 0 dX8_type_2 rfl rfl rfl (Nat.le_of_ble_eq_true rfl) rfl ?_
  dsimp only [List.cons_append, List.nil_append, List.set_cons_succ, List.set_cons_zero, vput]
  refine rh_aload_n hX dX8_type_5 rfl ?_
  refine rh_iload_n hX dX8_type_6 rfl ?_
  refine rh_pV hX lk_X8_64 mvX8_isType (fun l => c_X8_isType l E _ _ _ _ _ _ _ _ _ _ _ _ _ _ _ _ _ _ _ _ _ _ _ _ _ _ _ _ _ _ _ _ _ _ _ _ _ _ _ T hM) ⟨rfl, rfl⟩ ⟨Nat.le_of_ble_eq_true rfl, Nat.le_of_ble_eq_true rfl⟩ [0, 1, 2, 3, 4, 5, 6, 7, 8, 9, 10, 11, 12] rfl rfl 0 rfl dX8_type_7 rfl rfl (Nat.le_of_ble_eq_true rfl) ?_
  refine rh_if_eq (tgt := 41) hX dX8_type_10 (by decide) (fun h10 => ?_) (fun h10 => ?_)
  · skip
    refine rh_iconst hX dX8_type_41 ki_m1 ?_
    exact rh_iret hX hR dX8_type_42 (by simp only [List.map_cons, List.map_nil, List.cons_append, List.nil_append]) ⟨by first | (rw [x_type, if_pos h10]; done) | (rw [x_type, if_neg h10, if_neg (by decide), if_neg (by decide), if_neg (by decide), if_neg (by decide), if_pos (by rw [h26]; rfl)]; done), rfl⟩
  · skip
    obtain ⟨td, rfl, htd⟩ := xTy_1 hT6 h10
    refine rh_iload_n hX dX8_type_13 rfl ?_
    refine rh_i2l hX dX8_type_14 ?_
    refine rh_lconst hX dX8_type_15 kL_0 ?_
    refine rh_ldc2 hX dX8_type_16 kl_X8_62 ?_
    refine rh_pS hX lk_X8_58 msX8_in (fun l => c_X8_in l E _ _ _) ⟨rfl, rfl⟩ ⟨Nat.le_of_ble_eq_true rfl, Nat.le_of_ble_eq_true rfl⟩ [] rfl rfl dX8_type_19 rfl rfl (Nat.le_of_ble_eq_true rfl) ?_
    refine rh_if_eq_f (tgt := 41) hX dX8_type_22 (by decide) (by decide) ?_
    refine rh_iload_n hX dX8_type_25 rfl ?_
    refine rh_if_ne (tgt := 43) hX dX8_type_26 (by decide) (fun h26 => ?_) (fun h26 => ?_)
    · skip
      have h26 : ¬ td = 0 := fun q => h26 (by rw [q]; rfl)
      refine rh_iload_n hX dX8_type_43 rfl ?_
      refine rh_tabIn (tgt := 125) (off := 81) hX dX8_type_44 (by decide) (by decide) (by decide) (by decide) ?_
      refine rh_aload_n hX dX8_type_125 rfl ?_
      refine rh_get hX gl_X8_7 0 dX8_type_126 rfl rfl ?_
      refine rh_aload_n hX dX8_type_129 rfl ?_
      refine rh_iload_n hX dX8_type_130 rfl ?_
      refine rh_iload_n hX dX8_type_131 rfl ?_
      refine rh_iconst hX dX8_type_132 ki_3 ?_
      refine rh_isub hX dX8_type_133 ?_
      refine rh_pV hX lk_X8_169 mvX8_termAt (fun l => c_X8_termAt l E _ _ _ _ _ _ _ _ _ _ _ _ _ _ _ _ _ _ _ _ _ _ _ _ _ _ _ _ _ _ _ _ _ _ _ _ _ _ td 0 (by omega)) ⟨rfl, rfl⟩ ⟨Nat.le_of_ble_eq_true rfl, Nat.le_of_ble_eq_true rfl⟩ [0, 1, 2, 3, 4, 5, 6, 7, 8, 9, 10, 11, 12] rfl rfl 0 rfl dX8_type_134 rfl rfl (Nat.le_of_ble_eq_true rfl) ?_
      refine rh_iaload hX 1 (58 + 6 * (2 + 0) + td) dX8_type_137 rfl rfl (by omega) (by decide) ?_
      exact rh_iret hX hR dX8_type_138 (by simp only [List.map_cons, List.map_nil, List.cons_append, List.nil_append]) ⟨by first | (rw [x_type, if_neg h10, if_neg (by decide), if_neg (by decide), if_neg (by decide), if_neg (by decide), if_neg (fun q => h26 (nI_z q (by omega))), nI_clamp (show td < 2 ^ 31 by omega), hCu, show cFact (fm u) td ((nI 3).toNatClampNeg - 1) = cFact (fm u) td 2 from rfl, ← fm_fact u (t := td) (k := 2) (by omega) (by omega), Int32.toInt32_toInt64]; done), rfl⟩
    · skip
      have h26 : td = 0 := nI_z h26 (by omega)
      refine rh_iload_n hX dX8_type_29 rfl ?_
      refine rh_i2l hX dX8_type_30 ?_
      refine rh_lconst hX dX8_type_31 kL_1 ?_
      refine rh_ldc2 hX dX8_type_32 kl_X8_319 ?_
      refine rh_pS hX lk_X8_58 msX8_in (fun l => c_X8_in l E _ _ _) ⟨rfl, rfl⟩ ⟨Nat.le_of_ble_eq_true rfl, Nat.le_of_ble_eq_true rfl⟩ [] rfl rfl dX8_type_35 rfl rfl (Nat.le_of_ble_eq_true rfl) ?_
      refine rh_if_eq_f (tgt := 43) hX dX8_type_38 (by decide) (by decide) ?_
      refine rh_iconst hX dX8_type_41 ki_m1 ?_
      exact rh_iret hX hR dX8_type_42 (by simp only [List.map_cons, List.map_nil, List.cons_append, List.nil_append]) ⟨by first | (rw [x_type, if_pos h10]; done) | (rw [x_type, if_neg h10, if_neg (by decide), if_neg (by decide), if_neg (by decide), if_neg (by decide), if_pos (by rw [h26]; rfl)]; done), rfl⟩

set_option maxRecDepth 100000 in
set_option maxHeartbeats 4000000 in
theorem c_X8_type_4 (l : Launch) (E : rhE) (B : Nat → Nat) (u : Nat → Int32) (kp : Nat → Int32) (ik : Int32) (ps : Nat → Int32) (pm : Nat) (dd : Int32) (tx : Nat → Int32) (ty : Nat) (rw : Nat → Int64) (rm : Nat) (th : Int32) (sz : Nat) (he : Nat) (wr : Int32) (mn : Nat → Int32) (vl : Int32) (tp : Int32) (lt : Int32) (ra : Int32) (pf : Int32) (pt : Int32) (pl : Int32) (pd : Int64) (prc : Int64) (ns : Int64) (tu : Nat) (ba : Int64) (na : Int64) (ca : Nat → Int64) (bo : Nat → Int32) (tr : Nat → Int64) (tH : Int32) (asd : Nat → Int32) (pa : Nat → Int64) (tg : Nat → Int64) (sd : Int64) (sr : Int64) (t : Int32) (C : CT) (hCu : C.1 = fm u) (T : Nat) (hM : mOk u T)  : Ctr l E yX8_type cX8_type 3 (some .int) (rmL 3) [.ref (B 0), .int t, .int (nI 4)] (wM E B u kp ik ps pm dd tx ty rw rm th sz he wr mn vl tp lt ra pf pt pl pd prc ns tu ba na ca bo tr tH asd pa tg sd sr) (One (some (.int (x_type C T t (nI 4)))) (wM E B u kp ik ps pm dd tx ty rw rm 0 sz he wr mn vl tp lt ra pf pt pl pd prc ns tu ba na ca bo tr tH asd pa tg sd sr)) := by
  refine Ctr.of (by decide) (Nat.le_of_ble_eq_true rfl) rfl rfl 0 ?_
  intro X hX hR
  obtain ⟨hT, hT1, hT6, hcv⟩ := id hM
  refine rh_aload_n hX dX8_type_0 rfl ?_
  refine rh_iconst hX dX8_type_1 ki_0 ?_
  refine rh_put hX gl_X8_48 0 dX8_type_2 rfl rfl rfl (Nat.le_of_ble_eq_true rfl) rfl ?_
  dsimp only [List.cons_append, List.nil_append, List.set_cons_succ, List.set_cons_zero, vput]
  refine rh_aload_n hX dX8_type_5 rfl ?_
  refine rh_iload_n hX dX8_type_6 rfl ?_
  refine rh_pV hX lk_X8_64 mvX8_isType (fun l => c_X8_isType l E _ _ _ _ _ _ _ _ _ _ _ _ _ _ _ _ _ _ _ _ _ _ _ _ _ _ _ _ _ _ _ _ _ _ _ _ _ _ _ T hM) ⟨rfl, rfl⟩ ⟨Nat.le_of_ble_eq_true rfl, Nat.le_of_ble_eq_true rfl⟩ [0, 1, 2, 3, 4, 5, 6, 7, 8, 9, 10, 11, 12] rfl rfl 0 rfl dX8_type_7 rfl rfl (Nat.le_of_ble_eq_true rfl) ?_
  refine rh_if_eq (tgt := 41) hX dX8_type_10 (by decide) (fun h10 => ?_) (fun h10 => ?_)
  · skip
    refine rh_iconst hX dX8_type_41 ki_m1 ?_
    exact rh_iret hX hR dX8_type_42 (by simp only [List.map_cons, List.map_nil, List.cons_append, List.nil_append]) ⟨by first | (rw [x_type, if_pos h10]; done) | (rw [x_type, if_neg h10, if_neg (by decide), if_neg (by decide), if_neg (by decide), if_neg (by decide), if_pos (by rw [h26]; rfl)]; done), rfl⟩
  · skip
    obtain ⟨td, rfl, htd⟩ := xTy_1 hT6 h10
    refine rh_iload_n hX dX8_type_13 rfl ?_
    refine rh_i2l hX dX8_type_14 ?_
    refine rh_lconst hX dX8_type_15 kL_0 ?_
    refine rh_ldc2 hX dX8_type_16 kl_X8_62 ?_
    refine rh_pS hX lk_X8_58 msX8_in (fun l => c_X8_in l E _ _ _) ⟨rfl, rfl⟩ ⟨Nat.le_of_ble_eq_true rfl, Nat.le_of_ble_eq_true rfl⟩ [] rfl rfl dX8_type_19 rfl rfl (Nat.le_of_ble_eq_true rfl) ?_
    refine rh_if_eq_f (tgt := 41) hX dX8_type_22 (by decide) (by decide) ?_
    refine rh_iload_n hX dX8_type_25 rfl ?_
    refine rh_if_ne (tgt := 43) hX dX8_type_26 (by decide) (fun h26 => ?_) (fun h26 => ?_)
    · skip
      have h26 : ¬ td = 0 := fun q => h26 (by rw [q]; rfl)
      refine rh_iload_n hX dX8_type_43 rfl ?_
      refine rh_tabIn (tgt := 125) (off := 81) hX dX8_type_44 (by decide) (by decide) (by decide) (by decide) ?_
      refine rh_aload_n hX dX8_type_125 rfl ?_
      refine rh_get hX gl_X8_7 0 dX8_type_126 rfl rfl ?_
      refine rh_aload_n hX dX8_type_129 rfl ?_
      refine rh_iload_n hX dX8_type_130 rfl ?_
      refine rh_iload_n hX dX8_type_131 rfl ?_
      refine rh_iconst hX dX8_type_132 ki_3 ?_
      refine rh_isub hX dX8_type_133 ?_
      refine rh_pV hX lk_X8_169 mvX8_termAt (fun l => c_X8_termAt l E _ _ _ _ _ _ _ _ _ _ _ _ _ _ _ _ _ _ _ _ _ _ _ _ _ _ _ _ _ _ _ _ _ _ _ _ _ _ td 1 (by omega)) ⟨rfl, rfl⟩ ⟨Nat.le_of_ble_eq_true rfl, Nat.le_of_ble_eq_true rfl⟩ [0, 1, 2, 3, 4, 5, 6, 7, 8, 9, 10, 11, 12] rfl rfl 0 rfl dX8_type_134 rfl rfl (Nat.le_of_ble_eq_true rfl) ?_
      refine rh_iaload hX 1 (58 + 6 * (2 + 1) + td) dX8_type_137 rfl rfl (by omega) (by decide) ?_
      exact rh_iret hX hR dX8_type_138 (by simp only [List.map_cons, List.map_nil, List.cons_append, List.nil_append]) ⟨by first | (rw [x_type, if_neg h10, if_neg (by decide), if_neg (by decide), if_neg (by decide), if_neg (by decide), if_neg (fun q => h26 (nI_z q (by omega))), nI_clamp (show td < 2 ^ 31 by omega), hCu, show cFact (fm u) td ((nI 4).toNatClampNeg - 1) = cFact (fm u) td 3 from rfl, ← fm_fact u (t := td) (k := 3) (by omega) (by omega), Int32.toInt32_toInt64]; done), rfl⟩
    · skip
      have h26 : td = 0 := nI_z h26 (by omega)
      refine rh_iload_n hX dX8_type_29 rfl ?_
      refine rh_i2l hX dX8_type_30 ?_
      refine rh_lconst hX dX8_type_31 kL_1 ?_
      refine rh_ldc2 hX dX8_type_32 kl_X8_319 ?_
      refine rh_pS hX lk_X8_58 msX8_in (fun l => c_X8_in l E _ _ _) ⟨rfl, rfl⟩ ⟨Nat.le_of_ble_eq_true rfl, Nat.le_of_ble_eq_true rfl⟩ [] rfl rfl dX8_type_35 rfl rfl (Nat.le_of_ble_eq_true rfl) ?_
      refine rh_if_eq_f (tgt := 43) hX dX8_type_38 (by decide) (by decide) ?_
      refine rh_iconst hX dX8_type_41 ki_m1 ?_
      exact rh_iret hX hR dX8_type_42 (by simp only [List.map_cons, List.map_nil, List.cons_append, List.nil_append]) ⟨by first | (rw [x_type, if_pos h10]; done) | (rw [x_type, if_neg h10, if_neg (by decide), if_neg (by decide), if_neg (by decide), if_neg (by decide), if_pos (by rw [h26]; rfl)]; done), rfl⟩

set_option maxRecDepth 100000 in
set_option maxHeartbeats 4000000 in
theorem c_X8_type_5 (l : Launch) (E : rhE) (B : Nat → Nat) (u : Nat → Int32) (kp : Nat → Int32) (ik : Int32) (ps : Nat → Int32) (pm : Nat) (dd : Int32) (tx : Nat → Int32) (ty : Nat) (rw : Nat → Int64) (rm : Nat) (th : Int32) (sz : Nat) (he : Nat) (wr : Int32) (mn : Nat → Int32) (vl : Int32) (tp : Int32) (lt : Int32) (ra : Int32) (pf : Int32) (pt : Int32) (pl : Int32) (pd : Int64) (prc : Int64) (ns : Int64) (tu : Nat) (ba : Int64) (na : Int64) (ca : Nat → Int64) (bo : Nat → Int32) (tr : Nat → Int64) (tH : Int32) (asd : Nat → Int32) (pa : Nat → Int64) (tg : Nat → Int64) (sd : Int64) (sr : Int64) (t : Int32) (C : CT) (hCu : C.1 = fm u) (T : Nat) (hM : mOk u T)  : Ctr l E yX8_type cX8_type 3 (some .int) (rmL 3) [.ref (B 0), .int t, .int (nI 5)] (wM E B u kp ik ps pm dd tx ty rw rm th sz he wr mn vl tp lt ra pf pt pl pd prc ns tu ba na ca bo tr tH asd pa tg sd sr) (One (some (.int (x_type C T t (nI 5)))) (wM E B u kp ik ps pm dd tx ty rw rm 0 sz he wr mn vl tp lt ra pf pt pl pd prc ns tu ba na ca bo tr tH asd pa tg sd sr)) := by
  refine Ctr.of (by decide) (Nat.le_of_ble_eq_true rfl) rfl rfl 0 ?_
  intro X hX hR
  obtain ⟨hT, hT1, hT6, hcv⟩ := id hM
  refine rh_aload_n hX dX8_type_0 rfl ?_
  refine rh_iconst hX dX8_type_1 ki_0 ?_
  refine rh_put hX gl_X8_48 0 dX8_type_2 rfl rfl rfl (Nat.le_of_ble_eq_true rfl) rfl ?_
  dsimp only [List.cons_append, List.nil_append, List.set_cons_succ, List.set_cons_zero, vput]
  refine rh_aload_n hX dX8_type_5 rfl ?_
  refine rh_iload_n hX dX8_type_6 rfl ?_
  refine rh_pV hX lk_X8_64 mvX8_isType (fun l => c_X8_isType l E _ _ _ _ _ _ _ _ _ _ _ _ _ _ _ _ _ _ _ _ _ _ _ _ _ _ _ _ _ _ _ _ _ _ _ _ _ _ _ T hM) ⟨rfl, rfl⟩ ⟨Nat.le_of_ble_eq_true rfl, Nat.le_of_ble_eq_true rfl⟩ [0, 1, 2, 3, 4, 5, 6, 7, 8, 9, 10, 11, 12] rfl rfl 0 rfl dX8_type_7 rfl rfl (Nat.le_of_ble_eq_true rfl) ?_
  refine rh_if_eq (tgt := 41) hX dX8_type_10 (by decide) (fun h10 => ?_) (fun h10 => ?_)
  · skip
    refine rh_iconst hX dX8_type_41 ki_m1 ?_
    exact rh_iret hX hR dX8_type_42 (by simp only [List.map_cons, List.map_nil, List.cons_append, List.nil_append]) ⟨by first | (rw [x_type, if_pos h10]; done) | (rw [x_type, if_neg h10, if_neg (by decide), if_neg (by decide), if_neg (by decide), if_neg (by decide), if_pos (by rw [h26]; rfl)]; done), rfl⟩
  · skip
    obtain ⟨td, rfl, htd⟩ := xTy_1 hT6 h10
    refine rh_iload_n hX dX8_type_13 rfl ?_
    refine rh_i2l hX dX8_type_14 ?_
    refine rh_lconst hX dX8_type_15 kL_0 ?_
    refine rh_ldc2 hX dX8_type_16 kl_X8_62 ?_
    refine rh_pS hX lk_X8_58 msX8_in (fun l => c_X8_in l E _ _ _) ⟨rfl, rfl⟩ ⟨Nat.le_of_ble_eq_true rfl, Nat.le_of_ble_eq_true rfl⟩ [] rfl rfl dX8_type_19 rfl rfl (Nat.le_of_ble_eq_true rfl) ?_
    refine rh_if_eq_f (tgt := 41) hX dX8_type_22 (by decide) (by decide) ?_
    refine rh_iload_n hX dX8_type_25 rfl ?_
    refine rh_if_ne (tgt := 43) hX dX8_type_26 (by decide) (fun h26 => ?_) (fun h26 => ?_)
    · skip
      have h26 : ¬ td = 0 := fun q => h26 (by rw [q]; rfl)
      refine rh_iload_n hX dX8_type_43 rfl ?_
      refine rh_tabIn (tgt := 125) (off := 81) hX dX8_type_44 (by decide) (by decide) (by decide) (by decide) ?_
      refine rh_aload_n hX dX8_type_125 rfl ?_
      refine rh_get hX gl_X8_7 0 dX8_type_126 rfl rfl ?_
      refine rh_aload_n hX dX8_type_129 rfl ?_
      refine rh_iload_n hX dX8_type_130 rfl ?_
      refine rh_iload_n hX dX8_type_131 rfl ?_
      refine rh_iconst hX dX8_type_132 ki_3 ?_
      refine rh_isub hX dX8_type_133 ?_
      refine rh_pV hX lk_X8_169 mvX8_termAt (fun l => c_X8_termAt l E _ _ _ _ _ _ _ _ _ _ _ _ _ _ _ _ _ _ _ _ _ _ _ _ _ _ _ _ _ _ _ _ _ _ _ _ _ _ td 2 (by omega)) ⟨rfl, rfl⟩ ⟨Nat.le_of_ble_eq_true rfl, Nat.le_of_ble_eq_true rfl⟩ [0, 1, 2, 3, 4, 5, 6, 7, 8, 9, 10, 11, 12] rfl rfl 0 rfl dX8_type_134 rfl rfl (Nat.le_of_ble_eq_true rfl) ?_
      refine rh_iaload hX 1 (58 + 6 * (2 + 2) + td) dX8_type_137 rfl rfl (by omega) (by decide) ?_
      exact rh_iret hX hR dX8_type_138 (by simp only [List.map_cons, List.map_nil, List.cons_append, List.nil_append]) ⟨by first | (rw [x_type, if_neg h10, if_neg (by decide), if_neg (by decide), if_neg (by decide), if_neg (by decide), if_neg (fun q => h26 (nI_z q (by omega))), nI_clamp (show td < 2 ^ 31 by omega), hCu, show cFact (fm u) td ((nI 5).toNatClampNeg - 1) = cFact (fm u) td 4 from rfl, ← fm_fact u (t := td) (k := 4) (by omega) (by omega), Int32.toInt32_toInt64]; done), rfl⟩
    · skip
      have h26 : td = 0 := nI_z h26 (by omega)
      refine rh_iload_n hX dX8_type_29 rfl ?_
      refine rh_i2l hX dX8_type_30 ?_
      refine rh_lconst hX dX8_type_31 kL_1 ?_
      refine rh_ldc2 hX dX8_type_32 kl_X8_319 ?_
      refine rh_pS hX lk_X8_58 msX8_in (fun l => c_X8_in l E _ _ _) ⟨rfl, rfl⟩ ⟨Nat.le_of_ble_eq_true rfl, Nat.le_of_ble_eq_true rfl⟩ [] rfl rfl dX8_type_35 rfl rfl (Nat.le_of_ble_eq_true rfl) ?_
      refine rh_if_eq_f (tgt := 43) hX dX8_type_38 (by decide) (by decide) ?_
      refine rh_iconst hX dX8_type_41 ki_m1 ?_
      exact rh_iret hX hR dX8_type_42 (by simp only [List.map_cons, List.map_nil, List.cons_append, List.nil_append]) ⟨by first | (rw [x_type, if_pos h10]; done) | (rw [x_type, if_neg h10, if_neg (by decide), if_neg (by decide), if_neg (by decide), if_neg (by decide), if_pos (by rw [h26]; rfl)]; done), rfl⟩

set_option maxRecDepth 100000 in
set_option maxHeartbeats 4000000 in
theorem c_X8_type_6 (l : Launch) (E : rhE) (B : Nat → Nat) (u : Nat → Int32) (kp : Nat → Int32) (ik : Int32) (ps : Nat → Int32) (pm : Nat) (dd : Int32) (tx : Nat → Int32) (ty : Nat) (rw : Nat → Int64) (rm : Nat) (th : Int32) (sz : Nat) (he : Nat) (wr : Int32) (mn : Nat → Int32) (vl : Int32) (tp : Int32) (lt : Int32) (ra : Int32) (pf : Int32) (pt : Int32) (pl : Int32) (pd : Int64) (prc : Int64) (ns : Int64) (tu : Nat) (ba : Int64) (na : Int64) (ca : Nat → Int64) (bo : Nat → Int32) (tr : Nat → Int64) (tH : Int32) (asd : Nat → Int32) (pa : Nat → Int64) (tg : Nat → Int64) (sd : Int64) (sr : Int64) (t : Int32) (C : CT) (hCu : C.1 = fm u) (T : Nat) (hM : mOk u T)  : Ctr l E yX8_type cX8_type 3 (some .int) (rmL 3) [.ref (B 0), .int t, .int (nI 6)] (wM E B u kp ik ps pm dd tx ty rw rm th sz he wr mn vl tp lt ra pf pt pl pd prc ns tu ba na ca bo tr tH asd pa tg sd sr) (One (some (.int (x_type C T t (nI 6)))) (wM E B u kp ik ps pm dd tx ty rw rm 0 sz he wr mn vl tp lt ra pf pt pl pd prc ns tu ba na ca bo tr tH asd pa tg sd sr)) := by
  refine Ctr.of (by decide) (Nat.le_of_ble_eq_true rfl) rfl rfl 0 ?_
  intro X hX hR
  obtain ⟨hT, hT1, hT6, hcv⟩ := id hM
  refine rh_aload_n hX dX8_type_0 rfl ?_
  refine rh_iconst hX dX8_type_1 ki_0 ?_
  refine rh_put hX gl_X8_48 0 dX8_type_2 rfl rfl rfl (Nat.le_of_ble_eq_true rfl) rfl ?_
  dsimp only [List.cons_append, List.nil_append, List.set_cons_succ, List.set_cons_zero, vput]
  refine rh_aload_n hX dX8_type_5 rfl ?_
  refine rh_iload_n hX dX8_type_6 rfl ?_
  refine rh_pV hX lk_X8_64 mvX8_isType (fun l => c_X8_isType l E _ _ _ _ _ _ _ _ _ _ _ _ _ _ _ _ _ _ _ _ _ _ _ _ _ _ _ _ _ _ _ _ _ _ _ _ _ _ _ T hM) ⟨rfl, rfl⟩ ⟨Nat.le_of_ble_eq_true rfl, Nat.le_of_ble_eq_true rfl⟩ [0, 1, 2, 3, 4, 5, 6, 7, 8, 9, 10, 11, 12] rfl rfl 0 rfl dX8_type_7 rfl rfl (Nat.le_of_ble_eq_true rfl) ?_
  refine rh_if_eq (tgt := 41) hX dX8_type_10 (by decide) (fun h10 => ?_) (fun h10 => ?_)
  · skip
    refine rh_iconst hX dX8_type_41 ki_m1 ?_
    exact rh_iret hX hR dX8_type_42 (by simp only [List.map_cons, List.map_nil, List.cons_append, List.nil_append]) ⟨by first | (rw [x_type, if_pos h10]; done) | (rw [x_type, if_neg h10, if_neg (by decide), if_neg (by decide), if_neg (by decide), if_neg (by decide), if_pos (by rw [h26]; rfl)]; done), rfl⟩
  · skip
    obtain ⟨td, rfl, htd⟩ := xTy_1 hT6 h10
    refine rh_iload_n hX dX8_type_13 rfl ?_
    refine rh_i2l hX dX8_type_14 ?_
    refine rh_lconst hX dX8_type_15 kL_0 ?_
    refine rh_ldc2 hX dX8_type_16 kl_X8_62 ?_
    refine rh_pS hX lk_X8_58 msX8_in (fun l => c_X8_in l E _ _ _) ⟨rfl, rfl⟩ ⟨Nat.le_of_ble_eq_true rfl, Nat.le_of_ble_eq_true rfl⟩ [] rfl rfl dX8_type_19 rfl rfl (Nat.le_of_ble_eq_true rfl) ?_
    refine rh_if_eq_f (tgt := 41) hX dX8_type_22 (by decide) (by decide) ?_
    refine rh_iload_n hX dX8_type_25 rfl ?_
    refine rh_if_ne (tgt := 43) hX dX8_type_26 (by decide) (fun h26 => ?_) (fun h26 => ?_)
    · skip
      have h26 : ¬ td = 0 := fun q => h26 (by rw [q]; rfl)
      refine rh_iload_n hX dX8_type_43 rfl ?_
      refine rh_tabIn (tgt := 125) (off := 81) hX dX8_type_44 (by decide) (by decide) (by decide) (by decide) ?_
      refine rh_aload_n hX dX8_type_125 rfl ?_
      refine rh_get hX gl_X8_7 0 dX8_type_126 rfl rfl ?_
      refine rh_aload_n hX dX8_type_129 rfl ?_
      refine rh_iload_n hX dX8_type_130 rfl ?_
      refine rh_iload_n hX dX8_type_131 rfl ?_
      refine rh_iconst hX dX8_type_132 ki_3 ?_
      refine rh_isub hX dX8_type_133 ?_
      refine rh_pV hX lk_X8_169 mvX8_termAt (fun l => c_X8_termAt l E _ _ _ _ _ _ _ _ _ _ _ _ _ _ _ _ _ _ _ _ _ _ _ _ _ _ _ _ _ _ _ _ _ _ _ _ _ _ td 3 (by omega)) ⟨rfl, rfl⟩ ⟨Nat.le_of_ble_eq_true rfl, Nat.le_of_ble_eq_true rfl⟩ [0, 1, 2, 3, 4, 5, 6, 7, 8, 9, 10, 11, 12] rfl rfl 0 rfl dX8_type_134 rfl rfl (Nat.le_of_ble_eq_true rfl) ?_
      refine rh_iaload hX 1 (58 + 6 * (2 + 3) + td) dX8_type_137 rfl rfl (by omega) (by decide) ?_
      exact rh_iret hX hR dX8_type_138 (by simp only [List.map_cons, List.map_nil, List.cons_append, List.nil_append]) ⟨by first | (rw [x_type, if_neg h10, if_neg (by decide), if_neg (by decide), if_neg (by decide), if_neg (by decide), if_neg (fun q => h26 (nI_z q (by omega))), nI_clamp (show td < 2 ^ 31 by omega), hCu, show cFact (fm u) td ((nI 6).toNatClampNeg - 1) = cFact (fm u) td 5 from rfl, ← fm_fact u (t := td) (k := 5) (by omega) (by omega), Int32.toInt32_toInt64]; done), rfl⟩
    · skip
      have h26 : td = 0 := nI_z h26 (by omega)
      refine rh_iload_n hX dX8_type_29 rfl ?_
      refine rh_i2l hX dX8_type_30 ?_
      refine rh_lconst hX dX8_type_31 kL_1 ?_
      refine rh_ldc2 hX dX8_type_32 kl_X8_319 ?_
      refine rh_pS hX lk_X8_58 msX8_in (fun l => c_X8_in l E _ _ _) ⟨rfl, rfl⟩ ⟨Nat.le_of_ble_eq_true rfl, Nat.le_of_ble_eq_true rfl⟩ [] rfl rfl dX8_type_35 rfl rfl (Nat.le_of_ble_eq_true rfl) ?_
      refine rh_if_eq_f (tgt := 43) hX dX8_type_38 (by decide) (by decide) ?_
      refine rh_iconst hX dX8_type_41 ki_m1 ?_
      exact rh_iret hX hR dX8_type_42 (by simp only [List.map_cons, List.map_nil, List.cons_append, List.nil_append]) ⟨by first | (rw [x_type, if_pos h10]; done) | (rw [x_type, if_neg h10, if_neg (by decide), if_neg (by decide), if_neg (by decide), if_neg (by decide), if_pos (by rw [h26]; rfl)]; done), rfl⟩

set_option maxRecDepth 100000 in
set_option maxHeartbeats 4000000 in
theorem c_X8_type_7 (l : Launch) (E : rhE) (B : Nat → Nat) (u : Nat → Int32) (kp : Nat → Int32) (ik : Int32) (ps : Nat → Int32) (pm : Nat) (dd : Int32) (tx : Nat → Int32) (ty : Nat) (rw : Nat → Int64) (rm : Nat) (th : Int32) (sz : Nat) (he : Nat) (wr : Int32) (mn : Nat → Int32) (vl : Int32) (tp : Int32) (lt : Int32) (ra : Int32) (pf : Int32) (pt : Int32) (pl : Int32) (pd : Int64) (prc : Int64) (ns : Int64) (tu : Nat) (ba : Int64) (na : Int64) (ca : Nat → Int64) (bo : Nat → Int32) (tr : Nat → Int64) (tH : Int32) (asd : Nat → Int32) (pa : Nat → Int64) (tg : Nat → Int64) (sd : Int64) (sr : Int64) (t : Int32) (C : CT) (hCu : C.1 = fm u) (T : Nat) (hM : mOk u T)  : Ctr l E yX8_type cX8_type 3 (some .int) (rmL 3) [.ref (B 0), .int t, .int (nI 7)] (wM E B u kp ik ps pm dd tx ty rw rm th sz he wr mn vl tp lt ra pf pt pl pd prc ns tu ba na ca bo tr tH asd pa tg sd sr) (One (some (.int (x_type C T t (nI 7)))) (wM E B u kp ik ps pm dd tx ty rw rm 0 sz he wr mn vl tp lt ra pf pt pl pd prc ns tu ba na ca bo tr tH asd pa tg sd sr)) := by
  refine Ctr.of (by decide) (Nat.le_of_ble_eq_true rfl) rfl rfl 0 ?_
  intro X hX hR
  obtain ⟨hT, hT1, hT6, hcv⟩ := id hM
  refine rh_aload_n hX dX8_type_0 rfl ?_
  refine rh_iconst hX dX8_type_1 ki_0 ?_
  refine rh_put hX gl_X8_48 0 dX8_type_2 rfl rfl rfl (Nat.le_of_ble_eq_true rfl) rfl ?_
  dsimp only [List.cons_append, List.nil_append, List.set_cons_succ, List.set_cons_zero, vput]
  refine rh_aload_n hX dX8_type_5 rfl ?_
  refine rh_iload_n hX dX8_type_6 rfl ?_
  refine rh_pV hX lk_X8_64 mvX8_isType (fun l => c_X8_isType l E _ _ _ _ _ _ _ _ _ _ _ _ _ _ _ _ _ _ _ _ _ _ _ _ _ _ _ _ _ _ _ _ _ _ _ _ _ _ _ T hM) ⟨rfl, rfl⟩ ⟨Nat.le_of_ble_eq_true rfl, Nat.le_of_ble_eq_true rfl⟩ [0, 1, 2, 3, 4, 5, 6, 7, 8, 9, 10, 11, 12] rfl rfl 0 rfl dX8_type_7 rfl rfl (Nat.le_of_ble_eq_true rfl) ?_
  refine rh_if_eq (tgt := 41) hX dX8_type_10 (by decide) (fun h10 => ?_) (fun h10 => ?_)
  · skip
    refine rh_iconst hX dX8_type_41 ki_m1 ?_
    exact rh_iret hX hR dX8_type_42 (by simp only [List.map_cons, List.map_nil, List.cons_append, List.nil_append]) ⟨by first | (rw [x_type, if_pos h10]; done) | (rw [x_type, if_neg h10, if_neg (by decide), if_neg (by decide), if_neg (by decide), if_neg (by decide), if_pos (by rw [h26]; rfl)]; done), rfl⟩
  · skip
    obtain ⟨td, rfl, htd⟩ := xTy_1 hT6 h10
    refine rh_iload_n hX dX8_type_13 rfl ?_
    refine rh_i2l hX dX8_type_14 ?_
    refine rh_lconst hX dX8_type_15 kL_0 ?_
    refine rh_ldc2 hX dX8_type_16 kl_X8_62 ?_
    refine rh_pS hX lk_X8_58 msX8_in (fun l => c_X8_in l E _ _ _) ⟨rfl, rfl⟩ ⟨Nat.le_of_ble_eq_true rfl, Nat.le_of_ble_eq_true rfl⟩ [] rfl rfl dX8_type_19 rfl rfl (Nat.le_of_ble_eq_true rfl) ?_
    refine rh_if_eq_f (tgt := 41) hX dX8_type_22 (by decide) (by decide) ?_
    refine rh_iload_n hX dX8_type_25 rfl ?_
    refine rh_if_ne (tgt := 43) hX dX8_type_26 (by decide) (fun h26 => ?_) (fun h26 => ?_)
    · skip
      have h26 : ¬ td = 0 := fun q => h26 (by rw [q]; rfl)
      refine rh_iload_n hX dX8_type_43 rfl ?_
      refine rh_tabIn (tgt := 119) (off := 75) hX dX8_type_44 (by decide) (by decide) (by decide) (by decide) ?_
      refine rh_aload_n hX dX8_type_119 rfl ?_
      refine rh_iload_n hX dX8_type_120 rfl ?_
      refine rh_pV hX lk_X8_321 mvX8_holdersOf (fun l => c_X8_holdersOf l E _ _ _ _ _ _ _ _ _ _ _ _ _ _ _ _ _ _ _ _ _ _ _ _ _ _ _ _ _ _ _ _ _ _ _ _ _ _ td (by omega)) ⟨rfl, rfl⟩ ⟨Nat.le_of_ble_eq_true rfl, Nat.le_of_ble_eq_true rfl⟩ [0, 1, 2, 3, 4, 5, 6, 7, 8, 9, 10, 11, 12] rfl rfl 0 rfl dX8_type_121 rfl rfl (Nat.le_of_ble_eq_true rfl) ?_
      exact rh_iret hX hR dX8_type_124 (by simp only [List.map_cons, List.map_nil, List.cons_append, List.nil_append]) ⟨by first | (rw [x_type, if_neg h10, if_neg (by decide), if_neg (by decide), if_neg (by decide), if_pos (by decide), nI_clamp (show td < 2 ^ 31 by omega), hCu]; done), rfl⟩
    · skip
      have h26 : td = 0 := nI_z h26 (by omega)
      refine rh_iload_n hX dX8_type_29 rfl ?_
      refine rh_i2l hX dX8_type_30 ?_
      refine rh_lconst hX dX8_type_31 kL_1 ?_
      refine rh_ldc2 hX dX8_type_32 kl_X8_319 ?_
      refine rh_pS hX lk_X8_58 msX8_in (fun l => c_X8_in l E _ _ _) ⟨rfl, rfl⟩ ⟨Nat.le_of_ble_eq_true rfl, Nat.le_of_ble_eq_true rfl⟩ [] rfl rfl dX8_type_35 rfl rfl (Nat.le_of_ble_eq_true rfl) ?_
      refine rh_if_eq_t (tgt := 43) hX dX8_type_38 (by decide) (by decide) ?_
      refine rh_iload_n hX dX8_type_43 rfl ?_
      refine rh_tabIn (tgt := 119) (off := 75) hX dX8_type_44 (by decide) (by decide) (by decide) (by decide) ?_
      refine rh_aload_n hX dX8_type_119 rfl ?_
      refine rh_iload_n hX dX8_type_120 rfl ?_
      refine rh_pV hX lk_X8_321 mvX8_holdersOf (fun l => c_X8_holdersOf l E _ _ _ _ _ _ _ _ _ _ _ _ _ _ _ _ _ _ _ _ _ _ _ _ _ _ _ _ _ _ _ _ _ _ _ _ _ _ td (by omega)) ⟨rfl, rfl⟩ ⟨Nat.le_of_ble_eq_true rfl, Nat.le_of_ble_eq_true rfl⟩ [0, 1, 2, 3, 4, 5, 6, 7, 8, 9, 10, 11, 12] rfl rfl 0 rfl dX8_type_121 rfl rfl (Nat.le_of_ble_eq_true rfl) ?_
      exact rh_iret hX hR dX8_type_124 (by simp only [List.map_cons, List.map_nil, List.cons_append, List.nil_append]) ⟨by first | (rw [x_type, if_neg h10, if_neg (by decide), if_neg (by decide), if_neg (by decide), if_pos (by decide), nI_clamp (show td < 2 ^ 31 by omega), hCu]; done), rfl⟩

set_option maxRecDepth 100000 in
set_option maxHeartbeats 4000000 in
theorem c_X8_type_o (l : Launch) (E : rhE) (B : Nat → Nat) (u : Nat → Int32) (kp : Nat → Int32) (ik : Int32) (ps : Nat → Int32) (pm : Nat) (dd : Int32) (tx : Nat → Int32) (ty : Nat) (rw : Nat → Int64) (rm : Nat) (th : Int32) (sz : Nat) (he : Nat) (wr : Int32) (mn : Nat → Int32) (vl : Int32) (tp : Int32) (lt : Int32) (ra : Int32) (pf : Int32) (pt : Int32) (pl : Int32) (pd : Int64) (prc : Int64) (ns : Int64) (tu : Nat) (ba : Int64) (na : Int64) (ca : Nat → Int64) (bo : Nat → Int32) (tr : Nat → Int64) (tH : Int32) (asd : Nat → Int32) (pa : Nat → Int64) (tg : Nat → Int64) (sd : Int64) (sr : Int64) (t wh : Int32) (hw : xIn wh.toInt64 0 7 = 0) (C : CT) (hCu : C.1 = fm u) (T : Nat) (hM : mOk u T)  : Ctr l E yX8_type cX8_type 3 (some .int) (rmL 3) [.ref (B 0), .int t, .int wh] (wM E B u kp ik ps pm dd tx ty rw rm th sz he wr mn vl tp lt ra pf pt pl pd prc ns tu ba na ca bo tr tH asd pa tg sd sr) (One (some (.int (x_type C T t wh))) (wM E B u kp ik ps pm dd tx ty rw rm 0 sz he wr mn vl tp lt ra pf pt pl pd prc ns tu ba na ca bo tr tH asd pa tg sd sr)) := by
  refine Ctr.of (by decide) (Nat.le_of_ble_eq_true rfl) rfl rfl 0 ?_
  intro X hX hR
  obtain ⟨hT, hT1, hT6, hcv⟩ := id hM
  refine rh_aload_n hX dX8_type_0 rfl ?_
  refine rh_iconst hX dX8_type_1 ki_0 ?_
  refine rh_put hX gl_X8_48 0 dX8_type_2 rfl rfl rfl (Nat.le_of_ble_eq_true rfl) rfl ?_
  dsimp only [List.cons_append, List.nil_append, List.set_cons_succ, List.set_cons_zero, vput]
  refine rh_aload_n hX dX8_type_5 rfl ?_
  refine rh_iload_n hX dX8_type_6 rfl ?_
  refine rh_pV hX lk_X8_64 mvX8_isType (fun l => c_X8_isType l E _ _ _ _ _ _ _ _ _ _ _ _ _ _ _ _ _ _ _ _ _ _ _ _ _ _ _ _ _ _ _ _ _ _ _ _ _ _ _ T hM) ⟨rfl, rfl⟩ ⟨Nat.le_of_ble_eq_true rfl, Nat.le_of_ble_eq_true rfl⟩ [0, 1, 2, 3, 4, 5, 6, 7, 8, 9, 10, 11, 12] rfl rfl 0 rfl dX8_type_7 rfl rfl (Nat.le_of_ble_eq_true rfl) ?_
  refine rh_if_eq (tgt := 41) hX dX8_type_10 (by decide) (fun h10 => ?_) (fun h10 => ?_)
  · skip
    refine rh_iconst hX dX8_type_41 ki_m1 ?_
    exact rh_iret hX hR dX8_type_42 (by simp only [List.map_cons, List.map_nil, List.cons_append, List.nil_append]) ⟨by first | (rw [x_type, if_pos h10]; done) | (rw [x_type, if_neg h10, rng_no (by decide) hw]; done), rfl⟩
  · skip
    refine rh_iload_n hX dX8_type_13 rfl ?_
    refine rh_i2l hX dX8_type_14 ?_
    refine rh_lconst hX dX8_type_15 kL_0 ?_
    refine rh_ldc2 hX dX8_type_16 kl_X8_62 ?_
    refine rh_pS hX lk_X8_58 msX8_in (fun l => c_X8_in l E _ _ _) ⟨rfl, rfl⟩ ⟨Nat.le_of_ble_eq_true rfl, Nat.le_of_ble_eq_true rfl⟩ [] rfl rfl dX8_type_19 rfl rfl (Nat.le_of_ble_eq_true rfl) ?_
    refine rh_if_eq_t (tgt := 41) hX dX8_type_22 (by decide) hw ?_
    refine rh_iconst hX dX8_type_41 ki_m1 ?_
    exact rh_iret hX hR dX8_type_42 (by simp only [List.map_cons, List.map_nil, List.cons_append, List.nil_append]) ⟨by first | (rw [x_type, if_pos h10]; done) | (rw [x_type, if_neg h10, rng_no (by decide) hw]; done), rfl⟩

theorem c_X8_type (l : Launch) (E : rhE) (B : Nat → Nat) (u : Nat → Int32) (kp : Nat → Int32) (ik : Int32) (ps : Nat → Int32) (pm : Nat) (dd : Int32) (tx : Nat → Int32) (ty : Nat) (rw : Nat → Int64) (rm : Nat) (th : Int32) (sz : Nat) (he : Nat) (wr : Int32) (mn : Nat → Int32) (vl : Int32) (tp : Int32) (lt : Int32) (ra : Int32) (pf : Int32) (pt : Int32) (pl : Int32) (pd : Int64) (prc : Int64) (ns : Int64) (tu : Nat) (ba : Int64) (na : Int64) (ca : Nat → Int64) (bo : Nat → Int32) (tr : Nat → Int64) (tH : Int32) (asd : Nat → Int32) (pa : Nat → Int64) (tg : Nat → Int64) (sd : Int64) (sr : Int64) (t wh : Int32) (C : CT) (hCu : C.1 = fm u) (T : Nat) (hM : mOk u T) : Ctr l E yX8_type cX8_type 3 (some .int) (rmL 3) [.ref (B 0), .int t, .int wh] (wM E B u kp ik ps pm dd tx ty rw rm th sz he wr mn vl tp lt ra pf pt pl pd prc ns tu ba na ca bo tr tH asd pa tg sd sr) (One (some (.int (x_type C T t wh))) (wM E B u kp ik ps pm dd tx ty rw rm 0 sz he wr mn vl tp lt ra pf pt pl pd prc ns tu ba na ca bo tr tH asd pa tg sd sr)) := by
  by_cases hw : xIn wh.toInt64 0 7 = 0
  · exact c_X8_type_o l E B u kp ik ps pm dd tx ty rw rm th sz he wr mn vl tp lt ra pf pt pl pd prc ns tu ba na ca bo tr tH asd pa tg sd sr t wh hw C hCu T hM
  · obtain ⟨d, rfl, hd⟩ := rng_nI hw
    have hd : d < 8 := by have : (7 : Int64).toInt = 7 := by decide
                          omega
    match d, hd with
    | 0, _ => exact c_X8_type_0 l E B u kp ik ps pm dd tx ty rw rm th sz he wr mn vl tp lt ra pf pt pl pd prc ns tu ba na ca bo tr tH asd pa tg sd sr t C hCu T hM
    | 1, _ => exact c_X8_type_1 l E B u kp ik ps pm dd tx ty rw rm th sz he wr mn vl tp lt ra pf pt pl pd prc ns tu ba na ca bo tr tH asd pa tg sd sr t C hCu T hM
    | 2, _ => exact c_X8_type_2 l E B u kp ik ps pm dd tx ty rw rm th sz he wr mn vl tp lt ra pf pt pl pd prc ns tu ba na ca bo tr tH asd pa tg sd sr t C hCu T hM
    | 3, _ => exact c_X8_type_3 l E B u kp ik ps pm dd tx ty rw rm th sz he wr mn vl tp lt ra pf pt pl pd prc ns tu ba na ca bo tr tH asd pa tg sd sr t C hCu T hM
    | 4, _ => exact c_X8_type_4 l E B u kp ik ps pm dd tx ty rw rm th sz he wr mn vl tp lt ra pf pt pl pd prc ns tu ba na ca bo tr tH asd pa tg sd sr t C hCu T hM
    | 5, _ => exact c_X8_type_5 l E B u kp ik ps pm dd tx ty rw rm th sz he wr mn vl tp lt ra pf pt pl pd prc ns tu ba na ca bo tr tH asd pa tg sd sr t C hCu T hM
    | 6, _ => exact c_X8_type_6 l E B u kp ik ps pm dd tx ty rw rm th sz he wr mn vl tp lt ra pf pt pl pd prc ns tu ba na ca bo tr tH asd pa tg sd sr t C hCu T hM
    | 7, _ => exact c_X8_type_7 l E B u kp ik ps pm dd tx ty rw rm th sz he wr mn vl tp lt ra pf pt pl pd prc ns tu ba na ca bo tr tH asd pa tg sd sr t C hCu T hM

set_option maxRecDepth 100000 in
set_option maxHeartbeats 4000000 in
theorem c_X8_count_0 (l : Launch) (E : rhE) (B : Nat → Nat) (u : Nat → Int32) (kp : Nat → Int32) (ik : Int32) (ps : Nat → Int32) (pm : Nat) (dd : Int32) (tx : Nat → Int32) (ty : Nat) (rw : Nat → Int64) (rm : Nat) (th : Int32) (sz : Nat) (he : Nat) (wr : Int32) (mn : Nat → Int32) (vl : Int32) (tp : Int32) (lt : Int32) (ra : Int32) (pf : Int32) (pt : Int32) (pl : Int32) (pd : Int64) (prc : Int64) (ns : Int64) (tu : Nat) (ba : Int64) (na : Int64) (ca : Nat → Int64) (bo : Nat → Int32) (tr : Nat → Int64) (tH : Int32) (asd : Nat → Int32) (pa : Nat → Int64) (tg : Nat → Int64) (sd : Int64) (sr : Int64) (C : CT) (hCu : C.1 = fm u) (hu6 : C.2.2.2.2.2.1 = pm) (hd7 : C.2.2.2.2.2.2.1 = dd) (hr11 : C.2.2.2.2.2.2.2.2.2.2 = rm) (ht9 : C.2.2.2.2.2.2.2.2.1 = ty) (T : Nat) (hM : mOk u T)  : Ctr l E yX8_count cX8_count 2 (some .int) (rmL 4) [.ref (B 0), .int (nI 0)] (wM E B u kp ik ps pm dd tx ty rw rm th sz he wr mn vl tp lt ra pf pt pl pd prc ns tu ba na ca bo tr tH asd pa tg sd sr) (One (some (.int (x_count C T (nI 0)))) (wM E B u kp ik ps pm dd tx ty rw rm 0 sz he wr mn vl tp lt ra pf pt pl pd prc ns tu ba na ca bo tr tH asd pa tg sd sr)) := by
  refine Ctr.of (by decide) (Nat.le_of_ble_eq_true rfl) rfl rfl 0 ?_
  intro X hX hR
  obtain ⟨hT, hT1, hT6, hcv⟩ := id hM
  refine rh_aload_n hX dX8_count_0 rfl ?_
  refine rh_iconst hX dX8_count_1 ki_0 ?_
  refine rh_put hX gl_X8_48 0 dX8_count_2 rfl rfl rfl (Nat.le_of_ble_eq_true rfl) rfl ?_
  dsimp only [List.cons_append, List.nil_append, List.set_cons_succ, List.set_cons_zero, vput]
  refine rh_iload_n hX dX8_count_5 rfl ?_
  refine rh_tabIn (tgt := 64) (off := 58) hX dX8_count_6 (by decide) (by decide) (by decide) (by decide) ?_
  refine rh_aload_n hX dX8_count_64 rfl ?_
  refine rh_get hX gl_X8_7 0 dX8_count_65 rfl rfl ?_
  refine rh_bipush hX dX8_count_68 kb_57 ?_
  refine rh_iaload hX 1 _ dX8_count_70 rfl rn_c57 (by omega) (by decide) ?_
  exact rh_iret hX hR dX8_count_71 (by simp only [List.map_cons, List.map_nil, List.cons_append, List.nil_append]) ⟨by rw [hT, x_count, if_pos (by decide)], rfl⟩

set_option maxRecDepth 100000 in
set_option maxHeartbeats 4000000 in
theorem c_X8_count_1 (l : Launch) (E : rhE) (B : Nat → Nat) (u : Nat → Int32) (kp : Nat → Int32) (ik : Int32) (ps : Nat → Int32) (pm : Nat) (dd : Int32) (tx : Nat → Int32) (ty : Nat) (rw : Nat → Int64) (rm : Nat) (th : Int32) (sz : Nat) (he : Nat) (wr : Int32) (mn : Nat → Int32) (vl : Int32) (tp : Int32) (lt : Int32) (ra : Int32) (pf : Int32) (pt : Int32) (pl : Int32) (pd : Int64) (prc : Int64) (ns : Int64) (tu : Nat) (ba : Int64) (na : Int64) (ca : Nat → Int64) (bo : Nat → Int32) (tr : Nat → Int64) (tH : Int32) (asd : Nat → Int32) (pa : Nat → Int64) (tg : Nat → Int64) (sd : Int64) (sr : Int64) (C : CT) (hCu : C.1 = fm u) (hu6 : C.2.2.2.2.2.1 = pm) (hd7 : C.2.2.2.2.2.2.1 = dd) (hr11 : C.2.2.2.2.2.2.2.2.2.2 = rm) (ht9 : C.2.2.2.2.2.2.2.2.1 = ty) (T : Nat) (hM : mOk u T)  : Ctr l E yX8_count cX8_count 2 (some .int) (rmL 4) [.ref (B 0), .int (nI 1)] (wM E B u kp ik ps pm dd tx ty rw rm th sz he wr mn vl tp lt ra pf pt pl pd prc ns tu ba na ca bo tr tH asd pa tg sd sr) (One (some (.int (x_count C T (nI 1)))) (wM E B u kp ik ps pm dd tx ty rw rm 0 sz he wr mn vl tp lt ra pf pt pl pd prc ns tu ba na ca bo tr tH asd pa tg sd sr)) := by
  refine Ctr.of (by decide) (Nat.le_of_ble_eq_true rfl) rfl rfl 0 ?_
  intro X hX hR
  obtain ⟨hT, hT1, hT6, hcv⟩ := id hM
  refine rh_aload_n hX dX8_count_0 rfl ?_
  refine rh_iconst hX dX8_count_1 ki_0 ?_
  refine rh_put hX gl_X8_48 0 dX8_count_2 rfl rfl rfl (Nat.le_of_ble_eq_true rfl) rfl ?_
  dsimp only [List.cons_append, List.nil_append, List.set_cons_succ, List.set_cons_zero, vput]
  refine rh_iload_n hX dX8_count_5 rfl ?_
  refine rh_tabIn (tgt := 72) (off := 66) hX dX8_count_6 (by decide) (by decide) (by decide) (by decide) ?_
  refine rh_aload_n hX dX8_count_72 rfl ?_
  refine rh_get hX gl_X8_7 0 dX8_count_73 rfl rfl ?_
  refine rh_bipush hX dX8_count_76 kb_56 ?_
  refine rh_iaload hX 1 _ dX8_count_78 rfl rn_c56 (by omega) (by decide) ?_
  exact rh_iret hX hR dX8_count_79 (by simp only [List.map_cons, List.map_nil, List.cons_append, List.nil_append]) ⟨by rw [x_count, if_neg (by decide), if_pos (by decide), hCu, ← fm_pool u, Int32.toInt32_toInt64], rfl⟩

set_option maxRecDepth 100000 in
set_option maxHeartbeats 4000000 in
theorem c_X8_count_2 (l : Launch) (E : rhE) (B : Nat → Nat) (u : Nat → Int32) (kp : Nat → Int32) (ik : Int32) (ps : Nat → Int32) (pm : Nat) (dd : Int32) (tx : Nat → Int32) (ty : Nat) (rw : Nat → Int64) (rm : Nat) (th : Int32) (sz : Nat) (he : Nat) (wr : Int32) (mn : Nat → Int32) (vl : Int32) (tp : Int32) (lt : Int32) (ra : Int32) (pf : Int32) (pt : Int32) (pl : Int32) (pd : Int64) (prc : Int64) (ns : Int64) (tu : Nat) (ba : Int64) (na : Int64) (ca : Nat → Int64) (bo : Nat → Int32) (tr : Nat → Int64) (tH : Int32) (asd : Nat → Int32) (pa : Nat → Int64) (tg : Nat → Int64) (sd : Int64) (sr : Int64) (C : CT) (hCu : C.1 = fm u) (hu6 : C.2.2.2.2.2.1 = pm) (hd7 : C.2.2.2.2.2.2.1 = dd) (hr11 : C.2.2.2.2.2.2.2.2.2.2 = rm) (ht9 : C.2.2.2.2.2.2.2.2.1 = ty) (T : Nat) (hM : mOk u T)  : Ctr l E yX8_count cX8_count 2 (some .int) (rmL 4) [.ref (B 0), .int (nI 2)] (wM E B u kp ik ps pm dd tx ty rw rm th sz he wr mn vl tp lt ra pf pt pl pd prc ns tu ba na ca bo tr tH asd pa tg sd sr) (One (some (.int (x_count C T (nI 2)))) (wM E B u kp ik ps pm dd tx ty rw rm 0 sz he wr mn vl tp lt ra pf pt pl pd prc ns tu ba na ca bo tr tH asd pa tg sd sr)) := by
  refine Ctr.of (by decide) (Nat.le_of_ble_eq_true rfl) rfl rfl 0 ?_
  intro X hX hR
  obtain ⟨hT, hT1, hT6, hcv⟩ := id hM
  refine rh_aload_n hX dX8_count_0 rfl ?_
  refine rh_iconst hX dX8_count_1 ki_0 ?_
  refine rh_put hX gl_X8_48 0 dX8_count_2 rfl rfl rfl (Nat.le_of_ble_eq_true rfl) rfl ?_
  dsimp only [List.cons_append, List.nil_append, List.set_cons_succ, List.set_cons_zero, vput]
  refine rh_iload_n hX dX8_count_5 rfl ?_
  refine rh_tabIn (tgt := 80) (off := 74) hX dX8_count_6 (by decide) (by decide) (by decide) (by decide) ?_
  refine rh_aload_n hX dX8_count_80 rfl ?_
  refine rh_pV hX lk_X8_96 mvX8_allOptions (fun l => c_X8_allOptions l E _ _ _ _ _ _ _ _ _ _ _ _ _ _ _ _ _ _ _ _ _ _ _ _ _ _ _ _ _ _ _ _ _ _ _ _ _ _ ) ⟨rfl, rfl⟩ ⟨Nat.le_of_ble_eq_true rfl, Nat.le_of_ble_eq_true rfl⟩ [0, 1, 2, 3, 4, 5, 6, 7, 8, 9, 10, 11, 12] rfl rfl 0 rfl dX8_count_81 rfl rfl (Nat.le_of_ble_eq_true rfl) ?_
  refine rh_l2i hX dX8_count_84 ?_
  exact rh_iret hX hR dX8_count_85 (by simp only [List.map_cons, List.map_nil, List.cons_append, List.nil_append]) ⟨by rw [x_count, if_neg (by decide), if_neg (by decide), if_pos (by decide), hCu], rfl⟩

set_option maxRecDepth 100000 in
set_option maxHeartbeats 4000000 in
theorem c_X8_count_3 (l : Launch) (E : rhE) (B : Nat → Nat) (u : Nat → Int32) (kp : Nat → Int32) (ik : Int32) (ps : Nat → Int32) (pm : Nat) (dd : Int32) (tx : Nat → Int32) (ty : Nat) (rw : Nat → Int64) (rm : Nat) (th : Int32) (sz : Nat) (he : Nat) (wr : Int32) (mn : Nat → Int32) (vl : Int32) (tp : Int32) (lt : Int32) (ra : Int32) (pf : Int32) (pt : Int32) (pl : Int32) (pd : Int64) (prc : Int64) (ns : Int64) (tu : Nat) (ba : Int64) (na : Int64) (ca : Nat → Int64) (bo : Nat → Int32) (tr : Nat → Int64) (tH : Int32) (asd : Nat → Int32) (pa : Nat → Int64) (tg : Nat → Int64) (sd : Int64) (sr : Int64) (C : CT) (hCu : C.1 = fm u) (hu6 : C.2.2.2.2.2.1 = pm) (hd7 : C.2.2.2.2.2.2.1 = dd) (hr11 : C.2.2.2.2.2.2.2.2.2.2 = rm) (ht9 : C.2.2.2.2.2.2.2.2.1 = ty) (T : Nat) (hM : mOk u T)  : Ctr l E yX8_count cX8_count 2 (some .int) (rmL 4) [.ref (B 0), .int (nI 3)] (wM E B u kp ik ps pm dd tx ty rw rm th sz he wr mn vl tp lt ra pf pt pl pd prc ns tu ba na ca bo tr tH asd pa tg sd sr) (One (some (.int (x_count C T (nI 3)))) (wM E B u kp ik ps pm dd tx ty rw rm 0 sz he wr mn vl tp lt ra pf pt pl pd prc ns tu ba na ca bo tr tH asd pa tg sd sr)) := by
  refine Ctr.of (by decide) (Nat.le_of_ble_eq_true rfl) rfl rfl 0 ?_
  intro X hX hR
  obtain ⟨hT, hT1, hT6, hcv⟩ := id hM
  refine rh_aload_n hX dX8_count_0 rfl ?_
  refine rh_iconst hX dX8_count_1 ki_0 ?_
  refine rh_put hX gl_X8_48 0 dX8_count_2 rfl rfl rfl (Nat.le_of_ble_eq_true rfl) rfl ?_
  dsimp only [List.cons_append, List.nil_append, List.set_cons_succ, List.set_cons_zero, vput]
  refine rh_iload_n hX dX8_count_5 rfl ?_
  refine rh_tabIn (tgt := 86) (off := 80) hX dX8_count_6 (by decide) (by decide) (by decide) (by decide) ?_
  refine rh_aload_n hX dX8_count_86 rfl ?_
  refine rh_get hX gl_X8_74 0 dX8_count_87 rfl rfl ?_
  exact rh_iret hX hR dX8_count_90 (by simp only [List.map_cons, List.map_nil, List.cons_append, List.nil_append]) ⟨by rw [x_count, if_neg (by decide), if_neg (by decide), if_neg (by decide), if_pos (by decide), hu6], rfl⟩

set_option maxRecDepth 100000 in
set_option maxHeartbeats 4000000 in
theorem c_X8_count_4 (l : Launch) (E : rhE) (B : Nat → Nat) (u : Nat → Int32) (kp : Nat → Int32) (ik : Int32) (ps : Nat → Int32) (pm : Nat) (dd : Int32) (tx : Nat → Int32) (ty : Nat) (rw : Nat → Int64) (rm : Nat) (th : Int32) (sz : Nat) (he : Nat) (wr : Int32) (mn : Nat → Int32) (vl : Int32) (tp : Int32) (lt : Int32) (ra : Int32) (pf : Int32) (pt : Int32) (pl : Int32) (pd : Int64) (prc : Int64) (ns : Int64) (tu : Nat) (ba : Int64) (na : Int64) (ca : Nat → Int64) (bo : Nat → Int32) (tr : Nat → Int64) (tH : Int32) (asd : Nat → Int32) (pa : Nat → Int64) (tg : Nat → Int64) (sd : Int64) (sr : Int64) (C : CT) (hCu : C.1 = fm u) (hu6 : C.2.2.2.2.2.1 = pm) (hd7 : C.2.2.2.2.2.2.1 = dd) (hr11 : C.2.2.2.2.2.2.2.2.2.2 = rm) (ht9 : C.2.2.2.2.2.2.2.2.1 = ty) (T : Nat) (hM : mOk u T)  : Ctr l E yX8_count cX8_count 2 (some .int) (rmL 4) [.ref (B 0), .int (nI 4)] (wM E B u kp ik ps pm dd tx ty rw rm th sz he wr mn vl tp lt ra pf pt pl pd prc ns tu ba na ca bo tr tH asd pa tg sd sr) (One (some (.int (x_count C T (nI 4)))) (wM E B u kp ik ps pm dd tx ty rw rm 0 sz he wr mn vl tp lt ra pf pt pl pd prc ns tu ba na ca bo tr tH asd pa tg sd sr)) := by
  refine Ctr.of (by decide) (Nat.le_of_ble_eq_true rfl) rfl rfl 0 ?_
  intro X hX hR
  obtain ⟨hT, hT1, hT6, hcv⟩ := id hM
  refine rh_aload_n hX dX8_count_0 rfl ?_
  refine rh_iconst hX dX8_count_1 ki_0 ?_
  refine rh_put hX gl_X8_48 0 dX8_count_2 rfl rfl rfl (Nat.le_of_ble_eq_true rfl) rfl ?_
  dsimp only [List.cons_append, List.nil_append, List.set_cons_succ, List.set_cons_zero, vput]
  refine rh_iload_n hX dX8_count_5 rfl ?_
  refine rh_tabIn (tgt := 91) (off := 85) hX dX8_count_6 (by decide) (by decide) (by decide) (by decide) ?_
  refine rh_aload_n hX dX8_count_91 rfl ?_
  refine rh_get hX gl_X8_77 0 dX8_count_92 rfl rfl ?_
  exact rh_iret hX hR dX8_count_95 (by simp only [List.map_cons, List.map_nil, List.cons_append, List.nil_append]) ⟨by rw [x_count, if_neg (by decide), if_neg (by decide), if_neg (by decide), if_neg (by decide), if_pos (by decide), hd7], rfl⟩

set_option maxRecDepth 100000 in
set_option maxHeartbeats 4000000 in
theorem c_X8_count_5 (l : Launch) (E : rhE) (B : Nat → Nat) (u : Nat → Int32) (kp : Nat → Int32) (ik : Int32) (ps : Nat → Int32) (pm : Nat) (dd : Int32) (tx : Nat → Int32) (ty : Nat) (rw : Nat → Int64) (rm : Nat) (th : Int32) (sz : Nat) (he : Nat) (wr : Int32) (mn : Nat → Int32) (vl : Int32) (tp : Int32) (lt : Int32) (ra : Int32) (pf : Int32) (pt : Int32) (pl : Int32) (pd : Int64) (prc : Int64) (ns : Int64) (tu : Nat) (ba : Int64) (na : Int64) (ca : Nat → Int64) (bo : Nat → Int32) (tr : Nat → Int64) (tH : Int32) (asd : Nat → Int32) (pa : Nat → Int64) (tg : Nat → Int64) (sd : Int64) (sr : Int64) (C : CT) (hCu : C.1 = fm u) (hu6 : C.2.2.2.2.2.1 = pm) (hd7 : C.2.2.2.2.2.2.1 = dd) (hr11 : C.2.2.2.2.2.2.2.2.2.2 = rm) (ht9 : C.2.2.2.2.2.2.2.2.1 = ty) (T : Nat) (hM : mOk u T)  : Ctr l E yX8_count cX8_count 2 (some .int) (rmL 4) [.ref (B 0), .int (nI 5)] (wM E B u kp ik ps pm dd tx ty rw rm th sz he wr mn vl tp lt ra pf pt pl pd prc ns tu ba na ca bo tr tH asd pa tg sd sr) (One (some (.int (x_count C T (nI 5)))) (wM E B u kp ik ps pm dd tx ty rw rm 0 sz he wr mn vl tp lt ra pf pt pl pd prc ns tu ba na ca bo tr tH asd pa tg sd sr)) := by
  refine Ctr.of (by decide) (Nat.le_of_ble_eq_true rfl) rfl rfl 0 ?_
  intro X hX hR
  obtain ⟨hT, hT1, hT6, hcv⟩ := id hM
  refine rh_aload_n hX dX8_count_0 rfl ?_
  refine rh_iconst hX dX8_count_1 ki_0 ?_
  refine rh_put hX gl_X8_48 0 dX8_count_2 rfl rfl rfl (Nat.le_of_ble_eq_true rfl) rfl ?_
  dsimp only [List.cons_append, List.nil_append, List.set_cons_succ, List.set_cons_zero, vput]
  refine rh_iload_n hX dX8_count_5 rfl ?_
  refine rh_tabIn (tgt := 96) (off := 90) hX dX8_count_6 (by decide) (by decide) (by decide) (by decide) ?_
  refine rh_aload_n hX dX8_count_96 rfl ?_
  refine rh_get hX gl_X8_52 0 dX8_count_97 rfl rfl ?_
  exact rh_iret hX hR dX8_count_100 (by simp only [List.map_cons, List.map_nil, List.cons_append, List.nil_append]) ⟨by rw [x_count, if_neg (by decide), if_neg (by decide), if_neg (by decide), if_neg (by decide), if_neg (by decide), if_pos (by decide), hr11], rfl⟩

set_option maxRecDepth 100000 in
set_option maxHeartbeats 4000000 in
theorem c_X8_count_6 (l : Launch) (E : rhE) (B : Nat → Nat) (u : Nat → Int32) (kp : Nat → Int32) (ik : Int32) (ps : Nat → Int32) (pm : Nat) (dd : Int32) (tx : Nat → Int32) (ty : Nat) (rw : Nat → Int64) (rm : Nat) (th : Int32) (sz : Nat) (he : Nat) (wr : Int32) (mn : Nat → Int32) (vl : Int32) (tp : Int32) (lt : Int32) (ra : Int32) (pf : Int32) (pt : Int32) (pl : Int32) (pd : Int64) (prc : Int64) (ns : Int64) (tu : Nat) (ba : Int64) (na : Int64) (ca : Nat → Int64) (bo : Nat → Int32) (tr : Nat → Int64) (tH : Int32) (asd : Nat → Int32) (pa : Nat → Int64) (tg : Nat → Int64) (sd : Int64) (sr : Int64) (C : CT) (hCu : C.1 = fm u) (hu6 : C.2.2.2.2.2.1 = pm) (hd7 : C.2.2.2.2.2.2.1 = dd) (hr11 : C.2.2.2.2.2.2.2.2.2.2 = rm) (ht9 : C.2.2.2.2.2.2.2.2.1 = ty) (T : Nat) (hM : mOk u T)  : Ctr l E yX8_count cX8_count 2 (some .int) (rmL 4) [.ref (B 0), .int (nI 6)] (wM E B u kp ik ps pm dd tx ty rw rm th sz he wr mn vl tp lt ra pf pt pl pd prc ns tu ba na ca bo tr tH asd pa tg sd sr) (One (some (.int (x_count C T (nI 6)))) (wM E B u kp ik ps pm dd tx ty rw rm 0 sz he wr mn vl tp lt ra pf pt pl pd prc ns tu ba na ca bo tr tH asd pa tg sd sr)) := by
  refine Ctr.of (by decide) (Nat.le_of_ble_eq_true rfl) rfl rfl 0 ?_
  intro X hX hR
  obtain ⟨hT, hT1, hT6, hcv⟩ := id hM
  refine rh_aload_n hX dX8_count_0 rfl ?_
  refine rh_iconst hX dX8_count_1 ki_0 ?_
  refine rh_put hX gl_X8_48 0 dX8_count_2 rfl rfl rfl (Nat.le_of_ble_eq_true rfl) rfl ?_
  dsimp only [List.cons_append, List.nil_append, List.set_cons_succ, List.set_cons_zero, vput]
  refine rh_iload_n hX dX8_count_5 rfl ?_
  refine rh_tabIn (tgt := 101) (off := 95) hX dX8_count_6 (by decide) (by decide) (by decide) (by decide) ?_
  refine rh_aload_n hX dX8_count_101 rfl ?_
  refine rh_get hX gl_X8_55 0 dX8_count_102 rfl rfl ?_
  exact rh_iret hX hR dX8_count_105 (by simp only [List.map_cons, List.map_nil, List.cons_append, List.nil_append]) ⟨by rw [x_count, if_neg (by decide), if_neg (by decide), if_neg (by decide), if_neg (by decide), if_neg (by decide), if_neg (by decide), if_pos (by decide), ht9], rfl⟩

set_option maxRecDepth 100000 in
set_option maxHeartbeats 4000000 in
theorem c_X8_count_7 (l : Launch) (E : rhE) (B : Nat → Nat) (u : Nat → Int32) (kp : Nat → Int32) (ik : Int32) (ps : Nat → Int32) (pm : Nat) (dd : Int32) (tx : Nat → Int32) (ty : Nat) (rw : Nat → Int64) (rm : Nat) (th : Int32) (sz : Nat) (he : Nat) (wr : Int32) (mn : Nat → Int32) (vl : Int32) (tp : Int32) (lt : Int32) (ra : Int32) (pf : Int32) (pt : Int32) (pl : Int32) (pd : Int64) (prc : Int64) (ns : Int64) (tu : Nat) (ba : Int64) (na : Int64) (ca : Nat → Int64) (bo : Nat → Int32) (tr : Nat → Int64) (tH : Int32) (asd : Nat → Int32) (pa : Nat → Int64) (tg : Nat → Int64) (sd : Int64) (sr : Int64) (C : CT) (hCu : C.1 = fm u) (hu6 : C.2.2.2.2.2.1 = pm) (hd7 : C.2.2.2.2.2.2.1 = dd) (hr11 : C.2.2.2.2.2.2.2.2.2.2 = rm) (ht9 : C.2.2.2.2.2.2.2.2.1 = ty) (T : Nat) (hM : mOk u T)  : Ctr l E yX8_count cX8_count 2 (some .int) (rmL 4) [.ref (B 0), .int (nI 7)] (wM E B u kp ik ps pm dd tx ty rw rm th sz he wr mn vl tp lt ra pf pt pl pd prc ns tu ba na ca bo tr tH asd pa tg sd sr) (One (some (.int (x_count C T (nI 7)))) (wM E B u kp ik ps pm dd tx ty rw rm 0 sz he wr mn vl tp lt ra pf pt pl pd prc ns tu ba na ca bo tr tH asd pa tg sd sr)) := by
  refine Ctr.of (by decide) (Nat.le_of_ble_eq_true rfl) rfl rfl 0 ?_
  intro X hX hR
  obtain ⟨hT, hT1, hT6, hcv⟩ := id hM
  refine rh_aload_n hX dX8_count_0 rfl ?_
  refine rh_iconst hX dX8_count_1 ki_0 ?_
  refine rh_put hX gl_X8_48 0 dX8_count_2 rfl rfl rfl (Nat.le_of_ble_eq_true rfl) rfl ?_
  dsimp only [List.cons_append, List.nil_append, List.set_cons_succ, List.set_cons_zero, vput]
  refine rh_iload_n hX dX8_count_5 rfl ?_
  refine rh_tabIn (tgt := 106) (off := 100) hX dX8_count_6 (by decide) (by decide) (by decide) (by decide) ?_
  refine rh_aload_n hX dX8_count_106 rfl ?_
  refine rh_pV hX lk_X8_392 mvX8_staked (fun l => c_X8_staked l E _ _ _ _ _ _ _ _ _ _ _ _ _ _ _ _ _ _ _ _ _ _ _ _ _ _ _ _ _ _ _ _ _ _ _ _ _ _ T hM) ⟨rfl, rfl⟩ ⟨Nat.le_of_ble_eq_true rfl, Nat.le_of_ble_eq_true rfl⟩ [0, 1, 2, 3, 4, 5, 6, 7, 8, 9, 10, 11, 12] rfl rfl 0 rfl dX8_count_107 rfl rfl (Nat.le_of_ble_eq_true rfl) ?_
  exact rh_iret hX hR dX8_count_110 (by simp only [List.map_cons, List.map_nil, List.cons_append, List.nil_append]) ⟨by rw [x_count, if_neg (by decide), if_neg (by decide), if_neg (by decide), if_neg (by decide), if_neg (by decide), if_neg (by decide), if_neg (by decide), if_pos (by decide), hCu], rfl⟩

set_option maxRecDepth 100000 in
set_option maxHeartbeats 4000000 in
theorem c_X8_count_8 (l : Launch) (E : rhE) (B : Nat → Nat) (u : Nat → Int32) (kp : Nat → Int32) (ik : Int32) (ps : Nat → Int32) (pm : Nat) (dd : Int32) (tx : Nat → Int32) (ty : Nat) (rw : Nat → Int64) (rm : Nat) (th : Int32) (sz : Nat) (he : Nat) (wr : Int32) (mn : Nat → Int32) (vl : Int32) (tp : Int32) (lt : Int32) (ra : Int32) (pf : Int32) (pt : Int32) (pl : Int32) (pd : Int64) (prc : Int64) (ns : Int64) (tu : Nat) (ba : Int64) (na : Int64) (ca : Nat → Int64) (bo : Nat → Int32) (tr : Nat → Int64) (tH : Int32) (asd : Nat → Int32) (pa : Nat → Int64) (tg : Nat → Int64) (sd : Int64) (sr : Int64) (C : CT) (hCu : C.1 = fm u) (hu6 : C.2.2.2.2.2.1 = pm) (hd7 : C.2.2.2.2.2.2.1 = dd) (hr11 : C.2.2.2.2.2.2.2.2.2.2 = rm) (ht9 : C.2.2.2.2.2.2.2.2.1 = ty) (T : Nat) (hM : mOk u T)  : Ctr l E yX8_count cX8_count 2 (some .int) (rmL 4) [.ref (B 0), .int (nI 8)] (wM E B u kp ik ps pm dd tx ty rw rm th sz he wr mn vl tp lt ra pf pt pl pd prc ns tu ba na ca bo tr tH asd pa tg sd sr) (One (some (.int (x_count C T (nI 8)))) (wM E B u kp ik ps pm dd tx ty rw rm 0 sz he wr mn vl tp lt ra pf pt pl pd prc ns tu ba na ca bo tr tH asd pa tg sd sr)) := by
  refine Ctr.of (by decide) (Nat.le_of_ble_eq_true rfl) rfl rfl 0 ?_
  intro X hX hR
  obtain ⟨hT, hT1, hT6, hcv⟩ := id hM
  refine rh_aload_n hX dX8_count_0 rfl ?_
  refine rh_iconst hX dX8_count_1 ki_0 ?_
  refine rh_put hX gl_X8_48 0 dX8_count_2 rfl rfl rfl (Nat.le_of_ble_eq_true rfl) rfl ?_
  dsimp only [List.cons_append, List.nil_append, List.set_cons_succ, List.set_cons_zero, vput]
  refine rh_iload_n hX dX8_count_5 rfl ?_
  refine rh_tabIn (tgt := 111) (off := 105) hX dX8_count_6 (by decide) (by decide) (by decide) (by decide) ?_
  refine rh_aload_n hX dX8_count_111 rfl ?_
  refine rh_pV hX lk_X8_395 mvX8_optioned (fun l => c_X8_optioned l E _ _ _ _ _ _ _ _ _ _ _ _ _ _ _ _ _ _ _ _ _ _ _ _ _ _ _ _ _ _ _ _ _ _ _ _ _ _ ) ⟨rfl, rfl⟩ ⟨Nat.le_of_ble_eq_true rfl, Nat.le_of_ble_eq_true rfl⟩ [0, 1, 2, 3, 4, 5, 6, 7, 8, 9, 10, 11, 12] rfl rfl 0 rfl dX8_count_112 rfl rfl (Nat.le_of_ble_eq_true rfl) ?_
  exact rh_iret hX hR dX8_count_115 (by simp only [List.map_cons, List.map_nil, List.cons_append, List.nil_append]) ⟨by rw [x_count, if_neg (by decide), if_neg (by decide), if_neg (by decide), if_neg (by decide), if_neg (by decide), if_neg (by decide), if_neg (by decide), if_neg (by decide), if_pos (by decide), hCu], rfl⟩

set_option maxRecDepth 100000 in
set_option maxHeartbeats 4000000 in
theorem c_X8_count_9 (l : Launch) (E : rhE) (B : Nat → Nat) (u : Nat → Int32) (kp : Nat → Int32) (ik : Int32) (ps : Nat → Int32) (pm : Nat) (dd : Int32) (tx : Nat → Int32) (ty : Nat) (rw : Nat → Int64) (rm : Nat) (th : Int32) (sz : Nat) (he : Nat) (wr : Int32) (mn : Nat → Int32) (vl : Int32) (tp : Int32) (lt : Int32) (ra : Int32) (pf : Int32) (pt : Int32) (pl : Int32) (pd : Int64) (prc : Int64) (ns : Int64) (tu : Nat) (ba : Int64) (na : Int64) (ca : Nat → Int64) (bo : Nat → Int32) (tr : Nat → Int64) (tH : Int32) (asd : Nat → Int32) (pa : Nat → Int64) (tg : Nat → Int64) (sd : Int64) (sr : Int64) (C : CT) (hCu : C.1 = fm u) (hu6 : C.2.2.2.2.2.1 = pm) (hd7 : C.2.2.2.2.2.2.1 = dd) (hr11 : C.2.2.2.2.2.2.2.2.2.2 = rm) (ht9 : C.2.2.2.2.2.2.2.2.1 = ty) (T : Nat) (hM : mOk u T)  : Ctr l E yX8_count cX8_count 2 (some .int) (rmL 4) [.ref (B 0), .int (nI 9)] (wM E B u kp ik ps pm dd tx ty rw rm th sz he wr mn vl tp lt ra pf pt pl pd prc ns tu ba na ca bo tr tH asd pa tg sd sr) (One (some (.int (x_count C T (nI 9)))) (wM E B u kp ik ps pm dd tx ty rw rm 0 sz he wr mn vl tp lt ra pf pt pl pd prc ns tu ba na ca bo tr tH asd pa tg sd sr)) := by
  refine Ctr.of (by decide) (Nat.le_of_ble_eq_true rfl) rfl rfl 0 ?_
  intro X hX hR
  obtain ⟨hT, hT1, hT6, hcv⟩ := id hM
  refine rh_aload_n hX dX8_count_0 rfl ?_
  refine rh_iconst hX dX8_count_1 ki_0 ?_
  refine rh_put hX gl_X8_48 0 dX8_count_2 rfl rfl rfl (Nat.le_of_ble_eq_true rfl) rfl ?_
  dsimp only [List.cons_append, List.nil_append, List.set_cons_succ, List.set_cons_zero, vput]
  refine rh_iload_n hX dX8_count_5 rfl ?_
  refine rh_tabIn (tgt := 116) (off := 110) hX dX8_count_6 (by decide) (by decide) (by decide) (by decide) ?_
  refine rh_aload_n hX dX8_count_116 rfl ?_
  refine rh_bipush hX dX8_count_117 kb_70 ?_
  refine rh_pV hX lk_X8_398 mvX8_typesWith (fun l => c_X8_typesWith l E _ _ _ _ _ _ _ _ _ _ _ _ _ _ _ _ _ _ _ _ _ _ _ _ _ _ _ _ _ _ _ _ _ _ _ _ _ _ 2 T hM (by omega)) ⟨rfl, rfl⟩ ⟨Nat.le_of_ble_eq_true rfl, Nat.le_of_ble_eq_true rfl⟩ [0, 1, 2, 3, 4, 5, 6, 7, 8, 9, 10, 11, 12] rfl rfl 0 rfl dX8_count_119 rfl rfl (Nat.le_of_ble_eq_true rfl) ?_
  exact rh_iret hX hR dX8_count_122 (by simp only [List.map_cons, List.map_nil, List.cons_append, List.nil_append]) ⟨by rw [x_count, if_neg (by decide), if_neg (by decide), if_neg (by decide), if_neg (by decide), if_neg (by decide), if_neg (by decide), if_neg (by decide), if_neg (by decide), if_neg (by decide), if_pos (by decide), hCu], rfl⟩

set_option maxRecDepth 100000 in
set_option maxHeartbeats 4000000 in
theorem c_X8_count_10 (l : Launch) (E : rhE) (B : Nat → Nat) (u : Nat → Int32) (kp : Nat → Int32) (ik : Int32) (ps : Nat → Int32) (pm : Nat) (dd : Int32) (tx : Nat → Int32) (ty : Nat) (rw : Nat → Int64) (rm : Nat) (th : Int32) (sz : Nat) (he : Nat) (wr : Int32) (mn : Nat → Int32) (vl : Int32) (tp : Int32) (lt : Int32) (ra : Int32) (pf : Int32) (pt : Int32) (pl : Int32) (pd : Int64) (prc : Int64) (ns : Int64) (tu : Nat) (ba : Int64) (na : Int64) (ca : Nat → Int64) (bo : Nat → Int32) (tr : Nat → Int64) (tH : Int32) (asd : Nat → Int32) (pa : Nat → Int64) (tg : Nat → Int64) (sd : Int64) (sr : Int64) (C : CT) (hCu : C.1 = fm u) (hu6 : C.2.2.2.2.2.1 = pm) (hd7 : C.2.2.2.2.2.2.1 = dd) (hr11 : C.2.2.2.2.2.2.2.2.2.2 = rm) (ht9 : C.2.2.2.2.2.2.2.2.1 = ty) (T : Nat) (hM : mOk u T)  : Ctr l E yX8_count cX8_count 2 (some .int) (rmL 4) [.ref (B 0), .int (nI 10)] (wM E B u kp ik ps pm dd tx ty rw rm th sz he wr mn vl tp lt ra pf pt pl pd prc ns tu ba na ca bo tr tH asd pa tg sd sr) (One (some (.int (x_count C T (nI 10)))) (wM E B u kp ik ps pm dd tx ty rw rm 0 sz he wr mn vl tp lt ra pf pt pl pd prc ns tu ba na ca bo tr tH asd pa tg sd sr)) := by
  refine Ctr.of (by decide) (Nat.le_of_ble_eq_true rfl) rfl rfl 0 ?_
  intro X hX hR
  obtain ⟨hT, hT1, hT6, hcv⟩ := id hM
  refine rh_aload_n hX dX8_count_0 rfl ?_
  refine rh_iconst hX dX8_count_1 ki_0 ?_
  refine rh_put hX gl_X8_48 0 dX8_count_2 rfl rfl rfl (Nat.le_of_ble_eq_true rfl) rfl ?_
  dsimp only [List.cons_append, List.nil_append, List.set_cons_succ, List.set_cons_zero, vput]
  refine rh_iload_n hX dX8_count_5 rfl ?_
  refine rh_tabIn (tgt := 123) (off := 117) hX dX8_count_6 (by decide) (by decide) (by decide) (by decide) ?_
  refine rh_aload_n hX dX8_count_123 rfl ?_
  refine rh_bipush hX dX8_count_124 kb_88 ?_
  refine rh_pV hX lk_X8_398 mvX8_typesWith (fun l => c_X8_typesWith l E _ _ _ _ _ _ _ _ _ _ _ _ _ _ _ _ _ _ _ _ _ _ _ _ _ _ _ _ _ _ _ _ _ _ _ _ _ _ 5 T hM (by omega)) ⟨rfl, rfl⟩ ⟨Nat.le_of_ble_eq_true rfl, Nat.le_of_ble_eq_true rfl⟩ [0, 1, 2, 3, 4, 5, 6, 7, 8, 9, 10, 11, 12] rfl rfl 0 rfl dX8_count_126 rfl rfl (Nat.le_of_ble_eq_true rfl) ?_
  exact rh_iret hX hR dX8_count_129 (by simp only [List.map_cons, List.map_nil, List.cons_append, List.nil_append]) ⟨by rw [x_count, if_neg (by decide), if_neg (by decide), if_neg (by decide), if_neg (by decide), if_neg (by decide), if_neg (by decide), if_neg (by decide), if_neg (by decide), if_neg (by decide), if_neg (by decide), if_pos (by decide), hCu], rfl⟩

set_option maxRecDepth 100000 in
set_option maxHeartbeats 4000000 in
theorem c_X8_count_o (l : Launch) (E : rhE) (B : Nat → Nat) (u : Nat → Int32) (kp : Nat → Int32) (ik : Int32) (ps : Nat → Int32) (pm : Nat) (dd : Int32) (tx : Nat → Int32) (ty : Nat) (rw : Nat → Int64) (rm : Nat) (th : Int32) (sz : Nat) (he : Nat) (wr : Int32) (mn : Nat → Int32) (vl : Int32) (tp : Int32) (lt : Int32) (ra : Int32) (pf : Int32) (pt : Int32) (pl : Int32) (pd : Int64) (prc : Int64) (ns : Int64) (tu : Nat) (ba : Int64) (na : Int64) (ca : Nat → Int64) (bo : Nat → Int32) (tr : Nat → Int64) (tH : Int32) (asd : Nat → Int32) (pa : Nat → Int64) (tg : Nat → Int64) (sd : Int64) (sr : Int64) (wh : Int32) (hw : wh.toInt < 0 ∨ 10 < wh.toInt) (C : CT) (hCu : C.1 = fm u) (hu6 : C.2.2.2.2.2.1 = pm) (hd7 : C.2.2.2.2.2.2.1 = dd) (hr11 : C.2.2.2.2.2.2.2.2.2.2 = rm) (ht9 : C.2.2.2.2.2.2.2.2.1 = ty) (T : Nat) (hM : mOk u T)  : Ctr l E yX8_count cX8_count 2 (some .int) (rmL 4) [.ref (B 0), .int wh] (wM E B u kp ik ps pm dd tx ty rw rm th sz he wr mn vl tp lt ra pf pt pl pd prc ns tu ba na ca bo tr tH asd pa tg sd sr) (One (some (.int (x_count C T wh))) (wM E B u kp ik ps pm dd tx ty rw rm 0 sz he wr mn vl tp lt ra pf pt pl pd prc ns tu ba na ca bo tr tH asd pa tg sd sr)) := by
  refine Ctr.of (by decide) (Nat.le_of_ble_eq_true rfl) rfl rfl 0 ?_
  intro X hX hR
  obtain ⟨hT, hT1, hT6, hcv⟩ := id hM
  refine rh_aload_n hX dX8_count_0 rfl ?_
  refine rh_iconst hX dX8_count_1 ki_0 ?_
  refine rh_put hX gl_X8_48 0 dX8_count_2 rfl rfl rfl (Nat.le_of_ble_eq_true rfl) rfl ?_
  dsimp only [List.cons_append, List.nil_append, List.set_cons_succ, List.set_cons_zero, vput]
  refine rh_iload_n hX dX8_count_5 rfl ?_
  refine rh_tabOut (tgt := 130) hX dX8_count_6 hw (by decide) ?_
  refine rh_iconst hX dX8_count_130 ki_m1 ?_
  exact rh_iret hX hR dX8_count_131 (by simp only [List.map_cons, List.map_nil, List.cons_append, List.nil_append]) ⟨by rw [x_count, if_neg (fun q => by rw [q] at hw; revert hw; decide), if_neg (fun q => by rw [q] at hw; revert hw; decide), if_neg (fun q => by rw [q] at hw; revert hw; decide), if_neg (fun q => by rw [q] at hw; revert hw; decide), if_neg (fun q => by rw [q] at hw; revert hw; decide), if_neg (fun q => by rw [q] at hw; revert hw; decide), if_neg (fun q => by rw [q] at hw; revert hw; decide), if_neg (fun q => by rw [q] at hw; revert hw; decide), if_neg (fun q => by rw [q] at hw; revert hw; decide), if_neg (fun q => by rw [q] at hw; revert hw; decide), if_neg (fun q => by rw [q] at hw; revert hw; decide)], rfl⟩

theorem c_X8_count (l : Launch) (E : rhE) (B : Nat → Nat) (u : Nat → Int32) (kp : Nat → Int32) (ik : Int32) (ps : Nat → Int32) (pm : Nat) (dd : Int32) (tx : Nat → Int32) (ty : Nat) (rw : Nat → Int64) (rm : Nat) (th : Int32) (sz : Nat) (he : Nat) (wr : Int32) (mn : Nat → Int32) (vl : Int32) (tp : Int32) (lt : Int32) (ra : Int32) (pf : Int32) (pt : Int32) (pl : Int32) (pd : Int64) (prc : Int64) (ns : Int64) (tu : Nat) (ba : Int64) (na : Int64) (ca : Nat → Int64) (bo : Nat → Int32) (tr : Nat → Int64) (tH : Int32) (asd : Nat → Int32) (pa : Nat → Int64) (tg : Nat → Int64) (sd : Int64) (sr : Int64) (wh : Int32) (C : CT) (hCu : C.1 = fm u) (hu6 : C.2.2.2.2.2.1 = pm) (hd7 : C.2.2.2.2.2.2.1 = dd) (hr11 : C.2.2.2.2.2.2.2.2.2.2 = rm) (ht9 : C.2.2.2.2.2.2.2.2.1 = ty) (T : Nat) (hM : mOk u T) : Ctr l E yX8_count cX8_count 2 (some .int) (rmL 4) [.ref (B 0), .int wh] (wM E B u kp ik ps pm dd tx ty rw rm th sz he wr mn vl tp lt ra pf pt pl pd prc ns tu ba na ca bo tr tH asd pa tg sd sr) (One (some (.int (x_count C T wh))) (wM E B u kp ik ps pm dd tx ty rw rm 0 sz he wr mn vl tp lt ra pf pt pl pd prc ns tu ba na ca bo tr tH asd pa tg sd sr)) := by
  by_cases h0 : wh < 0
  · exact c_X8_count_o l E B u kp ik ps pm dd tx ty rw rm th sz he wr mn vl tp lt ra pf pt pl pd prc ns tu ba na ca bo tr tH asd pa tg sd sr wh (Or.inl (by rw [Int32.lt_iff_toInt_lt] at h0; exact h0)) C hCu hu6 hd7 hr11 ht9 T hM
  by_cases h1 : wh ≤ 10
  · obtain ⟨d, rfl, hd⟩ := i32_to (b := 10) h0 h1 (by decide)
    match d, hd with
    | 0, _ => exact c_X8_count_0 l E B u kp ik ps pm dd tx ty rw rm th sz he wr mn vl tp lt ra pf pt pl pd prc ns tu ba na ca bo tr tH asd pa tg sd sr C hCu hu6 hd7 hr11 ht9 T hM
    | 1, _ => exact c_X8_count_1 l E B u kp ik ps pm dd tx ty rw rm th sz he wr mn vl tp lt ra pf pt pl pd prc ns tu ba na ca bo tr tH asd pa tg sd sr C hCu hu6 hd7 hr11 ht9 T hM
    | 2, _ => exact c_X8_count_2 l E B u kp ik ps pm dd tx ty rw rm th sz he wr mn vl tp lt ra pf pt pl pd prc ns tu ba na ca bo tr tH asd pa tg sd sr C hCu hu6 hd7 hr11 ht9 T hM
    | 3, _ => exact c_X8_count_3 l E B u kp ik ps pm dd tx ty rw rm th sz he wr mn vl tp lt ra pf pt pl pd prc ns tu ba na ca bo tr tH asd pa tg sd sr C hCu hu6 hd7 hr11 ht9 T hM
    | 4, _ => exact c_X8_count_4 l E B u kp ik ps pm dd tx ty rw rm th sz he wr mn vl tp lt ra pf pt pl pd prc ns tu ba na ca bo tr tH asd pa tg sd sr C hCu hu6 hd7 hr11 ht9 T hM
    | 5, _ => exact c_X8_count_5 l E B u kp ik ps pm dd tx ty rw rm th sz he wr mn vl tp lt ra pf pt pl pd prc ns tu ba na ca bo tr tH asd pa tg sd sr C hCu hu6 hd7 hr11 ht9 T hM
    | 6, _ => exact c_X8_count_6 l E B u kp ik ps pm dd tx ty rw rm th sz he wr mn vl tp lt ra pf pt pl pd prc ns tu ba na ca bo tr tH asd pa tg sd sr C hCu hu6 hd7 hr11 ht9 T hM
    | 7, _ => exact c_X8_count_7 l E B u kp ik ps pm dd tx ty rw rm th sz he wr mn vl tp lt ra pf pt pl pd prc ns tu ba na ca bo tr tH asd pa tg sd sr C hCu hu6 hd7 hr11 ht9 T hM
    | 8, _ => exact c_X8_count_8 l E B u kp ik ps pm dd tx ty rw rm th sz he wr mn vl tp lt ra pf pt pl pd prc ns tu ba na ca bo tr tH asd pa tg sd sr C hCu hu6 hd7 hr11 ht9 T hM
    | 9, _ => exact c_X8_count_9 l E B u kp ik ps pm dd tx ty rw rm th sz he wr mn vl tp lt ra pf pt pl pd prc ns tu ba na ca bo tr tH asd pa tg sd sr C hCu hu6 hd7 hr11 ht9 T hM
    | 10, _ => exact c_X8_count_10 l E B u kp ik ps pm dd tx ty rw rm th sz he wr mn vl tp lt ra pf pt pl pd prc ns tu ba na ca bo tr tH asd pa tg sd sr C hCu hu6 hd7 hr11 ht9 T hM
  · exact c_X8_count_o l E B u kp ik ps pm dd tx ty rw rm th sz he wr mn vl tp lt ra pf pt pl pd prc ns tu ba na ca bo tr tH asd pa tg sd sr wh (Or.inr (by rw [Int32.le_iff_toInt_le] at h1; exact Int.not_le.mp h1)) C hCu hu6 hd7 hr11 ht9 T hM

set_option maxRecDepth 100000 in
set_option maxHeartbeats 4000000 in
theorem c_X8_thrown (l : Launch) (E : rhE) (B : Nat → Nat) (u : Nat → Int32) (kp : Nat → Int32) (ik : Int32) (ps : Nat → Int32) (pm : Nat) (dd : Int32) (tx : Nat → Int32) (ty : Nat) (rw : Nat → Int64) (rm : Nat) (th : Int32) (sz : Nat) (he : Nat) (wr : Int32) (mn : Nat → Int32) (vl : Int32) (tp : Int32) (lt : Int32) (ra : Int32) (pf : Int32) (pt : Int32) (pl : Int32) (pd : Int64) (prc : Int64) (ns : Int64) (tu : Nat) (ba : Int64) (na : Int64) (ca : Nat → Int64) (bo : Nat → Int32) (tr : Nat → Int64) (tH : Int32) (asd : Nat → Int32) (pa : Nat → Int64) (tg : Nat → Int64) (sd : Int64) (sr : Int64)  : Ctr l E yX8_thrown cX8_thrown 1 (some .int) (rmL 0) [.ref (B 0)] (wM E B u kp ik ps pm dd tx ty rw rm th sz he wr mn vl tp lt ra pf pt pl pd prc ns tu ba na ca bo tr tH asd pa tg sd sr) (One (some (.int th)) (wM E B u kp ik ps pm dd tx ty rw rm th sz he wr mn vl tp lt ra pf pt pl pd prc ns tu ba na ca bo tr tH asd pa tg sd sr)) := by
  refine Ctr.of (by decide) (Nat.le_of_ble_eq_true rfl) rfl rfl 0 ?_
  intro X hX hR
  refine rh_aload_n hX dX8_thrown_0 rfl ?_
  refine rh_get hX gl_X8_48 0 dX8_thrown_1 rfl rfl ?_
  exact rh_iret hX hR dX8_thrown_4 (by simp only [List.map_cons, List.map_nil, List.cons_append, List.nil_append]) ⟨rfl, rfl⟩
