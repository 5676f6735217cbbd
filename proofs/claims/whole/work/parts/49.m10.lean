set_option maxRecDepth 100000 in
set_option maxHeartbeats 4000000 in
theorem c_X8_lost (l : Launch) (E : rhE) (B : Nat → Nat) (u : Nat → Int32) (kp : Nat → Int32) (ik : Int32) (ps : Nat → Int32) (pm : Nat) (dd : Int32) (tx : Nat → Int32) (ty : Nat) (rw : Nat → Int64) (rm : Nat) (th : Int32) (sz : Nat) (he : Nat) (wr : Int32) (mn : Nat → Int32) (vl : Int32) (tp : Int32) (lt : Int32) (ra : Int32) (pf : Int32) (pt : Int32) (pl : Int32) (pd : Int64) (prc : Int64) (ns : Int64) (tu : Nat) (ba : Int64) (na : Int64) (ca : Nat → Int64) (bo : Nat → Int32) (tr : Nat → Int64) (tH : Int32) (asd : Nat → Int32) (pa : Nat → Int64) (tg : Nat → Int64) (sd : Int64) (sr : Int64)  : Ctr l E yX8_lost cX8_lost 1 (some .int) (rmL 0) [.ref (B 0)] (wM E B u kp ik ps pm dd tx ty rw rm th sz he wr mn vl tp lt ra pf pt pl pd prc ns tu ba na ca bo tr tH asd pa tg sd sr) (One (some (.int 0)) (wM E B u kp ik ps pm dd tx ty rw rm 1 sz he wr mn vl tp lt ra pf pt pl pd prc ns tu ba na ca bo tr tH asd pa tg sd sr)) := by
  refine Ctr.of (by decide) (Nat.le_of_ble_eq_true rfl) rfl rfl 0 ?_
  intro X hX hR
  refine rh_aload_n hX dX8_lost_0 rfl ?_
  refine rh_iconst hX dX8_lost_1 ki_1 ?_
  refine rh_put hX gl_X8_48 0 dX8_lost_2 rfl rfl rfl (Nat.le_of_ble_eq_true rfl) rfl ?_
  dsimp only [List.cons_append, List.nil_append, List.set_cons_succ, List.set_cons_zero, vput]
  refine rh_iconst hX dX8_lost_5 ki_0 ?_
  exact rh_iret hX hR dX8_lost_6 (by simp only [List.map_cons, List.map_nil, List.cons_append, List.nil_append]) ⟨rfl, rfl⟩

set_option maxRecDepth 100000 in
set_option maxHeartbeats 4000000 in
theorem c_X8_keeps (l : Launch) (E : rhE) (B : Nat → Nat) (u : Nat → Int32) (kp : Nat → Int32) (ik : Int32) (ps : Nat → Int32) (pm : Nat) (dd : Int32) (tx : Nat → Int32) (ty : Nat) (rw : Nat → Int64) (rm : Nat) (th : Int32) (sz : Nat) (he : Nat) (wr : Int32) (mn : Nat → Int32) (vl : Int32) (tp : Int32) (lt : Int32) (ra : Int32) (pf : Int32) (pt : Int32) (pl : Int32) (pd : Int64) (prc : Int64) (ns : Int64) (tu : Nat) (ba : Int64) (na : Int64) (ca : Nat → Int64) (bo : Nat → Int32) (tr : Nat → Int64) (tH : Int32) (asd : Nat → Int32) (pa : Nat → Int64) (tg : Nat → Int64) (sd : Int64) (sr : Int64) (T : Nat) (hM : mOk u T)  : Ctr l E yX8_keeps cX8_keeps 2 (some .int) (rmL 5) [.ref (B 0)] (wM E B u kp ik ps pm dd tx ty rw rm th sz he wr mn vl tp lt ra pf pt pl pd prc ns tu ba na ca bo tr tH asd pa tg sd sr) (One (some (.int (cSize (fm u) T).toInt32)) (wM E B u u 1 ps pm dd tx ty rw rm 0 sz he wr mn vl tp lt ra pf pt pl pd prc ns tu ba na ca bo tr tH asd pa tg sd sr)) := by
  refine Ctr.of (by decide) (Nat.le_of_ble_eq_true rfl) rfl rfl 1 ?_
  intro X hX hR
  obtain ⟨hT, hT1, hT6, hcv⟩ := id hM
  refine rh_aload_n hX dX8_keeps_0 rfl ?_
  refine rh_iconst hX dX8_keeps_1 ki_0 ?_
  refine rh_put hX gl_X8_48 0 dX8_keeps_2 rfl rfl rfl (Nat.le_of_ble_eq_true rfl) rfl ?_
  dsimp only [List.cons_append, List.nil_append, List.set_cons_succ, List.set_cons_zero, vput]
  refine rh_iconst hX dX8_keeps_5 ki_0 ?_
  refine rh_istn1 hX dX8_keeps_6 (by decide) rfl ?_
  suffices hP0 : G X 7 [some (.ref (B 0)), some (.int 0)] [] (wM E B u (rowTI u kp 0) ik ps pm dd tx ty rw rm 0 sz he wr mn vl tp lt ra pf pt pl pd prc ns tu ba na ca bo tr tH asd pa tg sd sr) by rw [rowTI_0] at hP0; exact hP0
  refine rh_loop (P := fun i => G X 7 [some (.ref (B 0)), some (.int (nI i))] [] (wM E B u (rowTI u kp i) ik ps pm dd tx ty rw rm 0 sz he wr mn vl tp lt ra pf pt pl pd prc ns tu ba na ca bo tr tH asd pa tg sd sr)) (0) (172) (by omega) ?_ ?_
  · skip
    refine rh_extI (q := 2) (g := u) rfl (fun j hj => rowTI_lt u kp 172 j hj) rfl ?_
    dsimp only [List.cons_append, List.nil_append, List.set_cons_succ, List.set_cons_zero]
    refine rh_iload_n hX dX8_keeps_7 rfl ?_
    refine rh_sipush hX dX8_keeps_8 ks_172 ?_
    refine rh_icmp_ge_t (tgt := 32) hX dX8_keeps_11 (by decide) (nI_le (a := 172) (b := 172) (Nat.le_refl 172) (by decide)) ?_
    refine rh_aload_n hX dX8_keeps_32 rfl ?_
    refine rh_iconst hX dX8_keeps_33 ki_1 ?_
    refine rh_put hX gl_X8_386 0 dX8_keeps_34 rfl rfl rfl (Nat.le_of_ble_eq_true rfl) rfl ?_
    dsimp only [List.cons_append, List.nil_append, List.set_cons_succ, List.set_cons_zero, vput]
    refine rh_aload_n hX dX8_keeps_37 rfl ?_
    refine rh_pV hX lk_X8_143 mvX8_fullNow (fun l => c_X8_fullNow l E _ _ _ _ _ _ _ _ _ _ _ _ _ _ _ _ _ _ _ _ _ _ _ _ _ _ _ _ _ _ _ _ _ _ _ _ _ _ T hM) ⟨rfl, rfl⟩ ⟨Nat.le_of_ble_eq_true rfl, Nat.le_of_ble_eq_true rfl⟩ [0, 1, 2, 3, 4, 5, 6, 7, 8, 9, 10, 11, 12] rfl rfl 0 rfl dX8_keeps_38 rfl rfl (Nat.le_of_ble_eq_true rfl) ?_
    refine rh_l2i hX dX8_keeps_41 ?_
    exact rh_iret hX hR dX8_keeps_42 (by simp only [List.map_cons, List.map_nil, List.cons_append, List.nil_append]) ⟨rfl, rfl⟩
  · intro i hi0 hi ih
    refine rh_iload_n hX dX8_keeps_7 rfl ?_
    refine rh_sipush hX dX8_keeps_8 ks_172 ?_
    refine rh_icmp_ge_f (tgt := 32) hX dX8_keeps_11 (by decide) (nI_ge (b := 172) hi (by decide)) ?_
    refine rh_aload_n hX dX8_keeps_14 rfl ?_
    refine rh_get hX gl_X8_13 0 dX8_keeps_15 rfl rfl ?_
    refine rh_iload_n hX dX8_keeps_18 rfl ?_
    refine rh_aload_n hX dX8_keeps_19 rfl ?_
    refine rh_get hX gl_X8_7 0 dX8_keeps_20 rfl rfl ?_
    refine rh_iload_n hX dX8_keeps_23 rfl ?_
    refine rh_iaload hX 1 _ dX8_keeps_24 rfl rfl (by omega) (by decide) ?_
    refine rh_iastore hX 2 _ dX8_keeps_25 rfl rfl (by omega) (by decide) rfl ?_
    dsimp only [List.cons_append, List.nil_append, List.set_cons_succ, List.set_cons_zero, vput]
    refine rh_inc1 hX dX8_keeps_26 (by decide) rfl (rn_i1 _) ?_
    refine rh_goto (tgt := 7) hX dX8_keeps_29 (by decide) ?_
    rw [← rowTI_s u] at ih
    exact ih

set_option maxRecDepth 100000 in
set_option maxHeartbeats 4000000 in
theorem c_X8_undo (l : Launch) (E : rhE) (B : Nat → Nat) (u : Nat → Int32) (kp : Nat → Int32) (ik : Int32) (ps : Nat → Int32) (pm : Nat) (dd : Int32) (tx : Nat → Int32) (ty : Nat) (rw : Nat → Int64) (rm : Nat) (th : Int32) (sz : Nat) (he : Nat) (wr : Int32) (mn : Nat → Int32) (vl : Int32) (tp : Int32) (lt : Int32) (ra : Int32) (pf : Int32) (pt : Int32) (pl : Int32) (pd : Int64) (prc : Int64) (ns : Int64) (tu : Nat) (ba : Int64) (na : Int64) (ca : Nat → Int64) (bo : Nat → Int32) (tr : Nat → Int64) (tH : Int32) (asd : Nat → Int32) (pa : Nat → Int64) (tg : Nat → Int64) (sd : Int64) (sr : Int64) (hpm : pm ≤ 8) : Ctr l E yX8_undo cX8_undo 1 (some .int) (rmL 1) [.ref (B 0)] (wM E B u kp ik ps pm dd tx ty rw rm th sz he wr mn vl tp lt ra pf pt pl pd prc ns tu ba na ca bo tr tH asd pa tg sd sr) (One (some (.int (if pm = 0 then -2 else nI (pm - 1)))) (if pm = 0 then (wM E B u kp ik ps pm dd tx ty rw rm 0 sz he wr mn vl tp lt ra pf pt pl pd prc ns tu ba na ca bo tr tH asd pa tg sd sr) else (wM E B (fun x => ps (172 * (pm - 1) + x)) kp ik ps (pm - 1) dd tx ty rw rm 0 sz he wr mn vl tp lt ra pf pt pl pd prc ns tu ba na ca bo tr tH asd pa tg sd sr))) := by
  refine Ctr.of (by decide) (Nat.le_of_ble_eq_true rfl) rfl rfl 0 ?_
  intro X hX hR
  refine rh_aload_n hX dX8_undo_0 rfl ?_
  refine rh_iconst hX dX8_undo_1 ki_0 ?_
  refine rh_put hX gl_X8_48 0 dX8_undo_2 rfl rfl rfl (Nat.le_of_ble_eq_true rfl) rfl ?_
  dsimp only [List.cons_append, List.nil_append, List.set_cons_succ, List.set_cons_zero, vput]
  refine rh_aload_n hX dX8_undo_5 rfl ?_
  refine rh_get hX gl_X8_74 0 dX8_undo_6 rfl rfl ?_
  refine rh_if_ne (tgt := 15) hX dX8_undo_9 (by decide) (fun h9 => ?_) (fun h9 => ?_)
  · skip
    have h9 : ¬ pm = 0 := fun q => h9 (by rw [q]; rfl)
    refine rh_aload_n hX dX8_undo_15 rfl ?_
    refine rh_uV hX lk_X8_389 mvX8_undoes (fun l => c_X8_undoes l E _ _ _ _ _ _ _ _ _ _ _ _ _ _ _ _ _ _ _ _ _ _ _ _ _ _ _ _ _ _ _ _ _ _ _ _ _ _ (by omega) (by omega)) ⟨rfl, rfl⟩ ⟨Nat.le_of_ble_eq_true rfl, Nat.le_of_ble_eq_true rfl⟩ [0, 1, 2, 3, 4, 5, 6, 7, 8, 9, 10, 11, 12] rfl rfl 0 rfl dX8_undo_16 rfl rfl (Nat.le_of_ble_eq_true rfl) rfl ?_
    dsimp only [List.cons_append, List.nil_append, List.set_cons_succ, List.set_cons_zero, vput]
    refine rh_aload_n hX dX8_undo_19 rfl ?_
    refine rh_get hX gl_X8_74 0 dX8_undo_20 rfl rfl ?_
    exact rh_iret hX hR dX8_undo_23 (by simp only [List.map_cons, List.map_nil, List.cons_append, List.nil_append]) ⟨by rw [if_neg h9], by rw [if_neg h9]⟩
  · skip
    have h9 : pm = 0 := nI_z h9 (by omega)
    refine rh_bipush hX dX8_undo_12 kb_m2 ?_
    exact rh_iret hX hR dX8_undo_14 (by simp only [List.map_cons, List.map_nil, List.cons_append, List.nil_append]) ⟨by rw [if_pos h9], by rw [if_pos h9]⟩

set_option maxRecDepth 100000 in
set_option maxHeartbeats 4000000 in
theorem c_X8_termAt_0 (l : Launch) (E : rhE) (B : Nat → Nat) (u : Nat → Int32) (kp : Nat → Int32) (ik : Int32) (ps : Nat → Int32) (pm : Nat) (dd : Int32) (tx : Nat → Int32) (ty : Nat) (rw : Nat → Int64) (rm : Nat) (th : Int32) (sz : Nat) (he : Nat) (wr : Int32) (mn : Nat → Int32) (vl : Int32) (tp : Int32) (lt : Int32) (ra : Int32) (pf : Int32) (pt : Int32) (pl : Int32) (pd : Int64) (prc : Int64) (ns : Int64) (tu : Nat) (ba : Int64) (na : Int64) (ca : Nat → Int64) (bo : Nat → Int32) (tr : Nat → Int64) (tH : Int32) (asd : Nat → Int32) (pa : Nat → Int64) (tg : Nat → Int64) (sd : Int64) (sr : Int64) (t : Nat)  : Ctr l E yX8_termAt cX8_termAt 3 (some .int) (rmL 0) [.ref (B 0), .int (nI t), .int (nI 0)] (wM E B u kp ik ps pm dd tx ty rw rm th sz he wr mn vl tp lt ra pf pt pl pd prc ns tu ba na ca bo tr tH asd pa tg sd sr) (One (some (.int (nI (58 + 6 * (2 + 0) + t)))) (wM E B u kp ik ps pm dd tx ty rw rm th sz he wr mn vl tp lt ra pf pt pl pd prc ns tu ba na ca bo tr tH asd pa tg sd sr)) := by
  refine Ctr.of (by decide) (Nat.le_of_ble_eq_true rfl) rfl rfl 0 ?_
  intro X hX hR
  refine rh_iload_n hX dX8_termAt_0 rfl ?_
  refine rh_if_ne_f (tgt := 9) hX dX8_termAt_1 (by decide) rfl ?_
  refine rh_bipush hX dX8_termAt_4 kb_70 ?_
  refine rh_goto (tgt := 31) hX dX8_termAt_6 (by decide) ?_
  refine rh_iload_n hX dX8_termAt_31 rfl ?_
  refine rh_iadd hX dX8_termAt_32 ?_
  exact rh_iret hX hR dX8_termAt_33 (by simp only [List.map_cons, List.map_nil, List.cons_append, List.nil_append]) ⟨by rw [show (70 : Int32) = nI 70 from rfl, rn_add], rfl⟩

set_option maxRecDepth 100000 in
set_option maxHeartbeats 4000000 in
theorem c_X8_termAt_1 (l : Launch) (E : rhE) (B : Nat → Nat) (u : Nat → Int32) (kp : Nat → Int32) (ik : Int32) (ps : Nat → Int32) (pm : Nat) (dd : Int32) (tx : Nat → Int32) (ty : Nat) (rw : Nat → Int64) (rm : Nat) (th : Int32) (sz : Nat) (he : Nat) (wr : Int32) (mn : Nat → Int32) (vl : Int32) (tp : Int32) (lt : Int32) (ra : Int32) (pf : Int32) (pt : Int32) (pl : Int32) (pd : Int64) (prc : Int64) (ns : Int64) (tu : Nat) (ba : Int64) (na : Int64) (ca : Nat → Int64) (bo : Nat → Int32) (tr : Nat → Int64) (tH : Int32) (asd : Nat → Int32) (pa : Nat → Int64) (tg : Nat → Int64) (sd : Int64) (sr : Int64) (t : Nat)  : Ctr l E yX8_termAt cX8_termAt 3 (some .int) (rmL 0) [.ref (B 0), .int (nI t), .int (nI 1)] (wM E B u kp ik ps pm dd tx ty rw rm th sz he wr mn vl tp lt ra pf pt pl pd prc ns tu ba na ca bo tr tH asd pa tg sd sr) (One (some (.int (nI (58 + 6 * (2 + 1) + t)))) (wM E B u kp ik ps pm dd tx ty rw rm th sz he wr mn vl tp lt ra pf pt pl pd prc ns tu ba na ca bo tr tH asd pa tg sd sr)) := by
  refine Ctr.of (by decide) (Nat.le_of_ble_eq_true rfl) rfl rfl 0 ?_
  intro X hX hR
  refine rh_iload_n hX dX8_termAt_0 rfl ?_
  refine rh_if_ne_t (tgt := 9) hX dX8_termAt_1 (by decide) (by decide) ?_
  refine rh_iload_n hX dX8_termAt_9 rfl ?_
  refine rh_iconst hX dX8_termAt_10 ki_1 ?_
  refine rh_icmp_ne_f (tgt := 19) hX dX8_termAt_11 (by decide) rfl ?_
  refine rh_bipush hX dX8_termAt_14 kb_76 ?_
  refine rh_goto (tgt := 31) hX dX8_termAt_16 (by decide) ?_
  refine rh_iload_n hX dX8_termAt_31 rfl ?_
  refine rh_iadd hX dX8_termAt_32 ?_
  exact rh_iret hX hR dX8_termAt_33 (by simp only [List.map_cons, List.map_nil, List.cons_append, List.nil_append]) ⟨by rw [show (76 : Int32) = nI 76 from rfl, rn_add], rfl⟩

set_option maxRecDepth 100000 in
set_option maxHeartbeats 4000000 in
theorem c_X8_termAt_2 (l : Launch) (E : rhE) (B : Nat → Nat) (u : Nat → Int32) (kp : Nat → Int32) (ik : Int32) (ps : Nat → Int32) (pm : Nat) (dd : Int32) (tx : Nat → Int32) (ty : Nat) (rw : Nat → Int64) (rm : Nat) (th : Int32) (sz : Nat) (he : Nat) (wr : Int32) (mn : Nat → Int32) (vl : Int32) (tp : Int32) (lt : Int32) (ra : Int32) (pf : Int32) (pt : Int32) (pl : Int32) (pd : Int64) (prc : Int64) (ns : Int64) (tu : Nat) (ba : Int64) (na : Int64) (ca : Nat → Int64) (bo : Nat → Int32) (tr : Nat → Int64) (tH : Int32) (asd : Nat → Int32) (pa : Nat → Int64) (tg : Nat → Int64) (sd : Int64) (sr : Int64) (t : Nat)  : Ctr l E yX8_termAt cX8_termAt 3 (some .int) (rmL 0) [.ref (B 0), .int (nI t), .int (nI 2)] (wM E B u kp ik ps pm dd tx ty rw rm th sz he wr mn vl tp lt ra pf pt pl pd prc ns tu ba na ca bo tr tH asd pa tg sd sr) (One (some (.int (nI (58 + 6 * (2 + 2) + t)))) (wM E B u kp ik ps pm dd tx ty rw rm th sz he wr mn vl tp lt ra pf pt pl pd prc ns tu ba na ca bo tr tH asd pa tg sd sr)) := by
  refine Ctr.of (by decide) (Nat.le_of_ble_eq_true rfl) rfl rfl 0 ?_
  intro X hX hR
  refine rh_iload_n hX dX8_termAt_0 rfl ?_
  refine rh_if_ne_t (tgt := 9) hX dX8_termAt_1 (by decide) (by decide) ?_
  refine rh_iload_n hX dX8_termAt_9 rfl ?_
  refine rh_iconst hX dX8_termAt_10 ki_1 ?_
  refine rh_icmp_ne_t (tgt := 19) hX dX8_termAt_11 (by decide) (by decide) ?_
  refine rh_iload_n hX dX8_termAt_19 rfl ?_
  refine rh_iconst hX dX8_termAt_20 ki_2 ?_
  refine rh_icmp_ne_f (tgt := 29) hX dX8_termAt_21 (by decide) rfl ?_
  refine rh_bipush hX dX8_termAt_24 kb_82 ?_
  refine rh_goto (tgt := 31) hX dX8_termAt_26 (by decide) ?_
  refine rh_iload_n hX dX8_termAt_31 rfl ?_
  refine rh_iadd hX dX8_termAt_32 ?_
  exact rh_iret hX hR dX8_termAt_33 (by simp only [List.map_cons, List.map_nil, List.cons_append, List.nil_append]) ⟨by rw [show (82 : Int32) = nI 82 from rfl, rn_add], rfl⟩

set_option maxRecDepth 100000 in
set_option maxHeartbeats 4000000 in
theorem c_X8_termAt_3 (l : Launch) (E : rhE) (B : Nat → Nat) (u : Nat → Int32) (kp : Nat → Int32) (ik : Int32) (ps : Nat → Int32) (pm : Nat) (dd : Int32) (tx : Nat → Int32) (ty : Nat) (rw : Nat → Int64) (rm : Nat) (th : Int32) (sz : Nat) (he : Nat) (wr : Int32) (mn : Nat → Int32) (vl : Int32) (tp : Int32) (lt : Int32) (ra : Int32) (pf : Int32) (pt : Int32) (pl : Int32) (pd : Int64) (prc : Int64) (ns : Int64) (tu : Nat) (ba : Int64) (na : Int64) (ca : Nat → Int64) (bo : Nat → Int32) (tr : Nat → Int64) (tH : Int32) (asd : Nat → Int32) (pa : Nat → Int64) (tg : Nat → Int64) (sd : Int64) (sr : Int64) (t : Nat)  : Ctr l E yX8_termAt cX8_termAt 3 (some .int) (rmL 0) [.ref (B 0), .int (nI t), .int (nI 3)] (wM E B u kp ik ps pm dd tx ty rw rm th sz he wr mn vl tp lt ra pf pt pl pd prc ns tu ba na ca bo tr tH asd pa tg sd sr) (One (some (.int (nI (58 + 6 * (2 + 3) + t)))) (wM E B u kp ik ps pm dd tx ty rw rm th sz he wr mn vl tp lt ra pf pt pl pd prc ns tu ba na ca bo tr tH asd pa tg sd sr)) := by
  refine Ctr.of (by decide) (Nat.le_of_ble_eq_true rfl) rfl rfl 0 ?_
  intro X hX hR
  refine rh_iload_n hX dX8_termAt_0 rfl ?_
  refine rh_if_ne_t (tgt := 9) hX dX8_termAt_1 (by decide) (by decide) ?_
  refine rh_iload_n hX dX8_termAt_9 rfl ?_
  refine rh_iconst hX dX8_termAt_10 ki_1 ?_
  refine rh_icmp_ne_t (tgt := 19) hX dX8_termAt_11 (by decide) (by decide) ?_
  refine rh_iload_n hX dX8_termAt_19 rfl ?_
  refine rh_iconst hX dX8_termAt_20 ki_2 ?_
  refine rh_icmp_ne_t (tgt := 29) hX dX8_termAt_21 (by decide) (by decide) ?_
  refine rh_bipush hX dX8_termAt_29 kb_88 ?_
  refine rh_iload_n hX dX8_termAt_31 rfl ?_
  refine rh_iadd hX dX8_termAt_32 ?_
  exact rh_iret hX hR dX8_termAt_33 (by simp only [List.map_cons, List.map_nil, List.cons_append, List.nil_append]) ⟨by rw [show (88 : Int32) = nI 88 from rfl, rn_add], rfl⟩

theorem c_X8_termAt (l : Launch) (E : rhE) (B : Nat → Nat) (u : Nat → Int32) (kp : Nat → Int32) (ik : Int32) (ps : Nat → Int32) (pm : Nat) (dd : Int32) (tx : Nat → Int32) (ty : Nat) (rw : Nat → Int64) (rm : Nat) (th : Int32) (sz : Nat) (he : Nat) (wr : Int32) (mn : Nat → Int32) (vl : Int32) (tp : Int32) (lt : Int32) (ra : Int32) (pf : Int32) (pt : Int32) (pl : Int32) (pd : Int64) (prc : Int64) (ns : Int64) (tu : Nat) (ba : Int64) (na : Int64) (ca : Nat → Int64) (bo : Nat → Int32) (tr : Nat → Int64) (tH : Int32) (asd : Nat → Int32) (pa : Nat → Int64) (tg : Nat → Int64) (sd : Int64) (sr : Int64) (t k : Nat) (hk : k < 4) : Ctr l E yX8_termAt cX8_termAt 3 (some .int) (rmL 0) [.ref (B 0), .int (nI t), .int (nI k)] (wM E B u kp ik ps pm dd tx ty rw rm th sz he wr mn vl tp lt ra pf pt pl pd prc ns tu ba na ca bo tr tH asd pa tg sd sr) (One (some (.int (nI (58 + 6 * (2 + k) + t)))) (wM E B u kp ik ps pm dd tx ty rw rm th sz he wr mn vl tp lt ra pf pt pl pd prc ns tu ba na ca bo tr tH asd pa tg sd sr)) := by
  match k, hk with
  | 0, _ => exact c_X8_termAt_0 l E B u kp ik ps pm dd tx ty rw rm th sz he wr mn vl tp lt ra pf pt pl pd prc ns tu ba na ca bo tr tH asd pa tg sd sr t
  | 1, _ => exact c_X8_termAt_1 l E B u kp ik ps pm dd tx ty rw rm th sz he wr mn vl tp lt ra pf pt pl pd prc ns tu ba na ca bo tr tH asd pa tg sd sr t
  | 2, _ => exact c_X8_termAt_2 l E B u kp ik ps pm dd tx ty rw rm th sz he wr mn vl tp lt ra pf pt pl pd prc ns tu ba na ca bo tr tH asd pa tg sd sr t
  | 3, _ => exact c_X8_termAt_3 l E B u kp ik ps pm dd tx ty rw rm th sz he wr mn vl tp lt ra pf pt pl pd prc ns tu ba na ca bo tr tH asd pa tg sd sr t
