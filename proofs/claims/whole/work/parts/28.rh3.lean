def x_cancels (C : CT) (T : Nat) (h t n : Int32) : Int32 × CT := if xH h = 0 then (-1, C) else if xTy T t = 0 then (-1, C) else if n < 1 then (-1, C) else if cHeld C.1 h.toNatClampNeg t.toNatClampNeg < n.toInt64 then (-2, C) else xDeed C (va_up C.1 (0 + h.toNatClampNeg * 6 + t.toNatClampNeg) (cHeld C.1 h.toNatClampNeg t.toNatClampNeg + (-n).toInt64)) T (cSize (va_up C.1 (0 + h.toNatClampNeg * 6 + t.toNatClampNeg) (cHeld C.1 h.toNatClampNeg t.toNatClampNeg + (-n).toInt64)) T).toInt32
def x_grant (C : CT) (T : Nat) (h n : Int32) : Int32 × CT := if xH h = 0 then (-1, C) else if n < 1 then (-1, C) else if C.1 170 < n.toInt64 then (-2, C) else xDeed C (va_up (va_up C.1 170 (C.1 170 - n.toInt64)) (96 + h.toNatClampNeg) (cGranted (va_up C.1 170 (C.1 170 - n.toInt64)) h.toNatClampNeg + n.toInt64)) T ((va_up (va_up C.1 170 (C.1 170 - n.toInt64)) (96 + h.toNatClampNeg) (cGranted (va_up C.1 170 (C.1 170 - n.toInt64)) h.toNatClampNeg + n.toInt64)) 170).toInt32
def x_exercise (C : CT) (T : Nat) (h n : Int32) : Int32 × CT := if xH h = 0 then (-1, C) else if n < 1 then (-1, C) else if cGranted C.1 h.toNatClampNeg < n.toInt64 then (-2, C) else xDeed C (va_up (va_up C.1 (96 + h.toNatClampNeg) (cGranted C.1 h.toNatClampNeg + (-n).toInt64)) (0 + h.toNatClampNeg * 6 + 0) (cHeld (va_up C.1 (96 + h.toNatClampNeg) (cGranted C.1 h.toNatClampNeg + (-n).toInt64)) h.toNatClampNeg 0 + n.toInt64)) T (cGranted (va_up (va_up C.1 (96 + h.toNatClampNeg) (cGranted C.1 h.toNatClampNeg + (-n).toInt64)) (0 + h.toNatClampNeg * 6 + 0) (cHeld (va_up C.1 (96 + h.toNatClampNeg) (cGranted C.1 h.toNatClampNeg + (-n).toInt64)) h.toNatClampNeg 0 + n.toInt64)) h.toNatClampNeg).toInt32
def x_lapses (C : CT) (T : Nat) (h n : Int32) : Int32 × CT := if xH h = 0 then (-1, C) else if n < 1 then (-1, C) else if cGranted C.1 h.toNatClampNeg < n.toInt64 then (-2, C) else xDeed C (va_up (va_up C.1 (96 + h.toNatClampNeg) (cGranted C.1 h.toNatClampNeg + (-n).toInt64)) 170 (va_up C.1 (96 + h.toNatClampNeg) (cGranted C.1 h.toNatClampNeg + (-n).toInt64) 170 + n.toInt64)) T ((va_up (va_up C.1 (96 + h.toNatClampNeg) (cGranted C.1 h.toNatClampNeg + (-n).toInt64)) 170 (va_up C.1 (96 + h.toNatClampNeg) (cGranted C.1 h.toNatClampNeg + (-n).toInt64) 170 + n.toInt64)) 170).toInt32
def x_sells (C : CT) (T : Nat) (h to t n : Int32) : Int32 × CT := if xH h = 0 then (-1, C) else if xH to = 0 then (-1, C) else if xTy T t = 0 then (-1, C) else if n < 1 then (-1, C) else if h = to then (-2, C) else if cHeld C.1 h.toNatClampNeg t.toNatClampNeg < n.toInt64 then (-2, C) else xDeed C (va_up (va_up C.1 (0 + h.toNatClampNeg * 6 + t.toNatClampNeg) (cHeld C.1 h.toNatClampNeg t.toNatClampNeg + (-n).toInt64)) (0 + to.toNatClampNeg * 6 + t.toNatClampNeg) (cHeld (va_up C.1 (0 + h.toNatClampNeg * 6 + t.toNatClampNeg) (cHeld C.1 h.toNatClampNeg t.toNatClampNeg + (-n).toInt64)) to.toNatClampNeg t.toNatClampNeg + n.toInt64)) T (cHeld (va_up (va_up C.1 (0 + h.toNatClampNeg * 6 + t.toNatClampNeg) (cHeld C.1 h.toNatClampNeg t.toNatClampNeg + (-n).toInt64)) (0 + to.toNatClampNeg * 6 + t.toNatClampNeg) (cHeld (va_up C.1 (0 + h.toNatClampNeg * 6 + t.toNatClampNeg) (cHeld C.1 h.toNatClampNeg t.toNatClampNeg + (-n).toInt64)) to.toNatClampNeg t.toNatClampNeg + n.toInt64)) h.toNatClampNeg t.toNatClampNeg).toInt32
def x_splits (C : CT) (T : Nat) (k : Int32) : Int32 × CT := if k < 2 then (-1, C) else if 10 < k then (-1, C) else xDeed C (cMul C.1 k T) T (cSize (cMul C.1 k T) T).toInt32
def x_converts (C : CT) (T : Nat) (h t n : Int32) : Int32 × CT := if xH h = 0 then (-1, C) else if xSe T t = 0 then (-1, C) else if n < 1 then (-1, C) else if cHeld C.1 h.toNatClampNeg t.toNatClampNeg < n.toInt64 then (-2, C) else xDeed C (va_up (va_up C.1 (0 + h.toNatClampNeg * 6 + t.toNatClampNeg) (cHeld C.1 h.toNatClampNeg t.toNatClampNeg + (-n).toInt64)) (0 + h.toNatClampNeg * 6 + 0) (cHeld (va_up C.1 (0 + h.toNatClampNeg * 6 + t.toNatClampNeg) (cHeld C.1 h.toNatClampNeg t.toNatClampNeg + (-n).toInt64)) h.toNatClampNeg 0 + cConv C.1 t.toNatClampNeg n.toInt64)) T (cConv C.1 t.toNatClampNeg n.toInt64).toInt32
def x_keeps (C : CT) (T : Nat) : Int32 × CT := ((cSize C.1 T).toInt32, (C.1, C.1, 1, C.2.2.2))
def x_back (C : CT) (Tk : Nat) : Int32 × CT := if C.2.2.1 = 0 then (-2, C) else xDeed C C.2.1 Tk (cSize C.2.1 Tk).toInt32
def x_undo (C : CT) : Int32 × CT := if C.2.2.2.2.2.1 = 0 then (-2, C) else (nI (C.2.2.2.2.2.1 - 1), (C.2.2.2.1 ((C.2.2.2.2.1 + 7) % 8), C.2.1, C.2.2.1, C.2.2.2.1, (C.2.2.2.2.1 + 7) % 8, C.2.2.2.2.2.1 - 1, C.2.2.2.2.2.2))
theorem ge2 {x y : Int32} (h : ¬ x ≤ y) : y < x := Int32.not_le.mp h

set_option maxRecDepth 100000 in
set_option maxHeartbeats 4000000 in
theorem c_X7_cancels (l : Launch) (E : rhE) (A : Nat → Nat) (C : CT) (Z : ZT) (h t n : Int32) (T : Nat) (hC : cOk C T) (hz : zOk Z) : Ctr l E yX7_cancels cX7_cancels 4 (some .int) (rmL 5) [.ref (A 0), .int h, .int t, .int n] (wC E A C Z) (fun r w => ∃ Z1, r = some (Value.int (x_cancels C T h t n).1) ∧ zOk Z1 ∧ w = wC E A (x_cancels C T h t n).2 Z1) := by
  refine Ctr.of (by decide) (Nat.le_of_ble_eq_true rfl) rfl rfl 0 ?_
  intro X hX hR
  obtain ⟨hT, hT1, hT6, hnx, hud, hn, hrn⟩ := id hC
  refine rh_iload_n hX dX7_cancels_0 rfl ?_
  refine rh_pS hX lk_X7_104 msX7_isHolder (fun l => c_X7_isHolder l E _) ⟨rfl, rfl⟩ ⟨Nat.le_of_ble_eq_true rfl, Nat.le_of_ble_eq_true rfl⟩ [] rfl rfl dX7_cancels_1 rfl rfl (Nat.le_of_ble_eq_true rfl) ?_
  refine rh_if_eq (tgt := 20) hX dX7_cancels_4 (by decide) (fun h4 => ?_) (fun h4 => ?_)
  · skip
    refine rh_iconst hX dX7_cancels_20 ki_m1 ?_
    exact rh_iret hX hR dX7_cancels_21 (by simp only [List.map_cons, List.map_nil, List.cons_append, List.nil_append]) (by first | exact ⟨Z, by rw [x_cancels, if_pos h4] <;> rfl, hz, by rw [x_cancels, if_pos h4] <;> rfl⟩ | exact ⟨Z, by rw [x_cancels, if_neg h4, if_pos h12] <;> rfl, hz, by rw [x_cancels, if_neg h4, if_pos h12] <;> rfl⟩ | exact ⟨Z, by rw [x_cancels, if_neg h4, if_neg h12, if_pos (lt1 h17)] <;> rfl, hz, by rw [x_cancels, if_neg h4, if_neg h12, if_pos (lt1 h17)] <;> rfl⟩)
  · skip
    obtain ⟨hd, rfl, hdl⟩ := xH_1 h4
    refine rh_aload_n hX dX7_cancels_7 rfl ?_
    refine rh_iload_n hX dX7_cancels_8 rfl ?_
    refine rh_aP hX lk_X7_110 mvX7_isType (fun l => c_X7_isType l E A C Z _ T hC) ⟨rfl, rfl⟩ ⟨Nat.le_of_ble_eq_true rfl, Nat.le_of_ble_eq_true rfl⟩ 0 rfl dX7_cancels_9 rfl rfl (Nat.le_of_ble_eq_true rfl) ?_
    refine rh_if_eq (tgt := 20) hX dX7_cancels_12 (by decide) (fun h12 => ?_) (fun h12 => ?_)
    · skip
      refine rh_iconst hX dX7_cancels_20 ki_m1 ?_
      exact rh_iret hX hR dX7_cancels_21 (by simp only [List.map_cons, List.map_nil, List.cons_append, List.nil_append]) (by first | exact ⟨Z, by rw [x_cancels, if_pos h4] <;> rfl, hz, by rw [x_cancels, if_pos h4] <;> rfl⟩ | exact ⟨Z, by rw [x_cancels, if_neg h4, if_pos h12] <;> rfl, hz, by rw [x_cancels, if_neg h4, if_pos h12] <;> rfl⟩ | exact ⟨Z, by rw [x_cancels, if_neg h4, if_neg h12, if_pos (lt1 h17)] <;> rfl, hz, by rw [x_cancels, if_neg h4, if_neg h12, if_pos (lt1 h17)] <;> rfl⟩)
    · skip
      obtain ⟨td, rfl, htd⟩ := xTy_1 hT6 h12
      refine rh_iload_n hX dX7_cancels_15 rfl ?_
      refine rh_iconst hX dX7_cancels_16 ki_1 ?_
      refine rh_icmp_ge (tgt := 22) hX dX7_cancels_17 (by decide) (fun h17 => ?_) (fun h17 => ?_)
      · skip
        refine rh_aload_n hX dX7_cancels_22 rfl ?_
        refine rh_get hX gl_X7_12 0 dX7_cancels_23 rfl rfl ?_
        refine rh_iload_n hX dX7_cancels_26 rfl ?_
        refine rh_iload_n hX dX7_cancels_27 rfl ?_
        refine rh_pV hX lk_X7_113 mvX1_held (fun l => c_X1_held l E _ _ _ hd td (by omega) (by omega)) ⟨rfl, rfl⟩ ⟨Nat.le_of_ble_eq_true rfl, Nat.le_of_ble_eq_true rfl⟩ [1, 2] rfl rfl 1 rfl dX7_cancels_28 rfl rfl (Nat.le_of_ble_eq_true rfl) ?_
        refine rh_iload_n hX dX7_cancels_31 rfl ?_
        refine rh_i2l hX dX7_cancels_32 ?_
        refine rh_lge (tgt := 40) hX dX7_cancels_33 dX7_cancels_34 (by decide) (fun h33 => ?_) (fun h33 => ?_)
        · skip
          refine rh_aload_n hX dX7_cancels_40 rfl ?_
          refine rh_aU hX lk_X7_107 mvX7_beginDraft (fun l => c_X7_beginDraft l E A C Z) ⟨rfl, rfl⟩ ⟨Nat.le_of_ble_eq_true rfl, Nat.le_of_ble_eq_true rfl⟩ 0 rfl dX7_cancels_41 rfl rfl (Nat.le_of_ble_eq_true rfl) ?_
          refine rh_aload_n hX dX7_cancels_44 rfl ?_
          refine rh_get hX gl_X7_16 0 dX7_cancels_45 rfl rfl ?_
          refine rh_iload_n hX dX7_cancels_48 rfl ?_
          refine rh_iload_n hX dX7_cancels_49 rfl ?_
          refine rh_iload_n hX dX7_cancels_50 rfl ?_
          refine rh_ineg hX dX7_cancels_51 ?_
          refine rh_i2l hX dX7_cancels_52 ?_
          refine rh_uV hX lk_X7_92 mvX1_addHeld (fun l => c_X1_addHeld l E _ _ _ hd td _ (by omega) (by omega)) ⟨rfl, rfl⟩ ⟨Nat.le_of_ble_eq_true rfl, Nat.le_of_ble_eq_true rfl⟩ [3, 4] rfl rfl 3 rfl dX7_cancels_53 rfl rfl (Nat.le_of_ble_eq_true rfl) rfl ?_
          dsimp only [List.cons_append, List.nil_append, List.set_cons_succ, List.set_cons_zero, vput]
          refine rh_aload_n hX dX7_cancels_56 rfl ?_
          refine rh_aW hX lk_X7_96 mvX7_accepts (fun l => c_X7_accepts l E A C ((va_up C.1 (0 + hd * 6 + td) (cHeld C.1 hd td + (-n).toInt64)), Z.2) T hC T (by show ((va_up C.1 (0 + hd * 6 + td) (cHeld C.1 hd td + (-n).toInt64)) 171).toInt32 = nI T; rw [show (va_up C.1 (0 + hd * 6 + td) (cHeld C.1 hd td + (-n).toInt64)) 171 = C.1 171 by (unfold va_up; repeat rw [if_neg (by omega)])]; exact hT) (by omega)) ⟨rfl, rfl⟩ ⟨Nat.le_of_ble_eq_true rfl, Nat.le_of_ble_eq_true rfl⟩ 0 rfl dX7_cancels_57 rfl rfl (Nat.le_of_ble_eq_true rfl) ?_
          refine rh_if_eq (tgt := 74) hX dX7_cancels_60 (by decide) (fun hx => ?_) (fun hx => ?_)
          · skip
            have hx : 1000000000 < cSize ((va_up C.1 (0 + hd * 6 + td) (cHeld C.1 hd td + (-n).toInt64))) T := Classical.not_not.mp (fun q => absurd (show (if 1000000000 < cSize ((va_up C.1 (0 + hd * 6 + td) (cHeld C.1 hd td + (-n).toInt64))) T then (0 : Int32) else 1) = 0 from hx) (by rw [if_neg q]; decide))
            rw [if_pos (show 1000000000 < cSize (((va_up C.1 (0 + hd * 6 + td) (cHeld C.1 hd td + (-n).toInt64)), Z.2) : ZT).1 T from hx)]
            refine rh_bipush hX dX7_cancels_74 kb_m9 ?_
            exact rh_iret hX hR dX7_cancels_76 (by simp only [List.map_cons, List.map_nil, List.cons_append, List.nil_append]) (by first | exact ⟨((va_up C.1 (0 + hd * 6 + td) (cHeld C.1 hd td + (-n).toInt64)), Z.2), by rw [x_cancels, if_neg h4, if_neg h12, if_neg (nlt1 h17), nI_clamp (show hd < 2 ^ 31 by omega), nI_clamp (show td < 2 ^ 31 by omega), if_neg (rh_le64.mp h33), xDeed, if_neg hx] <;> rfl, hz, by rw [x_cancels, if_neg h4, if_neg h12, if_neg (nlt1 h17), nI_clamp (show hd < 2 ^ 31 by omega), nI_clamp (show td < 2 ^ 31 by omega), if_neg (rh_le64.mp h33), xDeed, if_neg hx] <;> rfl⟩ | exact ⟨((va_up C.1 (0 + hd * 6 + td) (cHeld C.1 hd td + (-n).toInt64)), Z.2), by rw [x_cancels, if_neg h4, if_neg h12, if_neg (nlt1 h17), nI_clamp (show hd < 2 ^ 31 by omega), nI_clamp (show td < 2 ^ 31 by omega), if_neg (rh_le64.mp h33), xDeed, if_pos hx] <;> rfl, hz, by rw [x_cancels, if_neg h4, if_neg h12, if_neg (nlt1 h17), nI_clamp (show hd < 2 ^ 31 by omega), nI_clamp (show td < 2 ^ 31 by omega), if_neg (rh_le64.mp h33), xDeed, if_pos hx] <;> rfl⟩)
          · skip
            have hx : ¬ 1000000000 < cSize ((va_up C.1 (0 + hd * 6 + td) (cHeld C.1 hd td + (-n).toInt64))) T := fun q => hx (show (if 1000000000 < cSize ((va_up C.1 (0 + hd * 6 + td) (cHeld C.1 hd td + (-n).toInt64))) T then (0 : Int32) else 1) = 0 from if_pos q)
            rw [if_neg (show ¬ 1000000000 < cSize (((va_up C.1 (0 + hd * 6 + td) (cHeld C.1 hd td + (-n).toInt64)), Z.2) : ZT).1 T from hx)]
            refine rh_aload_n hX dX7_cancels_63 rfl ?_
            refine rh_get hX gl_X7_12 0 dX7_cancels_64 rfl rfl ?_
            refine rh_pV hX lk_X7_100 mvX1_size (fun l => c_X1_size l E _ _ _ T (by show ((va_up C.1 (0 + hd * 6 + td) (cHeld C.1 hd td + (-n).toInt64)) 171).toInt32 = nI T; rw [show (va_up C.1 (0 + hd * 6 + td) (cHeld C.1 hd td + (-n).toInt64)) 171 = C.1 171 by (unfold va_up; repeat rw [if_neg (by omega)])]; exact hT) hT6) ⟨rfl, rfl⟩ ⟨Nat.le_of_ble_eq_true rfl, Nat.le_of_ble_eq_true rfl⟩ [1, 2] rfl rfl 1 rfl dX7_cancels_67 rfl rfl (Nat.le_of_ble_eq_true rfl) ?_
            refine rh_l2i hX dX7_cancels_70 ?_
            refine rh_goto (tgt := 76) hX dX7_cancels_71 (by decide) ?_
            exact rh_iret hX hR dX7_cancels_76 (by simp only [List.map_cons, List.map_nil, List.cons_append, List.nil_append]) (by first | exact ⟨((va_up C.1 (0 + hd * 6 + td) (cHeld C.1 hd td + (-n).toInt64)), Z.2), by rw [x_cancels, if_neg h4, if_neg h12, if_neg (nlt1 h17), nI_clamp (show hd < 2 ^ 31 by omega), nI_clamp (show td < 2 ^ 31 by omega), if_neg (rh_le64.mp h33), xDeed, if_neg hx] <;> rfl, hz, by rw [x_cancels, if_neg h4, if_neg h12, if_neg (nlt1 h17), nI_clamp (show hd < 2 ^ 31 by omega), nI_clamp (show td < 2 ^ 31 by omega), if_neg (rh_le64.mp h33), xDeed, if_neg hx] <;> rfl⟩ | exact ⟨((va_up C.1 (0 + hd * 6 + td) (cHeld C.1 hd td + (-n).toInt64)), Z.2), by rw [x_cancels, if_neg h4, if_neg h12, if_neg (nlt1 h17), nI_clamp (show hd < 2 ^ 31 by omega), nI_clamp (show td < 2 ^ 31 by omega), if_neg (rh_le64.mp h33), xDeed, if_pos hx] <;> rfl, hz, by rw [x_cancels, if_neg h4, if_neg h12, if_neg (nlt1 h17), nI_clamp (show hd < 2 ^ 31 by omega), nI_clamp (show td < 2 ^ 31 by omega), if_neg (rh_le64.mp h33), xDeed, if_pos hx] <;> rfl⟩)
        · skip
          refine rh_bipush hX dX7_cancels_37 kb_m2 ?_
          exact rh_iret hX hR dX7_cancels_39 (by simp only [List.map_cons, List.map_nil, List.cons_append, List.nil_append]) ⟨Z, by rw [x_cancels, if_neg h4, if_neg h12, if_neg (nlt1 h17), nI_clamp (show hd < 2 ^ 31 by omega), nI_clamp (show td < 2 ^ 31 by omega), if_pos (Classical.not_not.mp (fun q => h33 (rh_le64.mpr q)))] <;> rfl, hz, by rw [x_cancels, if_neg h4, if_neg h12, if_neg (nlt1 h17), nI_clamp (show hd < 2 ^ 31 by omega), nI_clamp (show td < 2 ^ 31 by omega), if_pos (Classical.not_not.mp (fun q => h33 (rh_le64.mpr q)))] <;> rfl⟩
      · skip
        refine rh_iconst hX dX7_cancels_20 ki_m1 ?_
        exact rh_iret hX hR dX7_cancels_21 (by simp only [List.map_cons, List.map_nil, List.cons_append, List.nil_append]) (by first | exact ⟨Z, by rw [x_cancels, if_pos h4] <;> rfl, hz, by rw [x_cancels, if_pos h4] <;> rfl⟩ | exact ⟨Z, by rw [x_cancels, if_neg h4, if_pos h12] <;> rfl, hz, by rw [x_cancels, if_neg h4, if_pos h12] <;> rfl⟩ | exact ⟨Z, by rw [x_cancels, if_neg h4, if_neg h12, if_pos (lt1 h17)] <;> rfl, hz, by rw [x_cancels, if_neg h4, if_neg h12, if_pos (lt1 h17)] <;> rfl⟩)

set_option maxRecDepth 100000 in
set_option maxHeartbeats 4000000 in
theorem c_X7_grant (l : Launch) (E : rhE) (A : Nat → Nat) (C : CT) (Z : ZT) (h n : Int32) (T : Nat) (hC : cOk C T) (hz : zOk Z) : Ctr l E yX7_grant cX7_grant 3 (some .int) (rmL 5) [.ref (A 0), .int h, .int n] (wC E A C Z) (fun r w => ∃ Z1, r = some (Value.int (x_grant C T h n).1) ∧ zOk Z1 ∧ w = wC E A (x_grant C T h n).2 Z1) := by
  refine Ctr.of (by decide) (Nat.le_of_ble_eq_true rfl) rfl rfl 0 ?_
  intro X hX hR
  obtain ⟨hT, hT1, hT6, hnx, hud, hn, hrn⟩ := id hC
  refine rh_iload_n hX dX7_grant_0 rfl ?_
  refine rh_pS hX lk_X7_104 msX7_isHolder (fun l => c_X7_isHolder l E _) ⟨rfl, rfl⟩ ⟨Nat.le_of_ble_eq_true rfl, Nat.le_of_ble_eq_true rfl⟩ [] rfl rfl dX7_grant_1 rfl rfl (Nat.le_of_ble_eq_true rfl) ?_
  refine rh_if_eq (tgt := 12) hX dX7_grant_4 (by decide) (fun h4 => ?_) (fun h4 => ?_)
  · skip
    refine rh_iconst hX dX7_grant_12 ki_m1 ?_
    exact rh_iret hX hR dX7_grant_13 (by simp only [List.map_cons, List.map_nil, List.cons_append, List.nil_append]) (by first | exact ⟨Z, by rw [x_grant, if_pos h4] <;> rfl, hz, by rw [x_grant, if_pos h4] <;> rfl⟩ | exact ⟨Z, by rw [x_grant, if_neg h4, if_pos (lt1 h9)] <;> rfl, hz, by rw [x_grant, if_neg h4, if_pos (lt1 h9)] <;> rfl⟩)
  · skip
    obtain ⟨hd, rfl, hdl⟩ := xH_1 h4
    refine rh_iload_n hX dX7_grant_7 rfl ?_
    refine rh_iconst hX dX7_grant_8 ki_1 ?_
    refine rh_icmp_ge (tgt := 14) hX dX7_grant_9 (by decide) (fun h9 => ?_) (fun h9 => ?_)
    · skip
      refine rh_aload_n hX dX7_grant_14 rfl ?_
      refine rh_get hX gl_X7_12 0 dX7_grant_15 rfl rfl ?_
      refine rh_pV hX lk_X7_117 mvX1_spare (fun l => c_X1_spare l E _ _ _) ⟨rfl, rfl⟩ ⟨Nat.le_of_ble_eq_true rfl, Nat.le_of_ble_eq_true rfl⟩ [1, 2] rfl rfl 1 rfl dX7_grant_18 rfl rfl (Nat.le_of_ble_eq_true rfl) ?_
      refine rh_iload_n hX dX7_grant_21 rfl ?_
      refine rh_i2l hX dX7_grant_22 ?_
      refine rh_lge (tgt := 30) hX dX7_grant_23 dX7_grant_24 (by decide) (fun h23 => ?_) (fun h23 => ?_)
      · skip
        refine rh_aload_n hX dX7_grant_30 rfl ?_
        refine rh_aU hX lk_X7_107 mvX7_beginDraft (fun l => c_X7_beginDraft l E A C Z) ⟨rfl, rfl⟩ ⟨Nat.le_of_ble_eq_true rfl, Nat.le_of_ble_eq_true rfl⟩ 0 rfl dX7_grant_31 rfl rfl (Nat.le_of_ble_eq_true rfl) ?_
        refine rh_aload_n hX dX7_grant_34 rfl ?_
        refine rh_get hX gl_X7_16 0 dX7_grant_35 rfl rfl ?_
        refine rh_aload_n hX dX7_grant_38 rfl ?_
        refine rh_get hX gl_X7_16 0 dX7_grant_39 rfl rfl ?_
        refine rh_pV hX lk_X7_117 mvX1_spare (fun l => c_X1_spare l E _ _ _) ⟨rfl, rfl⟩ ⟨Nat.le_of_ble_eq_true rfl, Nat.le_of_ble_eq_true rfl⟩ [3, 4] rfl rfl 3 rfl dX7_grant_42 rfl rfl (Nat.le_of_ble_eq_true rfl) ?_
        refine rh_iload_n hX dX7_grant_45 rfl ?_
        refine rh_i2l hX dX7_grant_46 ?_
        refine rh_lsub hX dX7_grant_47 ?_
        refine rh_uV hX lk_X7_120 mvX1_setSpare (fun l => c_X1_setSpare l E _ _ _ _) ⟨rfl, rfl⟩ ⟨Nat.le_of_ble_eq_true rfl, Nat.le_of_ble_eq_true rfl⟩ [3, 4] rfl rfl 3 rfl dX7_grant_48 rfl rfl (Nat.le_of_ble_eq_true rfl) rfl ?_
        dsimp only [List.cons_append, List.nil_append, List.set_cons_succ, List.set_cons_zero, vput]
        refine rh_aload_n hX dX7_grant_51 rfl ?_
        refine rh_get hX gl_X7_16 0 dX7_grant_52 rfl rfl ?_
        refine rh_iload_n hX dX7_grant_55 rfl ?_
        refine rh_iload_n hX dX7_grant_56 rfl ?_
        refine rh_i2l hX dX7_grant_57 ?_
        refine rh_uV hX lk_X7_124 mvX1_addGranted (fun l => c_X1_addGranted l E _ _ _ hd _ (by omega)) ⟨rfl, rfl⟩ ⟨Nat.le_of_ble_eq_true rfl, Nat.le_of_ble_eq_true rfl⟩ [3, 4] rfl rfl 3 rfl dX7_grant_58 rfl rfl (Nat.le_of_ble_eq_true rfl) rfl ?_
        dsimp only [List.cons_append, List.nil_append, List.set_cons_succ, List.set_cons_zero, vput]
        refine rh_aload_n hX dX7_grant_61 rfl ?_
        refine rh_aW hX lk_X7_96 mvX7_accepts (fun l => c_X7_accepts l E A C ((va_up (va_up C.1 170 (C.1 170 - n.toInt64)) (96 + hd) (cGranted (va_up C.1 170 (C.1 170 - n.toInt64)) hd + n.toInt64)), Z.2) T hC T (by show ((va_up (va_up C.1 170 (C.1 170 - n.toInt64)) (96 + hd) (cGranted (va_up C.1 170 (C.1 170 - n.toInt64)) hd + n.toInt64)) 171).toInt32 = nI T; rw [show (va_up (va_up C.1 170 (C.1 170 - n.toInt64)) (96 + hd) (cGranted (va_up C.1 170 (C.1 170 - n.toInt64)) hd + n.toInt64)) 171 = C.1 171 by (unfold va_up; repeat rw [if_neg (by omega)])]; exact hT) (by omega)) ⟨rfl, rfl⟩ ⟨Nat.le_of_ble_eq_true rfl, Nat.le_of_ble_eq_true rfl⟩ 0 rfl dX7_grant_62 rfl rfl (Nat.le_of_ble_eq_true rfl) ?_
        refine rh_if_eq (tgt := 79) hX dX7_grant_65 (by decide) (fun hx => ?_) (fun hx => ?_)
        · skip
          have hx : 1000000000 < cSize ((va_up (va_up C.1 170 (C.1 170 - n.toInt64)) (96 + hd) (cGranted (va_up C.1 170 (C.1 170 - n.toInt64)) hd + n.toInt64))) T := Classical.not_not.mp (fun q => absurd (show (if 1000000000 < cSize ((va_up (va_up C.1 170 (C.1 170 - n.toInt64)) (96 + hd) (cGranted (va_up C.1 170 (C.1 170 - n.toInt64)) hd + n.toInt64))) T then (0 : Int32) else 1) = 0 from hx) (by rw [if_neg q]; decide))
          rw [if_pos (show 1000000000 < cSize (((va_up (va_up C.1 170 (C.1 170 - n.toInt64)) (96 + hd) (cGranted (va_up C.1 170 (C.1 170 - n.toInt64)) hd + n.toInt64)), Z.2) : ZT).1 T from hx)]
          refine rh_bipush hX dX7_grant_79 kb_m9 ?_
          exact rh_iret hX hR dX7_grant_81 (by simp only [List.map_cons, List.map_nil, List.cons_append, List.nil_append]) (by first | exact ⟨((va_up (va_up C.1 170 (C.1 170 - n.toInt64)) (96 + hd) (cGranted (va_up C.1 170 (C.1 170 - n.toInt64)) hd + n.toInt64)), Z.2), by rw [x_grant, if_neg h4, if_neg (nlt1 h9), nI_clamp (show hd < 2 ^ 31 by omega), if_neg (rh_le64.mp h23), xDeed, if_neg hx] <;> rfl, hz, by rw [x_grant, if_neg h4, if_neg (nlt1 h9), nI_clamp (show hd < 2 ^ 31 by omega), if_neg (rh_le64.mp h23), xDeed, if_neg hx] <;> rfl⟩ | exact ⟨((va_up (va_up C.1 170 (C.1 170 - n.toInt64)) (96 + hd) (cGranted (va_up C.1 170 (C.1 170 - n.toInt64)) hd + n.toInt64)), Z.2), by rw [x_grant, if_neg h4, if_neg (nlt1 h9), nI_clamp (show hd < 2 ^ 31 by omega), if_neg (rh_le64.mp h23), xDeed, if_pos hx] <;> rfl, hz, by rw [x_grant, if_neg h4, if_neg (nlt1 h9), nI_clamp (show hd < 2 ^ 31 by omega), if_neg (rh_le64.mp h23), xDeed, if_pos hx] <;> rfl⟩)
        · skip
          have hx : ¬ 1000000000 < cSize ((va_up (va_up C.1 170 (C.1 170 - n.toInt64)) (96 + hd) (cGranted (va_up C.1 170 (C.1 170 - n.toInt64)) hd + n.toInt64))) T := fun q => hx (show (if 1000000000 < cSize ((va_up (va_up C.1 170 (C.1 170 - n.toInt64)) (96 + hd) (cGranted (va_up C.1 170 (C.1 170 - n.toInt64)) hd + n.toInt64))) T then (0 : Int32) else 1) = 0 from if_pos q)
          rw [if_neg (show ¬ 1000000000 < cSize (((va_up (va_up C.1 170 (C.1 170 - n.toInt64)) (96 + hd) (cGranted (va_up C.1 170 (C.1 170 - n.toInt64)) hd + n.toInt64)), Z.2) : ZT).1 T from hx)]
          refine rh_aload_n hX dX7_grant_68 rfl ?_
          refine rh_get hX gl_X7_12 0 dX7_grant_69 rfl rfl ?_
          refine rh_pV hX lk_X7_117 mvX1_spare (fun l => c_X1_spare l E _ _ _) ⟨rfl, rfl⟩ ⟨Nat.le_of_ble_eq_true rfl, Nat.le_of_ble_eq_true rfl⟩ [1, 2] rfl rfl 1 rfl dX7_grant_72 rfl rfl (Nat.le_of_ble_eq_true rfl) ?_
          refine rh_l2i hX dX7_grant_75 ?_
          refine rh_goto (tgt := 81) hX dX7_grant_76 (by decide) ?_
          exact rh_iret hX hR dX7_grant_81 (by simp only [List.map_cons, List.map_nil, List.cons_append, List.nil_append]) (by first | exact ⟨((va_up (va_up C.1 170 (C.1 170 - n.toInt64)) (96 + hd) (cGranted (va_up C.1 170 (C.1 170 - n.toInt64)) hd + n.toInt64)), Z.2), by rw [x_grant, if_neg h4, if_neg (nlt1 h9), nI_clamp (show hd < 2 ^ 31 by omega), if_neg (rh_le64.mp h23), xDeed, if_neg hx] <;> rfl, hz, by rw [x_grant, if_neg h4, if_neg (nlt1 h9), nI_clamp (show hd < 2 ^ 31 by omega), if_neg (rh_le64.mp h23), xDeed, if_neg hx] <;> rfl⟩ | exact ⟨((va_up (va_up C.1 170 (C.1 170 - n.toInt64)) (96 + hd) (cGranted (va_up C.1 170 (C.1 170 - n.toInt64)) hd + n.toInt64)), Z.2), by rw [x_grant, if_neg h4, if_neg (nlt1 h9), nI_clamp (show hd < 2 ^ 31 by omega), if_neg (rh_le64.mp h23), xDeed, if_pos hx] <;> rfl, hz, by rw [x_grant, if_neg h4, if_neg (nlt1 h9), nI_clamp (show hd < 2 ^ 31 by omega), if_neg (rh_le64.mp h23), xDeed, if_pos hx] <;> rfl⟩)
      · skip
        refine rh_bipush hX dX7_grant_27 kb_m2 ?_
        exact rh_iret hX hR dX7_grant_29 (by simp only [List.map_cons, List.map_nil, List.cons_append, List.nil_append]) ⟨Z, by rw [x_grant, if_neg h4, if_neg (nlt1 h9), if_pos (Classical.not_not.mp (fun q => h23 (rh_le64.mpr q)))] <;> rfl, hz, by rw [x_grant, if_neg h4, if_neg (nlt1 h9), if_pos (Classical.not_not.mp (fun q => h23 (rh_le64.mpr q)))] <;> rfl⟩
    · skip
      refine rh_iconst hX dX7_grant_12 ki_m1 ?_
      exact rh_iret hX hR dX7_grant_13 (by simp only [List.map_cons, List.map_nil, List.cons_append, List.nil_append]) (by first | exact ⟨Z, by rw [x_grant, if_pos h4] <;> rfl, hz, by rw [x_grant, if_pos h4] <;> rfl⟩ | exact ⟨Z, by rw [x_grant, if_neg h4, if_pos (lt1 h9)] <;> rfl, hz, by rw [x_grant, if_neg h4, if_pos (lt1 h9)] <;> rfl⟩)

set_option maxRecDepth 100000 in
set_option maxHeartbeats 4000000 in
theorem c_X7_exercise (l : Launch) (E : rhE) (A : Nat → Nat) (C : CT) (Z : ZT) (h n : Int32) (T : Nat) (hC : cOk C T) (hz : zOk Z) : Ctr l E yX7_exercise cX7_exercise 3 (some .int) (rmL 5) [.ref (A 0), .int h, .int n] (wC E A C Z) (fun r w => ∃ Z1, r = some (Value.int (x_exercise C T h n).1) ∧ zOk Z1 ∧ w = wC E A (x_exercise C T h n).2 Z1) := by
  refine Ctr.of (by decide) (Nat.le_of_ble_eq_true rfl) rfl rfl 0 ?_
  intro X hX hR
  obtain ⟨hT, hT1, hT6, hnx, hud, hn, hrn⟩ := id hC
  refine rh_iload_n hX dX7_exercise_0 rfl ?_
  refine rh_pS hX lk_X7_104 msX7_isHolder (fun l => c_X7_isHolder l E _) ⟨rfl, rfl⟩ ⟨Nat.le_of_ble_eq_true rfl, Nat.le_of_ble_eq_true rfl⟩ [] rfl rfl dX7_exercise_1 rfl rfl (Nat.le_of_ble_eq_true rfl) ?_
  refine rh_if_eq (tgt := 12) hX dX7_exercise_4 (by decide) (fun h4 => ?_) (fun h4 => ?_)
  · skip
    refine rh_iconst hX dX7_exercise_12 ki_m1 ?_
    exact rh_iret hX hR dX7_exercise_13 (by simp only [List.map_cons, List.map_nil, List.cons_append, List.nil_append]) (by first | exact ⟨Z, by rw [x_exercise, if_pos h4] <;> rfl, hz, by rw [x_exercise, if_pos h4] <;> rfl⟩ | exact ⟨Z, by rw [x_exercise, if_neg h4, if_pos (lt1 h9)] <;> rfl, hz, by rw [x_exercise, if_neg h4, if_pos (lt1 h9)] <;> rfl⟩)
  · skip
    obtain ⟨hd, rfl, hdl⟩ := xH_1 h4
    refine rh_iload_n hX dX7_exercise_7 rfl ?_
    refine rh_iconst hX dX7_exercise_8 ki_1 ?_
    refine rh_icmp_ge (tgt := 14) hX dX7_exercise_9 (by decide) (fun h9 => ?_) (fun h9 => ?_)
    · skip
      refine rh_aload_n hX dX7_exercise_14 rfl ?_
      refine rh_get hX gl_X7_12 0 dX7_exercise_15 rfl rfl ?_
      refine rh_iload_n hX dX7_exercise_18 rfl ?_
      refine rh_pV hX lk_X7_128 mvX1_granted (fun l => c_X1_granted l E _ _ _ hd (by omega)) ⟨rfl, rfl⟩ ⟨Nat.le_of_ble_eq_true rfl, Nat.le_of_ble_eq_true rfl⟩ [1, 2] rfl rfl 1 rfl dX7_exercise_19 rfl rfl (Nat.le_of_ble_eq_true rfl) ?_
      refine rh_iload_n hX dX7_exercise_22 rfl ?_
      refine rh_i2l hX dX7_exercise_23 ?_
      refine rh_lge (tgt := 31) hX dX7_exercise_24 dX7_exercise_25 (by decide) (fun h24 => ?_) (fun h24 => ?_)
      · skip
        refine rh_aload_n hX dX7_exercise_31 rfl ?_
        refine rh_aU hX lk_X7_107 mvX7_beginDraft (fun l => c_X7_beginDraft l E A C Z) ⟨rfl, rfl⟩ ⟨Nat.le_of_ble_eq_true rfl, Nat.le_of_ble_eq_true rfl⟩ 0 rfl dX7_exercise_32 rfl rfl (Nat.le_of_ble_eq_true rfl) ?_
        refine rh_aload_n hX dX7_exercise_35 rfl ?_
        refine rh_get hX gl_X7_16 0 dX7_exercise_36 rfl rfl ?_
        refine rh_iload_n hX dX7_exercise_39 rfl ?_
        refine rh_iload_n hX dX7_exercise_40 rfl ?_
        refine rh_ineg hX dX7_exercise_41 ?_
        refine rh_i2l hX dX7_exercise_42 ?_
        refine rh_uV hX lk_X7_124 mvX1_addGranted (fun l => c_X1_addGranted l E _ _ _ hd _ (by omega)) ⟨rfl, rfl⟩ ⟨Nat.le_of_ble_eq_true rfl, Nat.le_of_ble_eq_true rfl⟩ [3, 4] rfl rfl 3 rfl dX7_exercise_43 rfl rfl (Nat.le_of_ble_eq_true rfl) rfl ?_
        dsimp only [List.cons_append, List.nil_append, List.set_cons_succ, List.set_cons_zero, vput]
        refine rh_aload_n hX dX7_exercise_46 rfl ?_
        refine rh_get hX gl_X7_16 0 dX7_exercise_47 rfl rfl ?_
        refine rh_iload_n hX dX7_exercise_50 rfl ?_
        refine rh_iconst hX dX7_exercise_51 ki_0 ?_
        refine rh_iload_n hX dX7_exercise_52 rfl ?_
        refine rh_i2l hX dX7_exercise_53 ?_
        refine rh_uV hX lk_X7_92 mvX1_addHeld (fun l => c_X1_addHeld l E _ _ _ hd 0 _ (by omega) (by omega)) ⟨rfl, rfl⟩ ⟨Nat.le_of_ble_eq_true rfl, Nat.le_of_ble_eq_true rfl⟩ [3, 4] rfl rfl 3 rfl dX7_exercise_54 rfl rfl (Nat.le_of_ble_eq_true rfl) rfl ?_
        dsimp only [List.cons_append, List.nil_append, List.set_cons_succ, List.set_cons_zero, vput]
        refine rh_aload_n hX dX7_exercise_57 rfl ?_
        refine rh_aW hX lk_X7_96 mvX7_accepts (fun l => c_X7_accepts l E A C ((va_up (va_up C.1 (96 + hd) (cGranted C.1 hd + (-n).toInt64)) (0 + hd * 6 + 0) (cHeld (va_up C.1 (96 + hd) (cGranted C.1 hd + (-n).toInt64)) hd 0 + n.toInt64)), Z.2) T hC T (by show ((va_up (va_up C.1 (96 + hd) (cGranted C.1 hd + (-n).toInt64)) (0 + hd * 6 + 0) (cHeld (va_up C.1 (96 + hd) (cGranted C.1 hd + (-n).toInt64)) hd 0 + n.toInt64)) 171).toInt32 = nI T; rw [show (va_up (va_up C.1 (96 + hd) (cGranted C.1 hd + (-n).toInt64)) (0 + hd * 6 + 0) (cHeld (va_up C.1 (96 + hd) (cGranted C.1 hd + (-n).toInt64)) hd 0 + n.toInt64)) 171 = C.1 171 by (unfold va_up; repeat rw [if_neg (by omega)])]; exact hT) (by omega)) ⟨rfl, rfl⟩ ⟨Nat.le_of_ble_eq_true rfl, Nat.le_of_ble_eq_true rfl⟩ 0 rfl dX7_exercise_58 rfl rfl (Nat.le_of_ble_eq_true rfl) ?_
        refine rh_if_eq (tgt := 76) hX dX7_exercise_61 (by decide) (fun hx => ?_) (fun hx => ?_)
        · skip
          have hx : 1000000000 < cSize ((va_up (va_up C.1 (96 + hd) (cGranted C.1 hd + (-n).toInt64)) (0 + hd * 6 + 0) (cHeld (va_up C.1 (96 + hd) (cGranted C.1 hd + (-n).toInt64)) hd 0 + n.toInt64))) T := Classical.not_not.mp (fun q => absurd (show (if 1000000000 < cSize ((va_up (va_up C.1 (96 + hd) (cGranted C.1 hd + (-n).toInt64)) (0 + hd * 6 + 0) (cHeld (va_up C.1 (96 + hd) (cGranted C.1 hd + (-n).toInt64)) hd 0 + n.toInt64))) T then (0 : Int32) else 1) = 0 from hx) (by rw [if_neg q]; decide))
          rw [if_pos (show 1000000000 < cSize (((va_up (va_up C.1 (96 + hd) (cGranted C.1 hd + (-n).toInt64)) (0 + hd * 6 + 0) (cHeld (va_up C.1 (96 + hd) (cGranted C.1 hd + (-n).toInt64)) hd 0 + n.toInt64)), Z.2) : ZT).1 T from hx)]
          refine rh_bipush hX dX7_exercise_76 kb_m9 ?_
          exact rh_iret hX hR dX7_exercise_78 (by simp only [List.map_cons, List.map_nil, List.cons_append, List.nil_append]) (by first | exact ⟨((va_up (va_up C.1 (96 + hd) (cGranted C.1 hd + (-n).toInt64)) (0 + hd * 6 + 0) (cHeld (va_up C.1 (96 + hd) (cGranted C.1 hd + (-n).toInt64)) hd 0 + n.toInt64)), Z.2), by rw [x_exercise, if_neg h4, if_neg (nlt1 h9), nI_clamp (show hd < 2 ^ 31 by omega), if_neg (rh_le64.mp h24), xDeed, if_neg hx] <;> rfl, hz, by rw [x_exercise, if_neg h4, if_neg (nlt1 h9), nI_clamp (show hd < 2 ^ 31 by omega), if_neg (rh_le64.mp h24), xDeed, if_neg hx] <;> rfl⟩ | exact ⟨((va_up (va_up C.1 (96 + hd) (cGranted C.1 hd + (-n).toInt64)) (0 + hd * 6 + 0) (cHeld (va_up C.1 (96 + hd) (cGranted C.1 hd + (-n).toInt64)) hd 0 + n.toInt64)), Z.2), by rw [x_exercise, if_neg h4, if_neg (nlt1 h9), nI_clamp (show hd < 2 ^ 31 by omega), if_neg (rh_le64.mp h24), xDeed, if_pos hx] <;> rfl, hz, by rw [x_exercise, if_neg h4, if_neg (nlt1 h9), nI_clamp (show hd < 2 ^ 31 by omega), if_neg (rh_le64.mp h24), xDeed, if_pos hx] <;> rfl⟩)
        · skip
          have hx : ¬ 1000000000 < cSize ((va_up (va_up C.1 (96 + hd) (cGranted C.1 hd + (-n).toInt64)) (0 + hd * 6 + 0) (cHeld (va_up C.1 (96 + hd) (cGranted C.1 hd + (-n).toInt64)) hd 0 + n.toInt64))) T := fun q => hx (show (if 1000000000 < cSize ((va_up (va_up C.1 (96 + hd) (cGranted C.1 hd + (-n).toInt64)) (0 + hd * 6 + 0) (cHeld (va_up C.1 (96 + hd) (cGranted C.1 hd + (-n).toInt64)) hd 0 + n.toInt64))) T then (0 : Int32) else 1) = 0 from if_pos q)
          rw [if_neg (show ¬ 1000000000 < cSize (((va_up (va_up C.1 (96 + hd) (cGranted C.1 hd + (-n).toInt64)) (0 + hd * 6 + 0) (cHeld (va_up C.1 (96 + hd) (cGranted C.1 hd + (-n).toInt64)) hd 0 + n.toInt64)), Z.2) : ZT).1 T from hx)]
          refine rh_aload_n hX dX7_exercise_64 rfl ?_
          refine rh_get hX gl_X7_12 0 dX7_exercise_65 rfl rfl ?_
          refine rh_iload_n hX dX7_exercise_68 rfl ?_
          refine rh_pV hX lk_X7_128 mvX1_granted (fun l => c_X1_granted l E _ _ _ hd (by omega)) ⟨rfl, rfl⟩ ⟨Nat.le_of_ble_eq_true rfl, Nat.le_of_ble_eq_true rfl⟩ [1, 2] rfl rfl 1 rfl dX7_exercise_69 rfl rfl (Nat.le_of_ble_eq_true rfl) ?_
          refine rh_l2i hX dX7_exercise_72 ?_
          refine rh_goto (tgt := 78) hX dX7_exercise_73 (by decide) ?_
          exact rh_iret hX hR dX7_exercise_78 (by simp only [List.map_cons, List.map_nil, List.cons_append, List.nil_append]) (by first | exact ⟨((va_up (va_up C.1 (96 + hd) (cGranted C.1 hd + (-n).toInt64)) (0 + hd * 6 + 0) (cHeld (va_up C.1 (96 + hd) (cGranted C.1 hd + (-n).toInt64)) hd 0 + n.toInt64)), Z.2), by rw [x_exercise, if_neg h4, if_neg (nlt1 h9), nI_clamp (show hd < 2 ^ 31 by omega), if_neg (rh_le64.mp h24), xDeed, if_neg hx] <;> rfl, hz, by rw [x_exercise, if_neg h4, if_neg (nlt1 h9), nI_clamp (show hd < 2 ^ 31 by omega), if_neg (rh_le64.mp h24), xDeed, if_neg hx] <;> rfl⟩ | exact ⟨((va_up (va_up C.1 (96 + hd) (cGranted C.1 hd + (-n).toInt64)) (0 + hd * 6 + 0) (cHeld (va_up C.1 (96 + hd) (cGranted C.1 hd + (-n).toInt64)) hd 0 + n.toInt64)), Z.2), by rw [x_exercise, if_neg h4, if_neg (nlt1 h9), nI_clamp (show hd < 2 ^ 31 by omega), if_neg (rh_le64.mp h24), xDeed, if_pos hx] <;> rfl, hz, by rw [x_exercise, if_neg h4, if_neg (nlt1 h9), nI_clamp (show hd < 2 ^ 31 by omega), if_neg (rh_le64.mp h24), xDeed, if_pos hx] <;> rfl⟩)
      · skip
        refine rh_bipush hX dX7_exercise_28 kb_m2 ?_
        exact rh_iret hX hR dX7_exercise_30 (by simp only [List.map_cons, List.map_nil, List.cons_append, List.nil_append]) ⟨Z, by rw [x_exercise, if_neg h4, if_neg (nlt1 h9), nI_clamp (show hd < 2 ^ 31 by omega), if_pos (Classical.not_not.mp (fun q => h24 (rh_le64.mpr q)))] <;> rfl, hz, by rw [x_exercise, if_neg h4, if_neg (nlt1 h9), nI_clamp (show hd < 2 ^ 31 by omega), if_pos (Classical.not_not.mp (fun q => h24 (rh_le64.mpr q)))] <;> rfl⟩
    · skip
      refine rh_iconst hX dX7_exercise_12 ki_m1 ?_
      exact rh_iret hX hR dX7_exercise_13 (by simp only [List.map_cons, List.map_nil, List.cons_append, List.nil_append]) (by first | exact ⟨Z, by rw [x_exercise, if_pos h4] <;> rfl, hz, by rw [x_exercise, if_pos h4] <;> rfl⟩ | exact ⟨Z, by rw [x_exercise, if_neg h4, if_pos (lt1 h9)] <;> rfl, hz, by rw [x_exercise, if_neg h4, if_pos (lt1 h9)] <;> rfl⟩)

set_option maxRecDepth 100000 in
set_option maxHeartbeats 4000000 in
theorem c_X7_lapses (l : Launch) (E : rhE) (A : Nat → Nat) (C : CT) (Z : ZT) (h n : Int32) (T : Nat) (hC : cOk C T) (hz : zOk Z) : Ctr l E yX7_lapses cX7_lapses 3 (some .int) (rmL 5) [.ref (A 0), .int h, .int n] (wC E A C Z) (fun r w => ∃ Z1, r = some (Value.int (x_lapses C T h n).1) ∧ zOk Z1 ∧ w = wC E A (x_lapses C T h n).2 Z1) := by
  refine Ctr.of (by decide) (Nat.le_of_ble_eq_true rfl) rfl rfl 0 ?_
  intro X hX hR
  obtain ⟨hT, hT1, hT6, hnx, hud, hn, hrn⟩ := id hC
  refine rh_iload_n hX dX7_lapses_0 rfl ?_
  refine rh_pS hX lk_X7_104 msX7_isHolder (fun l => c_X7_isHolder l E _) ⟨rfl, rfl⟩ ⟨Nat.le_of_ble_eq_true rfl, Nat.le_of_ble_eq_true rfl⟩ [] rfl rfl dX7_lapses_1 rfl rfl (Nat.le_of_ble_eq_true rfl) ?_
  refine rh_if_eq (tgt := 12) hX dX7_lapses_4 (by decide) (fun h4 => ?_) (fun h4 => ?_)
  · skip
    refine rh_iconst hX dX7_lapses_12 ki_m1 ?_
    exact rh_iret hX hR dX7_lapses_13 (by simp only [List.map_cons, List.map_nil, List.cons_append, List.nil_append]) (by first | exact ⟨Z, by rw [x_lapses, if_pos h4] <;> rfl, hz, by rw [x_lapses, if_pos h4] <;> rfl⟩ | exact ⟨Z, by rw [x_lapses, if_neg h4, if_pos (lt1 h9)] <;> rfl, hz, by rw [x_lapses, if_neg h4, if_pos (lt1 h9)] <;> rfl⟩)
  · skip
    obtain ⟨hd, rfl, hdl⟩ := xH_1 h4
    refine rh_iload_n hX dX7_lapses_7 rfl ?_
    refine rh_iconst hX dX7_lapses_8 ki_1 ?_
    refine rh_icmp_ge (tgt := 14) hX dX7_lapses_9 (by decide) (fun h9 => ?_) (fun h9 => ?_)
    · skip
      refine rh_aload_n hX dX7_lapses_14 rfl ?_
      refine rh_get hX gl_X7_12 0 dX7_lapses_15 rfl rfl ?_
      refine rh_iload_n hX dX7_lapses_18 rfl ?_
      refine rh_pV hX lk_X7_128 mvX1_granted (fun l => c_X1_granted l E _ _ _ hd (by omega)) ⟨rfl, rfl⟩ ⟨Nat.le_of_ble_eq_true rfl, Nat.le_of_ble_eq_true rfl⟩ [1, 2] rfl rfl 1 rfl dX7_lapses_19 rfl rfl (Nat.le_of_ble_eq_true rfl) ?_
      refine rh_iload_n hX dX7_lapses_22 rfl ?_
      refine rh_i2l hX dX7_lapses_23 ?_
      refine rh_lge (tgt := 31) hX dX7_lapses_24 dX7_lapses_25 (by decide) (fun h24 => ?_) (fun h24 => ?_)
      · skip
        refine rh_aload_n hX dX7_lapses_31 rfl ?_
        refine rh_aU hX lk_X7_107 mvX7_beginDraft (fun l => c_X7_beginDraft l E A C Z) ⟨rfl, rfl⟩ ⟨Nat.le_of_ble_eq_true rfl, Nat.le_of_ble_eq_true rfl⟩ 0 rfl dX7_lapses_32 rfl rfl (Nat.le_of_ble_eq_true rfl) ?_
        refine rh_aload_n hX dX7_lapses_35 rfl ?_
        refine rh_get hX gl_X7_16 0 dX7_lapses_36 rfl rfl ?_
        refine rh_iload_n hX dX7_lapses_39 rfl ?_
        refine rh_iload_n hX dX7_lapses_40 rfl ?_
        refine rh_ineg hX dX7_lapses_41 ?_
        refine rh_i2l hX dX7_lapses_42 ?_
        refine rh_uV hX lk_X7_124 mvX1_addGranted (fun l => c_X1_addGranted l E _ _ _ hd _ (by omega)) ⟨rfl, rfl⟩ ⟨Nat.le_of_ble_eq_true rfl, Nat.le_of_ble_eq_true rfl⟩ [3, 4] rfl rfl 3 rfl dX7_lapses_43 rfl rfl (Nat.le_of_ble_eq_true rfl) rfl ?_
        dsimp only [List.cons_append, List.nil_append, List.set_cons_succ, List.set_cons_zero, vput]
        refine rh_aload_n hX dX7_lapses_46 rfl ?_
        refine rh_get hX gl_X7_16 0 dX7_lapses_47 rfl rfl ?_
        refine rh_aload_n hX dX7_lapses_50 rfl ?_
        refine rh_get hX gl_X7_16 0 dX7_lapses_51 rfl rfl ?_
        refine rh_pV hX lk_X7_117 mvX1_spare (fun l => c_X1_spare l E _ _ _) ⟨rfl, rfl⟩ ⟨Nat.le_of_ble_eq_true rfl, Nat.le_of_ble_eq_true rfl⟩ [3, 4] rfl rfl 3 rfl dX7_lapses_54 rfl rfl (Nat.le_of_ble_eq_true rfl) ?_
        refine rh_iload_n hX dX7_lapses_57 rfl ?_
        refine rh_i2l hX dX7_lapses_58 ?_
        refine rh_ladd hX dX7_lapses_59 ?_
        refine rh_uV hX lk_X7_120 mvX1_setSpare (fun l => c_X1_setSpare l E _ _ _ _) ⟨rfl, rfl⟩ ⟨Nat.le_of_ble_eq_true rfl, Nat.le_of_ble_eq_true rfl⟩ [3, 4] rfl rfl 3 rfl dX7_lapses_60 rfl rfl (Nat.le_of_ble_eq_true rfl) rfl ?_
        dsimp only [List.cons_append, List.nil_append, List.set_cons_succ, List.set_cons_zero, vput]
        refine rh_aload_n hX dX7_lapses_63 rfl ?_
        refine rh_aW hX lk_X7_96 mvX7_accepts (fun l => c_X7_accepts l E A C ((va_up (va_up C.1 (96 + hd) (cGranted C.1 hd + (-n).toInt64)) 170 (va_up C.1 (96 + hd) (cGranted C.1 hd + (-n).toInt64) 170 + n.toInt64)), Z.2) T hC T (by show ((va_up (va_up C.1 (96 + hd) (cGranted C.1 hd + (-n).toInt64)) 170 (va_up C.1 (96 + hd) (cGranted C.1 hd + (-n).toInt64) 170 + n.toInt64)) 171).toInt32 = nI T; rw [show (va_up (va_up C.1 (96 + hd) (cGranted C.1 hd + (-n).toInt64)) 170 (va_up C.1 (96 + hd) (cGranted C.1 hd + (-n).toInt64) 170 + n.toInt64)) 171 = C.1 171 by (unfold va_up; repeat rw [if_neg (by omega)])]; exact hT) (by omega)) ⟨rfl, rfl⟩ ⟨Nat.le_of_ble_eq_true rfl, Nat.le_of_ble_eq_true rfl⟩ 0 rfl dX7_lapses_64 rfl rfl (Nat.le_of_ble_eq_true rfl) ?_
        refine rh_if_eq (tgt := 81) hX dX7_lapses_67 (by decide) (fun hx => ?_) (fun hx => ?_)
        · skip
          have hx : 1000000000 < cSize ((va_up (va_up C.1 (96 + hd) (cGranted C.1 hd + (-n).toInt64)) 170 (va_up C.1 (96 + hd) (cGranted C.1 hd + (-n).toInt64) 170 + n.toInt64))) T := Classical.not_not.mp (fun q => absurd (show (if 1000000000 < cSize ((va_up (va_up C.1 (96 + hd) (cGranted C.1 hd + (-n).toInt64)) 170 (va_up C.1 (96 + hd) (cGranted C.1 hd + (-n).toInt64) 170 + n.toInt64))) T then (0 : Int32) else 1) = 0 from hx) (by rw [if_neg q]; decide))
          rw [if_pos (show 1000000000 < cSize (((va_up (va_up C.1 (96 + hd) (cGranted C.1 hd + (-n).toInt64)) 170 (va_up C.1 (96 + hd) (cGranted C.1 hd + (-n).toInt64) 170 + n.toInt64)), Z.2) : ZT).1 T from hx)]
          refine rh_bipush hX dX7_lapses_81 kb_m9 ?_
          exact rh_iret hX hR dX7_lapses_83 (by simp only [List.map_cons, List.map_nil, List.cons_append, List.nil_append]) (by first | exact ⟨((va_up (va_up C.1 (96 + hd) (cGranted C.1 hd + (-n).toInt64)) 170 (va_up C.1 (96 + hd) (cGranted C.1 hd + (-n).toInt64) 170 + n.toInt64)), Z.2), by rw [x_lapses, if_neg h4, if_neg (nlt1 h9), nI_clamp (show hd < 2 ^ 31 by omega), if_neg (rh_le64.mp h24), xDeed, if_neg hx] <;> rfl, hz, by rw [x_lapses, if_neg h4, if_neg (nlt1 h9), nI_clamp (show hd < 2 ^ 31 by omega), if_neg (rh_le64.mp h24), xDeed, if_neg hx] <;> rfl⟩ | exact ⟨((va_up (va_up C.1 (96 + hd) (cGranted C.1 hd + (-n).toInt64)) 170 (va_up C.1 (96 + hd) (cGranted C.1 hd + (-n).toInt64) 170 + n.toInt64)), Z.2), by rw [x_lapses, if_neg h4, if_neg (nlt1 h9), nI_clamp (show hd < 2 ^ 31 by omega), if_neg (rh_le64.mp h24), xDeed, if_pos hx] <;> rfl, hz, by rw [x_lapses, if_neg h4, if_neg (nlt1 h9), nI_clamp (show hd < 2 ^ 31 by omega), if_neg (rh_le64.mp h24), xDeed, if_pos hx] <;> rfl⟩)
        · skip
          have hx : ¬ 1000000000 < cSize ((va_up (va_up C.1 (96 + hd) (cGranted C.1 hd + (-n).toInt64)) 170 (va_up C.1 (96 + hd) (cGranted C.1 hd + (-n).toInt64) 170 + n.toInt64))) T := fun q => hx (show (if 1000000000 < cSize ((va_up (va_up C.1 (96 + hd) (cGranted C.1 hd + (-n).toInt64)) 170 (va_up C.1 (96 + hd) (cGranted C.1 hd + (-n).toInt64) 170 + n.toInt64))) T then (0 : Int32) else 1) = 0 from if_pos q)
          rw [if_neg (show ¬ 1000000000 < cSize (((va_up (va_up C.1 (96 + hd) (cGranted C.1 hd + (-n).toInt64)) 170 (va_up C.1 (96 + hd) (cGranted C.1 hd + (-n).toInt64) 170 + n.toInt64)), Z.2) : ZT).1 T from hx)]
          refine rh_aload_n hX dX7_lapses_70 rfl ?_
          refine rh_get hX gl_X7_12 0 dX7_lapses_71 rfl rfl ?_
          refine rh_pV hX lk_X7_117 mvX1_spare (fun l => c_X1_spare l E _ _ _) ⟨rfl, rfl⟩ ⟨Nat.le_of_ble_eq_true rfl, Nat.le_of_ble_eq_true rfl⟩ [1, 2] rfl rfl 1 rfl dX7_lapses_74 rfl rfl (Nat.le_of_ble_eq_true rfl) ?_
          refine rh_l2i hX dX7_lapses_77 ?_
          refine rh_goto (tgt := 83) hX dX7_lapses_78 (by decide) ?_
          exact rh_iret hX hR dX7_lapses_83 (by simp only [List.map_cons, List.map_nil, List.cons_append, List.nil_append]) (by first | exact ⟨((va_up (va_up C.1 (96 + hd) (cGranted C.1 hd + (-n).toInt64)) 170 (va_up C.1 (96 + hd) (cGranted C.1 hd + (-n).toInt64) 170 + n.toInt64)), Z.2), by rw [x_lapses, if_neg h4, if_neg (nlt1 h9), nI_clamp (show hd < 2 ^ 31 by omega), if_neg (rh_le64.mp h24), xDeed, if_neg hx] <;> rfl, hz, by rw [x_lapses, if_neg h4, if_neg (nlt1 h9), nI_clamp (show hd < 2 ^ 31 by omega), if_neg (rh_le64.mp h24), xDeed, if_neg hx] <;> rfl⟩ | exact ⟨((va_up (va_up C.1 (96 + hd) (cGranted C.1 hd + (-n).toInt64)) 170 (va_up C.1 (96 + hd) (cGranted C.1 hd + (-n).toInt64) 170 + n.toInt64)), Z.2), by rw [x_lapses, if_neg h4, if_neg (nlt1 h9), nI_clamp (show hd < 2 ^ 31 by omega), if_neg (rh_le64.mp h24), xDeed, if_pos hx] <;> rfl, hz, by rw [x_lapses, if_neg h4, if_neg (nlt1 h9), nI_clamp (show hd < 2 ^ 31 by omega), if_neg (rh_le64.mp h24), xDeed, if_pos hx] <;> rfl⟩)
      · skip
        refine rh_bipush hX dX7_lapses_28 kb_m2 ?_
        exact rh_iret hX hR dX7_lapses_30 (by simp only [List.map_cons, List.map_nil, List.cons_append, List.nil_append]) ⟨Z, by rw [x_lapses, if_neg h4, if_neg (nlt1 h9), nI_clamp (show hd < 2 ^ 31 by omega), if_pos (Classical.not_not.mp (fun q => h24 (rh_le64.mpr q)))] <;> rfl, hz, by rw [x_lapses, if_neg h4, if_neg (nlt1 h9), nI_clamp (show hd < 2 ^ 31 by omega), if_pos (Classical.not_not.mp (fun q => h24 (rh_le64.mpr q)))] <;> rfl⟩
    · skip
      refine rh_iconst hX dX7_lapses_12 ki_m1 ?_
      exact rh_iret hX hR dX7_lapses_13 (by simp only [List.map_cons, List.map_nil, List.cons_append, List.nil_append]) (by first | exact ⟨Z, by rw [x_lapses, if_pos h4] <;> rfl, hz, by rw [x_lapses, if_pos h4] <;> rfl⟩ | exact ⟨Z, by rw [x_lapses, if_neg h4, if_pos (lt1 h9)] <;> rfl, hz, by rw [x_lapses, if_neg h4, if_pos (lt1 h9)] <;> rfl⟩)

set_option maxRecDepth 100000 in
set_option maxHeartbeats 4000000 in
theorem c_X7_sells (l : Launch) (E : rhE) (A : Nat → Nat) (C : CT) (Z : ZT) (h to t n : Int32) (T : Nat) (hC : cOk C T) (hz : zOk Z) : Ctr l E yX7_sells cX7_sells 5 (some .int) (rmL 5) [.ref (A 0), .int h, .int to, .int t, .int n] (wC E A C Z) (fun r w => ∃ Z1, r = some (Value.int (x_sells C T h to t n).1) ∧ zOk Z1 ∧ w = wC E A (x_sells C T h to t n).2 Z1) := by
  refine Ctr.of (by decide) (Nat.le_of_ble_eq_true rfl) rfl rfl 0 ?_
  intro X hX hR
  obtain ⟨hT, hT1, hT6, hnx, hud, hn, hrn⟩ := id hC
  refine rh_iload_n hX dX7_sells_0 rfl ?_
  refine rh_pS hX lk_X7_104 msX7_isHolder (fun l => c_X7_isHolder l E _) ⟨rfl, rfl⟩ ⟨Nat.le_of_ble_eq_true rfl, Nat.le_of_ble_eq_true rfl⟩ [] rfl rfl dX7_sells_1 rfl rfl (Nat.le_of_ble_eq_true rfl) ?_
  refine rh_if_eq (tgt := 28) hX dX7_sells_4 (by decide) (fun h4 => ?_) (fun h4 => ?_)
  · skip
    refine rh_iconst hX dX7_sells_28 ki_m1 ?_
    exact rh_iret hX hR dX7_sells_29 (by simp only [List.map_cons, List.map_nil, List.cons_append, List.nil_append]) (by first | exact ⟨Z, by rw [x_sells, if_pos h4] <;> rfl, hz, by rw [x_sells, if_pos h4] <;> rfl⟩ | exact ⟨Z, by rw [x_sells, if_neg h4, if_pos h11] <;> rfl, hz, by rw [x_sells, if_neg h4, if_pos h11] <;> rfl⟩ | exact ⟨Z, by rw [x_sells, if_neg h4, if_neg h11, if_pos h19] <;> rfl, hz, by rw [x_sells, if_neg h4, if_neg h11, if_pos h19] <;> rfl⟩ | exact ⟨Z, by rw [x_sells, if_neg h4, if_neg h11, if_neg h19, if_pos (lt1 h25)] <;> rfl, hz, by rw [x_sells, if_neg h4, if_neg h11, if_neg h19, if_pos (lt1 h25)] <;> rfl⟩)
  · skip
    obtain ⟨hd, rfl, hdl⟩ := xH_1 h4
    refine rh_iload_n hX dX7_sells_7 rfl ?_
    refine rh_pS hX lk_X7_104 msX7_isHolder (fun l => c_X7_isHolder l E _) ⟨rfl, rfl⟩ ⟨Nat.le_of_ble_eq_true rfl, Nat.le_of_ble_eq_true rfl⟩ [] rfl rfl dX7_sells_8 rfl rfl (Nat.le_of_ble_eq_true rfl) ?_
    refine rh_if_eq (tgt := 28) hX dX7_sells_11 (by decide) (fun h11 => ?_) (fun h11 => ?_)
    · skip
      refine rh_iconst hX dX7_sells_28 ki_m1 ?_
      exact rh_iret hX hR dX7_sells_29 (by simp only [List.map_cons, List.map_nil, List.cons_append, List.nil_append]) (by first | exact ⟨Z, by rw [x_sells, if_pos h4] <;> rfl, hz, by rw [x_sells, if_pos h4] <;> rfl⟩ | exact ⟨Z, by rw [x_sells, if_neg h4, if_pos h11] <;> rfl, hz, by rw [x_sells, if_neg h4, if_pos h11] <;> rfl⟩ | exact ⟨Z, by rw [x_sells, if_neg h4, if_neg h11, if_pos h19] <;> rfl, hz, by rw [x_sells, if_neg h4, if_neg h11, if_pos h19] <;> rfl⟩ | exact ⟨Z, by rw [x_sells, if_neg h4, if_neg h11, if_neg h19, if_pos (lt1 h25)] <;> rfl, hz, by rw [x_sells, if_neg h4, if_neg h11, if_neg h19, if_pos (lt1 h25)] <;> rfl⟩)
    · skip
      obtain ⟨tod, rfl, htod⟩ := xH_1 h11
      refine rh_aload_n hX dX7_sells_14 rfl ?_
      refine rh_iload_n hX dX7_sells_15 rfl ?_
      refine rh_aP hX lk_X7_110 mvX7_isType (fun l => c_X7_isType l E A C Z _ T hC) ⟨rfl, rfl⟩ ⟨Nat.le_of_ble_eq_true rfl, Nat.le_of_ble_eq_true rfl⟩ 0 rfl dX7_sells_16 rfl rfl (Nat.le_of_ble_eq_true rfl) ?_
      refine rh_if_eq (tgt := 28) hX dX7_sells_19 (by decide) (fun h19 => ?_) (fun h19 => ?_)
      · skip
        refine rh_iconst hX dX7_sells_28 ki_m1 ?_
        exact rh_iret hX hR dX7_sells_29 (by simp only [List.map_cons, List.map_nil, List.cons_append, List.nil_append]) (by first | exact ⟨Z, by rw [x_sells, if_pos h4] <;> rfl, hz, by rw [x_sells, if_pos h4] <;> rfl⟩ | exact ⟨Z, by rw [x_sells, if_neg h4, if_pos h11] <;> rfl, hz, by rw [x_sells, if_neg h4, if_pos h11] <;> rfl⟩ | exact ⟨Z, by rw [x_sells, if_neg h4, if_neg h11, if_pos h19] <;> rfl, hz, by rw [x_sells, if_neg h4, if_neg h11, if_pos h19] <;> rfl⟩ | exact ⟨Z, by rw [x_sells, if_neg h4, if_neg h11, if_neg h19, if_pos (lt1 h25)] <;> rfl, hz, by rw [x_sells, if_neg h4, if_neg h11, if_neg h19, if_pos (lt1 h25)] <;> rfl⟩)
      · skip
        obtain ⟨td, rfl, htd⟩ := xTy_1 hT6 h19
        refine rh_iload hX dX7_sells_22 rfl ?_
        refine rh_iconst hX dX7_sells_24 ki_1 ?_
        refine rh_icmp_ge (tgt := 30) hX dX7_sells_25 (by decide) (fun h25 => ?_) (fun h25 => ?_)
        · skip
          refine rh_iload_n hX dX7_sells_30 rfl ?_
          refine rh_iload_n hX dX7_sells_31 rfl ?_
          refine rh_icmp_eq (tgt := 51) hX dX7_sells_32 (by decide) (fun h32 => ?_) (fun h32 => ?_)
          · skip
            refine rh_bipush hX dX7_sells_51 kb_m2 ?_
            exact rh_iret hX hR dX7_sells_53 (by simp only [List.map_cons, List.map_nil, List.cons_append, List.nil_append]) (by first | exact ⟨Z, by rw [x_sells, if_neg h4, if_neg h11, if_neg h19, if_neg (nlt1 h25), if_pos h32] <;> rfl, hz, by rw [x_sells, if_neg h4, if_neg h11, if_neg h19, if_neg (nlt1 h25), if_pos h32] <;> rfl⟩ | exact ⟨Z, by rw [x_sells, if_neg h4, if_neg h11, if_neg h19, if_neg (nlt1 h25), if_neg h32, nI_clamp (show hd < 2 ^ 31 by omega), nI_clamp (show td < 2 ^ 31 by omega), if_pos (Classical.not_not.mp (fun q => h47 (rh_le64.mpr q)))] <;> rfl, hz, by rw [x_sells, if_neg h4, if_neg h11, if_neg h19, if_neg (nlt1 h25), if_neg h32, nI_clamp (show hd < 2 ^ 31 by omega), nI_clamp (show td < 2 ^ 31 by omega), if_pos (Classical.not_not.mp (fun q => h47 (rh_le64.mpr q)))] <;> rfl⟩)
          · skip
            refine rh_aload_n hX dX7_sells_35 rfl ?_
            refine rh_get hX gl_X7_12 0 dX7_sells_36 rfl rfl ?_
            refine rh_iload_n hX dX7_sells_39 rfl ?_
            refine rh_iload_n hX dX7_sells_40 rfl ?_
            refine rh_pV hX lk_X7_113 mvX1_held (fun l => c_X1_held l E _ _ _ hd td (by omega) (by omega)) ⟨rfl, rfl⟩ ⟨Nat.le_of_ble_eq_true rfl, Nat.le_of_ble_eq_true rfl⟩ [1, 2] rfl rfl 1 rfl dX7_sells_41 rfl rfl (Nat.le_of_ble_eq_true rfl) ?_
            refine rh_iload hX dX7_sells_44 rfl ?_
            refine rh_i2l hX dX7_sells_46 ?_
            refine rh_lge (tgt := 54) hX dX7_sells_47 dX7_sells_48 (by decide) (fun h47 => ?_) (fun h47 => ?_)
            · skip
              refine rh_aload_n hX dX7_sells_54 rfl ?_
              refine rh_aU hX lk_X7_107 mvX7_beginDraft (fun l => c_X7_beginDraft l E A C Z) ⟨rfl, rfl⟩ ⟨Nat.le_of_ble_eq_true rfl, Nat.le_of_ble_eq_true rfl⟩ 0 rfl dX7_sells_55 rfl rfl (Nat.le_of_ble_eq_true rfl) ?_
              refine rh_aload_n hX dX7_sells_58 rfl ?_
              refine rh_get hX gl_X7_16 0 dX7_sells_59 rfl rfl ?_
              refine rh_iload_n hX dX7_sells_62 rfl ?_
              refine rh_iload_n hX dX7_sells_63 rfl ?_
              refine rh_iload hX dX7_sells_64 rfl ?_
              refine rh_ineg hX dX7_sells_66 ?_
              refine rh_i2l hX dX7_sells_67 ?_
              refine rh_uV hX lk_X7_92 mvX1_addHeld (fun l => c_X1_addHeld l E _ _ _ hd td _ (by omega) (by omega)) ⟨rfl, rfl⟩ ⟨Nat.le_of_ble_eq_true rfl, Nat.le_of_ble_eq_true rfl⟩ [3, 4] rfl rfl 3 rfl dX7_sells_68 rfl rfl (Nat.le_of_ble_eq_true rfl) rfl ?_
              dsimp only [List.cons_append, List.nil_append, List.set_cons_succ, List.set_cons_zero, vput]
              refine rh_aload_n hX dX7_sells_71 rfl ?_
              refine rh_get hX gl_X7_16 0 dX7_sells_72 rfl rfl ?_
              refine rh_iload_n hX dX7_sells_75 rfl ?_
              refine rh_iload_n hX dX7_sells_76 rfl ?_
              refine rh_iload hX dX7_sells_77 rfl ?_
              refine rh_i2l hX dX7_sells_79 ?_
              refine rh_uV hX lk_X7_92 mvX1_addHeld (fun l => c_X1_addHeld l E _ _ _ tod td _ (by omega) (by omega)) ⟨rfl, rfl⟩ ⟨Nat.le_of_ble_eq_true rfl, Nat.le_of_ble_eq_true rfl⟩ [3, 4] rfl rfl 3 rfl dX7_sells_80 rfl rfl (Nat.le_of_ble_eq_true rfl) rfl ?_
              dsimp only [List.cons_append, List.nil_append, List.set_cons_succ, List.set_cons_zero, vput]
              refine rh_aload_n hX dX7_sells_83 rfl ?_
              refine rh_aW hX lk_X7_96 mvX7_accepts (fun l => c_X7_accepts l E A C ((va_up (va_up C.1 (0 + hd * 6 + td) (cHeld C.1 hd td + (-n).toInt64)) (0 + tod * 6 + td) (cHeld (va_up C.1 (0 + hd * 6 + td) (cHeld C.1 hd td + (-n).toInt64)) tod td + n.toInt64)), Z.2) T hC T (by show ((va_up (va_up C.1 (0 + hd * 6 + td) (cHeld C.1 hd td + (-n).toInt64)) (0 + tod * 6 + td) (cHeld (va_up C.1 (0 + hd * 6 + td) (cHeld C.1 hd td + (-n).toInt64)) tod td + n.toInt64)) 171).toInt32 = nI T; rw [show (va_up (va_up C.1 (0 + hd * 6 + td) (cHeld C.1 hd td + (-n).toInt64)) (0 + tod * 6 + td) (cHeld (va_up C.1 (0 + hd * 6 + td) (cHeld C.1 hd td + (-n).toInt64)) tod td + n.toInt64)) 171 = C.1 171 by (unfold va_up; repeat rw [if_neg (by omega)])]; exact hT) (by omega)) ⟨rfl, rfl⟩ ⟨Nat.le_of_ble_eq_true rfl, Nat.le_of_ble_eq_true rfl⟩ 0 rfl dX7_sells_84 rfl rfl (Nat.le_of_ble_eq_true rfl) ?_
              refine rh_if_eq (tgt := 103) hX dX7_sells_87 (by decide) (fun hx => ?_) (fun hx => ?_)
              · skip
                have hx : 1000000000 < cSize ((va_up (va_up C.1 (0 + hd * 6 + td) (cHeld C.1 hd td + (-n).toInt64)) (0 + tod * 6 + td) (cHeld (va_up C.1 (0 + hd * 6 + td) (cHeld C.1 hd td + (-n).toInt64)) tod td + n.toInt64))) T := Classical.not_not.mp (fun q => absurd (show (if 1000000000 < cSize ((va_up (va_up C.1 (0 + hd * 6 + td) (cHeld C.1 hd td + (-n).toInt64)) (0 + tod * 6 + td) (cHeld (va_up C.1 (0 + hd * 6 + td) (cHeld C.1 hd td + (-n).toInt64)) tod td + n.toInt64))) T then (0 : Int32) else 1) = 0 from hx) (by rw [if_neg q]; decide))
                rw [if_pos (show 1000000000 < cSize (((va_up (va_up C.1 (0 + hd * 6 + td) (cHeld C.1 hd td + (-n).toInt64)) (0 + tod * 6 + td) (cHeld (va_up C.1 (0 + hd * 6 + td) (cHeld C.1 hd td + (-n).toInt64)) tod td + n.toInt64)), Z.2) : ZT).1 T from hx)]
                refine rh_bipush hX dX7_sells_103 kb_m9 ?_
                exact rh_iret hX hR dX7_sells_105 (by simp only [List.map_cons, List.map_nil, List.cons_append, List.nil_append]) (by first | exact ⟨((va_up (va_up C.1 (0 + hd * 6 + td) (cHeld C.1 hd td + (-n).toInt64)) (0 + tod * 6 + td) (cHeld (va_up C.1 (0 + hd * 6 + td) (cHeld C.1 hd td + (-n).toInt64)) tod td + n.toInt64)), Z.2), by rw [x_sells, if_neg h4, if_neg h11, if_neg h19, if_neg (nlt1 h25), if_neg h32, nI_clamp (show hd < 2 ^ 31 by omega), nI_clamp (show td < 2 ^ 31 by omega), nI_clamp (show tod < 2 ^ 31 by omega), if_neg (rh_le64.mp h47), xDeed, if_neg hx] <;> rfl, hz, by rw [x_sells, if_neg h4, if_neg h11, if_neg h19, if_neg (nlt1 h25), if_neg h32, nI_clamp (show hd < 2 ^ 31 by omega), nI_clamp (show td < 2 ^ 31 by omega), nI_clamp (show tod < 2 ^ 31 by omega), if_neg (rh_le64.mp h47), xDeed, if_neg hx] <;> rfl⟩ | exact ⟨((va_up (va_up C.1 (0 + hd * 6 + td) (cHeld C.1 hd td + (-n).toInt64)) (0 + tod * 6 + td) (cHeld (va_up C.1 (0 + hd * 6 + td) (cHeld C.1 hd td + (-n).toInt64)) tod td + n.toInt64)), Z.2), by rw [x_sells, if_neg h4, if_neg h11, if_neg h19, if_neg (nlt1 h25), if_neg h32, nI_clamp (show hd < 2 ^ 31 by omega), nI_clamp (show td < 2 ^ 31 by omega), nI_clamp (show tod < 2 ^ 31 by omega), if_neg (rh_le64.mp h47), xDeed, if_pos hx] <;> rfl, hz, by rw [x_sells, if_neg h4, if_neg h11, if_neg h19, if_neg (nlt1 h25), if_neg h32, nI_clamp (show hd < 2 ^ 31 by omega), nI_clamp (show td < 2 ^ 31 by omega), nI_clamp (show tod < 2 ^ 31 by omega), if_neg (rh_le64.mp h47), xDeed, if_pos hx] <;> rfl⟩)
              · skip
                have hx : ¬ 1000000000 < cSize ((va_up (va_up C.1 (0 + hd * 6 + td) (cHeld C.1 hd td + (-n).toInt64)) (0 + tod * 6 + td) (cHeld (va_up C.1 (0 + hd * 6 + td) (cHeld C.1 hd td + (-n).toInt64)) tod td + n.toInt64))) T := fun q => hx (show (if 1000000000 < cSize ((va_up (va_up C.1 (0 + hd * 6 + td) (cHeld C.1 hd td + (-n).toInt64)) (0 + tod * 6 + td) (cHeld (va_up C.1 (0 + hd * 6 + td) (cHeld C.1 hd td + (-n).toInt64)) tod td + n.toInt64))) T then (0 : Int32) else 1) = 0 from if_pos q)
                rw [if_neg (show ¬ 1000000000 < cSize (((va_up (va_up C.1 (0 + hd * 6 + td) (cHeld C.1 hd td + (-n).toInt64)) (0 + tod * 6 + td) (cHeld (va_up C.1 (0 + hd * 6 + td) (cHeld C.1 hd td + (-n).toInt64)) tod td + n.toInt64)), Z.2) : ZT).1 T from hx)]
                refine rh_aload_n hX dX7_sells_90 rfl ?_
                refine rh_get hX gl_X7_12 0 dX7_sells_91 rfl rfl ?_
                refine rh_iload_n hX dX7_sells_94 rfl ?_
                refine rh_iload_n hX dX7_sells_95 rfl ?_
                refine rh_pV hX lk_X7_113 mvX1_held (fun l => c_X1_held l E _ _ _ hd td (by omega) (by omega)) ⟨rfl, rfl⟩ ⟨Nat.le_of_ble_eq_true rfl, Nat.le_of_ble_eq_true rfl⟩ [1, 2] rfl rfl 1 rfl dX7_sells_96 rfl rfl (Nat.le_of_ble_eq_true rfl) ?_
                refine rh_l2i hX dX7_sells_99 ?_
                refine rh_goto (tgt := 105) hX dX7_sells_100 (by decide) ?_
                exact rh_iret hX hR dX7_sells_105 (by simp only [List.map_cons, List.map_nil, List.cons_append, List.nil_append]) (by first | exact ⟨((va_up (va_up C.1 (0 + hd * 6 + td) (cHeld C.1 hd td + (-n).toInt64)) (0 + tod * 6 + td) (cHeld (va_up C.1 (0 + hd * 6 + td) (cHeld C.1 hd td + (-n).toInt64)) tod td + n.toInt64)), Z.2), by rw [x_sells, if_neg h4, if_neg h11, if_neg h19, if_neg (nlt1 h25), if_neg h32, nI_clamp (show hd < 2 ^ 31 by omega), nI_clamp (show td < 2 ^ 31 by omega), nI_clamp (show tod < 2 ^ 31 by omega), if_neg (rh_le64.mp h47), xDeed, if_neg hx] <;> rfl, hz, by rw [x_sells, if_neg h4, if_neg h11, if_neg h19, if_neg (nlt1 h25), if_neg h32, nI_clamp (show hd < 2 ^ 31 by omega), nI_clamp (show td < 2 ^ 31 by omega), nI_clamp (show tod < 2 ^ 31 by omega), if_neg (rh_le64.mp h47), xDeed, if_neg hx] <;> rfl⟩ | exact ⟨((va_up (va_up C.1 (0 + hd * 6 + td) (cHeld C.1 hd td + (-n).toInt64)) (0 + tod * 6 + td) (cHeld (va_up C.1 (0 + hd * 6 + td) (cHeld C.1 hd td + (-n).toInt64)) tod td + n.toInt64)), Z.2), by rw [x_sells, if_neg h4, if_neg h11, if_neg h19, if_neg (nlt1 h25), if_neg h32, nI_clamp (show hd < 2 ^ 31 by omega), nI_clamp (show td < 2 ^ 31 by omega), nI_clamp (show tod < 2 ^ 31 by omega), if_neg (rh_le64.mp h47), xDeed, if_pos hx] <;> rfl, hz, by rw [x_sells, if_neg h4, if_neg h11, if_neg h19, if_neg (nlt1 h25), if_neg h32, nI_clamp (show hd < 2 ^ 31 by omega), nI_clamp (show td < 2 ^ 31 by omega), nI_clamp (show tod < 2 ^ 31 by omega), if_neg (rh_le64.mp h47), xDeed, if_pos hx] <;> rfl⟩)
            · skip
              refine rh_bipush hX dX7_sells_51 kb_m2 ?_
              exact rh_iret hX hR dX7_sells_53 (by simp only [List.map_cons, List.map_nil, List.cons_append, List.nil_append]) (by first | exact ⟨Z, by rw [x_sells, if_neg h4, if_neg h11, if_neg h19, if_neg (nlt1 h25), if_pos h32] <;> rfl, hz, by rw [x_sells, if_neg h4, if_neg h11, if_neg h19, if_neg (nlt1 h25), if_pos h32] <;> rfl⟩ | exact ⟨Z, by rw [x_sells, if_neg h4, if_neg h11, if_neg h19, if_neg (nlt1 h25), if_neg h32, nI_clamp (show hd < 2 ^ 31 by omega), nI_clamp (show td < 2 ^ 31 by omega), if_pos (Classical.not_not.mp (fun q => h47 (rh_le64.mpr q)))] <;> rfl, hz, by rw [x_sells, if_neg h4, if_neg h11, if_neg h19, if_neg (nlt1 h25), if_neg h32, nI_clamp (show hd < 2 ^ 31 by omega), nI_clamp (show td < 2 ^ 31 by omega), if_pos (Classical.not_not.mp (fun q => h47 (rh_le64.mpr q)))] <;> rfl⟩)
        · skip
          refine rh_iconst hX dX7_sells_28 ki_m1 ?_
          exact rh_iret hX hR dX7_sells_29 (by simp only [List.map_cons, List.map_nil, List.cons_append, List.nil_append]) (by first | exact ⟨Z, by rw [x_sells, if_pos h4] <;> rfl, hz, by rw [x_sells, if_pos h4] <;> rfl⟩ | exact ⟨Z, by rw [x_sells, if_neg h4, if_pos h11] <;> rfl, hz, by rw [x_sells, if_neg h4, if_pos h11] <;> rfl⟩ | exact ⟨Z, by rw [x_sells, if_neg h4, if_neg h11, if_pos h19] <;> rfl, hz, by rw [x_sells, if_neg h4, if_neg h11, if_pos h19] <;> rfl⟩ | exact ⟨Z, by rw [x_sells, if_neg h4, if_neg h11, if_neg h19, if_pos (lt1 h25)] <;> rfl, hz, by rw [x_sells, if_neg h4, if_neg h11, if_neg h19, if_pos (lt1 h25)] <;> rfl⟩)

set_option maxRecDepth 100000 in
set_option maxHeartbeats 4000000 in
theorem c_X7_splits (l : Launch) (E : rhE) (A : Nat → Nat) (C : CT) (Z : ZT) (k : Int32) (T : Nat) (hC : cOk C T) (hz : zOk Z) : Ctr l E yX7_splits cX7_splits 2 (some .int) (rmL 5) [.ref (A 0), .int k] (wC E A C Z) (fun r w => ∃ Z1, r = some (Value.int (x_splits C T k).1) ∧ zOk Z1 ∧ w = wC E A (x_splits C T k).2 Z1) := by
  refine Ctr.of (by decide) (Nat.le_of_ble_eq_true rfl) rfl rfl 0 ?_
  intro X hX hR
  obtain ⟨hT, hT1, hT6, hnx, hud, hn, hrn⟩ := id hC
  refine rh_iload_n hX dX7_splits_0 rfl ?_
  refine rh_iconst hX dX7_splits_1 ki_2 ?_
  refine rh_icmp_lt (tgt := 11) hX dX7_splits_2 (by decide) (fun h2 => ?_) (fun h2 => ?_)
  · skip
    refine rh_iconst hX dX7_splits_11 ki_m1 ?_
    exact rh_iret hX hR dX7_splits_12 (by simp only [List.map_cons, List.map_nil, List.cons_append, List.nil_append]) (by first | exact ⟨Z, by rw [x_splits, if_pos h2] <;> rfl, hz, by rw [x_splits, if_pos h2] <;> rfl⟩ | exact ⟨Z, by rw [x_splits, if_neg h2, if_pos (ge2 h8)] <;> rfl, hz, by rw [x_splits, if_neg h2, if_pos (ge2 h8)] <;> rfl⟩)
  · skip
    refine rh_iload_n hX dX7_splits_5 rfl ?_
    refine rh_bipush hX dX7_splits_6 kb_10 ?_
    refine rh_icmp_le (tgt := 13) hX dX7_splits_8 (by decide) (fun h8 => ?_) (fun h8 => ?_)
    · skip
      refine rh_aload_n hX dX7_splits_13 rfl ?_
      refine rh_aU hX lk_X7_107 mvX7_beginDraft (fun l => c_X7_beginDraft l E A C Z) ⟨rfl, rfl⟩ ⟨Nat.le_of_ble_eq_true rfl, Nat.le_of_ble_eq_true rfl⟩ 0 rfl dX7_splits_14 rfl rfl (Nat.le_of_ble_eq_true rfl) ?_
      refine rh_aload_n hX dX7_splits_17 rfl ?_
      refine rh_get hX gl_X7_16 0 dX7_splits_18 rfl rfl ?_
      refine rh_iload_n hX dX7_splits_21 rfl ?_
      refine rh_uV hX lk_X7_141 mvX1_multiply (fun l => c_X1_multiply l E _ _ _ _ T hT hT6 hT1) ⟨rfl, rfl⟩ ⟨Nat.le_of_ble_eq_true rfl, Nat.le_of_ble_eq_true rfl⟩ [3, 4] rfl rfl 3 rfl dX7_splits_22 rfl rfl (Nat.le_of_ble_eq_true rfl) rfl ?_
      dsimp only [List.cons_append, List.nil_append, List.set_cons_succ, List.set_cons_zero, vput]
      refine rh_aload_n hX dX7_splits_25 rfl ?_
      refine rh_aW hX lk_X7_96 mvX7_accepts (fun l => c_X7_accepts l E A C ((cMul C.1 k T), Z.2) T hC T (by show (cMul C.1 k T 171).toInt32 = nI T; rw [cMul, mF3_at _ _ _ _ _ hT6]; exact hT) (by omega)) ⟨rfl, rfl⟩ ⟨Nat.le_of_ble_eq_true rfl, Nat.le_of_ble_eq_true rfl⟩ 0 rfl dX7_splits_26 rfl rfl (Nat.le_of_ble_eq_true rfl) ?_
      refine rh_if_eq (tgt := 43) hX dX7_splits_29 (by decide) (fun hx => ?_) (fun hx => ?_)
      · skip
        have hx : 1000000000 < cSize ((cMul C.1 k T)) T := Classical.not_not.mp (fun q => absurd (show (if 1000000000 < cSize ((cMul C.1 k T)) T then (0 : Int32) else 1) = 0 from hx) (by rw [if_neg q]; decide))
        rw [if_pos (show 1000000000 < cSize (((cMul C.1 k T), Z.2) : ZT).1 T from hx)]
        refine rh_bipush hX dX7_splits_43 kb_m9 ?_
        exact rh_iret hX hR dX7_splits_45 (by simp only [List.map_cons, List.map_nil, List.cons_append, List.nil_append]) (by first | exact ⟨((cMul C.1 k T), Z.2), by rw [x_splits, if_neg h2, if_neg (Int32.not_lt.mpr h8), xDeed, if_neg hx] <;> rfl, hz, by rw [x_splits, if_neg h2, if_neg (Int32.not_lt.mpr h8), xDeed, if_neg hx] <;> rfl⟩ | exact ⟨((cMul C.1 k T), Z.2), by rw [x_splits, if_neg h2, if_neg (Int32.not_lt.mpr h8), xDeed, if_pos hx] <;> rfl, hz, by rw [x_splits, if_neg h2, if_neg (Int32.not_lt.mpr h8), xDeed, if_pos hx] <;> rfl⟩)
      · skip
        have hx : ¬ 1000000000 < cSize ((cMul C.1 k T)) T := fun q => hx (show (if 1000000000 < cSize ((cMul C.1 k T)) T then (0 : Int32) else 1) = 0 from if_pos q)
        rw [if_neg (show ¬ 1000000000 < cSize (((cMul C.1 k T), Z.2) : ZT).1 T from hx)]
        refine rh_aload_n hX dX7_splits_32 rfl ?_
        refine rh_get hX gl_X7_12 0 dX7_splits_33 rfl rfl ?_
        refine rh_pV hX lk_X7_100 mvX1_size (fun l => c_X1_size l E _ _ _ T (by show (cMul C.1 k T 171).toInt32 = nI T; rw [cMul, mF3_at _ _ _ _ _ hT6]; exact hT) hT6) ⟨rfl, rfl⟩ ⟨Nat.le_of_ble_eq_true rfl, Nat.le_of_ble_eq_true rfl⟩ [1, 2] rfl rfl 1 rfl dX7_splits_36 rfl rfl (Nat.le_of_ble_eq_true rfl) ?_
        refine rh_l2i hX dX7_splits_39 ?_
        refine rh_goto (tgt := 45) hX dX7_splits_40 (by decide) ?_
        exact rh_iret hX hR dX7_splits_45 (by simp only [List.map_cons, List.map_nil, List.cons_append, List.nil_append]) (by first | exact ⟨((cMul C.1 k T), Z.2), by rw [x_splits, if_neg h2, if_neg (Int32.not_lt.mpr h8), xDeed, if_neg hx] <;> rfl, hz, by rw [x_splits, if_neg h2, if_neg (Int32.not_lt.mpr h8), xDeed, if_neg hx] <;> rfl⟩ | exact ⟨((cMul C.1 k T), Z.2), by rw [x_splits, if_neg h2, if_neg (Int32.not_lt.mpr h8), xDeed, if_pos hx] <;> rfl, hz, by rw [x_splits, if_neg h2, if_neg (Int32.not_lt.mpr h8), xDeed, if_pos hx] <;> rfl⟩)
    · skip
      refine rh_iconst hX dX7_splits_11 ki_m1 ?_
      exact rh_iret hX hR dX7_splits_12 (by simp only [List.map_cons, List.map_nil, List.cons_append, List.nil_append]) (by first | exact ⟨Z, by rw [x_splits, if_pos h2] <;> rfl, hz, by rw [x_splits, if_pos h2] <;> rfl⟩ | exact ⟨Z, by rw [x_splits, if_neg h2, if_pos (ge2 h8)] <;> rfl, hz, by rw [x_splits, if_neg h2, if_pos (ge2 h8)] <;> rfl⟩)

set_option maxRecDepth 100000 in
set_option maxHeartbeats 4000000 in
theorem c_X7_converts (l : Launch) (E : rhE) (A : Nat → Nat) (C : CT) (Z : ZT) (h t n : Int32) (T : Nat) (hC : cOk C T) (hz : zOk Z) : Ctr l E yX7_converts cX7_converts 6 (some .int) (rmL 5) [.ref (A 0), .int h, .int t, .int n] (wC E A C Z) (fun r w => ∃ Z1, r = some (Value.int (x_converts C T h t n).1) ∧ zOk Z1 ∧ w = wC E A (x_converts C T h t n).2 Z1) := by
  refine Ctr.of (by decide) (Nat.le_of_ble_eq_true rfl) rfl rfl 2 ?_
  intro X hX hR
  obtain ⟨hT, hT1, hT6, hnx, hud, hn, hrn⟩ := id hC
  refine rh_iload_n hX dX7_converts_0 rfl ?_
  refine rh_pS hX lk_X7_104 msX7_isHolder (fun l => c_X7_isHolder l E _) ⟨rfl, rfl⟩ ⟨Nat.le_of_ble_eq_true rfl, Nat.le_of_ble_eq_true rfl⟩ [] rfl rfl dX7_converts_1 rfl rfl (Nat.le_of_ble_eq_true rfl) ?_
  refine rh_if_eq (tgt := 20) hX dX7_converts_4 (by decide) (fun h4 => ?_) (fun h4 => ?_)
  · skip
    refine rh_iconst hX dX7_converts_20 ki_m1 ?_
    exact rh_iret hX hR dX7_converts_21 (by simp only [List.map_cons, List.map_nil, List.cons_append, List.nil_append]) (by first | exact ⟨Z, by rw [x_converts, if_pos h4] <;> rfl, hz, by rw [x_converts, if_pos h4] <;> rfl⟩ | exact ⟨Z, by rw [x_converts, if_neg h4, if_pos h12] <;> rfl, hz, by rw [x_converts, if_neg h4, if_pos h12] <;> rfl⟩ | exact ⟨Z, by rw [x_converts, if_neg h4, if_neg h12, if_pos (lt1 h17)] <;> rfl, hz, by rw [x_converts, if_neg h4, if_neg h12, if_pos (lt1 h17)] <;> rfl⟩)
  · skip
    obtain ⟨hd, rfl, hdl⟩ := xH_1 h4
    refine rh_aload_n hX dX7_converts_7 rfl ?_
    refine rh_iload_n hX dX7_converts_8 rfl ?_
    refine rh_aP hX lk_X7_145 mvX7_isSeries (fun l => c_X7_isSeries l E A C Z _ T hC) ⟨rfl, rfl⟩ ⟨Nat.le_of_ble_eq_true rfl, Nat.le_of_ble_eq_true rfl⟩ 0 rfl dX7_converts_9 rfl rfl (Nat.le_of_ble_eq_true rfl) ?_
    refine rh_if_eq (tgt := 20) hX dX7_converts_12 (by decide) (fun h12 => ?_) (fun h12 => ?_)
    · skip
      refine rh_iconst hX dX7_converts_20 ki_m1 ?_
      exact rh_iret hX hR dX7_converts_21 (by simp only [List.map_cons, List.map_nil, List.cons_append, List.nil_append]) (by first | exact ⟨Z, by rw [x_converts, if_pos h4] <;> rfl, hz, by rw [x_converts, if_pos h4] <;> rfl⟩ | exact ⟨Z, by rw [x_converts, if_neg h4, if_pos h12] <;> rfl, hz, by rw [x_converts, if_neg h4, if_pos h12] <;> rfl⟩ | exact ⟨Z, by rw [x_converts, if_neg h4, if_neg h12, if_pos (lt1 h17)] <;> rfl, hz, by rw [x_converts, if_neg h4, if_neg h12, if_pos (lt1 h17)] <;> rfl⟩)
    · skip
      obtain ⟨td, rfl, htd1, htd⟩ := xSe_1 hT6 h12
      refine rh_iload_n hX dX7_converts_15 rfl ?_
      refine rh_iconst hX dX7_converts_16 ki_1 ?_
      refine rh_icmp_ge (tgt := 22) hX dX7_converts_17 (by decide) (fun h17 => ?_) (fun h17 => ?_)
      · skip
        refine rh_aload_n hX dX7_converts_22 rfl ?_
        refine rh_get hX gl_X7_12 0 dX7_converts_23 rfl rfl ?_
        refine rh_iload_n hX dX7_converts_26 rfl ?_
        refine rh_iload_n hX dX7_converts_27 rfl ?_
        refine rh_pV hX lk_X7_113 mvX1_held (fun l => c_X1_held l E _ _ _ hd td (by omega) (by omega)) ⟨rfl, rfl⟩ ⟨Nat.le_of_ble_eq_true rfl, Nat.le_of_ble_eq_true rfl⟩ [1, 2] rfl rfl 1 rfl dX7_converts_28 rfl rfl (Nat.le_of_ble_eq_true rfl) ?_
        refine rh_iload_n hX dX7_converts_31 rfl ?_
        refine rh_i2l hX dX7_converts_32 ?_
        refine rh_lge (tgt := 40) hX dX7_converts_33 dX7_converts_34 (by decide) (fun h33 => ?_) (fun h33 => ?_)
        · skip
          refine rh_aload_n hX dX7_converts_40 rfl ?_
          refine rh_get hX gl_X7_12 0 dX7_converts_41 rfl rfl ?_
          refine rh_iload_n hX dX7_converts_44 rfl ?_
          refine rh_iload_n hX dX7_converts_45 rfl ?_
          refine rh_i2l hX dX7_converts_46 ?_
          refine rh_pV hX lk_X7_148 mvX1_converted (fun l => c_X1_converted l E _ _ _ td _ (by omega)) ⟨rfl, rfl⟩ ⟨Nat.le_of_ble_eq_true rfl, Nat.le_of_ble_eq_true rfl⟩ [1, 2] rfl rfl 1 rfl dX7_converts_47 rfl rfl (Nat.le_of_ble_eq_true rfl) ?_
          refine rh_lst4 hX dX7_converts_50 (by decide) rfl ?_
          refine rh_aload_n hX dX7_converts_52 rfl ?_
          refine rh_aU hX lk_X7_107 mvX7_beginDraft (fun l => c_X7_beginDraft l E A C Z) ⟨rfl, rfl⟩ ⟨Nat.le_of_ble_eq_true rfl, Nat.le_of_ble_eq_true rfl⟩ 0 rfl dX7_converts_53 rfl rfl (Nat.le_of_ble_eq_true rfl) ?_
          refine rh_aload_n hX dX7_converts_56 rfl ?_
          refine rh_get hX gl_X7_16 0 dX7_converts_57 rfl rfl ?_
          refine rh_iload_n hX dX7_converts_60 rfl ?_
          refine rh_iload_n hX dX7_converts_61 rfl ?_
          refine rh_iload_n hX dX7_converts_62 rfl ?_
          refine rh_ineg hX dX7_converts_63 ?_
          refine rh_i2l hX dX7_converts_64 ?_
          refine rh_uV hX lk_X7_92 mvX1_addHeld (fun l => c_X1_addHeld l E _ _ _ hd td _ (by omega) (by omega)) ⟨rfl, rfl⟩ ⟨Nat.le_of_ble_eq_true rfl, Nat.le_of_ble_eq_true rfl⟩ [3, 4] rfl rfl 3 rfl dX7_converts_65 rfl rfl (Nat.le_of_ble_eq_true rfl) rfl ?_
          dsimp only [List.cons_append, List.nil_append, List.set_cons_succ, List.set_cons_zero, vput]
          refine rh_aload_n hX dX7_converts_68 rfl ?_
          refine rh_get hX gl_X7_16 0 dX7_converts_69 rfl rfl ?_
          refine rh_iload_n hX dX7_converts_72 rfl ?_
          refine rh_iconst hX dX7_converts_73 ki_0 ?_
          refine rh_lload hX dX7_converts_74 rfl ?_
          refine rh_uV hX lk_X7_92 mvX1_addHeld (fun l => c_X1_addHeld l E _ _ _ hd 0 _ (by omega) (by omega)) ⟨rfl, rfl⟩ ⟨Nat.le_of_ble_eq_true rfl, Nat.le_of_ble_eq_true rfl⟩ [3, 4] rfl rfl 3 rfl dX7_converts_76 rfl rfl (Nat.le_of_ble_eq_true rfl) rfl ?_
          dsimp only [List.cons_append, List.nil_append, List.set_cons_succ, List.set_cons_zero, vput]
          refine rh_aload_n hX dX7_converts_79 rfl ?_
          refine rh_aW hX lk_X7_96 mvX7_accepts (fun l => c_X7_accepts l E A C ((va_up (va_up C.1 (0 + hd * 6 + td) (cHeld C.1 hd td + (-n).toInt64)) (0 + hd * 6 + 0) (cHeld (va_up C.1 (0 + hd * 6 + td) (cHeld C.1 hd td + (-n).toInt64)) hd 0 + cConv C.1 td n.toInt64)), Z.2) T hC T (by show ((va_up (va_up C.1 (0 + hd * 6 + td) (cHeld C.1 hd td + (-n).toInt64)) (0 + hd * 6 + 0) (cHeld (va_up C.1 (0 + hd * 6 + td) (cHeld C.1 hd td + (-n).toInt64)) hd 0 + cConv C.1 td n.toInt64)) 171).toInt32 = nI T; rw [show (va_up (va_up C.1 (0 + hd * 6 + td) (cHeld C.1 hd td + (-n).toInt64)) (0 + hd * 6 + 0) (cHeld (va_up C.1 (0 + hd * 6 + td) (cHeld C.1 hd td + (-n).toInt64)) hd 0 + cConv C.1 td n.toInt64)) 171 = C.1 171 by (unfold va_up; repeat rw [if_neg (by omega)])]; exact hT) (by omega)) ⟨rfl, rfl⟩ ⟨Nat.le_of_ble_eq_true rfl, Nat.le_of_ble_eq_true rfl⟩ 0 rfl dX7_converts_80 rfl rfl (Nat.le_of_ble_eq_true rfl) ?_
          refine rh_if_eq (tgt := 92) hX dX7_converts_83 (by decide) (fun hx => ?_) (fun hx => ?_)
          · skip
            have hx : 1000000000 < cSize ((va_up (va_up C.1 (0 + hd * 6 + td) (cHeld C.1 hd td + (-n).toInt64)) (0 + hd * 6 + 0) (cHeld (va_up C.1 (0 + hd * 6 + td) (cHeld C.1 hd td + (-n).toInt64)) hd 0 + cConv C.1 td n.toInt64))) T := Classical.not_not.mp (fun q => absurd (show (if 1000000000 < cSize ((va_up (va_up C.1 (0 + hd * 6 + td) (cHeld C.1 hd td + (-n).toInt64)) (0 + hd * 6 + 0) (cHeld (va_up C.1 (0 + hd * 6 + td) (cHeld C.1 hd td + (-n).toInt64)) hd 0 + cConv C.1 td n.toInt64))) T then (0 : Int32) else 1) = 0 from hx) (by rw [if_neg q]; decide))
            rw [if_pos (show 1000000000 < cSize (((va_up (va_up C.1 (0 + hd * 6 + td) (cHeld C.1 hd td + (-n).toInt64)) (0 + hd * 6 + 0) (cHeld (va_up C.1 (0 + hd * 6 + td) (cHeld C.1 hd td + (-n).toInt64)) hd 0 + cConv C.1 td n.toInt64)), Z.2) : ZT).1 T from hx)]
            refine rh_bipush hX dX7_converts_92 kb_m9 ?_
            exact rh_iret hX hR dX7_converts_94 (by simp only [List.map_cons, List.map_nil, List.cons_append, List.nil_append]) (by first | exact ⟨((va_up (va_up C.1 (0 + hd * 6 + td) (cHeld C.1 hd td + (-n).toInt64)) (0 + hd * 6 + 0) (cHeld (va_up C.1 (0 + hd * 6 + td) (cHeld C.1 hd td + (-n).toInt64)) hd 0 + cConv C.1 td n.toInt64)), Z.2), by rw [x_converts, if_neg h4, if_neg h12, if_neg (nlt1 h17), nI_clamp (show hd < 2 ^ 31 by omega), nI_clamp (show td < 2 ^ 31 by omega), if_neg (rh_le64.mp h33), xDeed, if_neg hx] <;> rfl, hz, by rw [x_converts, if_neg h4, if_neg h12, if_neg (nlt1 h17), nI_clamp (show hd < 2 ^ 31 by omega), nI_clamp (show td < 2 ^ 31 by omega), if_neg (rh_le64.mp h33), xDeed, if_neg hx] <;> rfl⟩ | exact ⟨((va_up (va_up C.1 (0 + hd * 6 + td) (cHeld C.1 hd td + (-n).toInt64)) (0 + hd * 6 + 0) (cHeld (va_up C.1 (0 + hd * 6 + td) (cHeld C.1 hd td + (-n).toInt64)) hd 0 + cConv C.1 td n.toInt64)), Z.2), by rw [x_converts, if_neg h4, if_neg h12, if_neg (nlt1 h17), nI_clamp (show hd < 2 ^ 31 by omega), nI_clamp (show td < 2 ^ 31 by omega), if_neg (rh_le64.mp h33), xDeed, if_pos hx] <;> rfl, hz, by rw [x_converts, if_neg h4, if_neg h12, if_neg (nlt1 h17), nI_clamp (show hd < 2 ^ 31 by omega), nI_clamp (show td < 2 ^ 31 by omega), if_neg (rh_le64.mp h33), xDeed, if_pos hx] <;> rfl⟩)
          · skip
            have hx : ¬ 1000000000 < cSize ((va_up (va_up C.1 (0 + hd * 6 + td) (cHeld C.1 hd td + (-n).toInt64)) (0 + hd * 6 + 0) (cHeld (va_up C.1 (0 + hd * 6 + td) (cHeld C.1 hd td + (-n).toInt64)) hd 0 + cConv C.1 td n.toInt64))) T := fun q => hx (show (if 1000000000 < cSize ((va_up (va_up C.1 (0 + hd * 6 + td) (cHeld C.1 hd td + (-n).toInt64)) (0 + hd * 6 + 0) (cHeld (va_up C.1 (0 + hd * 6 + td) (cHeld C.1 hd td + (-n).toInt64)) hd 0 + cConv C.1 td n.toInt64))) T then (0 : Int32) else 1) = 0 from if_pos q)
            rw [if_neg (show ¬ 1000000000 < cSize (((va_up (va_up C.1 (0 + hd * 6 + td) (cHeld C.1 hd td + (-n).toInt64)) (0 + hd * 6 + 0) (cHeld (va_up C.1 (0 + hd * 6 + td) (cHeld C.1 hd td + (-n).toInt64)) hd 0 + cConv C.1 td n.toInt64)), Z.2) : ZT).1 T from hx)]
            refine rh_lload hX dX7_converts_86 rfl ?_
            refine rh_l2i hX dX7_converts_88 ?_
            refine rh_goto (tgt := 94) hX dX7_converts_89 (by decide) ?_
            exact rh_iret hX hR dX7_converts_94 (by simp only [List.map_cons, List.map_nil, List.cons_append, List.nil_append]) (by first | exact ⟨((va_up (va_up C.1 (0 + hd * 6 + td) (cHeld C.1 hd td + (-n).toInt64)) (0 + hd * 6 + 0) (cHeld (va_up C.1 (0 + hd * 6 + td) (cHeld C.1 hd td + (-n).toInt64)) hd 0 + cConv C.1 td n.toInt64)), Z.2), by rw [x_converts, if_neg h4, if_neg h12, if_neg (nlt1 h17), nI_clamp (show hd < 2 ^ 31 by omega), nI_clamp (show td < 2 ^ 31 by omega), if_neg (rh_le64.mp h33), xDeed, if_neg hx] <;> rfl, hz, by rw [x_converts, if_neg h4, if_neg h12, if_neg (nlt1 h17), nI_clamp (show hd < 2 ^ 31 by omega), nI_clamp (show td < 2 ^ 31 by omega), if_neg (rh_le64.mp h33), xDeed, if_neg hx] <;> rfl⟩ | exact ⟨((va_up (va_up C.1 (0 + hd * 6 + td) (cHeld C.1 hd td + (-n).toInt64)) (0 + hd * 6 + 0) (cHeld (va_up C.1 (0 + hd * 6 + td) (cHeld C.1 hd td + (-n).toInt64)) hd 0 + cConv C.1 td n.toInt64)), Z.2), by rw [x_converts, if_neg h4, if_neg h12, if_neg (nlt1 h17), nI_clamp (show hd < 2 ^ 31 by omega), nI_clamp (show td < 2 ^ 31 by omega), if_neg (rh_le64.mp h33), xDeed, if_pos hx] <;> rfl, hz, by rw [x_converts, if_neg h4, if_neg h12, if_neg (nlt1 h17), nI_clamp (show hd < 2 ^ 31 by omega), nI_clamp (show td < 2 ^ 31 by omega), if_neg (rh_le64.mp h33), xDeed, if_pos hx] <;> rfl⟩)
        · skip
          refine rh_bipush hX dX7_converts_37 kb_m2 ?_
          exact rh_iret hX hR dX7_converts_39 (by simp only [List.map_cons, List.map_nil, List.cons_append, List.nil_append]) ⟨Z, by rw [x_converts, if_neg h4, if_neg h12, if_neg (nlt1 h17), nI_clamp (show hd < 2 ^ 31 by omega), nI_clamp (show td < 2 ^ 31 by omega), if_pos (Classical.not_not.mp (fun q => h33 (rh_le64.mpr q)))] <;> rfl, hz, by rw [x_converts, if_neg h4, if_neg h12, if_neg (nlt1 h17), nI_clamp (show hd < 2 ^ 31 by omega), nI_clamp (show td < 2 ^ 31 by omega), if_pos (Classical.not_not.mp (fun q => h33 (rh_le64.mpr q)))] <;> rfl⟩
      · skip
        refine rh_iconst hX dX7_converts_20 ki_m1 ?_
        exact rh_iret hX hR dX7_converts_21 (by simp only [List.map_cons, List.map_nil, List.cons_append, List.nil_append]) (by first | exact ⟨Z, by rw [x_converts, if_pos h4] <;> rfl, hz, by rw [x_converts, if_pos h4] <;> rfl⟩ | exact ⟨Z, by rw [x_converts, if_neg h4, if_pos h12] <;> rfl, hz, by rw [x_converts, if_neg h4, if_pos h12] <;> rfl⟩ | exact ⟨Z, by rw [x_converts, if_neg h4, if_neg h12, if_pos (lt1 h17)] <;> rfl, hz, by rw [x_converts, if_neg h4, if_neg h12, if_pos (lt1 h17)] <;> rfl⟩)

set_option maxRecDepth 100000 in
set_option maxHeartbeats 4000000 in
theorem c_X7_keeps (l : Launch) (E : rhE) (A : Nat → Nat) (C : CT) (Z : ZT)  (T : Nat) (hC : cOk C T) (hz : zOk Z) : Ctr l E yX7_keeps cX7_keeps 1 (some .int) (rmL 5) [.ref (A 0)] (wC E A C Z) (fun r w => ∃ Z1, r = some (Value.int (x_keeps C T).1) ∧ zOk Z1 ∧ w = wC E A (x_keeps C T).2 Z1) := by
  refine Ctr.of (by decide) (Nat.le_of_ble_eq_true rfl) rfl rfl 0 ?_
  intro X hX hR
  obtain ⟨hT, hT1, hT6, hnx, hud, hn, hrn⟩ := id hC
  refine rh_aload_n hX dX7_keeps_0 rfl ?_
  refine rh_get hX gl_X7_12 0 dX7_keeps_1 rfl rfl ?_
  refine rh_aload_n hX dX7_keeps_4 rfl ?_
  refine rh_get hX gl_X7_19 0 dX7_keeps_5 rfl rfl ?_
  refine rh_uV hX lk_X7_330 mvX1_saveTo (fun l => c_X1_saveTo l E _ _ _ _ _) ⟨rfl, rfl⟩ ⟨Nat.le_of_ble_eq_true rfl, Nat.le_of_ble_eq_true rfl⟩ [1, 2, 5] rfl rfl 1 rfl dX7_keeps_8 rfl rfl (Nat.le_of_ble_eq_true rfl) rfl ?_
  dsimp only [List.cons_append, List.nil_append, List.set_cons_succ, List.set_cons_zero, vput]
  refine rh_aload_n hX dX7_keeps_11 rfl ?_
  refine rh_iconst hX dX7_keeps_12 ki_1 ?_
  refine rh_put hX gl_X7_333 0 dX7_keeps_13 rfl rfl rfl (Nat.le_of_ble_eq_true rfl) rfl ?_
  dsimp only [List.cons_append, List.nil_append, List.set_cons_succ, List.set_cons_zero, vput]
  refine rh_aload_n hX dX7_keeps_16 rfl ?_
  refine rh_get hX gl_X7_12 0 dX7_keeps_17 rfl rfl ?_
  refine rh_pV hX lk_X7_100 mvX1_size (fun l => c_X1_size l E _ _ _ T hT hT6) ⟨rfl, rfl⟩ ⟨Nat.le_of_ble_eq_true rfl, Nat.le_of_ble_eq_true rfl⟩ [1, 2] rfl rfl 1 rfl dX7_keeps_20 rfl rfl (Nat.le_of_ble_eq_true rfl) ?_
  refine rh_l2i hX dX7_keeps_23 ?_
  exact rh_iret hX hR dX7_keeps_24 (by simp only [List.map_cons, List.map_nil, List.cons_append, List.nil_append]) ⟨Z, rfl, hz, rfl⟩

set_option maxRecDepth 100000 in
set_option maxHeartbeats 4000000 in
theorem c_X7_back (l : Launch) (E : rhE) (A : Nat → Nat) (C : CT) (Z : ZT) (T : Nat) (hC : cOk C T) (Tk : Nat) (hTk : (C.2.1 171).toInt32 = nI Tk) (hTk6 : Tk ≤ 6) (hz : zOk Z) : Ctr l E yX7_back cX7_back 1 (some .int) (rmL 5) [.ref (A 0)] (wC E A C Z) (fun r w => ∃ Z1, r = some (Value.int (x_back C Tk).1) ∧ zOk Z1 ∧ w = wC E A (x_back C Tk).2 Z1) := by
  refine Ctr.of (by decide) (Nat.le_of_ble_eq_true rfl) rfl rfl 0 ?_
  intro X hX hR
  obtain ⟨hT, hT1, hT6, hnx, hud, hn, hrn⟩ := id hC
  refine rh_aload_n hX dX7_back_0 rfl ?_
  refine rh_get hX gl_X7_333 0 dX7_back_1 rfl rfl ?_
  refine rh_if_ne (tgt := 10) hX dX7_back_4 (by decide) (fun h4 => ?_) (fun h4 => ?_)
  · skip
    refine rh_aload_n hX dX7_back_10 rfl ?_
    refine rh_get hX gl_X7_16 0 dX7_back_11 rfl rfl ?_
    refine rh_aload_n hX dX7_back_14 rfl ?_
    refine rh_get hX gl_X7_19 0 dX7_back_15 rfl rfl ?_
    refine rh_uV hX lk_X7_174 mvX1_load (fun l => c_X1_load l E _ _ _ _ _) ⟨rfl, rfl⟩ ⟨Nat.le_of_ble_eq_true rfl, Nat.le_of_ble_eq_true rfl⟩ [3, 4, 5] rfl rfl 3 rfl dX7_back_18 rfl rfl (Nat.le_of_ble_eq_true rfl) rfl ?_
    dsimp only [List.cons_append, List.nil_append, List.set_cons_succ, List.set_cons_zero, vput]
    refine rh_aload_n hX dX7_back_21 rfl ?_
    refine rh_aW hX lk_X7_96 mvX7_accepts (fun l => c_X7_accepts l E A C (C.2.1, Z.2) T hC Tk hTk hTk6) ⟨rfl, rfl⟩ ⟨Nat.le_of_ble_eq_true rfl, Nat.le_of_ble_eq_true rfl⟩ 0 rfl dX7_back_22 rfl rfl (Nat.le_of_ble_eq_true rfl) ?_
    refine rh_if_eq (tgt := 39) hX dX7_back_25 (by decide) (fun hx => ?_) (fun hx => ?_)
    · skip
      have hx : 1000000000 < cSize C.2.1 Tk := Classical.not_not.mp (fun q => absurd (show (if 1000000000 < cSize C.2.1 Tk then (0 : Int32) else 1) = 0 from hx) (by rw [if_neg q]; decide))
      rw [if_pos (show 1000000000 < cSize ((C.2.1, Z.2) : ZT).1 Tk from hx)]
      refine rh_bipush hX dX7_back_39 kb_m9 ?_
      exact rh_iret hX hR dX7_back_41 (by simp only [List.map_cons, List.map_nil, List.cons_append, List.nil_append]) (by first | exact ⟨(C.2.1, Z.2), by rw [x_back, if_neg h4, xDeed, if_neg hx] <;> rfl, hz, by rw [x_back, if_neg h4, xDeed, if_neg hx] <;> rfl⟩ | exact ⟨(C.2.1, Z.2), by rw [x_back, if_neg h4, xDeed, if_pos hx] <;> rfl, hz, by rw [x_back, if_neg h4, xDeed, if_pos hx] <;> rfl⟩)
    · skip
      have hx : ¬ 1000000000 < cSize C.2.1 Tk := fun q => hx (show (if 1000000000 < cSize C.2.1 Tk then (0 : Int32) else 1) = 0 from if_pos q)
      rw [if_neg (show ¬ 1000000000 < cSize ((C.2.1, Z.2) : ZT).1 Tk from hx)]
      refine rh_aload_n hX dX7_back_28 rfl ?_
      refine rh_get hX gl_X7_12 0 dX7_back_29 rfl rfl ?_
      refine rh_pV hX lk_X7_100 mvX1_size (fun l => c_X1_size l E _ _ _ Tk hTk hTk6) ⟨rfl, rfl⟩ ⟨Nat.le_of_ble_eq_true rfl, Nat.le_of_ble_eq_true rfl⟩ [1, 2] rfl rfl 1 rfl dX7_back_32 rfl rfl (Nat.le_of_ble_eq_true rfl) ?_
      refine rh_l2i hX dX7_back_35 ?_
      refine rh_goto (tgt := 41) hX dX7_back_36 (by decide) ?_
      exact rh_iret hX hR dX7_back_41 (by simp only [List.map_cons, List.map_nil, List.cons_append, List.nil_append]) (by first | exact ⟨(C.2.1, Z.2), by rw [x_back, if_neg h4, xDeed, if_neg hx] <;> rfl, hz, by rw [x_back, if_neg h4, xDeed, if_neg hx] <;> rfl⟩ | exact ⟨(C.2.1, Z.2), by rw [x_back, if_neg h4, xDeed, if_pos hx] <;> rfl, hz, by rw [x_back, if_neg h4, xDeed, if_pos hx] <;> rfl⟩)
  · skip
    refine rh_bipush hX dX7_back_7 kb_m2 ?_
    exact rh_iret hX hR dX7_back_9 (by simp only [List.map_cons, List.map_nil, List.cons_append, List.nil_append]) ⟨Z, by rw [x_back, if_pos h4] <;> rfl, hz, by rw [x_back, if_pos h4] <;> rfl⟩
