def x_sign (C : CT) (v : Int32) : Int32 × CT := (if C.2.2.2.2.2.2.2.2.1 + 4 ≤ 200 then nI (C.2.2.2.2.2.2.2.2.1 + 4) else -1, (C.1, C.2.1, C.2.2.1, C.2.2.2.1, C.2.2.2.2.1, C.2.2.2.2.2.1, C.2.2.2.2.2.2.1, (if C.2.2.2.2.2.2.2.2.1 + 4 ≤ 200 then tAdd C.2.2.2.2.2.2.2.1 C.2.2.2.2.2.2.2.2.1 v else C.2.2.2.2.2.2.2.1), (if C.2.2.2.2.2.2.2.2.1 + 4 ≤ 200 then C.2.2.2.2.2.2.2.2.1 + 4 else C.2.2.2.2.2.2.2.2.1), C.2.2.2.2.2.2.2.2.2))
def x_end (C : CT) (x : Int32) : Int32 × CT := (if (cutN C.2.2.2.2.2.2.2.2.1 x).isSome = true then 1 else 0, (C.1, C.2.1, C.2.2.1, C.2.2.2.1, C.2.2.2.2.1, C.2.2.2.2.2.1, C.2.2.2.2.2.2.1, C.2.2.2.2.2.2.2.1, (cutN C.2.2.2.2.2.2.2.2.1 x).getD C.2.2.2.2.2.2.2.2.1, C.2.2.2.2.2.2.2.2.2))
def x_issues (C : CT) (T : Nat) (h n : Int32) : Int32 × CT := if xH h = 0 then (-1, C) else if n < 1 then (-1, C) else xDeed C (va_up C.1 (0 + h.toNatClampNeg * 6 + 0) (cHeld C.1 h.toNatClampNeg 0 + n.toInt64)) T (cSize (va_up C.1 (0 + h.toNatClampNeg * 6 + 0) (cHeld C.1 h.toNatClampNeg 0 + n.toInt64)) T).toInt32
def x_pool (C : CT) (T : Nat) (n : Int32) : Int32 × CT := if n < 0 then (-1, C) else xDeed C (va_up C.1 170 n.toInt64) T (C.1 170).toInt32
theorem nar01 (p : Prop) [Decidable p] : narrow .boolean (.int (if p then 1 else 0)) = .int (if p then 1 else 0) := by
  by_cases q : p
  · rw [if_pos q]; rfl
  · rw [if_neg q]; rfl
theorem lt1 {x : Int32} (h : ¬ 1 ≤ x) : x < 1 := by
  rw [Int32.lt_iff_toInt_lt]
  rw [Int32.le_iff_toInt_le] at h
  omega
theorem nlt1 {x : Int32} (h : 1 ≤ x) : ¬ x < 1 := by
  rw [Int32.lt_iff_toInt_lt]
  rw [Int32.le_iff_toInt_le] at h
  omega

set_option maxRecDepth 100000 in
set_option maxHeartbeats 4000000 in
theorem c_X7_sign (l : Launch) (E : rhE) (A : Nat → Nat) (C : CT) (Z : ZT) (v : Int32) (T : Nat) (hC : cOk C T) (hz : zOk Z) : Ctr l E yX7_sign cX7_sign 2 (some .int) (rmL 1) [.ref (A 0), .int v] (wC E A C Z) (fun r w => ∃ Z1, r = some (Value.int (x_sign C v).1) ∧ zOk Z1 ∧ w = wC E A (x_sign C v).2 Z1) := by
  refine Ctr.of (by decide) (Nat.le_of_ble_eq_true rfl) rfl rfl 0 ?_
  intro X hX hR
  obtain ⟨hT, hT1, hT6, hnx, hud, hn, hrn⟩ := id hC
  refine rh_aload_n hX dX7_sign_0 rfl ?_
  refine rh_get hX gl_X7_33 0 dX7_sign_1 rfl rfl ?_
  refine rh_iload_n hX dX7_sign_4 rfl ?_
  refine rh_wV hX lk_X7_72 mvX6_adds (fun l => c_X6_adds l E _ _ _ _ _ _ (by omega)) ⟨rfl, rfl⟩ ⟨Nat.le_of_ble_eq_true rfl, Nat.le_of_ble_eq_true rfl⟩ [16, 17] rfl rfl 16 rfl dX7_sign_5 rfl rfl (Nat.le_of_ble_eq_true rfl) rfl ?_
  dsimp only [List.cons_append, List.nil_append, List.set_cons_succ, List.set_cons_zero, vput]
  exact rh_iret hX hR dX7_sign_8 (by simp only [List.map_cons, List.map_nil, List.cons_append, List.nil_append]) ⟨Z, rfl, hz, rfl⟩

set_option maxRecDepth 100000 in
set_option maxHeartbeats 4000000 in
theorem c_X7_end (l : Launch) (E : rhE) (A : Nat → Nat) (C : CT) (Z : ZT) (v : Int32) (T : Nat) (hC : cOk C T) (hz : zOk Z) : Ctr l E yX7_end cX7_end 2 (some .boolean) (rmL 1) [.ref (A 0), .int v] (wC E A C Z) (fun r w => ∃ Z1, r = some (Value.int (x_end C v).1) ∧ zOk Z1 ∧ w = wC E A (x_end C v).2 Z1) := by
  refine Ctr.of (by decide) (Nat.le_of_ble_eq_true rfl) rfl rfl 0 ?_
  intro X hX hR
  obtain ⟨hT, hT1, hT6, hnx, hud, hn, hrn⟩ := id hC
  refine rh_aload_n hX dX7_end_0 rfl ?_
  refine rh_get hX gl_X7_33 0 dX7_end_1 rfl rfl ?_
  refine rh_iload_n hX dX7_end_4 rfl ?_
  refine rh_wV hX lk_X7_76 mvX6_cutsTo (fun l => c_X6_cutsTo l E _ _ _ _ _ _ (by omega)) ⟨rfl, rfl⟩ ⟨Nat.le_of_ble_eq_true rfl, Nat.le_of_ble_eq_true rfl⟩ [16, 17] rfl rfl 16 rfl dX7_end_5 rfl rfl (Nat.le_of_ble_eq_true rfl) rfl ?_
  dsimp only [List.cons_append, List.nil_append, List.set_cons_succ, List.set_cons_zero, vput]
  exact rh_zret hX hR dX7_end_8 (nar01 _) (by simp only [List.map_cons, List.map_nil, List.cons_append, List.nil_append]) ⟨Z, rfl, hz, rfl⟩

set_option maxRecDepth 100000 in
set_option maxHeartbeats 4000000 in
theorem c_X7_issues (l : Launch) (E : rhE) (A : Nat → Nat) (C : CT) (Z : ZT) (h n : Int32) (T : Nat) (hC : cOk C T) (hz : zOk Z) : Ctr l E yX7_issues cX7_issues 3 (some .int) (rmL 5) [.ref (A 0), .int h, .int n] (wC E A C Z) (fun r w => ∃ Z1, r = some (Value.int (x_issues C T h n).1) ∧ zOk Z1 ∧ w = wC E A (x_issues C T h n).2 Z1) := by
  refine Ctr.of (by decide) (Nat.le_of_ble_eq_true rfl) rfl rfl 0 ?_
  intro X hX hR
  obtain ⟨hT, hT1, hT6, hnx, hud, hn, hrn⟩ := id hC
  refine rh_iload_n hX dX7_issues_0 rfl ?_
  refine rh_pS hX lk_X7_104 msX7_isHolder (fun l => c_X7_isHolder l E _) ⟨rfl, rfl⟩ ⟨Nat.le_of_ble_eq_true rfl, Nat.le_of_ble_eq_true rfl⟩ [] rfl rfl dX7_issues_1 rfl rfl (Nat.le_of_ble_eq_true rfl) ?_
  refine rh_if_eq (tgt := 12) hX dX7_issues_4 (by decide) (fun h4 => ?_) (fun h4 => ?_)
  · skip
    refine rh_iconst hX dX7_issues_12 ki_m1 ?_
    exact rh_iret hX hR dX7_issues_13 (by simp only [List.map_cons, List.map_nil, List.cons_append, List.nil_append]) (by first | exact ⟨Z, by rw [x_issues, if_pos h4] <;> rfl, hz, by rw [x_issues, if_pos h4] <;> rfl⟩ | exact ⟨Z, by rw [x_issues, if_neg h4, if_pos (lt1 h9)] <;> rfl, hz, by rw [x_issues, if_neg h4, if_pos (lt1 h9)] <;> rfl⟩)
  · skip
    obtain ⟨hd, rfl, hdl⟩ := xH_1 h4
    refine rh_iload_n hX dX7_issues_7 rfl ?_
    refine rh_iconst hX dX7_issues_8 ki_1 ?_
    refine rh_icmp_ge (tgt := 14) hX dX7_issues_9 (by decide) (fun h9 => ?_) (fun h9 => ?_)
    · skip
      refine rh_aload_n hX dX7_issues_14 rfl ?_
      refine rh_aU hX lk_X7_107 mvX7_beginDraft (fun l => c_X7_beginDraft l E A C Z) ⟨rfl, rfl⟩ ⟨Nat.le_of_ble_eq_true rfl, Nat.le_of_ble_eq_true rfl⟩ 0 rfl dX7_issues_15 rfl rfl (Nat.le_of_ble_eq_true rfl) ?_
      refine rh_aload_n hX dX7_issues_18 rfl ?_
      refine rh_get hX gl_X7_16 0 dX7_issues_19 rfl rfl ?_
      refine rh_iload_n hX dX7_issues_22 rfl ?_
      refine rh_iconst hX dX7_issues_23 ki_0 ?_
      refine rh_iload_n hX dX7_issues_24 rfl ?_
      refine rh_i2l hX dX7_issues_25 ?_
      refine rh_uV hX lk_X7_92 mvX1_addHeld (fun l => c_X1_addHeld l E _ _ _ hd 0 _ (by omega) (by omega)) ⟨rfl, rfl⟩ ⟨Nat.le_of_ble_eq_true rfl, Nat.le_of_ble_eq_true rfl⟩ [3, 4] rfl rfl 3 rfl dX7_issues_26 rfl rfl (Nat.le_of_ble_eq_true rfl) rfl ?_
      dsimp only [List.cons_append, List.nil_append, List.set_cons_succ, List.set_cons_zero, vput]
      refine rh_aload_n hX dX7_issues_29 rfl ?_
      refine rh_aW hX lk_X7_96 mvX7_accepts (fun l => c_X7_accepts l E A C ((va_up C.1 (0 + hd * 6 + 0) (cHeld C.1 hd 0 + n.toInt64)), Z.2) T hC T (by show ((va_up C.1 (0 + hd * 6 + 0) (cHeld C.1 hd 0 + n.toInt64)) 171).toInt32 = nI T; rw [show (va_up C.1 (0 + hd * 6 + 0) (cHeld C.1 hd 0 + n.toInt64)) 171 = C.1 171 from if_neg (by omega)]; exact hT) (by omega)) ⟨rfl, rfl⟩ ⟨Nat.le_of_ble_eq_true rfl, Nat.le_of_ble_eq_true rfl⟩ 0 rfl dX7_issues_30 rfl rfl (Nat.le_of_ble_eq_true rfl) ?_
      refine rh_if_eq (tgt := 47) hX dX7_issues_33 (by decide) (fun hx => ?_) (fun hx => ?_)
      · skip
        have hx : 1000000000 < cSize ((va_up C.1 (0 + hd * 6 + 0) (cHeld C.1 hd 0 + n.toInt64))) T := Classical.not_not.mp (fun q => absurd (show (if 1000000000 < cSize ((va_up C.1 (0 + hd * 6 + 0) (cHeld C.1 hd 0 + n.toInt64))) T then (0 : Int32) else 1) = 0 from hx) (by rw [if_neg q]; decide))
        rw [if_pos (show 1000000000 < cSize (((va_up C.1 (0 + hd * 6 + 0) (cHeld C.1 hd 0 + n.toInt64)), Z.2) : ZT).1 T from hx)]
        refine rh_bipush hX dX7_issues_47 kb_m9 ?_
        exact rh_iret hX hR dX7_issues_49 (by simp only [List.map_cons, List.map_nil, List.cons_append, List.nil_append]) (by first | exact ⟨((va_up C.1 (0 + hd * 6 + 0) (cHeld C.1 hd 0 + n.toInt64)), Z.2), by rw [x_issues, if_neg h4, if_neg (nlt1 h9), nI_clamp (show hd < 2 ^ 31 by omega), xDeed, if_neg hx] <;> rfl, hz, by rw [x_issues, if_neg h4, if_neg (nlt1 h9), nI_clamp (show hd < 2 ^ 31 by omega), xDeed, if_neg hx] <;> rfl⟩ | exact ⟨((va_up C.1 (0 + hd * 6 + 0) (cHeld C.1 hd 0 + n.toInt64)), Z.2), by rw [x_issues, if_neg h4, if_neg (nlt1 h9), nI_clamp (show hd < 2 ^ 31 by omega), xDeed, if_pos hx] <;> rfl, hz, by rw [x_issues, if_neg h4, if_neg (nlt1 h9), nI_clamp (show hd < 2 ^ 31 by omega), xDeed, if_pos hx] <;> rfl⟩)
      · skip
        have hx : ¬ 1000000000 < cSize ((va_up C.1 (0 + hd * 6 + 0) (cHeld C.1 hd 0 + n.toInt64))) T := fun q => hx (show (if 1000000000 < cSize ((va_up C.1 (0 + hd * 6 + 0) (cHeld C.1 hd 0 + n.toInt64))) T then (0 : Int32) else 1) = 0 from if_pos q)
        rw [if_neg (show ¬ 1000000000 < cSize (((va_up C.1 (0 + hd * 6 + 0) (cHeld C.1 hd 0 + n.toInt64)), Z.2) : ZT).1 T from hx)]
        refine rh_aload_n hX dX7_issues_36 rfl ?_
        refine rh_get hX gl_X7_12 0 dX7_issues_37 rfl rfl ?_
        refine rh_pV hX lk_X7_100 mvX1_size (fun l => c_X1_size l E _ _ _ T (by show ((va_up C.1 (0 + hd * 6 + 0) (cHeld C.1 hd 0 + n.toInt64)) 171).toInt32 = nI T; rw [show (va_up C.1 (0 + hd * 6 + 0) (cHeld C.1 hd 0 + n.toInt64)) 171 = C.1 171 from if_neg (by omega)]; exact hT) hT6) ⟨rfl, rfl⟩ ⟨Nat.le_of_ble_eq_true rfl, Nat.le_of_ble_eq_true rfl⟩ [1, 2] rfl rfl 1 rfl dX7_issues_40 rfl rfl (Nat.le_of_ble_eq_true rfl) ?_
        refine rh_l2i hX dX7_issues_43 ?_
        refine rh_goto (tgt := 49) hX dX7_issues_44 (by decide) ?_
        exact rh_iret hX hR dX7_issues_49 (by simp only [List.map_cons, List.map_nil, List.cons_append, List.nil_append]) (by first | exact ⟨((va_up C.1 (0 + hd * 6 + 0) (cHeld C.1 hd 0 + n.toInt64)), Z.2), by rw [x_issues, if_neg h4, if_neg (nlt1 h9), nI_clamp (show hd < 2 ^ 31 by omega), xDeed, if_neg hx] <;> rfl, hz, by rw [x_issues, if_neg h4, if_neg (nlt1 h9), nI_clamp (show hd < 2 ^ 31 by omega), xDeed, if_neg hx] <;> rfl⟩ | exact ⟨((va_up C.1 (0 + hd * 6 + 0) (cHeld C.1 hd 0 + n.toInt64)), Z.2), by rw [x_issues, if_neg h4, if_neg (nlt1 h9), nI_clamp (show hd < 2 ^ 31 by omega), xDeed, if_pos hx] <;> rfl, hz, by rw [x_issues, if_neg h4, if_neg (nlt1 h9), nI_clamp (show hd < 2 ^ 31 by omega), xDeed, if_pos hx] <;> rfl⟩)
    · skip
      refine rh_iconst hX dX7_issues_12 ki_m1 ?_
      exact rh_iret hX hR dX7_issues_13 (by simp only [List.map_cons, List.map_nil, List.cons_append, List.nil_append]) (by first | exact ⟨Z, by rw [x_issues, if_pos h4] <;> rfl, hz, by rw [x_issues, if_pos h4] <;> rfl⟩ | exact ⟨Z, by rw [x_issues, if_neg h4, if_pos (lt1 h9)] <;> rfl, hz, by rw [x_issues, if_neg h4, if_pos (lt1 h9)] <;> rfl⟩)

set_option maxRecDepth 100000 in
set_option maxHeartbeats 4000000 in
theorem c_X7_pool (l : Launch) (E : rhE) (A : Nat → Nat) (C : CT) (Z : ZT) (n : Int32) (T : Nat) (hC : cOk C T) (hz : zOk Z) : Ctr l E yX7_pool cX7_pool 3 (some .int) (rmL 5) [.ref (A 0), .int n] (wC E A C Z) (fun r w => ∃ Z1, r = some (Value.int (x_pool C T n).1) ∧ zOk Z1 ∧ w = wC E A (x_pool C T n).2 Z1) := by
  refine Ctr.of (by decide) (Nat.le_of_ble_eq_true rfl) rfl rfl 1 ?_
  intro X hX hR
  obtain ⟨hT, hT1, hT6, hnx, hud, hn, hrn⟩ := id hC
  refine rh_iload_n hX dX7_pool_0 rfl ?_
  refine rh_if_ge (tgt := 6) hX dX7_pool_1 (by decide) (fun h1 => ?_) (fun h1 => ?_)
  · skip
    refine rh_aload_n hX dX7_pool_6 rfl ?_
    refine rh_get hX gl_X7_12 0 dX7_pool_7 rfl rfl ?_
    refine rh_pV hX lk_X7_117 mvX1_spare (fun l => c_X1_spare l E _ _ _) ⟨rfl, rfl⟩ ⟨Nat.le_of_ble_eq_true rfl, Nat.le_of_ble_eq_true rfl⟩ [1, 2] rfl rfl 1 rfl dX7_pool_10 rfl rfl (Nat.le_of_ble_eq_true rfl) ?_
    refine rh_l2i hX dX7_pool_13 ?_
    refine rh_istn2 hX dX7_pool_14 (by decide) rfl ?_
    refine rh_aload_n hX dX7_pool_15 rfl ?_
    refine rh_aU hX lk_X7_107 mvX7_beginDraft (fun l => c_X7_beginDraft l E A C Z) ⟨rfl, rfl⟩ ⟨Nat.le_of_ble_eq_true rfl, Nat.le_of_ble_eq_true rfl⟩ 0 rfl dX7_pool_16 rfl rfl (Nat.le_of_ble_eq_true rfl) ?_
    refine rh_aload_n hX dX7_pool_19 rfl ?_
    refine rh_get hX gl_X7_16 0 dX7_pool_20 rfl rfl ?_
    refine rh_iload_n hX dX7_pool_23 rfl ?_
    refine rh_i2l hX dX7_pool_24 ?_
    refine rh_uV hX lk_X7_120 mvX1_setSpare (fun l => c_X1_setSpare l E _ _ _ _) ⟨rfl, rfl⟩ ⟨Nat.le_of_ble_eq_true rfl, Nat.le_of_ble_eq_true rfl⟩ [3, 4] rfl rfl 3 rfl dX7_pool_25 rfl rfl (Nat.le_of_ble_eq_true rfl) rfl ?_
    dsimp only [List.cons_append, List.nil_append, List.set_cons_succ, List.set_cons_zero, vput]
    refine rh_aload_n hX dX7_pool_28 rfl ?_
    refine rh_aW hX lk_X7_96 mvX7_accepts (fun l => c_X7_accepts l E A C ((va_up C.1 170 n.toInt64), Z.2) T hC T (by show ((va_up C.1 170 n.toInt64) 171).toInt32 = nI T; rw [show (va_up C.1 170 n.toInt64) 171 = C.1 171 from if_neg (by omega)]; exact hT) (by omega)) ⟨rfl, rfl⟩ ⟨Nat.le_of_ble_eq_true rfl, Nat.le_of_ble_eq_true rfl⟩ 0 rfl dX7_pool_29 rfl rfl (Nat.le_of_ble_eq_true rfl) ?_
    refine rh_if_eq (tgt := 39) hX dX7_pool_32 (by decide) (fun hx => ?_) (fun hx => ?_)
    · skip
      have hx : 1000000000 < cSize ((va_up C.1 170 n.toInt64)) T := Classical.not_not.mp (fun q => absurd (show (if 1000000000 < cSize ((va_up C.1 170 n.toInt64)) T then (0 : Int32) else 1) = 0 from hx) (by rw [if_neg q]; decide))
      rw [if_pos (show 1000000000 < cSize (((va_up C.1 170 n.toInt64), Z.2) : ZT).1 T from hx)]
      refine rh_bipush hX dX7_pool_39 kb_m9 ?_
      exact rh_iret hX hR dX7_pool_41 (by simp only [List.map_cons, List.map_nil, List.cons_append, List.nil_append]) (by first | exact ⟨((va_up C.1 170 n.toInt64), Z.2), by rw [x_pool, if_neg (Int32.not_lt.mpr h1), xDeed, if_neg hx] <;> rfl, hz, by rw [x_pool, if_neg (Int32.not_lt.mpr h1), xDeed, if_neg hx] <;> rfl⟩ | exact ⟨((va_up C.1 170 n.toInt64), Z.2), by rw [x_pool, if_neg (Int32.not_lt.mpr h1), xDeed, if_pos hx] <;> rfl, hz, by rw [x_pool, if_neg (Int32.not_lt.mpr h1), xDeed, if_pos hx] <;> rfl⟩)
    · skip
      have hx : ¬ 1000000000 < cSize ((va_up C.1 170 n.toInt64)) T := fun q => hx (show (if 1000000000 < cSize ((va_up C.1 170 n.toInt64)) T then (0 : Int32) else 1) = 0 from if_pos q)
      rw [if_neg (show ¬ 1000000000 < cSize (((va_up C.1 170 n.toInt64), Z.2) : ZT).1 T from hx)]
      refine rh_iload_n hX dX7_pool_35 rfl ?_
      refine rh_goto (tgt := 41) hX dX7_pool_36 (by decide) ?_
      exact rh_iret hX hR dX7_pool_41 (by simp only [List.map_cons, List.map_nil, List.cons_append, List.nil_append]) (by first | exact ⟨((va_up C.1 170 n.toInt64), Z.2), by rw [x_pool, if_neg (Int32.not_lt.mpr h1), xDeed, if_neg hx] <;> rfl, hz, by rw [x_pool, if_neg (Int32.not_lt.mpr h1), xDeed, if_neg hx] <;> rfl⟩ | exact ⟨((va_up C.1 170 n.toInt64), Z.2), by rw [x_pool, if_neg (Int32.not_lt.mpr h1), xDeed, if_pos hx] <;> rfl, hz, by rw [x_pool, if_neg (Int32.not_lt.mpr h1), xDeed, if_pos hx] <;> rfl⟩)
  · skip
    refine rh_iconst hX dX7_pool_4 ki_m1 ?_
    exact rh_iret hX hR dX7_pool_5 (by simp only [List.map_cons, List.map_nil, List.cons_append, List.nil_append]) ⟨Z, by rw [x_pool, if_pos (Int32.not_le.mp h1)] <;> rfl, hz, by rw [x_pool, if_pos (Int32.not_le.mp h1)] <;> rfl⟩
