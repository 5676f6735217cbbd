theorem i32_to {x : Int32} {b : Nat} (h0 : ¬ x < 0) (h1 : x ≤ nI b) (hb : b < 2 ^ 31) : ∃ d, x = nI d ∧ d ≤ b := by
  obtain ⟨d, rfl, hd⟩ := rn_ex (i32_neg h0)
  exact ⟨d, rfl, rn_leI h1 hd hb⟩
def gvGo (f : Nat → Int64) (h to c : Nat) : Nat → Int64 := va_up (va_up f (0 + h * 6 + c) (cHeld f h c + -(cHeld f h c))) (0 + to * 6 + c) (cHeld (va_up f (0 + h * 6 + c) (cHeld f h c + -(cHeld f h c))) to c + cHeld f h c)
def gvF (f : Nat → Int64) (h to : Nat) : Nat → Nat → Int64
  | 0 => f
  | c + 1 => gvGo (gvF f h to c) h to c
termination_by c => c
theorem gvF_0 (f : Nat → Int64) (h to : Nat) : gvF f h to 0 = f := by rw [gvF]
theorem gvF_s (f : Nat → Int64) (h to c : Nat) : gvF f h to (c + 1) = gvGo (gvF f h to c) h to c := by rw [gvF]
theorem gvF_big (f : Nat → Int64) (h to : Nat) (hh : h < 8) (ht : to < 8) (x : Nat) (hx : 48 ≤ x) : ∀ c, c ≤ 6 → gvF f h to c x = f x
  | 0, _ => by rw [gvF_0]
  | c + 1, hc => by
    rw [gvF_s, ← gvF_big f h to hh ht x hx c (by omega)]
    unfold gvGo va_up
    rw [if_neg (by omega), if_neg (by omega)]
def gvO (g : Nat → Int64) (h to : Nat) : Nat → Int64 := va_up (va_up g (96 + h) (cGranted g h + -(cGranted g h))) (96 + to) (cGranted (va_up g (96 + h) (cGranted g h + -(cGranted g h))) to + cGranted g h)
theorem gvO_at (g : Nat → Int64) (h to : Nat) (hh : h < 8) (ht : to < 8) (x : Nat) (hx : 170 ≤ x) : gvO g h to x = g x := by
  unfold gvO va_up
  rw [if_neg (by omega), if_neg (by omega)]
def x_gives (C : CT) (T : Nat) (h to : Int32) : Int32 × CT := if xH h = 0 then (-1, C) else if xH to = 0 then (-1, C) else if h = to then (-2, C) else if cAny C.1 h.toNatClampNeg T ≤ 0 then (-2, C) else xDeed C (gvO (gvF C.1 h.toNatClampNeg to.toNatClampNeg T) h.toNatClampNeg to.toNatClampNeg) T (cClaim (gvO (gvF C.1 h.toNatClampNeg to.toNatClampNeg T) h.toNatClampNeg to.toNatClampNeg) to.toNatClampNeg T).toInt32
def mostT (w : Int32) : Int32 := if w = 0 then 3 else if w = 1 then 50 else 1
def x_term (C : CT) (T : Nat) (t w v : Int32) : Int32 × CT := if xSe T t = 0 then (-1, C) else if w < 0 then (-1, C) else if 3 < w then (-1, C) else if v < 0 then (-1, C) else if mostT w < v then (-1, C) else xDeed C (va_up C.1 (104 + t.toNatClampNeg * 11 + (2 + w.toNatClampNeg)) v.toInt64) T (cFact C.1 t.toNatClampNeg (2 + w.toNatClampNeg)).toInt32
def x_told (C : CT) (T : Nat) (t w : Int32) : Int32 := if xSe T t = 0 then -1 else if w < 0 then -1 else if 4 < w then -1 else (cFact C.1 t.toNatClampNeg (6 + w.toNatClampNeg)).toInt32
def x_shares (C : CT) (T : Nat) (h t : Int32) : Int32 := if xH h = 0 then -1 else if xTy T t = 0 then -1 else (cHeld C.1 h.toNatClampNeg t.toNatClampNeg).toInt32
def x_options (C : CT) (h : Int32) : Int32 := if xH h = 0 then -1 else (cGranted C.1 h.toNatClampNeg).toInt32

set_option maxRecDepth 100000 in
set_option maxHeartbeats 4000000 in
theorem c_X7_gives (l : Launch) (E : rhE) (A : Nat → Nat) (C : CT) (Z : ZT) (h to : Int32) (T : Nat) (hC : cOk C T) (hz : zOk Z) : Ctr l E yX7_gives cX7_gives 6 (some .int) (rmL 5) [.ref (A 0), .int h, .int to] (wC E A C Z) (fun r w => ∃ Z1, r = some (Value.int (x_gives C T h to).1) ∧ zOk Z1 ∧ w = wC E A (x_gives C T h to).2 Z1) := by
  refine Ctr.of (by decide) (Nat.le_of_ble_eq_true rfl) rfl rfl 3 ?_
  intro X hX hR
  obtain ⟨hT, hT1, hT6, hnx, hud, hn, hrn⟩ := id hC
  refine rh_iload_n hX dX7_gives_0 rfl ?_
  refine rh_pS hX lk_X7_104 msX7_isHolder (fun l => c_X7_isHolder l E _) ⟨rfl, rfl⟩ ⟨Nat.le_of_ble_eq_true rfl, Nat.le_of_ble_eq_true rfl⟩ [] rfl rfl dX7_gives_1 rfl rfl (Nat.le_of_ble_eq_true rfl) ?_
  refine rh_if_eq (tgt := 14) hX dX7_gives_4 (by decide) (fun h4 => ?_) (fun h4 => ?_)
  · skip
    refine rh_iconst hX dX7_gives_14 ki_m1 ?_
    exact rh_iret hX hR dX7_gives_15 (by simp only [List.map_cons, List.map_nil, List.cons_append, List.nil_append]) (by first | exact ⟨Z, by rw [x_gives, if_pos h4] <;> rfl, hz, by rw [x_gives, if_pos h4] <;> rfl⟩ | exact ⟨Z, by rw [x_gives, if_neg h4, if_pos h11] <;> rfl, hz, by rw [x_gives, if_neg h4, if_pos h11] <;> rfl⟩)
  · skip
    obtain ⟨hd, rfl, hdl⟩ := xH_1 h4
    refine rh_iload_n hX dX7_gives_7 rfl ?_
    refine rh_pS hX lk_X7_104 msX7_isHolder (fun l => c_X7_isHolder l E _) ⟨rfl, rfl⟩ ⟨Nat.le_of_ble_eq_true rfl, Nat.le_of_ble_eq_true rfl⟩ [] rfl rfl dX7_gives_8 rfl rfl (Nat.le_of_ble_eq_true rfl) ?_
    refine rh_if_ne (tgt := 16) hX dX7_gives_11 (by decide) (fun h11 => ?_) (fun h11 => ?_)
    · skip
      obtain ⟨tod, rfl, htod⟩ := xH_1 h11
      refine rh_iload_n hX dX7_gives_16 rfl ?_
      refine rh_iload_n hX dX7_gives_17 rfl ?_
      refine rh_icmp_eq (tgt := 32) hX dX7_gives_18 (by decide) (fun h18 => ?_) (fun h18 => ?_)
      · skip
        refine rh_bipush hX dX7_gives_32 kb_m2 ?_
        exact rh_iret hX hR dX7_gives_34 (by simp only [List.map_cons, List.map_nil, List.cons_append, List.nil_append]) (by first | exact ⟨Z, by rw [x_gives, if_neg h4, if_neg h11, if_pos h18] <;> rfl, hz, by rw [x_gives, if_neg h4, if_neg h11, if_pos h18] <;> rfl⟩ | exact ⟨Z, by rw [x_gives, if_neg h4, if_neg h11, if_neg h18, nI_clamp (show hd < 2 ^ 31 by omega), if_pos h29] <;> rfl, hz, by rw [x_gives, if_neg h4, if_neg h11, if_neg h18, nI_clamp (show hd < 2 ^ 31 by omega), if_pos h29] <;> rfl⟩)
      · skip
        refine rh_aload_n hX dX7_gives_21 rfl ?_
        refine rh_get hX gl_X7_12 0 dX7_gives_22 rfl rfl ?_
        refine rh_iload_n hX dX7_gives_25 rfl ?_
        refine rh_pV hX lk_X7_132 mvX1_hasAnything (fun l => c_X1_hasAnything l E _ _ _ hd T hT hT6 (by omega)) ⟨rfl, rfl⟩ ⟨Nat.le_of_ble_eq_true rfl, Nat.le_of_ble_eq_true rfl⟩ [1, 2] rfl rfl 1 rfl dX7_gives_26 rfl rfl (Nat.le_of_ble_eq_true rfl) ?_
        refine rh_if_ne (tgt := 35) hX dX7_gives_29 (by decide) (fun h29 => ?_) (fun h29 => ?_)
        · skip
          have h29 : ¬ cAny C.1 hd T ≤ 0 := fun q => h29 (if_pos q)
          refine rh_aload_n hX dX7_gives_35 rfl ?_
          refine rh_aU hX lk_X7_107 mvX7_beginDraft (fun l => c_X7_beginDraft l E A C Z) ⟨rfl, rfl⟩ ⟨Nat.le_of_ble_eq_true rfl, Nat.le_of_ble_eq_true rfl⟩ 0 rfl dX7_gives_36 rfl rfl (Nat.le_of_ble_eq_true rfl) ?_
          refine rh_iconst hX dX7_gives_39 ki_0 ?_
          refine rh_istn3 hX dX7_gives_40 (by decide) rfl ?_
          suffices hP0 : G X 41 [some (.ref (A 0)), some (.int (nI hd)), some (.int (nI tod)), some (.int 0), none, none] [] (wC E A C (gvF C.1 hd tod 0, Z.2)) by rw [gvF_0] at hP0; exact hP0
          refine rh_loop (P := fun i => G X 41 [some (.ref (A 0)), some (.int (nI hd)), some (.int (nI tod)), some (.int (nI i)), none, none] [] (wC E A C (gvF C.1 hd tod i, Z.2))) (0) (T) (by omega) ?_ ?_
          · skip
            have hT2 : (gvF C.1 hd tod T 171).toInt32 = nI T := by rw [gvF_big _ _ _ hdl htod 171 (by decide) T hT6]; exact hT
            refine rh_iload_n hX dX7_gives_41 rfl ?_
            refine rh_aload_n hX dX7_gives_42 rfl ?_
            refine rh_get hX gl_X7_16 0 dX7_gives_43 rfl rfl ?_
            refine rh_pV hX lk_X7_135 mvX1_types (fun l => c_X1_types l E _ _ _ T hT2 hT6) ⟨rfl, rfl⟩ ⟨Nat.le_of_ble_eq_true rfl, Nat.le_of_ble_eq_true rfl⟩ [3, 4] rfl rfl 3 rfl dX7_gives_46 rfl rfl (Nat.le_of_ble_eq_true rfl) ?_
            refine rh_icmp_ge_t (tgt := 92) hX dX7_gives_49 (by decide) (nI_le (Nat.le_refl T) (by omega)) ?_
            refine rh_aload_n hX dX7_gives_92 rfl ?_
            refine rh_get hX gl_X7_16 0 dX7_gives_93 rfl rfl ?_
            refine rh_iload_n hX dX7_gives_96 rfl ?_
            refine rh_pV hX lk_X7_128 mvX1_granted (fun l => c_X1_granted l E _ _ _ hd (by omega)) ⟨rfl, rfl⟩ ⟨Nat.le_of_ble_eq_true rfl, Nat.le_of_ble_eq_true rfl⟩ [3, 4] rfl rfl 3 rfl dX7_gives_97 rfl rfl (Nat.le_of_ble_eq_true rfl) ?_
            refine rh_lstn3 hX dX7_gives_100 (by decide) rfl ?_
            refine rh_aload_n hX dX7_gives_101 rfl ?_
            refine rh_get hX gl_X7_16 0 dX7_gives_102 rfl rfl ?_
            refine rh_iload_n hX dX7_gives_105 rfl ?_
            refine rh_lload_n hX dX7_gives_106 rfl ?_
            refine rh_lneg hX dX7_gives_107 ?_
            refine rh_uV hX lk_X7_124 mvX1_addGranted (fun l => c_X1_addGranted l E _ _ _ hd _ (by omega)) ⟨rfl, rfl⟩ ⟨Nat.le_of_ble_eq_true rfl, Nat.le_of_ble_eq_true rfl⟩ [3, 4] rfl rfl 3 rfl dX7_gives_108 rfl rfl (Nat.le_of_ble_eq_true rfl) rfl ?_
            dsimp only [List.cons_append, List.nil_append, List.set_cons_succ, List.set_cons_zero, vput]
            refine rh_aload_n hX dX7_gives_111 rfl ?_
            refine rh_get hX gl_X7_16 0 dX7_gives_112 rfl rfl ?_
            refine rh_iload_n hX dX7_gives_115 rfl ?_
            refine rh_lload_n hX dX7_gives_116 rfl ?_
            refine rh_uV hX lk_X7_124 mvX1_addGranted (fun l => c_X1_addGranted l E _ _ _ tod _ (by omega)) ⟨rfl, rfl⟩ ⟨Nat.le_of_ble_eq_true rfl, Nat.le_of_ble_eq_true rfl⟩ [3, 4] rfl rfl 3 rfl dX7_gives_117 rfl rfl (Nat.le_of_ble_eq_true rfl) rfl ?_
            dsimp only [List.cons_append, List.nil_append, List.set_cons_succ, List.set_cons_zero, vput]
            refine rh_aload_n hX dX7_gives_120 rfl ?_
            refine rh_aW hX lk_X7_96 mvX7_accepts (fun l => c_X7_accepts l E A C ((gvO (gvF C.1 hd tod T) hd tod), Z.2) T hC T (by show (gvO (gvF C.1 hd tod T) hd tod 171).toInt32 = nI T; rw [gvO_at _ _ _ hdl htod 171 (by decide), gvF_big _ _ _ hdl htod 171 (by decide) T hT6]; exact hT) (by omega)) ⟨rfl, rfl⟩ ⟨Nat.le_of_ble_eq_true rfl, Nat.le_of_ble_eq_true rfl⟩ 0 rfl dX7_gives_121 rfl rfl (Nat.le_of_ble_eq_true rfl) ?_
            refine rh_if_eq (tgt := 139) hX dX7_gives_124 (by decide) (fun hx => ?_) (fun hx => ?_)
            · skip
              have hx : 1000000000 < cSize ((gvO (gvF C.1 hd tod T) hd tod)) T := Classical.not_not.mp (fun q => absurd (show (if 1000000000 < cSize ((gvO (gvF C.1 hd tod T) hd tod)) T then (0 : Int32) else 1) = 0 from hx) (by rw [if_neg q]; decide))
              rw [if_pos (show 1000000000 < cSize (((gvO (gvF C.1 hd tod T) hd tod), Z.2) : ZT).1 T from hx)]
              refine rh_bipush hX dX7_gives_139 kb_m9 ?_
              exact rh_iret hX hR dX7_gives_141 (by simp only [List.map_cons, List.map_nil, List.cons_append, List.nil_append]) (by first | exact ⟨((gvO (gvF C.1 hd tod T) hd tod), Z.2), by rw [x_gives, if_neg h4, if_neg h11, if_neg h18, nI_clamp (show hd < 2 ^ 31 by omega), nI_clamp (show tod < 2 ^ 31 by omega), if_neg h29, xDeed, if_neg hx] <;> rfl, hz, by rw [x_gives, if_neg h4, if_neg h11, if_neg h18, nI_clamp (show hd < 2 ^ 31 by omega), nI_clamp (show tod < 2 ^ 31 by omega), if_neg h29, xDeed, if_neg hx] <;> rfl⟩ | exact ⟨((gvO (gvF C.1 hd tod T) hd tod), Z.2), by rw [x_gives, if_neg h4, if_neg h11, if_neg h18, nI_clamp (show hd < 2 ^ 31 by omega), nI_clamp (show tod < 2 ^ 31 by omega), if_neg h29, xDeed, if_pos hx] <;> rfl, hz, by rw [x_gives, if_neg h4, if_neg h11, if_neg h18, nI_clamp (show hd < 2 ^ 31 by omega), nI_clamp (show tod < 2 ^ 31 by omega), if_neg h29, xDeed, if_pos hx] <;> rfl⟩)
            · skip
              have hx : ¬ 1000000000 < cSize ((gvO (gvF C.1 hd tod T) hd tod)) T := fun q => hx (show (if 1000000000 < cSize ((gvO (gvF C.1 hd tod T) hd tod)) T then (0 : Int32) else 1) = 0 from if_pos q)
              rw [if_neg (show ¬ 1000000000 < cSize (((gvO (gvF C.1 hd tod T) hd tod), Z.2) : ZT).1 T from hx)]
              refine rh_aload_n hX dX7_gives_127 rfl ?_
              refine rh_get hX gl_X7_12 0 dX7_gives_128 rfl rfl ?_
              refine rh_iload_n hX dX7_gives_131 rfl ?_
              refine rh_pV hX lk_X7_138 mvX1_claim (fun l => c_X1_claim l E _ _ _ tod T (by show (gvO (gvF C.1 hd tod T) hd tod 171).toInt32 = nI T; rw [gvO_at _ _ _ hdl htod 171 (by decide), gvF_big _ _ _ hdl htod 171 (by decide) T hT6]; exact hT) hT6 (by omega)) ⟨rfl, rfl⟩ ⟨Nat.le_of_ble_eq_true rfl, Nat.le_of_ble_eq_true rfl⟩ [1, 2] rfl rfl 1 rfl dX7_gives_132 rfl rfl (Nat.le_of_ble_eq_true rfl) ?_
              refine rh_l2i hX dX7_gives_135 ?_
              refine rh_goto (tgt := 141) hX dX7_gives_136 (by decide) ?_
              exact rh_iret hX hR dX7_gives_141 (by simp only [List.map_cons, List.map_nil, List.cons_append, List.nil_append]) (by first | exact ⟨((gvO (gvF C.1 hd tod T) hd tod), Z.2), by rw [x_gives, if_neg h4, if_neg h11, if_neg h18, nI_clamp (show hd < 2 ^ 31 by omega), nI_clamp (show tod < 2 ^ 31 by omega), if_neg h29, xDeed, if_neg hx] <;> rfl, hz, by rw [x_gives, if_neg h4, if_neg h11, if_neg h18, nI_clamp (show hd < 2 ^ 31 by omega), nI_clamp (show tod < 2 ^ 31 by omega), if_neg h29, xDeed, if_neg hx] <;> rfl⟩ | exact ⟨((gvO (gvF C.1 hd tod T) hd tod), Z.2), by rw [x_gives, if_neg h4, if_neg h11, if_neg h18, nI_clamp (show hd < 2 ^ 31 by omega), nI_clamp (show tod < 2 ^ 31 by omega), if_neg h29, xDeed, if_pos hx] <;> rfl, hz, by rw [x_gives, if_neg h4, if_neg h11, if_neg h18, nI_clamp (show hd < 2 ^ 31 by omega), nI_clamp (show tod < 2 ^ 31 by omega), if_neg h29, xDeed, if_pos hx] <;> rfl⟩)
          · intro i hi0 hi ih
            have hT2 : (gvF C.1 hd tod i 171).toInt32 = nI T := by rw [gvF_big _ _ _ hdl htod 171 (by decide) i (by omega)]; exact hT
            rw [gvF_s, gvGo] at ih
            refine rh_iload_n hX dX7_gives_41 rfl ?_
            refine rh_aload_n hX dX7_gives_42 rfl ?_
            refine rh_get hX gl_X7_16 0 dX7_gives_43 rfl rfl ?_
            refine rh_pV hX lk_X7_135 mvX1_types (fun l => c_X1_types l E _ _ _ T hT2 hT6) ⟨rfl, rfl⟩ ⟨Nat.le_of_ble_eq_true rfl, Nat.le_of_ble_eq_true rfl⟩ [3, 4] rfl rfl 3 rfl dX7_gives_46 rfl rfl (Nat.le_of_ble_eq_true rfl) ?_
            refine rh_icmp_ge_f (tgt := 92) hX dX7_gives_49 (by decide) (nI_ge hi (by omega)) ?_
            refine rh_aload_n hX dX7_gives_52 rfl ?_
            refine rh_get hX gl_X7_16 0 dX7_gives_53 rfl rfl ?_
            refine rh_iload_n hX dX7_gives_56 rfl ?_
            refine rh_iload_n hX dX7_gives_57 rfl ?_
            refine rh_pV hX lk_X7_113 mvX1_held (fun l => c_X1_held l E _ _ _ hd _ (by omega) (by omega)) ⟨rfl, rfl⟩ ⟨Nat.le_of_ble_eq_true rfl, Nat.le_of_ble_eq_true rfl⟩ [3, 4] rfl rfl 3 rfl dX7_gives_58 rfl rfl (Nat.le_of_ble_eq_true rfl) ?_
            refine rh_lst4 hX dX7_gives_61 (by decide) rfl ?_
            refine rh_aload_n hX dX7_gives_63 rfl ?_
            refine rh_get hX gl_X7_16 0 dX7_gives_64 rfl rfl ?_
            refine rh_iload_n hX dX7_gives_67 rfl ?_
            refine rh_iload_n hX dX7_gives_68 rfl ?_
            refine rh_lload hX dX7_gives_69 rfl ?_
            refine rh_lneg hX dX7_gives_71 ?_
            refine rh_uV hX lk_X7_92 mvX1_addHeld (fun l => c_X1_addHeld l E _ _ _ hd _ _ (by omega) (by omega)) ⟨rfl, rfl⟩ ⟨Nat.le_of_ble_eq_true rfl, Nat.le_of_ble_eq_true rfl⟩ [3, 4] rfl rfl 3 rfl dX7_gives_72 rfl rfl (Nat.le_of_ble_eq_true rfl) rfl ?_
            dsimp only [List.cons_append, List.nil_append, List.set_cons_succ, List.set_cons_zero, vput]
            refine rh_aload_n hX dX7_gives_75 rfl ?_
            refine rh_get hX gl_X7_16 0 dX7_gives_76 rfl rfl ?_
            refine rh_iload_n hX dX7_gives_79 rfl ?_
            refine rh_iload_n hX dX7_gives_80 rfl ?_
            refine rh_lload hX dX7_gives_81 rfl ?_
            refine rh_uV hX lk_X7_92 mvX1_addHeld (fun l => c_X1_addHeld l E _ _ _ tod _ _ (by omega) (by omega)) ⟨rfl, rfl⟩ ⟨Nat.le_of_ble_eq_true rfl, Nat.le_of_ble_eq_true rfl⟩ [3, 4] rfl rfl 3 rfl dX7_gives_83 rfl rfl (Nat.le_of_ble_eq_true rfl) rfl ?_
            dsimp only [List.cons_append, List.nil_append, List.set_cons_succ, List.set_cons_zero, vput]
            refine rh_inc3 hX dX7_gives_86 (by decide) rfl (rn_i1 _) ?_
            refine rh_goto (tgt := 41) hX dX7_gives_89 (by decide) ?_
            exact rh_wk (by exact ⟨rfl, rfl, rfl, rfl, trivial⟩) ih
        · skip
          have h29 : cAny C.1 hd T ≤ 0 := Classical.not_not.mp (fun q => absurd h29 (by rw [if_neg q]; decide))
          refine rh_bipush hX dX7_gives_32 kb_m2 ?_
          exact rh_iret hX hR dX7_gives_34 (by simp only [List.map_cons, List.map_nil, List.cons_append, List.nil_append]) (by first | exact ⟨Z, by rw [x_gives, if_neg h4, if_neg h11, if_pos h18] <;> rfl, hz, by rw [x_gives, if_neg h4, if_neg h11, if_pos h18] <;> rfl⟩ | exact ⟨Z, by rw [x_gives, if_neg h4, if_neg h11, if_neg h18, nI_clamp (show hd < 2 ^ 31 by omega), if_pos h29] <;> rfl, hz, by rw [x_gives, if_neg h4, if_neg h11, if_neg h18, nI_clamp (show hd < 2 ^ 31 by omega), if_pos h29] <;> rfl⟩)
    · skip
      refine rh_iconst hX dX7_gives_14 ki_m1 ?_
      exact rh_iret hX hR dX7_gives_15 (by simp only [List.map_cons, List.map_nil, List.cons_append, List.nil_append]) (by first | exact ⟨Z, by rw [x_gives, if_pos h4] <;> rfl, hz, by rw [x_gives, if_pos h4] <;> rfl⟩ | exact ⟨Z, by rw [x_gives, if_neg h4, if_pos h11] <;> rfl, hz, by rw [x_gives, if_neg h4, if_pos h11] <;> rfl⟩)

theorem c_X7_mostOfTerm_0 (l : Launch) (E : rhE) : Ctr l E yX7_mostOfTerm cX7_mostOfTerm 1 (some .int) (rmL 0) [.int (nI 0)] [] (One (some (.int (mostT (nI 0)))) []) := by
  refine Ctr.of (by decide) (Nat.le_of_ble_eq_true rfl) rfl rfl 0 ?_
  intro X hX hR
  refine rh_iconst hX dX7_mostOfTerm_0 ki_2 ?_
  refine rh_iload_n hX dX7_mostOfTerm_1 rfl ?_
  refine rh_iadd hX dX7_mostOfTerm_2 ?_
  refine rh_lookup (tgt := 28) (off := 25) hX dX7_mostOfTerm_3 (by decide) (by decide) (by decide) ?_
  refine rh_iconst hX dX7_mostOfTerm_28 ki_3 ?_
  exact rh_iret hX hR dX7_mostOfTerm_29 rfl ⟨by decide, rfl⟩

theorem c_X7_mostOfTerm_1 (l : Launch) (E : rhE) : Ctr l E yX7_mostOfTerm cX7_mostOfTerm 1 (some .int) (rmL 0) [.int (nI 1)] [] (One (some (.int (mostT (nI 1)))) []) := by
  refine Ctr.of (by decide) (Nat.le_of_ble_eq_true rfl) rfl rfl 0 ?_
  intro X hX hR
  refine rh_iconst hX dX7_mostOfTerm_0 ki_2 ?_
  refine rh_iload_n hX dX7_mostOfTerm_1 rfl ?_
  refine rh_iadd hX dX7_mostOfTerm_2 ?_
  refine rh_lookup (tgt := 30) (off := 27) hX dX7_mostOfTerm_3 (by decide) (by decide) (by decide) ?_
  refine rh_bipush hX dX7_mostOfTerm_30 kb_50 ?_
  exact rh_iret hX hR dX7_mostOfTerm_32 rfl ⟨by decide, rfl⟩

theorem c_X7_mostOfTerm_2 (l : Launch) (E : rhE) : Ctr l E yX7_mostOfTerm cX7_mostOfTerm 1 (some .int) (rmL 0) [.int (nI 2)] [] (One (some (.int (mostT (nI 2)))) []) := by
  refine Ctr.of (by decide) (Nat.le_of_ble_eq_true rfl) rfl rfl 0 ?_
  intro X hX hR
  refine rh_iconst hX dX7_mostOfTerm_0 ki_2 ?_
  refine rh_iload_n hX dX7_mostOfTerm_1 rfl ?_
  refine rh_iadd hX dX7_mostOfTerm_2 ?_
  refine rh_lookup (tgt := 33) (off := 30) hX dX7_mostOfTerm_3 (by decide) (by decide) (by decide) ?_
  refine rh_iconst hX dX7_mostOfTerm_33 ki_1 ?_
  exact rh_iret hX hR dX7_mostOfTerm_34 rfl ⟨by decide, rfl⟩

theorem c_X7_mostOfTerm_3 (l : Launch) (E : rhE) : Ctr l E yX7_mostOfTerm cX7_mostOfTerm 1 (some .int) (rmL 0) [.int (nI 3)] [] (One (some (.int (mostT (nI 3)))) []) := by
  refine Ctr.of (by decide) (Nat.le_of_ble_eq_true rfl) rfl rfl 0 ?_
  intro X hX hR
  refine rh_iconst hX dX7_mostOfTerm_0 ki_2 ?_
  refine rh_iload_n hX dX7_mostOfTerm_1 rfl ?_
  refine rh_iadd hX dX7_mostOfTerm_2 ?_
  refine rh_lookup (tgt := 33) (off := 30) hX dX7_mostOfTerm_3 (by decide) (by decide) (by decide) ?_
  refine rh_iconst hX dX7_mostOfTerm_33 ki_1 ?_
  exact rh_iret hX hR dX7_mostOfTerm_34 rfl ⟨by decide, rfl⟩

theorem c_X7_mostOfTerm (l : Launch) (E : rhE) (w : Nat) (hw : w ≤ 3) : Ctr l E yX7_mostOfTerm cX7_mostOfTerm 1 (some .int) (rmL 0) [.int (nI w)] [] (One (some (.int (mostT (nI w)))) []) := by
  match w, hw with
  | 0, _ => exact c_X7_mostOfTerm_0 l E
  | 1, _ => exact c_X7_mostOfTerm_1 l E
  | 2, _ => exact c_X7_mostOfTerm_2 l E
  | 3, _ => exact c_X7_mostOfTerm_3 l E

set_option maxRecDepth 100000 in
set_option maxHeartbeats 4000000 in
theorem c_X7_term (l : Launch) (E : rhE) (A : Nat → Nat) (C : CT) (Z : ZT) (t wh v : Int32) (T : Nat) (hC : cOk C T) (hz : zOk Z) : Ctr l E yX7_term cX7_term 5 (some .int) (rmL 5) [.ref (A 0), .int t, .int wh, .int v] (wC E A C Z) (fun r w => ∃ Z1, r = some (Value.int (x_term C T t wh v).1) ∧ zOk Z1 ∧ w = wC E A (x_term C T t wh v).2 Z1) := by
  refine Ctr.of (by decide) (Nat.le_of_ble_eq_true rfl) rfl rfl 1 ?_
  intro X hX hR
  obtain ⟨hT, hT1, hT6, hnx, hud, hn, hrn⟩ := id hC
  refine rh_aload_n hX dX7_term_0 rfl ?_
  refine rh_iload_n hX dX7_term_1 rfl ?_
  refine rh_aP hX lk_X7_145 mvX7_isSeries (fun l => c_X7_isSeries l E A C Z _ T hC) ⟨rfl, rfl⟩ ⟨Nat.le_of_ble_eq_true rfl, Nat.le_of_ble_eq_true rfl⟩ 0 rfl dX7_term_2 rfl rfl (Nat.le_of_ble_eq_true rfl) ?_
  refine rh_if_eq (tgt := 29) hX dX7_term_5 (by decide) (fun h5 => ?_) (fun h5 => ?_)
  · skip
    refine rh_iconst hX dX7_term_29 ki_m1 ?_
    exact rh_iret hX hR dX7_term_30 (by simp only [List.map_cons, List.map_nil, List.cons_append, List.nil_append]) (by first | exact ⟨Z, by rw [x_term, if_pos h5] <;> rfl, hz, by rw [x_term, if_pos h5] <;> rfl⟩ | exact ⟨Z, by rw [x_term, if_neg h5, if_pos h9] <;> rfl, hz, by rw [x_term, if_neg h5, if_pos h9] <;> rfl⟩ | exact ⟨Z, by rw [x_term, if_neg h5, if_neg h9, if_pos h14] <;> rfl, hz, by rw [x_term, if_neg h5, if_neg h9, if_pos h14] <;> rfl⟩ | exact ⟨Z, by rw [x_term, if_neg h5, if_neg h9, if_neg (Int32.not_lt.mpr h14), if_pos h18] <;> rfl, hz, by rw [x_term, if_neg h5, if_neg h9, if_neg (Int32.not_lt.mpr h14), if_pos h18] <;> rfl⟩ | exact ⟨Z, by rw [x_term, if_neg h5, if_neg h9, if_neg (Int32.not_lt.mpr h14), if_neg h18, if_pos (Int32.not_le.mp h26)] <;> rfl, hz, by rw [x_term, if_neg h5, if_neg h9, if_neg (Int32.not_lt.mpr h14), if_neg h18, if_pos (Int32.not_le.mp h26)] <;> rfl⟩)
  · skip
    obtain ⟨td, rfl, htd1, htd⟩ := xSe_1 hT6 h5
    refine rh_iload_n hX dX7_term_8 rfl ?_
    refine rh_if_lt (tgt := 29) hX dX7_term_9 (by decide) (fun h9 => ?_) (fun h9 => ?_)
    · skip
      refine rh_iconst hX dX7_term_29 ki_m1 ?_
      exact rh_iret hX hR dX7_term_30 (by simp only [List.map_cons, List.map_nil, List.cons_append, List.nil_append]) (by first | exact ⟨Z, by rw [x_term, if_pos h5] <;> rfl, hz, by rw [x_term, if_pos h5] <;> rfl⟩ | exact ⟨Z, by rw [x_term, if_neg h5, if_pos h9] <;> rfl, hz, by rw [x_term, if_neg h5, if_pos h9] <;> rfl⟩ | exact ⟨Z, by rw [x_term, if_neg h5, if_neg h9, if_pos h14] <;> rfl, hz, by rw [x_term, if_neg h5, if_neg h9, if_pos h14] <;> rfl⟩ | exact ⟨Z, by rw [x_term, if_neg h5, if_neg h9, if_neg (Int32.not_lt.mpr h14), if_pos h18] <;> rfl, hz, by rw [x_term, if_neg h5, if_neg h9, if_neg (Int32.not_lt.mpr h14), if_pos h18] <;> rfl⟩ | exact ⟨Z, by rw [x_term, if_neg h5, if_neg h9, if_neg (Int32.not_lt.mpr h14), if_neg h18, if_pos (Int32.not_le.mp h26)] <;> rfl, hz, by rw [x_term, if_neg h5, if_neg h9, if_neg (Int32.not_lt.mpr h14), if_neg h18, if_pos (Int32.not_le.mp h26)] <;> rfl⟩)
    · skip
      refine rh_iload_n hX dX7_term_12 rfl ?_
      refine rh_iconst hX dX7_term_13 ki_3 ?_
      refine rh_icmp_gt (tgt := 29) hX dX7_term_14 (by decide) (fun h14 => ?_) (fun h14 => ?_)
      · skip
        refine rh_iconst hX dX7_term_29 ki_m1 ?_
        exact rh_iret hX hR dX7_term_30 (by simp only [List.map_cons, List.map_nil, List.cons_append, List.nil_append]) (by first | exact ⟨Z, by rw [x_term, if_pos h5] <;> rfl, hz, by rw [x_term, if_pos h5] <;> rfl⟩ | exact ⟨Z, by rw [x_term, if_neg h5, if_pos h9] <;> rfl, hz, by rw [x_term, if_neg h5, if_pos h9] <;> rfl⟩ | exact ⟨Z, by rw [x_term, if_neg h5, if_neg h9, if_pos h14] <;> rfl, hz, by rw [x_term, if_neg h5, if_neg h9, if_pos h14] <;> rfl⟩ | exact ⟨Z, by rw [x_term, if_neg h5, if_neg h9, if_neg (Int32.not_lt.mpr h14), if_pos h18] <;> rfl, hz, by rw [x_term, if_neg h5, if_neg h9, if_neg (Int32.not_lt.mpr h14), if_pos h18] <;> rfl⟩ | exact ⟨Z, by rw [x_term, if_neg h5, if_neg h9, if_neg (Int32.not_lt.mpr h14), if_neg h18, if_pos (Int32.not_le.mp h26)] <;> rfl, hz, by rw [x_term, if_neg h5, if_neg h9, if_neg (Int32.not_lt.mpr h14), if_neg h18, if_pos (Int32.not_le.mp h26)] <;> rfl⟩)
      · skip
        have h14 : wh ≤ 3 := Int32.not_lt.mp h14
        obtain ⟨wd, rfl, hwd⟩ := i32_to (b := 3) h9 h14 (by decide)
        refine rh_iload_n hX dX7_term_17 rfl ?_
        refine rh_if_lt (tgt := 29) hX dX7_term_18 (by decide) (fun h18 => ?_) (fun h18 => ?_)
        · skip
          refine rh_iconst hX dX7_term_29 ki_m1 ?_
          exact rh_iret hX hR dX7_term_30 (by simp only [List.map_cons, List.map_nil, List.cons_append, List.nil_append]) (by first | exact ⟨Z, by rw [x_term, if_pos h5] <;> rfl, hz, by rw [x_term, if_pos h5] <;> rfl⟩ | exact ⟨Z, by rw [x_term, if_neg h5, if_pos h9] <;> rfl, hz, by rw [x_term, if_neg h5, if_pos h9] <;> rfl⟩ | exact ⟨Z, by rw [x_term, if_neg h5, if_neg h9, if_pos h14] <;> rfl, hz, by rw [x_term, if_neg h5, if_neg h9, if_pos h14] <;> rfl⟩ | exact ⟨Z, by rw [x_term, if_neg h5, if_neg h9, if_neg (Int32.not_lt.mpr h14), if_pos h18] <;> rfl, hz, by rw [x_term, if_neg h5, if_neg h9, if_neg (Int32.not_lt.mpr h14), if_pos h18] <;> rfl⟩ | exact ⟨Z, by rw [x_term, if_neg h5, if_neg h9, if_neg (Int32.not_lt.mpr h14), if_neg h18, if_pos (Int32.not_le.mp h26)] <;> rfl, hz, by rw [x_term, if_neg h5, if_neg h9, if_neg (Int32.not_lt.mpr h14), if_neg h18, if_pos (Int32.not_le.mp h26)] <;> rfl⟩)
        · skip
          refine rh_iload_n hX dX7_term_21 rfl ?_
          refine rh_iload_n hX dX7_term_22 rfl ?_
          refine rh_pS hX lk_X7_152 msX7_mostOfTerm (fun l => c_X7_mostOfTerm l E wd (by omega)) ⟨rfl, rfl⟩ ⟨Nat.le_of_ble_eq_true rfl, Nat.le_of_ble_eq_true rfl⟩ [] rfl rfl dX7_term_23 rfl rfl (Nat.le_of_ble_eq_true rfl) ?_
          refine rh_icmp_le (tgt := 31) hX dX7_term_26 (by decide) (fun h26 => ?_) (fun h26 => ?_)
          · skip
            refine rh_aload_n hX dX7_term_31 rfl ?_
            refine rh_get hX gl_X7_12 0 dX7_term_32 rfl rfl ?_
            refine rh_iload_n hX dX7_term_35 rfl ?_
            refine rh_iconst hX dX7_term_36 ki_2 ?_
            refine rh_iload_n hX dX7_term_37 rfl ?_
            refine rh_iadd hX dX7_term_38 ?_
            rw [show (2 : Int32) + nI wd = nI (2 + wd) from rn_add 2 wd]
            refine rh_pV hX lk_X7_155 mvX1_fact (fun l => c_X1_fact l E _ _ _ td (2 + wd) (by omega) (by omega)) ⟨rfl, rfl⟩ ⟨Nat.le_of_ble_eq_true rfl, Nat.le_of_ble_eq_true rfl⟩ [1, 2] rfl rfl 1 rfl dX7_term_39 rfl rfl (Nat.le_of_ble_eq_true rfl) ?_
            refine rh_l2i hX dX7_term_42 ?_
            refine rh_ist4 hX dX7_term_43 (by decide) rfl ?_
            refine rh_aload_n hX dX7_term_45 rfl ?_
            refine rh_aU hX lk_X7_107 mvX7_beginDraft (fun l => c_X7_beginDraft l E A C Z) ⟨rfl, rfl⟩ ⟨Nat.le_of_ble_eq_true rfl, Nat.le_of_ble_eq_true rfl⟩ 0 rfl dX7_term_46 rfl rfl (Nat.le_of_ble_eq_true rfl) ?_
            refine rh_aload_n hX dX7_term_49 rfl ?_
            refine rh_get hX gl_X7_16 0 dX7_term_50 rfl rfl ?_
            refine rh_iload_n hX dX7_term_53 rfl ?_
            refine rh_iconst hX dX7_term_54 ki_2 ?_
            refine rh_iload_n hX dX7_term_55 rfl ?_
            refine rh_iadd hX dX7_term_56 ?_
            refine rh_iload_n hX dX7_term_57 rfl ?_
            refine rh_i2l hX dX7_term_58 ?_
            rw [show (2 : Int32) + nI wd = nI (2 + wd) from rn_add 2 wd]
            refine rh_uV hX lk_X7_158 mvX1_setFact (fun l => c_X1_setFact l E _ _ _ td (2 + wd) _ (by omega) (by omega)) ⟨rfl, rfl⟩ ⟨Nat.le_of_ble_eq_true rfl, Nat.le_of_ble_eq_true rfl⟩ [3, 4] rfl rfl 3 rfl dX7_term_59 rfl rfl (Nat.le_of_ble_eq_true rfl) rfl ?_
            dsimp only [List.cons_append, List.nil_append, List.set_cons_succ, List.set_cons_zero, vput]
            refine rh_aload_n hX dX7_term_62 rfl ?_
            refine rh_aW hX lk_X7_96 mvX7_accepts (fun l => c_X7_accepts l E A C ((va_up C.1 (104 + td * 11 + (2 + wd)) v.toInt64), Z.2) T hC T (by show ((va_up C.1 (104 + td * 11 + (2 + wd)) v.toInt64) 171).toInt32 = nI T; rw [show (va_up C.1 (104 + td * 11 + (2 + wd)) v.toInt64) 171 = C.1 171 by (unfold va_up; repeat rw [if_neg (by omega)])]; exact hT) (by omega)) ⟨rfl, rfl⟩ ⟨Nat.le_of_ble_eq_true rfl, Nat.le_of_ble_eq_true rfl⟩ 0 rfl dX7_term_63 rfl rfl (Nat.le_of_ble_eq_true rfl) ?_
            refine rh_if_eq (tgt := 74) hX dX7_term_66 (by decide) (fun hx => ?_) (fun hx => ?_)
            · skip
              have hx : 1000000000 < cSize ((va_up C.1 (104 + td * 11 + (2 + wd)) v.toInt64)) T := Classical.not_not.mp (fun q => absurd (show (if 1000000000 < cSize ((va_up C.1 (104 + td * 11 + (2 + wd)) v.toInt64)) T then (0 : Int32) else 1) = 0 from hx) (by rw [if_neg q]; decide))
              rw [if_pos (show 1000000000 < cSize (((va_up C.1 (104 + td * 11 + (2 + wd)) v.toInt64), Z.2) : ZT).1 T from hx)]
              refine rh_bipush hX dX7_term_74 kb_m9 ?_
              exact rh_iret hX hR dX7_term_76 (by simp only [List.map_cons, List.map_nil, List.cons_append, List.nil_append]) (by first | exact ⟨((va_up C.1 (104 + td * 11 + (2 + wd)) v.toInt64), Z.2), by rw [x_term, if_neg h5, if_neg h9, if_neg (Int32.not_lt.mpr h14), if_neg h18, if_neg (Int32.not_lt.mpr h26), nI_clamp (show td < 2 ^ 31 by omega), nI_clamp (show wd < 2 ^ 31 by omega), xDeed, if_neg hx] <;> rfl, hz, by rw [x_term, if_neg h5, if_neg h9, if_neg (Int32.not_lt.mpr h14), if_neg h18, if_neg (Int32.not_lt.mpr h26), nI_clamp (show td < 2 ^ 31 by omega), nI_clamp (show wd < 2 ^ 31 by omega), xDeed, if_neg hx] <;> rfl⟩ | exact ⟨((va_up C.1 (104 + td * 11 + (2 + wd)) v.toInt64), Z.2), by rw [x_term, if_neg h5, if_neg h9, if_neg (Int32.not_lt.mpr h14), if_neg h18, if_neg (Int32.not_lt.mpr h26), nI_clamp (show td < 2 ^ 31 by omega), nI_clamp (show wd < 2 ^ 31 by omega), xDeed, if_pos hx] <;> rfl, hz, by rw [x_term, if_neg h5, if_neg h9, if_neg (Int32.not_lt.mpr h14), if_neg h18, if_neg (Int32.not_lt.mpr h26), nI_clamp (show td < 2 ^ 31 by omega), nI_clamp (show wd < 2 ^ 31 by omega), xDeed, if_pos hx] <;> rfl⟩)
            · skip
              have hx : ¬ 1000000000 < cSize ((va_up C.1 (104 + td * 11 + (2 + wd)) v.toInt64)) T := fun q => hx (show (if 1000000000 < cSize ((va_up C.1 (104 + td * 11 + (2 + wd)) v.toInt64)) T then (0 : Int32) else 1) = 0 from if_pos q)
              rw [if_neg (show ¬ 1000000000 < cSize (((va_up C.1 (104 + td * 11 + (2 + wd)) v.toInt64), Z.2) : ZT).1 T from hx)]
              refine rh_iload hX dX7_term_69 rfl ?_
              refine rh_goto (tgt := 76) hX dX7_term_71 (by decide) ?_
              exact rh_iret hX hR dX7_term_76 (by simp only [List.map_cons, List.map_nil, List.cons_append, List.nil_append]) (by first | exact ⟨((va_up C.1 (104 + td * 11 + (2 + wd)) v.toInt64), Z.2), by rw [x_term, if_neg h5, if_neg h9, if_neg (Int32.not_lt.mpr h14), if_neg h18, if_neg (Int32.not_lt.mpr h26), nI_clamp (show td < 2 ^ 31 by omega), nI_clamp (show wd < 2 ^ 31 by omega), xDeed, if_neg hx] <;> rfl, hz, by rw [x_term, if_neg h5, if_neg h9, if_neg (Int32.not_lt.mpr h14), if_neg h18, if_neg (Int32.not_lt.mpr h26), nI_clamp (show td < 2 ^ 31 by omega), nI_clamp (show wd < 2 ^ 31 by omega), xDeed, if_neg hx] <;> rfl⟩ | exact ⟨((va_up C.1 (104 + td * 11 + (2 + wd)) v.toInt64), Z.2), by rw [x_term, if_neg h5, if_neg h9, if_neg (Int32.not_lt.mpr h14), if_neg h18, if_neg (Int32.not_lt.mpr h26), nI_clamp (show td < 2 ^ 31 by omega), nI_clamp (show wd < 2 ^ 31 by omega), xDeed, if_pos hx] <;> rfl, hz, by rw [x_term, if_neg h5, if_neg h9, if_neg (Int32.not_lt.mpr h14), if_neg h18, if_neg (Int32.not_lt.mpr h26), nI_clamp (show td < 2 ^ 31 by omega), nI_clamp (show wd < 2 ^ 31 by omega), xDeed, if_pos hx] <;> rfl⟩)
          · skip
            refine rh_iconst hX dX7_term_29 ki_m1 ?_
            exact rh_iret hX hR dX7_term_30 (by simp only [List.map_cons, List.map_nil, List.cons_append, List.nil_append]) (by first | exact ⟨Z, by rw [x_term, if_pos h5] <;> rfl, hz, by rw [x_term, if_pos h5] <;> rfl⟩ | exact ⟨Z, by rw [x_term, if_neg h5, if_pos h9] <;> rfl, hz, by rw [x_term, if_neg h5, if_pos h9] <;> rfl⟩ | exact ⟨Z, by rw [x_term, if_neg h5, if_neg h9, if_pos h14] <;> rfl, hz, by rw [x_term, if_neg h5, if_neg h9, if_pos h14] <;> rfl⟩ | exact ⟨Z, by rw [x_term, if_neg h5, if_neg h9, if_neg (Int32.not_lt.mpr h14), if_pos h18] <;> rfl, hz, by rw [x_term, if_neg h5, if_neg h9, if_neg (Int32.not_lt.mpr h14), if_pos h18] <;> rfl⟩ | exact ⟨Z, by rw [x_term, if_neg h5, if_neg h9, if_neg (Int32.not_lt.mpr h14), if_neg h18, if_pos (Int32.not_le.mp h26)] <;> rfl, hz, by rw [x_term, if_neg h5, if_neg h9, if_neg (Int32.not_lt.mpr h14), if_neg h18, if_pos (Int32.not_le.mp h26)] <;> rfl⟩)

set_option maxRecDepth 100000 in
set_option maxHeartbeats 4000000 in
theorem c_X7_told (l : Launch) (E : rhE) (A : Nat → Nat) (C : CT) (Z : ZT) (t w : Int32) (T : Nat) (hC : cOk C T)  : Ctr l E yX7_told cX7_told 3 (some .int) (rmL 2) [.ref (A 0), .int t, .int w] (wC E A C Z) (One (some (.int (x_told C T t w))) (wC E A C Z)) := by
  refine Ctr.of (by decide) (Nat.le_of_ble_eq_true rfl) rfl rfl 0 ?_
  intro X hX hR
  obtain ⟨hT, hT1, hT6, hnx, hud, hn, hrn⟩ := id hC
  refine rh_aload_n hX dX7_told_0 rfl ?_
  refine rh_iload_n hX dX7_told_1 rfl ?_
  refine rh_aP hX lk_X7_145 mvX7_isSeries (fun l => c_X7_isSeries l E A C Z _ T hC) ⟨rfl, rfl⟩ ⟨Nat.le_of_ble_eq_true rfl, Nat.le_of_ble_eq_true rfl⟩ 0 rfl dX7_told_2 rfl rfl (Nat.le_of_ble_eq_true rfl) ?_
  refine rh_if_eq (tgt := 17) hX dX7_told_5 (by decide) (fun h5 => ?_) (fun h5 => ?_)
  · skip
    refine rh_iconst hX dX7_told_17 ki_m1 ?_
    exact rh_iret hX hR dX7_told_18 (by simp only [List.map_cons, List.map_nil, List.cons_append, List.nil_append]) ⟨by first | (rw [x_told, if_pos h5] <;> rfl) | (rw [x_told, if_neg h5, if_pos h9] <;> rfl) | (rw [x_told, if_neg h5, if_neg h9, if_pos (Int32.not_le.mp h14)] <;> rfl), rfl⟩
  · skip
    obtain ⟨td, rfl, htd1, htd⟩ := xSe_1 hT6 h5
    refine rh_iload_n hX dX7_told_8 rfl ?_
    refine rh_if_lt (tgt := 17) hX dX7_told_9 (by decide) (fun h9 => ?_) (fun h9 => ?_)
    · skip
      refine rh_iconst hX dX7_told_17 ki_m1 ?_
      exact rh_iret hX hR dX7_told_18 (by simp only [List.map_cons, List.map_nil, List.cons_append, List.nil_append]) ⟨by first | (rw [x_told, if_pos h5] <;> rfl) | (rw [x_told, if_neg h5, if_pos h9] <;> rfl) | (rw [x_told, if_neg h5, if_neg h9, if_pos (Int32.not_le.mp h14)] <;> rfl), rfl⟩
    · skip
      refine rh_iload_n hX dX7_told_12 rfl ?_
      refine rh_iconst hX dX7_told_13 ki_4 ?_
      refine rh_icmp_le (tgt := 19) hX dX7_told_14 (by decide) (fun h14 => ?_) (fun h14 => ?_)
      · skip
        obtain ⟨wd, rfl, hwd⟩ := i32_to (b := 4) h9 h14 (by decide)
        refine rh_aload_n hX dX7_told_19 rfl ?_
        refine rh_get hX gl_X7_12 0 dX7_told_20 rfl rfl ?_
        refine rh_iload_n hX dX7_told_23 rfl ?_
        refine rh_bipush hX dX7_told_24 kb_6 ?_
        refine rh_iload_n hX dX7_told_26 rfl ?_
        refine rh_iadd hX dX7_told_27 ?_
        rw [show (6 : Int32) + nI wd = nI (6 + wd) from rn_add 6 wd]
        refine rh_pV hX lk_X7_155 mvX1_fact (fun l => c_X1_fact l E _ _ _ td (6 + wd) (by omega) (by omega)) ⟨rfl, rfl⟩ ⟨Nat.le_of_ble_eq_true rfl, Nat.le_of_ble_eq_true rfl⟩ [1, 2] rfl rfl 1 rfl dX7_told_28 rfl rfl (Nat.le_of_ble_eq_true rfl) ?_
        refine rh_l2i hX dX7_told_31 ?_
        exact rh_iret hX hR dX7_told_32 (by simp only [List.map_cons, List.map_nil, List.cons_append, List.nil_append]) ⟨by first | (rw [x_told, if_neg h5, if_neg h9, if_neg (Int32.not_lt.mpr h14), nI_clamp (show td < 2 ^ 31 by omega), nI_clamp (show wd < 2 ^ 31 by omega)] <;> rfl), rfl⟩
      · skip
        refine rh_iconst hX dX7_told_17 ki_m1 ?_
        exact rh_iret hX hR dX7_told_18 (by simp only [List.map_cons, List.map_nil, List.cons_append, List.nil_append]) ⟨by first | (rw [x_told, if_pos h5] <;> rfl) | (rw [x_told, if_neg h5, if_pos h9] <;> rfl) | (rw [x_told, if_neg h5, if_neg h9, if_pos (Int32.not_le.mp h14)] <;> rfl), rfl⟩

set_option maxRecDepth 100000 in
set_option maxHeartbeats 4000000 in
theorem c_X7_shares (l : Launch) (E : rhE) (A : Nat → Nat) (C : CT) (Z : ZT) (h t : Int32) (T : Nat) (hC : cOk C T)  : Ctr l E yX7_shares cX7_shares 3 (some .int) (rmL 2) [.ref (A 0), .int h, .int t] (wC E A C Z) (One (some (.int (x_shares C T h t))) (wC E A C Z)) := by
  refine Ctr.of (by decide) (Nat.le_of_ble_eq_true rfl) rfl rfl 0 ?_
  intro X hX hR
  obtain ⟨hT, hT1, hT6, hnx, hud, hn, hrn⟩ := id hC
  refine rh_iload_n hX dX7_shares_0 rfl ?_
  refine rh_pS hX lk_X7_104 msX7_isHolder (fun l => c_X7_isHolder l E _) ⟨rfl, rfl⟩ ⟨Nat.le_of_ble_eq_true rfl, Nat.le_of_ble_eq_true rfl⟩ [] rfl rfl dX7_shares_1 rfl rfl (Nat.le_of_ble_eq_true rfl) ?_
  refine rh_if_eq (tgt := 15) hX dX7_shares_4 (by decide) (fun h4 => ?_) (fun h4 => ?_)
  · skip
    refine rh_iconst hX dX7_shares_15 ki_m1 ?_
    exact rh_iret hX hR dX7_shares_16 (by simp only [List.map_cons, List.map_nil, List.cons_append, List.nil_append]) ⟨by first | (rw [x_shares, if_pos h4] <;> rfl) | (rw [x_shares, if_neg h4, if_pos h12] <;> rfl), rfl⟩
  · skip
    obtain ⟨hd, rfl, hdl⟩ := xH_1 h4
    refine rh_aload_n hX dX7_shares_7 rfl ?_
    refine rh_iload_n hX dX7_shares_8 rfl ?_
    refine rh_aP hX lk_X7_110 mvX7_isType (fun l => c_X7_isType l E A C Z _ T hC) ⟨rfl, rfl⟩ ⟨Nat.le_of_ble_eq_true rfl, Nat.le_of_ble_eq_true rfl⟩ 0 rfl dX7_shares_9 rfl rfl (Nat.le_of_ble_eq_true rfl) ?_
    refine rh_if_ne (tgt := 17) hX dX7_shares_12 (by decide) (fun h12 => ?_) (fun h12 => ?_)
    · skip
      obtain ⟨td, rfl, htd⟩ := xTy_1 hT6 h12
      refine rh_aload_n hX dX7_shares_17 rfl ?_
      refine rh_get hX gl_X7_12 0 dX7_shares_18 rfl rfl ?_
      refine rh_iload_n hX dX7_shares_21 rfl ?_
      refine rh_iload_n hX dX7_shares_22 rfl ?_
      refine rh_pV hX lk_X7_113 mvX1_held (fun l => c_X1_held l E _ _ _ hd td (by omega) (by omega)) ⟨rfl, rfl⟩ ⟨Nat.le_of_ble_eq_true rfl, Nat.le_of_ble_eq_true rfl⟩ [1, 2] rfl rfl 1 rfl dX7_shares_23 rfl rfl (Nat.le_of_ble_eq_true rfl) ?_
      refine rh_l2i hX dX7_shares_26 ?_
      exact rh_iret hX hR dX7_shares_27 (by simp only [List.map_cons, List.map_nil, List.cons_append, List.nil_append]) ⟨by first | (rw [x_shares, if_neg h4, if_neg h12, nI_clamp (show hd < 2 ^ 31 by omega), nI_clamp (show td < 2 ^ 31 by omega)] <;> rfl), rfl⟩
    · skip
      refine rh_iconst hX dX7_shares_15 ki_m1 ?_
      exact rh_iret hX hR dX7_shares_16 (by simp only [List.map_cons, List.map_nil, List.cons_append, List.nil_append]) ⟨by first | (rw [x_shares, if_pos h4] <;> rfl) | (rw [x_shares, if_neg h4, if_pos h12] <;> rfl), rfl⟩

set_option maxRecDepth 100000 in
set_option maxHeartbeats 4000000 in
theorem c_X7_options (l : Launch) (E : rhE) (A : Nat → Nat) (C : CT) (Z : ZT) (h : Int32) (T : Nat) (hC : cOk C T)  : Ctr l E yX7_options cX7_options 2 (some .int) (rmL 1) [.ref (A 0), .int h] (wC E A C Z) (One (some (.int (x_options C h))) (wC E A C Z)) := by
  refine Ctr.of (by decide) (Nat.le_of_ble_eq_true rfl) rfl rfl 0 ?_
  intro X hX hR
  obtain ⟨hT, hT1, hT6, hnx, hud, hn, hrn⟩ := id hC
  refine rh_iload_n hX dX7_options_0 rfl ?_
  refine rh_pS hX lk_X7_104 msX7_isHolder (fun l => c_X7_isHolder l E _) ⟨rfl, rfl⟩ ⟨Nat.le_of_ble_eq_true rfl, Nat.le_of_ble_eq_true rfl⟩ [] rfl rfl dX7_options_1 rfl rfl (Nat.le_of_ble_eq_true rfl) ?_
  refine rh_if_ne (tgt := 9) hX dX7_options_4 (by decide) (fun h4 => ?_) (fun h4 => ?_)
  · skip
    obtain ⟨hd, rfl, hdl⟩ := xH_1 h4
    refine rh_aload_n hX dX7_options_9 rfl ?_
    refine rh_get hX gl_X7_12 0 dX7_options_10 rfl rfl ?_
    refine rh_iload_n hX dX7_options_13 rfl ?_
    refine rh_pV hX lk_X7_128 mvX1_granted (fun l => c_X1_granted l E _ _ _ hd (by omega)) ⟨rfl, rfl⟩ ⟨Nat.le_of_ble_eq_true rfl, Nat.le_of_ble_eq_true rfl⟩ [1, 2] rfl rfl 1 rfl dX7_options_14 rfl rfl (Nat.le_of_ble_eq_true rfl) ?_
    refine rh_l2i hX dX7_options_17 ?_
    exact rh_iret hX hR dX7_options_18 (by simp only [List.map_cons, List.map_nil, List.cons_append, List.nil_append]) ⟨by first | (rw [x_options, if_neg h4, nI_clamp (show hd < 2 ^ 31 by omega)] <;> rfl), rfl⟩
  · skip
    refine rh_iconst hX dX7_options_7 ki_m1 ?_
    exact rh_iret hX hR dX7_options_8 (by simp only [List.map_cons, List.map_nil, List.cons_append, List.nil_append]) ⟨by first | (rw [x_options, if_pos h4] <;> rfl), rfl⟩

set_option maxRecDepth 100000 in
set_option maxHeartbeats 4000000 in
theorem c_X7_undo_0 (l : Launch) (E : rhE) (A : Nat → Nat) (C : CT) (Z : ZT) (T : Nat) (hC : cOk C T) (hz : zOk Z) (h0 : C.2.2.2.2.2.1 = 0) : Ctr l E yX7_undo cX7_undo 1 (some .int) (rmL 3) [.ref (A 0)] (wC E A C Z) (fun r w => ∃ Z1, r = some (Value.int (x_undo C).1) ∧ zOk Z1 ∧ w = wC E A (x_undo C).2 Z1) := by
  refine Ctr.of (by decide) (Nat.le_of_ble_eq_true rfl) rfl rfl 0 ?_
  intro X hX hR
  obtain ⟨f, kp, hk, p, nx, ud, dd, tl⟩ := C
  obtain rfl : ud = 0 := h0
  refine rh_aload_n hX dX7_undo_0 rfl ?_
  refine rh_get hX gl_X7_26 0 dX7_undo_1 rfl rfl ?_
  refine rh_aload_n hX dX7_undo_4 rfl ?_
  refine rh_get hX gl_X7_12 0 dX7_undo_5 rfl rfl ?_
  refine rh_pV hX lk_X7_337 mvX2_takesBack (fun l => c_X2_takesBack_no l E _ _ _ _ _ _ _ _ _) ⟨rfl, rfl⟩ ⟨Nat.le_of_ble_eq_true rfl, Nat.le_of_ble_eq_true rfl⟩ [6, 7, 8, 9, 10, 11, 12, 13, 14, 15, 1, 2] rfl rfl 6 rfl dX7_undo_8 rfl rfl (Nat.le_of_ble_eq_true rfl) ?_
  refine rh_if_eq_t (tgt := 24) hX dX7_undo_11 (by decide) rfl ?_
  refine rh_bipush hX dX7_undo_24 kb_m2 ?_
  exact rh_iret hX hR dX7_undo_26 (by simp only [List.map_cons, List.map_nil, List.cons_append, List.nil_append]) ⟨Z, rfl, hz, rfl⟩

set_option maxRecDepth 100000 in
set_option maxHeartbeats 4000000 in
theorem c_X7_undo_1 (l : Launch) (E : rhE) (A : Nat → Nat) (C : CT) (Z : ZT) (T : Nat) (hC : cOk C T) (hz : zOk Z) (h1 : 1 ≤ C.2.2.2.2.2.1) : Ctr l E yX7_undo cX7_undo 1 (some .int) (rmL 3) [.ref (A 0)] (wC E A C Z) (fun r w => ∃ Z1, r = some (Value.int (x_undo C).1) ∧ zOk Z1 ∧ w = wC E A (x_undo C).2 Z1) := by
  refine Ctr.of (by decide) (Nat.le_of_ble_eq_true rfl) rfl rfl 0 ?_
  intro X hX hR
  obtain ⟨hT, hT1, hT6, hnx, hud, hn, hrn⟩ := id hC
  obtain ⟨f, kp, hk, p, nx, ud, dd, tl⟩ := C
  have h1 : 1 ≤ ud := h1
  have hud : ud ≤ 8 := hud
  have hnx : nx < 8 := hnx
  obtain ⟨k, hk8, hk⟩ : ∃ k, k < 8 ∧ nx = (k + 1) % 8 := ⟨(nx + 7) % 8, by omega, by omega⟩
  subst hk
  refine rh_aload_n hX dX7_undo_0 rfl ?_
  refine rh_get hX gl_X7_26 0 dX7_undo_1 rfl rfl ?_
  refine rh_aload_n hX dX7_undo_4 rfl ?_
  refine rh_get hX gl_X7_12 0 dX7_undo_5 rfl rfl ?_
  refine rh_wV hX lk_X7_337 mvX2_takesBack (fun l => c_X2_takesBack l E _ _ _ _ _ ud _ _ _ k hk8 h1 hud) ⟨rfl, rfl⟩ ⟨Nat.le_of_ble_eq_true rfl, Nat.le_of_ble_eq_true rfl⟩ [6, 7, 8, 9, 10, 11, 12, 13, 14, 15, 1, 2] rfl rfl 6 rfl dX7_undo_8 rfl rfl (Nat.le_of_ble_eq_true rfl) rfl ?_
  dsimp only [List.cons_append, List.nil_append, List.set_cons_succ, List.set_cons_zero, vput]
  refine rh_if_eq_f (tgt := 24) hX dX7_undo_11 (by decide) (by decide) ?_
  refine rh_aload_n hX dX7_undo_14 rfl ?_
  refine rh_get hX gl_X7_26 0 dX7_undo_15 rfl rfl ?_
  refine rh_get hX gl_X7_341 6 dX7_undo_18 rfl rfl ?_
  refine rh_goto (tgt := 26) hX dX7_undo_21 (by decide) ?_
  exact rh_iret hX hR dX7_undo_26 (by simp only [List.map_cons, List.map_nil, List.cons_append, List.nil_append]) ⟨Z, by rw [x_undo, if_neg (show ¬ ud = 0 by omega)], hz, by rw [x_undo, if_neg (show ¬ ud = 0 by omega)]; show _ = wC E A (p (((k + 1) % 8 + 7) % 8), kp, hk, p, ((k + 1) % 8 + 7) % 8, ud - 1, dd, tl) Z; rw [show ((k + 1) % 8 + 7) % 8 = k by omega] <;> rfl⟩

theorem c_X7_undo (l : Launch) (E : rhE) (A : Nat → Nat) (C : CT) (Z : ZT) (T : Nat) (hC : cOk C T) (hz : zOk Z) : Ctr l E yX7_undo cX7_undo 1 (some .int) (rmL 3) [.ref (A 0)] (wC E A C Z) (fun r w => ∃ Z1, r = some (Value.int (x_undo C).1) ∧ zOk Z1 ∧ w = wC E A (x_undo C).2 Z1) := by
  by_cases h : C.2.2.2.2.2.1 = 0
  · exact c_X7_undo_0 l E A C Z T hC hz h
  · exact c_X7_undo_1 l E A C Z T hC hz (by omega)
