def setRow (C : CT) (g : Nat → Int64) (n : Nat) : CT := (C.1, C.2.1, C.2.2.1, C.2.2.2.1, C.2.2.2.2.1, C.2.2.2.2.2.1, C.2.2.2.2.2.2.1, C.2.2.2.2.2.2.2.1, C.2.2.2.2.2.2.2.2.1, g, n)
def rowOk (g : Nat → Int64) (l : List Int64) : Prop := ∀ (i : Nat) (v : Int64), l[i]? = some v → g i = v
def rowTold (C C1 : CT) (o : Option (List Int64)) : Prop := match o with
  | none => C1 = C
  | some l => ∃ g1, rowOk g1 l ∧ C1 = setRow C g1 l.length
theorem rowOk_nil (g : Nat → Int64) : rowOk g [] := fun i v h => by simp at h
theorem rowOk_push {g : Nat → Int64} {l : List Int64} {n : Nat} (v : Int64) (h : rowOk g l) (hn : l.length = n) : rowOk (va_up g n v) (l ++ [v]) := by
  intro i x hx
  unfold va_up
  by_cases e : i = n
  · rw [if_pos e]
    rw [e, ← hn, List.getElem?_append_right (Nat.le_refl _), Nat.sub_self] at hx
    cases hx
    rfl
  · rw [if_neg e]
    by_cases hi : i < l.length
    · rw [List.getElem?_append_left hi] at hx
      exact h i x hx
    · rw [List.getElem?_append_right (by omega)] at hx
      have : i - l.length < 1 := (List.getElem?_eq_some_iff.mp hx).1
      omega
theorem rowOk1 (g : Nat → Int64) (a : Int64) : rowOk (va_up g 0 a) [a] := rowOk_push a (rowOk_nil g) rfl
theorem rowOk2 (g : Nat → Int64) (a b : Int64) : rowOk (va_up (va_up g 0 a) (0 + 1) b) [a, b] := rowOk_push b (rowOk1 g a) rfl
theorem rowOk3 (g : Nat → Int64) (a b c : Int64) : rowOk (va_up (va_up (va_up g 0 a) (0 + 1) b) (0 + 1 + 1) c) [a, b, c] := rowOk_push c (rowOk2 g a b) rfl
theorem range_push {α : Type} (F : Nat → α) (i : Nat) : (List.range (i + 1)).map F = (List.range i).map F ++ [F i] := by
  rw [List.range_succ, List.map_append]
  rfl
def x_stake (C : CT) (T : Nat) (h : Int32) : Int32 × Option (List Int64) := if xH h = 0 then (-1, none) else ((cClaim C.1 h.toNatClampNeg T).toInt32, some [cQuot (1000 * cClaim C.1 h.toNatClampNeg T) (cSize C.1 T), cQuot (1000 * cVotes C.1 h.toNatClampNeg T) (cAllVotes C.1 T)])
def x_full (C : CT) (T : Nat) : Int32 × Option (List Int64) := ((cSize C.1 T).toInt32, some ((List.range T).map (fun c => cAllConv C.1 c) ++ [cAllGranted C.1] ++ [C.1 170]))
def x_type (C : CT) (T : Nat) (t w : Int32) : Int32 := if xTy T t = 0 then -1 else if w < 0 then -1 else if 7 < w then -1 else if w = 0 then (cAllHeld C.1 t.toNatClampNeg).toInt32 else if w = 7 then cHoldersOf C.1 t.toNatClampNeg else if t = 0 then -1 else (cFact C.1 t.toNatClampNeg (w.toNatClampNeg - 1)).toInt32
def x_needs (C : CT) (T : Nat) (h n : Int32) : Int32 := if xH h = 0 then -1 else if xUp n 1000000000 = 0 then -1 else (cQuot (n.toInt64 * cClaim C.1 h.toNatClampNeg T + cSize C.1 T - 1) (cSize C.1 T)).toInt32
def x_paid (C : CT) (T : Nat) (h : Int32) : Int32 × Option (List Int64) := if xH h = 0 then (-1, none) else ((cAllGiven C.1 h.toNatClampNeg T).toInt32, some ((List.range (T - 1)).map (fun k => cGiven C.1 h.toNatClampNeg (k + 1))))
def x_value (C : CT) (T : Nat) : Int32 × Option (List Int64) := if T = 1 then (-2, none) else (xCap (cSize C.1 T * cFact C.1 (T - 1) 0 / 10000), some [(nI (T - 1)).toInt64, cFact C.1 (T - 1) 6 + cFact C.1 (T - 1) 7])
def x_majority (C : CT) (T : Nat) (h : Int32) : Int32 × Option (List Int64) := if xH h = 0 then (-1, none) else ((maxl 0 (cAllVotes C.1 T - 2 * cVotes C.1 h.toNatClampNeg T + 1)).toInt32, some [cVotes C.1 h.toNatClampNeg T + maxl 0 (cAllVotes C.1 T - 2 * cVotes C.1 h.toNatClampNeg T + 1), cAllVotes C.1 T + maxl 0 (cAllVotes C.1 T - 2 * cVotes C.1 h.toNatClampNeg T + 1)])
def x_count (C : CT) (T : Nat) (w : Int32) : Int32 := if w = 0 then nI T else if w = 1 then (C.1 170).toInt32 else if w = 2 then (cAllGranted C.1).toInt32 else if w = 3 then nI C.2.2.2.2.2.1 else if w = 4 then C.2.2.2.2.2.2.1 else if w = 5 then nI C.2.2.2.2.2.2.2.2.2.2 else if w = 6 then nI C.2.2.2.2.2.2.2.2.1 else if w = 7 then cClaimants C.1 T else if w = 8 then cGrantees C.1 else if w = 9 then cTypesWith C.1 2 T else if w = 10 then cTypesWith C.1 5 T else -1

set_option maxRecDepth 100000 in
set_option maxHeartbeats 4000000 in
theorem c_X7_stake (l : Launch) (E : rhE) (A : Nat → Nat) (C : CT) (Z : ZT) (h : Int32) (T : Nat) (hC : cOk C T) (hz : zOk Z) : Ctr l E yX7_stake cX7_stake 4 (some .int) (rmL 4) [.ref (A 0), .int h] (wC E A C Z) (fun r w => ∃ Z1 C1, r = some (Value.int (x_stake C T h).1) ∧ zOk Z1 ∧ rowTold C C1 (x_stake C T h).2 ∧ w = wC E A C1 Z1) := by
  refine Ctr.of (by decide) (Nat.le_of_ble_eq_true rfl) rfl rfl 2 ?_
  intro X hX hR
  obtain ⟨hT, hT1, hT6, hnx, hud, hn, hrn⟩ := id hC
  refine rh_iload_n hX dX7_stake_0 rfl ?_
  refine rh_pS hX lk_X7_104 msX7_isHolder (fun l => c_X7_isHolder l E _) ⟨rfl, rfl⟩ ⟨Nat.le_of_ble_eq_true rfl, Nat.le_of_ble_eq_true rfl⟩ [] rfl rfl dX7_stake_1 rfl rfl (Nat.le_of_ble_eq_true rfl) ?_
  refine rh_if_ne (tgt := 9) hX dX7_stake_4 (by decide) (fun h4 => ?_) (fun h4 => ?_)
  · skip
    obtain ⟨hd, rfl, hdl⟩ := xH_1 h4
    refine rh_aload_n hX dX7_stake_9 rfl ?_
    refine rh_get hX gl_X7_12 0 dX7_stake_10 rfl rfl ?_
    refine rh_iload_n hX dX7_stake_13 rfl ?_
    refine rh_pV hX lk_X7_138 mvX1_claim (fun l => c_X1_claim l E _ _ _ hd T hT hT6 (by omega)) ⟨rfl, rfl⟩ ⟨Nat.le_of_ble_eq_true rfl, Nat.le_of_ble_eq_true rfl⟩ [1, 2] rfl rfl 1 rfl dX7_stake_14 rfl rfl (Nat.le_of_ble_eq_true rfl) ?_
    refine rh_lstn2 hX dX7_stake_17 (by decide) rfl ?_
    refine rh_aload_n hX dX7_stake_18 rfl ?_
    refine rh_get hX gl_X7_40 0 dX7_stake_19 rfl rfl ?_
    refine rh_uV hX lk_X7_184 mvX3_clear (fun l => c_X3_clear l E _ _ _ _) ⟨rfl, rfl⟩ ⟨Nat.le_of_ble_eq_true rfl, Nat.le_of_ble_eq_true rfl⟩ [18, 19] rfl rfl 18 rfl dX7_stake_22 rfl rfl (Nat.le_of_ble_eq_true rfl) rfl ?_
    dsimp only [List.cons_append, List.nil_append, List.set_cons_succ, List.set_cons_zero, vput]
    refine rh_aload_n hX dX7_stake_25 rfl ?_
    refine rh_get hX gl_X7_40 0 dX7_stake_26 rfl rfl ?_
    refine rh_ldc2 hX dX7_stake_29 kl_X7_185 ?_
    refine rh_lload_n hX dX7_stake_32 rfl ?_
    refine rh_lmul hX dX7_stake_33 ?_
    refine rh_aload_n hX dX7_stake_34 rfl ?_
    refine rh_get hX gl_X7_12 0 dX7_stake_35 rfl rfl ?_
    refine rh_pV hX lk_X7_100 mvX1_size (fun l => c_X1_size l E _ _ _ T hT hT6) ⟨rfl, rfl⟩ ⟨Nat.le_of_ble_eq_true rfl, Nat.le_of_ble_eq_true rfl⟩ [1, 2] rfl rfl 1 rfl dX7_stake_38 rfl rfl (Nat.le_of_ble_eq_true rfl) ?_
    refine rh_pS hX lk_X7_187 msX7_quotient (fun l => c_X7_quotient l E _ _) ⟨rfl, rfl⟩ ⟨Nat.le_of_ble_eq_true rfl, Nat.le_of_ble_eq_true rfl⟩ [] rfl rfl dX7_stake_41 rfl rfl (Nat.le_of_ble_eq_true rfl) ?_
    refine rh_uV hX lk_X7_181 mvX3_tell (fun l => c_X3_tell l E _ _ _ _ _ (by omega)) ⟨rfl, rfl⟩ ⟨Nat.le_of_ble_eq_true rfl, Nat.le_of_ble_eq_true rfl⟩ [18, 19] rfl rfl 18 rfl dX7_stake_44 rfl rfl (Nat.le_of_ble_eq_true rfl) rfl ?_
    dsimp only [List.cons_append, List.nil_append, List.set_cons_succ, List.set_cons_zero, vput]
    refine rh_aload_n hX dX7_stake_47 rfl ?_
    refine rh_get hX gl_X7_40 0 dX7_stake_48 rfl rfl ?_
    refine rh_ldc2 hX dX7_stake_51 kl_X7_185 ?_
    refine rh_aload_n hX dX7_stake_54 rfl ?_
    refine rh_get hX gl_X7_12 0 dX7_stake_55 rfl rfl ?_
    refine rh_iload_n hX dX7_stake_58 rfl ?_
    refine rh_pV hX lk_X7_237 mvX1_votes (fun l => c_X1_votes l E _ _ _ hd T hT hT6 (by omega)) ⟨rfl, rfl⟩ ⟨Nat.le_of_ble_eq_true rfl, Nat.le_of_ble_eq_true rfl⟩ [1, 2] rfl rfl 1 rfl dX7_stake_59 rfl rfl (Nat.le_of_ble_eq_true rfl) ?_
    refine rh_lmul hX dX7_stake_62 ?_
    refine rh_aload_n hX dX7_stake_63 rfl ?_
    refine rh_get hX gl_X7_12 0 dX7_stake_64 rfl rfl ?_
    refine rh_pV hX lk_X7_230 mvX1_allVotes (fun l => c_X1_allVotes l E _ _ _ T hT hT6) ⟨rfl, rfl⟩ ⟨Nat.le_of_ble_eq_true rfl, Nat.le_of_ble_eq_true rfl⟩ [1, 2] rfl rfl 1 rfl dX7_stake_67 rfl rfl (Nat.le_of_ble_eq_true rfl) ?_
    refine rh_pS hX lk_X7_187 msX7_quotient (fun l => c_X7_quotient l E _ _) ⟨rfl, rfl⟩ ⟨Nat.le_of_ble_eq_true rfl, Nat.le_of_ble_eq_true rfl⟩ [] rfl rfl dX7_stake_70 rfl rfl (Nat.le_of_ble_eq_true rfl) ?_
    refine rh_uV hX lk_X7_181 mvX3_tell (fun l => c_X3_tell l E _ _ _ _ _ (by omega)) ⟨rfl, rfl⟩ ⟨Nat.le_of_ble_eq_true rfl, Nat.le_of_ble_eq_true rfl⟩ [18, 19] rfl rfl 18 rfl dX7_stake_73 rfl rfl (Nat.le_of_ble_eq_true rfl) rfl ?_
    dsimp only [List.cons_append, List.nil_append, List.set_cons_succ, List.set_cons_zero, vput]
    refine rh_lload_n hX dX7_stake_76 rfl ?_
    refine rh_l2i hX dX7_stake_77 ?_
    exact rh_iret hX hR dX7_stake_78 (by simp only [List.map_cons, List.map_nil, List.cons_append, List.nil_append]) (by refine ⟨Z, setRow C (va_up (va_up C.2.2.2.2.2.2.2.2.2.1 0 _) (0 + 1) _) (0 + 1 + 1), ?ga, hz, ?gb, rfl⟩; (case ga => rw [x_stake, if_neg h4, nI_clamp (show hd < 2 ^ 31 by omega)] <;> rfl); (case gb => rw [x_stake, if_neg h4, nI_clamp (show hd < 2 ^ 31 by omega)]; exact ⟨_, (rowOk2 _ _ _), rfl⟩))
  · skip
    refine rh_iconst hX dX7_stake_7 ki_m1 ?_
    exact rh_iret hX hR dX7_stake_8 (by simp only [List.map_cons, List.map_nil, List.cons_append, List.nil_append]) (by first | exact ⟨Z, C, by rw [x_stake, if_pos h4] <;> rfl, hz, by rw [x_stake, if_pos h4] <;> rfl, rfl⟩)

set_option maxRecDepth 100000 in
set_option maxHeartbeats 4000000 in
theorem c_X7_needs (l : Launch) (E : rhE) (A : Nat → Nat) (C : CT) (Z : ZT) (h n : Int32) (T : Nat) (hC : cOk C T)  : Ctr l E yX7_needs cX7_needs 5 (some .int) (rmL 4) [.ref (A 0), .int h, .int n] (wC E A C Z) (One (some (.int (x_needs C T h n))) (wC E A C Z)) := by
  refine Ctr.of (by decide) (Nat.le_of_ble_eq_true rfl) rfl rfl 2 ?_
  intro X hX hR
  obtain ⟨hT, hT1, hT6, hnx, hud, hn, hrn⟩ := id hC
  refine rh_iload_n hX dX7_needs_0 rfl ?_
  refine rh_pS hX lk_X7_104 msX7_isHolder (fun l => c_X7_isHolder l E _) ⟨rfl, rfl⟩ ⟨Nat.le_of_ble_eq_true rfl, Nat.le_of_ble_eq_true rfl⟩ [] rfl rfl dX7_needs_1 rfl rfl (Nat.le_of_ble_eq_true rfl) ?_
  refine rh_if_eq (tgt := 17) hX dX7_needs_4 (by decide) (fun h4 => ?_) (fun h4 => ?_)
  · skip
    refine rh_iconst hX dX7_needs_17 ki_m1 ?_
    exact rh_iret hX hR dX7_needs_18 (by simp only [List.map_cons, List.map_nil, List.cons_append, List.nil_append]) ⟨by first | (rw [x_needs, if_pos h4] <;> rfl) | (rw [x_needs, if_neg h4, if_pos h14] <;> rfl), rfl⟩
  · skip
    obtain ⟨hd, rfl, hdl⟩ := xH_1 h4
    refine rh_iload_n hX dX7_needs_7 rfl ?_
    refine rh_ldc2 hX dX7_needs_8 kl_X7_252 ?_
    refine rh_pS hX lk_X7_208 msX7_isUpTo (fun l => c_X7_isUpTo l E _ _) ⟨rfl, rfl⟩ ⟨Nat.le_of_ble_eq_true rfl, Nat.le_of_ble_eq_true rfl⟩ [] rfl rfl dX7_needs_11 rfl rfl (Nat.le_of_ble_eq_true rfl) ?_
    refine rh_if_ne (tgt := 19) hX dX7_needs_14 (by decide) (fun h14 => ?_) (fun h14 => ?_)
    · skip
      refine rh_aload_n hX dX7_needs_19 rfl ?_
      refine rh_get hX gl_X7_12 0 dX7_needs_20 rfl rfl ?_
      refine rh_pV hX lk_X7_100 mvX1_size (fun l => c_X1_size l E _ _ _ T hT hT6) ⟨rfl, rfl⟩ ⟨Nat.le_of_ble_eq_true rfl, Nat.le_of_ble_eq_true rfl⟩ [1, 2] rfl rfl 1 rfl dX7_needs_23 rfl rfl (Nat.le_of_ble_eq_true rfl) ?_
      refine rh_lstn3 hX dX7_needs_26 (by decide) rfl ?_
      refine rh_iload_n hX dX7_needs_27 rfl ?_
      refine rh_i2l hX dX7_needs_28 ?_
      refine rh_aload_n hX dX7_needs_29 rfl ?_
      refine rh_get hX gl_X7_12 0 dX7_needs_30 rfl rfl ?_
      refine rh_iload_n hX dX7_needs_33 rfl ?_
      refine rh_pV hX lk_X7_138 mvX1_claim (fun l => c_X1_claim l E _ _ _ hd T hT hT6 (by omega)) ⟨rfl, rfl⟩ ⟨Nat.le_of_ble_eq_true rfl, Nat.le_of_ble_eq_true rfl⟩ [1, 2] rfl rfl 1 rfl dX7_needs_34 rfl rfl (Nat.le_of_ble_eq_true rfl) ?_
      refine rh_lmul hX dX7_needs_37 ?_
      refine rh_lload_n hX dX7_needs_38 rfl ?_
      refine rh_ladd hX dX7_needs_39 ?_
      refine rh_lconst hX dX7_needs_40 kL_1 ?_
      refine rh_lsub hX dX7_needs_41 ?_
      refine rh_lload_n hX dX7_needs_42 rfl ?_
      refine rh_pS hX lk_X7_187 msX7_quotient (fun l => c_X7_quotient l E _ _) ⟨rfl, rfl⟩ ⟨Nat.le_of_ble_eq_true rfl, Nat.le_of_ble_eq_true rfl⟩ [] rfl rfl dX7_needs_43 rfl rfl (Nat.le_of_ble_eq_true rfl) ?_
      refine rh_l2i hX dX7_needs_46 ?_
      exact rh_iret hX hR dX7_needs_47 (by simp only [List.map_cons, List.map_nil, List.cons_append, List.nil_append]) ⟨by first | (rw [x_needs, if_neg h4, if_neg h14, nI_clamp (show hd < 2 ^ 31 by omega)] <;> rfl), rfl⟩
    · skip
      refine rh_iconst hX dX7_needs_17 ki_m1 ?_
      exact rh_iret hX hR dX7_needs_18 (by simp only [List.map_cons, List.map_nil, List.cons_append, List.nil_append]) ⟨by first | (rw [x_needs, if_pos h4] <;> rfl) | (rw [x_needs, if_neg h4, if_pos h14] <;> rfl), rfl⟩

set_option maxRecDepth 100000 in
set_option maxHeartbeats 4000000 in
theorem c_X7_full (l : Launch) (E : rhE) (A : Nat → Nat) (C : CT) (Z : ZT)  (T : Nat) (hC : cOk C T) (hz : zOk Z) : Ctr l E yX7_full cX7_full 2 (some .int) (rmL 4) [.ref (A 0)] (wC E A C Z) (fun r w => ∃ Z1 C1, r = some (Value.int (x_full C T).1) ∧ zOk Z1 ∧ rowTold C C1 (x_full C T).2 ∧ w = wC E A C1 Z1) := by
  refine Ctr.of (by decide) (Nat.le_of_ble_eq_true rfl) rfl rfl 1 ?_
  intro X hX hR
  obtain ⟨hT, hT1, hT6, hnx, hud, hn, hrn⟩ := id hC
  refine rh_aload_n hX dX7_full_0 rfl ?_
  refine rh_get hX gl_X7_40 0 dX7_full_1 rfl rfl ?_
  refine rh_uV hX lk_X7_184 mvX3_clear (fun l => c_X3_clear l E _ _ _ _) ⟨rfl, rfl⟩ ⟨Nat.le_of_ble_eq_true rfl, Nat.le_of_ble_eq_true rfl⟩ [18, 19] rfl rfl 18 rfl dX7_full_4 rfl rfl (Nat.le_of_ble_eq_true rfl) rfl ?_
  dsimp only [List.cons_append, List.nil_append, List.set_cons_succ, List.set_cons_zero, vput]
  refine rh_iconst hX dX7_full_7 ki_0 ?_
  refine rh_istn1 hX dX7_full_8 (by decide) rfl ?_
  refine (rh_loop (P := fun i => ∀ g1, rowOk g1 ((List.range i).map (fun c => cAllConv C.1 c)) → G X 9 [some (.ref (A 0)), some (.int (nI i))] [] (wC E A (setRow C g1 i) Z)) (0) (T) (by omega) ?_ ?_) _ (rowOk_nil _)
  · intro g1 hg
    refine rh_iload_n hX dX7_full_9 rfl ?_
    refine rh_aload_n hX dX7_full_10 rfl ?_
    refine rh_get hX gl_X7_12 0 dX7_full_11 rfl rfl ?_
    refine rh_pV hX lk_X7_135 mvX1_types (fun l => c_X1_types l E _ _ _ T hT hT6) ⟨rfl, rfl⟩ ⟨Nat.le_of_ble_eq_true rfl, Nat.le_of_ble_eq_true rfl⟩ [1, 2] rfl rfl 1 rfl dX7_full_14 rfl rfl (Nat.le_of_ble_eq_true rfl) ?_
    refine rh_icmp_ge_t (tgt := 41) hX dX7_full_17 (by decide) (nI_le (Nat.le_refl T) (by omega)) ?_
    refine rh_aload_n hX dX7_full_41 rfl ?_
    refine rh_get hX gl_X7_40 0 dX7_full_42 rfl rfl ?_
    refine rh_aload_n hX dX7_full_45 rfl ?_
    refine rh_get hX gl_X7_12 0 dX7_full_46 rfl rfl ?_
    refine rh_pV hX lk_X7_243 mvX1_allGranted (fun l => c_X1_allGranted l E _ _ _) ⟨rfl, rfl⟩ ⟨Nat.le_of_ble_eq_true rfl, Nat.le_of_ble_eq_true rfl⟩ [1, 2] rfl rfl 1 rfl dX7_full_49 rfl rfl (Nat.le_of_ble_eq_true rfl) ?_
    refine rh_uV hX lk_X7_181 mvX3_tell (fun l => c_X3_tell l E _ _ _ T _ (by omega)) ⟨rfl, rfl⟩ ⟨Nat.le_of_ble_eq_true rfl, Nat.le_of_ble_eq_true rfl⟩ [18, 19] rfl rfl 18 rfl dX7_full_52 rfl rfl (Nat.le_of_ble_eq_true rfl) rfl ?_
    dsimp only [List.cons_append, List.nil_append, List.set_cons_succ, List.set_cons_zero, vput]
    refine rh_aload_n hX dX7_full_55 rfl ?_
    refine rh_get hX gl_X7_40 0 dX7_full_56 rfl rfl ?_
    refine rh_aload_n hX dX7_full_59 rfl ?_
    refine rh_get hX gl_X7_12 0 dX7_full_60 rfl rfl ?_
    refine rh_pV hX lk_X7_117 mvX1_spare (fun l => c_X1_spare l E _ _ _) ⟨rfl, rfl⟩ ⟨Nat.le_of_ble_eq_true rfl, Nat.le_of_ble_eq_true rfl⟩ [1, 2] rfl rfl 1 rfl dX7_full_63 rfl rfl (Nat.le_of_ble_eq_true rfl) ?_
    refine rh_uV hX lk_X7_181 mvX3_tell (fun l => c_X3_tell l E _ _ _ (T + 1) _ (by omega)) ⟨rfl, rfl⟩ ⟨Nat.le_of_ble_eq_true rfl, Nat.le_of_ble_eq_true rfl⟩ [18, 19] rfl rfl 18 rfl dX7_full_66 rfl rfl (Nat.le_of_ble_eq_true rfl) rfl ?_
    dsimp only [List.cons_append, List.nil_append, List.set_cons_succ, List.set_cons_zero, vput]
    refine rh_aload_n hX dX7_full_69 rfl ?_
    refine rh_get hX gl_X7_12 0 dX7_full_70 rfl rfl ?_
    refine rh_pV hX lk_X7_100 mvX1_size (fun l => c_X1_size l E _ _ _ T hT hT6) ⟨rfl, rfl⟩ ⟨Nat.le_of_ble_eq_true rfl, Nat.le_of_ble_eq_true rfl⟩ [1, 2] rfl rfl 1 rfl dX7_full_73 rfl rfl (Nat.le_of_ble_eq_true rfl) ?_
    refine rh_l2i hX dX7_full_76 ?_
    exact rh_iret hX hR dX7_full_77 (by simp only [List.map_cons, List.map_nil, List.cons_append, List.nil_append]) (by refine ⟨Z, setRow C (va_up (va_up g1 T _) (T + 1) _) (T + 1 + 1), rfl, hz, ?gb, rfl⟩; case gb => (exact ⟨_, rowOk_push _ (rowOk_push _ hg (by rw [List.length_map, List.length_range])) (by rw [List.length_append, List.length_map, List.length_range] <;> rfl), by rw [List.length_append, List.length_append, List.length_map, List.length_range] <;> rfl⟩))
  · intro i hi0 hi ih g1 hg
    refine rh_iload_n hX dX7_full_9 rfl ?_
    refine rh_aload_n hX dX7_full_10 rfl ?_
    refine rh_get hX gl_X7_12 0 dX7_full_11 rfl rfl ?_
    refine rh_pV hX lk_X7_135 mvX1_types (fun l => c_X1_types l E _ _ _ T hT hT6) ⟨rfl, rfl⟩ ⟨Nat.le_of_ble_eq_true rfl, Nat.le_of_ble_eq_true rfl⟩ [1, 2] rfl rfl 1 rfl dX7_full_14 rfl rfl (Nat.le_of_ble_eq_true rfl) ?_
    refine rh_icmp_ge_f (tgt := 41) hX dX7_full_17 (by decide) (nI_ge hi (by omega)) ?_
    refine rh_aload_n hX dX7_full_20 rfl ?_
    refine rh_get hX gl_X7_40 0 dX7_full_21 rfl rfl ?_
    refine rh_aload_n hX dX7_full_24 rfl ?_
    refine rh_get hX gl_X7_12 0 dX7_full_25 rfl rfl ?_
    refine rh_iload_n hX dX7_full_28 rfl ?_
    refine rh_pV hX lk_X7_240 mvX1_allConverted (fun l => c_X1_allConverted l E _ _ _ i (by omega)) ⟨rfl, rfl⟩ ⟨Nat.le_of_ble_eq_true rfl, Nat.le_of_ble_eq_true rfl⟩ [1, 2] rfl rfl 1 rfl dX7_full_29 rfl rfl (Nat.le_of_ble_eq_true rfl) ?_
    refine rh_uV hX lk_X7_181 mvX3_tell (fun l => c_X3_tell l E _ _ _ i _ (by omega)) ⟨rfl, rfl⟩ ⟨Nat.le_of_ble_eq_true rfl, Nat.le_of_ble_eq_true rfl⟩ [18, 19] rfl rfl 18 rfl dX7_full_32 rfl rfl (Nat.le_of_ble_eq_true rfl) rfl ?_
    dsimp only [List.cons_append, List.nil_append, List.set_cons_succ, List.set_cons_zero, vput]
    refine rh_inc1 hX dX7_full_35 (by decide) rfl (rn_i1 _) ?_
    refine rh_goto (tgt := 9) hX dX7_full_38 (by decide) ?_
    exact ih _ (by rw [range_push]; exact rowOk_push _ hg (by rw [List.length_map, List.length_range]))

set_option maxRecDepth 100000 in
set_option maxHeartbeats 4000000 in
theorem c_X7_paid (l : Launch) (E : rhE) (A : Nat → Nat) (C : CT) (Z : ZT) (h : Int32) (T : Nat) (hC : cOk C T) (hz : zOk Z) : Ctr l E yX7_paid cX7_paid 3 (some .int) (rmL 3) [.ref (A 0), .int h] (wC E A C Z) (fun r w => ∃ Z1 C1, r = some (Value.int (x_paid C T h).1) ∧ zOk Z1 ∧ rowTold C C1 (x_paid C T h).2 ∧ w = wC E A C1 Z1) := by
  refine Ctr.of (by decide) (Nat.le_of_ble_eq_true rfl) rfl rfl 1 ?_
  intro X hX hR
  obtain ⟨hT, hT1, hT6, hnx, hud, hn, hrn⟩ := id hC
  refine rh_iload_n hX dX7_paid_0 rfl ?_
  refine rh_pS hX lk_X7_104 msX7_isHolder (fun l => c_X7_isHolder l E _) ⟨rfl, rfl⟩ ⟨Nat.le_of_ble_eq_true rfl, Nat.le_of_ble_eq_true rfl⟩ [] rfl rfl dX7_paid_1 rfl rfl (Nat.le_of_ble_eq_true rfl) ?_
  refine rh_if_ne (tgt := 9) hX dX7_paid_4 (by decide) (fun h4 => ?_) (fun h4 => ?_)
  · skip
    obtain ⟨hd, rfl, hdl⟩ := xH_1 h4
    refine rh_aload_n hX dX7_paid_9 rfl ?_
    refine rh_get hX gl_X7_40 0 dX7_paid_10 rfl rfl ?_
    refine rh_uV hX lk_X7_184 mvX3_clear (fun l => c_X3_clear l E _ _ _ _) ⟨rfl, rfl⟩ ⟨Nat.le_of_ble_eq_true rfl, Nat.le_of_ble_eq_true rfl⟩ [18, 19] rfl rfl 18 rfl dX7_paid_13 rfl rfl (Nat.le_of_ble_eq_true rfl) rfl ?_
    dsimp only [List.cons_append, List.nil_append, List.set_cons_succ, List.set_cons_zero, vput]
    refine rh_iconst hX dX7_paid_16 ki_1 ?_
    refine rh_istn2 hX dX7_paid_17 (by decide) rfl ?_
    refine (rh_loop (P := fun c => ∀ g1, rowOk g1 ((List.range (c - 1)).map (fun k => cGiven C.1 hd (k + 1))) → G X 18 [some (.ref (A 0)), some (.int (nI hd)), some (.int (nI c))] [] (wC E A (setRow C g1 (c - 1)) Z)) (1) (T) (by omega) ?_ ?_) _ (rowOk_nil _)
    · intro g1 hg
      refine rh_iload_n hX dX7_paid_18 rfl ?_
      refine rh_aload_n hX dX7_paid_19 rfl ?_
      refine rh_get hX gl_X7_12 0 dX7_paid_20 rfl rfl ?_
      refine rh_pV hX lk_X7_135 mvX1_types (fun l => c_X1_types l E _ _ _ T hT hT6) ⟨rfl, rfl⟩ ⟨Nat.le_of_ble_eq_true rfl, Nat.le_of_ble_eq_true rfl⟩ [1, 2] rfl rfl 1 rfl dX7_paid_23 rfl rfl (Nat.le_of_ble_eq_true rfl) ?_
      refine rh_icmp_ge_t (tgt := 51) hX dX7_paid_26 (by decide) (nI_le (Nat.le_refl T) (by omega)) ?_
      refine rh_aload_n hX dX7_paid_51 rfl ?_
      refine rh_get hX gl_X7_12 0 dX7_paid_52 rfl rfl ?_
      refine rh_iload_n hX dX7_paid_55 rfl ?_
      refine rh_pV hX lk_X7_271 mvX1_allGiven (fun l => c_X1_allGiven l E _ _ _ hd T hT hT6 (by omega) hT1) ⟨rfl, rfl⟩ ⟨Nat.le_of_ble_eq_true rfl, Nat.le_of_ble_eq_true rfl⟩ [1, 2] rfl rfl 1 rfl dX7_paid_56 rfl rfl (Nat.le_of_ble_eq_true rfl) ?_
      refine rh_l2i hX dX7_paid_59 ?_
      exact rh_iret hX hR dX7_paid_60 (by simp only [List.map_cons, List.map_nil, List.cons_append, List.nil_append]) (by refine ⟨Z, setRow C g1 (T - 1), ?ga, hz, ?gb, rfl⟩; (case ga => rw [x_paid, if_neg h4, nI_clamp (show hd < 2 ^ 31 by omega)]); (case gb => rw [x_paid, if_neg h4, nI_clamp (show hd < 2 ^ 31 by omega)]; exact ⟨_, hg, by rw [List.length_map, List.length_range] <;> rfl⟩))
    · intro c hc0 hc ihc g1 hg
      obtain ⟨e, rfl⟩ : ∃ e, c = e + 1 := ⟨c - 1, by omega⟩
      refine rh_iload_n hX dX7_paid_18 rfl ?_
      refine rh_aload_n hX dX7_paid_19 rfl ?_
      refine rh_get hX gl_X7_12 0 dX7_paid_20 rfl rfl ?_
      refine rh_pV hX lk_X7_135 mvX1_types (fun l => c_X1_types l E _ _ _ T hT hT6) ⟨rfl, rfl⟩ ⟨Nat.le_of_ble_eq_true rfl, Nat.le_of_ble_eq_true rfl⟩ [1, 2] rfl rfl 1 rfl dX7_paid_23 rfl rfl (Nat.le_of_ble_eq_true rfl) ?_
      refine rh_icmp_ge_f (tgt := 51) hX dX7_paid_26 (by decide) (nI_ge hc (by omega)) ?_
      refine rh_aload_n hX dX7_paid_29 rfl ?_
      refine rh_get hX gl_X7_40 0 dX7_paid_30 rfl rfl ?_
      refine rh_aload_n hX dX7_paid_33 rfl ?_
      refine rh_get hX gl_X7_12 0 dX7_paid_34 rfl rfl ?_
      refine rh_iload_n hX dX7_paid_37 rfl ?_
      refine rh_iload_n hX dX7_paid_38 rfl ?_
      refine rh_pV hX lk_X7_268 mvX1_given (fun l => c_X1_given l E _ _ _ hd (e + 1) (by omega) (by omega)) ⟨rfl, rfl⟩ ⟨Nat.le_of_ble_eq_true rfl, Nat.le_of_ble_eq_true rfl⟩ [1, 2] rfl rfl 1 rfl dX7_paid_39 rfl rfl (Nat.le_of_ble_eq_true rfl) ?_
      refine rh_uV hX lk_X7_181 mvX3_tell (fun l => c_X3_tell l E _ _ _ e _ (by omega)) ⟨rfl, rfl⟩ ⟨Nat.le_of_ble_eq_true rfl, Nat.le_of_ble_eq_true rfl⟩ [18, 19] rfl rfl 18 rfl dX7_paid_42 rfl rfl (Nat.le_of_ble_eq_true rfl) rfl ?_
      dsimp only [List.cons_append, List.nil_append, List.set_cons_succ, List.set_cons_zero, vput]
      refine rh_inc2 hX dX7_paid_45 (by decide) rfl (rn_i1 _) ?_
      refine rh_goto (tgt := 18) hX dX7_paid_48 (by decide) ?_
      exact ihc _ (by rw [show e + 1 + 1 - 1 = e + 1 by omega, range_push]; exact rowOk_push _ hg (by rw [List.length_map, List.length_range] <;> rfl))
  · skip
    refine rh_iconst hX dX7_paid_7 ki_m1 ?_
    exact rh_iret hX hR dX7_paid_8 (by simp only [List.map_cons, List.map_nil, List.cons_append, List.nil_append]) (by first | exact ⟨Z, C, by rw [x_paid, if_pos h4] <;> rfl, hz, by rw [x_paid, if_pos h4] <;> rfl, rfl⟩)

set_option maxRecDepth 100000 in
set_option maxHeartbeats 4000000 in
theorem c_X7_value (l : Launch) (E : rhE) (A : Nat → Nat) (C : CT) (Z : ZT)  (T : Nat) (hC : cOk C T) (hz : zOk Z) : Ctr l E yX7_value cX7_value 2 (some .int) (rmL 4) [.ref (A 0)] (wC E A C Z) (fun r w => ∃ Z1 C1, r = some (Value.int (x_value C T).1) ∧ zOk Z1 ∧ rowTold C C1 (x_value C T).2 ∧ w = wC E A C1 Z1) := by
  refine Ctr.of (by decide) (Nat.le_of_ble_eq_true rfl) rfl rfl 1 ?_
  intro X hX hR
  obtain ⟨hT, hT1, hT6, hnx, hud, hn, hrn⟩ := id hC
  refine rh_aload_n hX dX7_value_0 rfl ?_
  refine rh_get hX gl_X7_12 0 dX7_value_1 rfl rfl ?_
  refine rh_pV hX lk_X7_135 mvX1_types (fun l => c_X1_types l E _ _ _ T hT hT6) ⟨rfl, rfl⟩ ⟨Nat.le_of_ble_eq_true rfl, Nat.le_of_ble_eq_true rfl⟩ [1, 2] rfl rfl 1 rfl dX7_value_4 rfl rfl (Nat.le_of_ble_eq_true rfl) ?_
  refine rh_iconst hX dX7_value_7 ki_1 ?_
  refine rh_isub hX dX7_value_8 ?_
  rw [show nI T - 1 = nI (T - 1) from rn_sub (b := 1) hT1]
  refine rh_istn1 hX dX7_value_9 (by decide) rfl ?_
  refine rh_iload_n hX dX7_value_10 rfl ?_
  refine rh_iconst hX dX7_value_11 ki_1 ?_
  refine rh_icmp_ge (tgt := 18) hX dX7_value_12 (by decide) (fun h12 => ?_) (fun h12 => ?_)
  · skip
    have h12 : ¬ T = 1 := fun q => by rw [q] at h12; exact absurd h12 (by decide)
    refine rh_aload_n hX dX7_value_18 rfl ?_
    refine rh_get hX gl_X7_40 0 dX7_value_19 rfl rfl ?_
    refine rh_uV hX lk_X7_184 mvX3_clear (fun l => c_X3_clear l E _ _ _ _) ⟨rfl, rfl⟩ ⟨Nat.le_of_ble_eq_true rfl, Nat.le_of_ble_eq_true rfl⟩ [18, 19] rfl rfl 18 rfl dX7_value_22 rfl rfl (Nat.le_of_ble_eq_true rfl) rfl ?_
    dsimp only [List.cons_append, List.nil_append, List.set_cons_succ, List.set_cons_zero, vput]
    refine rh_aload_n hX dX7_value_25 rfl ?_
    refine rh_get hX gl_X7_40 0 dX7_value_26 rfl rfl ?_
    refine rh_iload_n hX dX7_value_29 rfl ?_
    refine rh_i2l hX dX7_value_30 ?_
    refine rh_uV hX lk_X7_181 mvX3_tell (fun l => c_X3_tell l E _ _ _ _ _ (by omega)) ⟨rfl, rfl⟩ ⟨Nat.le_of_ble_eq_true rfl, Nat.le_of_ble_eq_true rfl⟩ [18, 19] rfl rfl 18 rfl dX7_value_31 rfl rfl (Nat.le_of_ble_eq_true rfl) rfl ?_
    dsimp only [List.cons_append, List.nil_append, List.set_cons_succ, List.set_cons_zero, vput]
    refine rh_aload_n hX dX7_value_34 rfl ?_
    refine rh_get hX gl_X7_40 0 dX7_value_35 rfl rfl ?_
    refine rh_aload_n hX dX7_value_38 rfl ?_
    refine rh_get hX gl_X7_12 0 dX7_value_39 rfl rfl ?_
    refine rh_iload_n hX dX7_value_42 rfl ?_
    refine rh_bipush hX dX7_value_43 kb_6 ?_
    refine rh_pV hX lk_X7_155 mvX1_fact (fun l => c_X1_fact l E _ _ _ (T - 1) 6 (by omega) (by omega)) ⟨rfl, rfl⟩ ⟨Nat.le_of_ble_eq_true rfl, Nat.le_of_ble_eq_true rfl⟩ [1, 2] rfl rfl 1 rfl dX7_value_45 rfl rfl (Nat.le_of_ble_eq_true rfl) ?_
    refine rh_aload_n hX dX7_value_48 rfl ?_
    refine rh_get hX gl_X7_12 0 dX7_value_49 rfl rfl ?_
    refine rh_iload_n hX dX7_value_52 rfl ?_
    refine rh_bipush hX dX7_value_53 kb_7 ?_
    refine rh_pV hX lk_X7_155 mvX1_fact (fun l => c_X1_fact l E _ _ _ (T - 1) 7 (by omega) (by omega)) ⟨rfl, rfl⟩ ⟨Nat.le_of_ble_eq_true rfl, Nat.le_of_ble_eq_true rfl⟩ [1, 2] rfl rfl 1 rfl dX7_value_55 rfl rfl (Nat.le_of_ble_eq_true rfl) ?_
    refine rh_ladd hX dX7_value_58 ?_
    refine rh_uV hX lk_X7_181 mvX3_tell (fun l => c_X3_tell l E _ _ _ _ _ (by omega)) ⟨rfl, rfl⟩ ⟨Nat.le_of_ble_eq_true rfl, Nat.le_of_ble_eq_true rfl⟩ [18, 19] rfl rfl 18 rfl dX7_value_59 rfl rfl (Nat.le_of_ble_eq_true rfl) rfl ?_
    dsimp only [List.cons_append, List.nil_append, List.set_cons_succ, List.set_cons_zero, vput]
    refine rh_aload_n hX dX7_value_62 rfl ?_
    refine rh_get hX gl_X7_12 0 dX7_value_63 rfl rfl ?_
    refine rh_pV hX lk_X7_100 mvX1_size (fun l => c_X1_size l E _ _ _ T hT hT6) ⟨rfl, rfl⟩ ⟨Nat.le_of_ble_eq_true rfl, Nat.le_of_ble_eq_true rfl⟩ [1, 2] rfl rfl 1 rfl dX7_value_66 rfl rfl (Nat.le_of_ble_eq_true rfl) ?_
    refine rh_aload_n hX dX7_value_69 rfl ?_
    refine rh_get hX gl_X7_12 0 dX7_value_70 rfl rfl ?_
    refine rh_iload_n hX dX7_value_73 rfl ?_
    refine rh_iconst hX dX7_value_74 ki_0 ?_
    refine rh_pV hX lk_X7_155 mvX1_fact (fun l => c_X1_fact l E _ _ _ (T - 1) 0 (by omega) (by omega)) ⟨rfl, rfl⟩ ⟨Nat.le_of_ble_eq_true rfl, Nat.le_of_ble_eq_true rfl⟩ [1, 2] rfl rfl 1 rfl dX7_value_75 rfl rfl (Nat.le_of_ble_eq_true rfl) ?_
    refine rh_lmul hX dX7_value_78 ?_
    refine rh_ldc2 hX dX7_value_79 kl_X7_274 ?_
    refine rh_ldiv hX dX7_value_82 (by decide) ?_
    refine rh_pS hX lk_X7_276 msX7_capped (fun l => c_X7_capped l E _) ⟨rfl, rfl⟩ ⟨Nat.le_of_ble_eq_true rfl, Nat.le_of_ble_eq_true rfl⟩ [] rfl rfl dX7_value_83 rfl rfl (Nat.le_of_ble_eq_true rfl) ?_
    exact rh_iret hX hR dX7_value_86 (by simp only [List.map_cons, List.map_nil, List.cons_append, List.nil_append]) (by refine ⟨Z, setRow C (va_up (va_up C.2.2.2.2.2.2.2.2.2.1 0 _) (0 + 1) _) (0 + 1 + 1), ?ga, hz, ?gb, rfl⟩; (case ga => rw [x_value, if_neg h12] <;> rfl); (case gb => rw [x_value, if_neg h12]; exact ⟨_, (rowOk2 _ _ _), rfl⟩))
  · skip
    have h12 : T = 1 := by have := rn_leN (a := 1) (b := T - 1) h12 (by decide) (by omega); omega
    refine rh_bipush hX dX7_value_15 kb_m2 ?_
    exact rh_iret hX hR dX7_value_17 (by simp only [List.map_cons, List.map_nil, List.cons_append, List.nil_append]) (by first | exact ⟨Z, C, by rw [x_value, if_pos h12] <;> rfl, hz, by rw [x_value, if_pos h12] <;> rfl, rfl⟩)

set_option maxRecDepth 100000 in
set_option maxHeartbeats 4000000 in
theorem c_X7_majority (l : Launch) (E : rhE) (A : Nat → Nat) (C : CT) (Z : ZT) (h : Int32) (T : Nat) (hC : cOk C T) (hz : zOk Z) : Ctr l E yX7_majority cX7_majority 8 (some .int) (rmL 4) [.ref (A 0), .int h] (wC E A C Z) (fun r w => ∃ Z1 C1, r = some (Value.int (x_majority C T h).1) ∧ zOk Z1 ∧ rowTold C C1 (x_majority C T h).2 ∧ w = wC E A C1 Z1) := by
  refine Ctr.of (by decide) (Nat.le_of_ble_eq_true rfl) rfl rfl 6 ?_
  intro X hX hR
  obtain ⟨hT, hT1, hT6, hnx, hud, hn, hrn⟩ := id hC
  refine rh_iload_n hX dX7_majority_0 rfl ?_
  refine rh_pS hX lk_X7_104 msX7_isHolder (fun l => c_X7_isHolder l E _) ⟨rfl, rfl⟩ ⟨Nat.le_of_ble_eq_true rfl, Nat.le_of_ble_eq_true rfl⟩ [] rfl rfl dX7_majority_1 rfl rfl (Nat.le_of_ble_eq_true rfl) ?_
  refine rh_if_ne (tgt := 9) hX dX7_majority_4 (by decide) (fun h4 => ?_) (fun h4 => ?_)
  · skip
    obtain ⟨hd, rfl, hdl⟩ := xH_1 h4
    refine rh_aload_n hX dX7_majority_9 rfl ?_
    refine rh_get hX gl_X7_12 0 dX7_majority_10 rfl rfl ?_
    refine rh_iload_n hX dX7_majority_13 rfl ?_
    refine rh_pV hX lk_X7_237 mvX1_votes (fun l => c_X1_votes l E _ _ _ hd T hT hT6 (by omega)) ⟨rfl, rfl⟩ ⟨Nat.le_of_ble_eq_true rfl, Nat.le_of_ble_eq_true rfl⟩ [1, 2] rfl rfl 1 rfl dX7_majority_14 rfl rfl (Nat.le_of_ble_eq_true rfl) ?_
    refine rh_lstn2 hX dX7_majority_17 (by decide) rfl ?_
    refine rh_aload_n hX dX7_majority_18 rfl ?_
    refine rh_get hX gl_X7_12 0 dX7_majority_19 rfl rfl ?_
    refine rh_pV hX lk_X7_230 mvX1_allVotes (fun l => c_X1_allVotes l E _ _ _ T hT hT6) ⟨rfl, rfl⟩ ⟨Nat.le_of_ble_eq_true rfl, Nat.le_of_ble_eq_true rfl⟩ [1, 2] rfl rfl 1 rfl dX7_majority_22 rfl rfl (Nat.le_of_ble_eq_true rfl) ?_
    refine rh_lst4 hX dX7_majority_25 (by decide) rfl ?_
    refine rh_lconst hX dX7_majority_27 kL_0 ?_
    refine rh_lload hX dX7_majority_28 rfl ?_
    refine rh_ldc2 hX dX7_majority_30 kl_X7_266 ?_
    refine rh_lload_n hX dX7_majority_33 rfl ?_
    refine rh_lmul hX dX7_majority_34 ?_
    refine rh_lsub hX dX7_majority_35 ?_
    refine rh_lconst hX dX7_majority_36 kL_1 ?_
    refine rh_ladd hX dX7_majority_37 ?_
    refine rh_maxl hX mm_X7_280 dX7_majority_38 (Nat.le_of_ble_eq_true rfl) (Nat.le_of_ble_eq_true rfl) ?_
    refine rh_lst6 hX dX7_majority_41 (by decide) rfl ?_
    refine rh_aload_n hX dX7_majority_43 rfl ?_
    refine rh_get hX gl_X7_40 0 dX7_majority_44 rfl rfl ?_
    refine rh_uV hX lk_X7_184 mvX3_clear (fun l => c_X3_clear l E _ _ _ _) ⟨rfl, rfl⟩ ⟨Nat.le_of_ble_eq_true rfl, Nat.le_of_ble_eq_true rfl⟩ [18, 19] rfl rfl 18 rfl dX7_majority_47 rfl rfl (Nat.le_of_ble_eq_true rfl) rfl ?_
    dsimp only [List.cons_append, List.nil_append, List.set_cons_succ, List.set_cons_zero, vput]
    refine rh_aload_n hX dX7_majority_50 rfl ?_
    refine rh_get hX gl_X7_40 0 dX7_majority_51 rfl rfl ?_
    refine rh_lload_n hX dX7_majority_54 rfl ?_
    refine rh_lload hX dX7_majority_55 rfl ?_
    refine rh_ladd hX dX7_majority_57 ?_
    refine rh_uV hX lk_X7_181 mvX3_tell (fun l => c_X3_tell l E _ _ _ _ _ (by omega)) ⟨rfl, rfl⟩ ⟨Nat.le_of_ble_eq_true rfl, Nat.le_of_ble_eq_true rfl⟩ [18, 19] rfl rfl 18 rfl dX7_majority_58 rfl rfl (Nat.le_of_ble_eq_true rfl) rfl ?_
    dsimp only [List.cons_append, List.nil_append, List.set_cons_succ, List.set_cons_zero, vput]
    refine rh_aload_n hX dX7_majority_61 rfl ?_
    refine rh_get hX gl_X7_40 0 dX7_majority_62 rfl rfl ?_
    refine rh_lload hX dX7_majority_65 rfl ?_
    refine rh_lload hX dX7_majority_67 rfl ?_
    refine rh_ladd hX dX7_majority_69 ?_
    refine rh_uV hX lk_X7_181 mvX3_tell (fun l => c_X3_tell l E _ _ _ _ _ (by omega)) ⟨rfl, rfl⟩ ⟨Nat.le_of_ble_eq_true rfl, Nat.le_of_ble_eq_true rfl⟩ [18, 19] rfl rfl 18 rfl dX7_majority_70 rfl rfl (Nat.le_of_ble_eq_true rfl) rfl ?_
    dsimp only [List.cons_append, List.nil_append, List.set_cons_succ, List.set_cons_zero, vput]
    refine rh_lload hX dX7_majority_73 rfl ?_
    refine rh_l2i hX dX7_majority_75 ?_
    exact rh_iret hX hR dX7_majority_76 (by simp only [List.map_cons, List.map_nil, List.cons_append, List.nil_append]) (by refine ⟨Z, setRow C (va_up (va_up C.2.2.2.2.2.2.2.2.2.1 0 _) (0 + 1) _) (0 + 1 + 1), ?ga, hz, ?gb, rfl⟩; (case ga => rw [x_majority, if_neg h4, nI_clamp (show hd < 2 ^ 31 by omega)] <;> rfl); (case gb => rw [x_majority, if_neg h4, nI_clamp (show hd < 2 ^ 31 by omega)]; exact ⟨_, (rowOk2 _ _ _), rfl⟩))
  · skip
    refine rh_iconst hX dX7_majority_7 ki_m1 ?_
    exact rh_iret hX hR dX7_majority_8 (by simp only [List.map_cons, List.map_nil, List.cons_append, List.nil_append]) (by first | exact ⟨Z, C, by rw [x_majority, if_pos h4] <;> rfl, hz, by rw [x_majority, if_pos h4] <;> rfl, rfl⟩)

set_option maxRecDepth 100000 in
set_option maxHeartbeats 4000000 in
theorem c_X7_type (l : Launch) (E : rhE) (A : Nat → Nat) (C : CT) (Z : ZT) (t wh : Int32) (T : Nat) (hC : cOk C T)  : Ctr l E yX7_type cX7_type 3 (some .int) (rmL 2) [.ref (A 0), .int t, .int wh] (wC E A C Z) (One (some (.int (x_type C T t wh))) (wC E A C Z)) := by
  refine Ctr.of (by decide) (Nat.le_of_ble_eq_true rfl) rfl rfl 0 ?_
  intro X hX hR
  obtain ⟨hT, hT1, hT6, hnx, hud, hn, hrn⟩ := id hC
  refine rh_aload_n hX dX7_type_0 rfl ?_
  refine rh_iload_n hX dX7_type_1 rfl ?_
  refine rh_aP hX lk_X7_110 mvX7_isType (fun l => c_X7_isType l E A C Z _ T hC) ⟨rfl, rfl⟩ ⟨Nat.le_of_ble_eq_true rfl, Nat.le_of_ble_eq_true rfl⟩ 0 rfl dX7_type_2 rfl rfl (Nat.le_of_ble_eq_true rfl) ?_
  refine rh_if_eq (tgt := 18) hX dX7_type_5 (by decide) (fun h5 => ?_) (fun h5 => ?_)
  · skip
    refine rh_iconst hX dX7_type_18 ki_m1 ?_
    exact rh_iret hX hR dX7_type_19 (by simp only [List.map_cons, List.map_nil, List.cons_append, List.nil_append]) ⟨by first | (rw [x_type, if_pos h5] <;> rfl) | (rw [x_type, if_neg h5, if_pos h9] <;> rfl) | (rw [x_type, if_neg h5, if_neg h9, if_pos (Int32.not_le.mp h15)] <;> rfl), rfl⟩
  · skip
    obtain ⟨td, rfl, htd⟩ := xTy_1 hT6 h5
    refine rh_iload_n hX dX7_type_8 rfl ?_
    refine rh_if_lt (tgt := 18) hX dX7_type_9 (by decide) (fun h9 => ?_) (fun h9 => ?_)
    · skip
      refine rh_iconst hX dX7_type_18 ki_m1 ?_
      exact rh_iret hX hR dX7_type_19 (by simp only [List.map_cons, List.map_nil, List.cons_append, List.nil_append]) ⟨by first | (rw [x_type, if_pos h5] <;> rfl) | (rw [x_type, if_neg h5, if_pos h9] <;> rfl) | (rw [x_type, if_neg h5, if_neg h9, if_pos (Int32.not_le.mp h15)] <;> rfl), rfl⟩
    · skip
      refine rh_iload_n hX dX7_type_12 rfl ?_
      refine rh_bipush hX dX7_type_13 kb_7 ?_
      refine rh_icmp_le (tgt := 20) hX dX7_type_15 (by decide) (fun h15 => ?_) (fun h15 => ?_)
      · skip
        obtain ⟨wd, rfl, hwd⟩ := i32_to (b := 7) h9 h15 (by decide)
        refine rh_iload_n hX dX7_type_20 rfl ?_
        refine rh_if_ne (tgt := 34) hX dX7_type_21 (by decide) (fun h21 => ?_) (fun h21 => ?_)
        · skip
          refine rh_iload_n hX dX7_type_34 rfl ?_
          refine rh_bipush hX dX7_type_35 kb_7 ?_
          refine rh_icmp_ne (tgt := 49) hX dX7_type_37 (by decide) (fun h37 => ?_) (fun h37 => ?_)
          · skip
            refine rh_iload_n hX dX7_type_49 rfl ?_
            refine rh_if_ne (tgt := 57) hX dX7_type_50 (by decide) (fun h50 => ?_) (fun h50 => ?_)
            · skip
              have hw1 : 1 ≤ wd := Nat.pos_of_ne_zero (fun q => h21 (by rw [q]; rfl))
              have hw7 : wd < 7 := Nat.lt_of_le_of_ne hwd (fun q => h37 (by rw [q]; rfl))
              refine rh_aload_n hX dX7_type_57 rfl ?_
              refine rh_get hX gl_X7_12 0 dX7_type_58 rfl rfl ?_
              refine rh_iload_n hX dX7_type_61 rfl ?_
              refine rh_iload_n hX dX7_type_62 rfl ?_
              refine rh_iconst hX dX7_type_63 ki_1 ?_
              refine rh_isub hX dX7_type_64 ?_
              rw [show nI wd - 1 = nI (wd - 1) from rn_sub (b := 1) hw1]
              refine rh_pV hX lk_X7_155 mvX1_fact (fun l => c_X1_fact l E _ _ _ td (wd - 1) (by omega) (by omega)) ⟨rfl, rfl⟩ ⟨Nat.le_of_ble_eq_true rfl, Nat.le_of_ble_eq_true rfl⟩ [1, 2] rfl rfl 1 rfl dX7_type_65 rfl rfl (Nat.le_of_ble_eq_true rfl) ?_
              refine rh_l2i hX dX7_type_68 ?_
              exact rh_iret hX hR dX7_type_69 (by simp only [List.map_cons, List.map_nil, List.cons_append, List.nil_append]) ⟨by first | (rw [x_type, if_neg h5, if_neg h9, if_neg (Int32.not_lt.mpr h15), if_neg h21, if_neg h37, if_pos h50] <;> rfl) | (rw [x_type, if_neg h5, if_neg h9, if_neg (Int32.not_lt.mpr h15), if_neg h21, if_neg h37, if_neg h50, nI_clamp (show td < 2 ^ 31 by omega), nI_clamp (show wd < 2 ^ 31 by omega)] <;> rfl), rfl⟩
            · skip
              refine rh_iconst hX dX7_type_53 ki_m1 ?_
              refine rh_goto (tgt := 69) hX dX7_type_54 (by decide) ?_
              exact rh_iret hX hR dX7_type_69 (by simp only [List.map_cons, List.map_nil, List.cons_append, List.nil_append]) ⟨by first | (rw [x_type, if_neg h5, if_neg h9, if_neg (Int32.not_lt.mpr h15), if_neg h21, if_neg h37, if_pos h50] <;> rfl) | (rw [x_type, if_neg h5, if_neg h9, if_neg (Int32.not_lt.mpr h15), if_neg h21, if_neg h37, if_neg h50, nI_clamp (show td < 2 ^ 31 by omega), nI_clamp (show wd < 2 ^ 31 by omega)] <;> rfl), rfl⟩
          · skip
            refine rh_aload_n hX dX7_type_40 rfl ?_
            refine rh_get hX gl_X7_12 0 dX7_type_41 rfl rfl ?_
            refine rh_iload_n hX dX7_type_44 rfl ?_
            refine rh_pV hX lk_X7_249 mvX1_holdersOf (fun l => c_X1_holdersOf l E _ _ _ td (by omega)) ⟨rfl, rfl⟩ ⟨Nat.le_of_ble_eq_true rfl, Nat.le_of_ble_eq_true rfl⟩ [1, 2] rfl rfl 1 rfl dX7_type_45 rfl rfl (Nat.le_of_ble_eq_true rfl) ?_
            exact rh_iret hX hR dX7_type_48 (by simp only [List.map_cons, List.map_nil, List.cons_append, List.nil_append]) ⟨by first | (rw [x_type, if_neg h5, if_neg h9, if_neg (Int32.not_lt.mpr h15), if_neg h21, if_pos h37, nI_clamp (show td < 2 ^ 31 by omega)] <;> rfl), rfl⟩
        · skip
          refine rh_aload_n hX dX7_type_24 rfl ?_
          refine rh_get hX gl_X7_12 0 dX7_type_25 rfl rfl ?_
          refine rh_iload_n hX dX7_type_28 rfl ?_
          refine rh_pV hX lk_X7_246 mvX1_allHeld (fun l => c_X1_allHeld l E _ _ _ td (by omega)) ⟨rfl, rfl⟩ ⟨Nat.le_of_ble_eq_true rfl, Nat.le_of_ble_eq_true rfl⟩ [1, 2] rfl rfl 1 rfl dX7_type_29 rfl rfl (Nat.le_of_ble_eq_true rfl) ?_
          refine rh_l2i hX dX7_type_32 ?_
          exact rh_iret hX hR dX7_type_33 (by simp only [List.map_cons, List.map_nil, List.cons_append, List.nil_append]) ⟨by first | (rw [x_type, if_neg h5, if_neg h9, if_neg (Int32.not_lt.mpr h15), if_pos h21, nI_clamp (show td < 2 ^ 31 by omega)] <;> rfl), rfl⟩
      · skip
        refine rh_iconst hX dX7_type_18 ki_m1 ?_
        exact rh_iret hX hR dX7_type_19 (by simp only [List.map_cons, List.map_nil, List.cons_append, List.nil_append]) ⟨by first | (rw [x_type, if_pos h5] <;> rfl) | (rw [x_type, if_neg h5, if_pos h9] <;> rfl) | (rw [x_type, if_neg h5, if_neg h9, if_pos (Int32.not_le.mp h15)] <;> rfl), rfl⟩
