def UvF (C : CT) (T : Nat) : Nat → Int64 := fun h => cVotes C.1 h T
def UcF (C : CT) (T : Nat) : Nat → Int64 := fun h => cClaim C.1 h T
def UhF (C : CT) (t : Nat) : Nat → Int64 := fun h => cHeld C.1 h t
def x_greatest (C : CT) (T : Nat) : Int32 × Option (List Int64) := (nI (rkN (UcF C T) 8 0), some ((List.range 8).map (fun i => (nI (rkN (UcF C T) 8 i)).toInt64)))
def x_control (C : CT) (T : Nat) : Int32 × Option (List Int64) := x_few (fun h => cVotes C.1 h T)
def x_block (C : CT) (T : Nat) (t : Int32) : Int32 × Option (List Int64) := if xTy T t = 0 then (-1, none) else x_few (fun h => cHeld C.1 h t.toNatClampNeg)
def x_leads (C : CT) (T : Nat) (t : Int32) : Int32 × Option (List Int64) := if xTy T t = 0 then (-1, none) else if cAllHeld C.1 t.toNatClampNeg = 0 then (-2, none) else (nI (rkN (UhF C t.toNatClampNeg) 8 0), some [cQuot (1000 * cHeld C.1 (rkN (UhF C t.toNatClampNeg) 8 0) t.toNatClampNeg) (cAllHeld C.1 t.toNatClampNeg), if 2 * cHeld C.1 (rkN (UhF C t.toNatClampNeg) 8 0) t.toNatClampNeg ≤ cAllHeld C.1 t.toNatClampNeg then 0 else 1])
def shv (u : Nat → Int64) (s : Nat) : Nat → Int64
  | 0 => 0
  | h + 1 => shv u s h + (if (nI s >>> (nI h &&& 31)) &&& 1 = 1 then u h else 0)
termination_by h => h
theorem shv_0 (u : Nat → Int64) (s : Nat) : shv u s 0 = 0 := by rw [shv]
theorem shv_s (u : Nat → Int64) (s h : Nat) : shv u s (h + 1) = shv u s h + (if (nI s >>> (nI h &&& 31)) &&& 1 = 1 then u h else 0) := by rw [shv]
def swN (u : Nat → Int64) (h : Nat) (all : Int64) : Nat → Nat
  | 0 => 0
  | s + 1 => if (nI s >>> (nI h &&& 31)) &&& 1 = 0 then (if all < 2 * shv u s 8 then swN u h all s else if 2 * (shv u s 8 + u h) ≤ all then swN u h all s else swN u h all s + 1) else swN u h all s
termination_by s => s
theorem swN_0 (u : Nat → Int64) (h : Nat) (all : Int64) : swN u h all 0 = 0 := by rw [swN]
theorem swN_s (u : Nat → Int64) (h : Nat) (all : Int64) (s : Nat) : swN u h all (s + 1) = if (nI s >>> (nI h &&& 31)) &&& 1 = 0 then (if all < 2 * shv u s 8 then swN u h all s else if 2 * (shv u s 8 + u h) ≤ all then swN u h all s else swN u h all s + 1) else swN u h all s := by rw [swN]
def swS (C : CT) (T h : Nat) : Int32 := nI (swN (UvF C T) h (cAllVotes C.1 T) 256)
theorem sw_eq {hd i : Nat} {x : Int32} (h : i = hd) : (if hd < i + 1 then x else 0) = x := if_pos (by omega)
theorem sw_ne {hd i : Nat} {x : Int32} (h : ¬ i = hd) : (if hd < i + 1 then x else 0) = (if hd < i then x else 0) := by
  by_cases q : hd < i
  · rw [if_pos q, if_pos (by omega)]
  · rw [if_neg q, if_neg (by omega)]
def x_swing (C : CT) (T : Nat) (h : Int32) : Int32 × Option (List Int64) := if xH h = 0 then (-1, none) else (swS C T h.toNatClampNeg, some ((List.range 8).map (fun i => (swS C T i).toInt64)))

set_option maxRecDepth 100000 in
set_option maxHeartbeats 4000000 in
theorem c_X7_control (l : Launch) (E : rhE) (A : Nat → Nat) (C : CT) (Z : ZT)  (T : Nat) (hC : cOk C T) (hz : zOk Z) : Ctr l E yX7_control cX7_control 1 (some .int) (rmL 5) [.ref (A 0)] (wC E A C Z) (fun r w => ∃ Z1 C1, r = some (Value.int (x_control C T).1) ∧ zOk Z1 ∧ rowTold C C1 (x_control C T).2 ∧ w = wC E A C1 Z1) := by
  refine Ctr.of (by decide) (Nat.le_of_ble_eq_true rfl) rfl rfl 0 ?_
  intro X hX hR
  obtain ⟨hT, hT1, hT6, hnx, hud, hn, hrn⟩ := id hC
  refine rh_aload_n hX dX7_control_0 rfl ?_
  refine rh_uV hX lk_X7_257 mvX7_weighVotes (fun l => c_X7_weighVotes l E _ _ _ T hC) ⟨rfl, rfl⟩ ⟨Nat.le_of_ble_eq_true rfl, Nat.le_of_ble_eq_true rfl⟩ [0, 1, 2, 3, 4, 5, 6, 7, 8, 9, 10, 11, 12, 13, 14, 15, 16, 17, 18, 19, 20, 21, 22, 23, 24, 25, 26, 27, 28, 29, 30, 31, 32, 33, 34, 35] rfl rfl 0 rfl dX7_control_1 rfl rfl (Nat.le_of_ble_eq_true rfl) rfl ?_
  dsimp only [List.cons_append, List.nil_append, List.set_cons_succ, List.set_cons_zero, vput]
  refine rh_aload_n hX dX7_control_4 rfl ?_
  refine rh_aR hX lk_X7_260 mvX7_fewest (fun l => c_X7_fewest l E _ _ (Z.1, Z.2.1, Z.2.2.1, Z.2.2.2.1, Z.2.2.2.2.1, (fun h => cVotes C.1 h T), Z.2.2.2.2.2.2) T hC hz) ⟨rfl, rfl⟩ ⟨Nat.le_of_ble_eq_true rfl, Nat.le_of_ble_eq_true rfl⟩ 0 rfl dX7_control_5 rfl rfl (Nat.le_of_ble_eq_true rfl) (fun r w hp => ?_)
  obtain ⟨Z1, C1, rfl, hz1, hr1, rfl⟩ := hp
  dsimp only [Option.toList, List.cons_append, List.nil_append]
  exact rh_iret hX hR dX7_control_8 (by simp only [List.map_cons, List.map_nil, List.cons_append, List.nil_append]) ⟨Z1, C1, rfl, hz1, hr1, rfl⟩

set_option maxRecDepth 100000 in
set_option maxHeartbeats 4000000 in
theorem c_X7_block (l : Launch) (E : rhE) (A : Nat → Nat) (C : CT) (Z : ZT) (t : Int32) (T : Nat) (hC : cOk C T) (hz : zOk Z) : Ctr l E yX7_block cX7_block 2 (some .int) (rmL 5) [.ref (A 0), .int t] (wC E A C Z) (fun r w => ∃ Z1 C1, r = some (Value.int (x_block C T t).1) ∧ zOk Z1 ∧ rowTold C C1 (x_block C T t).2 ∧ w = wC E A C1 Z1) := by
  refine Ctr.of (by decide) (Nat.le_of_ble_eq_true rfl) rfl rfl 0 ?_
  intro X hX hR
  obtain ⟨hT, hT1, hT6, hnx, hud, hn, hrn⟩ := id hC
  refine rh_aload_n hX dX7_block_0 rfl ?_
  refine rh_iload_n hX dX7_block_1 rfl ?_
  refine rh_aP hX lk_X7_110 mvX7_isType (fun l => c_X7_isType l E A C Z _ T hC) ⟨rfl, rfl⟩ ⟨Nat.le_of_ble_eq_true rfl, Nat.le_of_ble_eq_true rfl⟩ 0 rfl dX7_block_2 rfl rfl (Nat.le_of_ble_eq_true rfl) ?_
  refine rh_if_ne (tgt := 10) hX dX7_block_5 (by decide) (fun h5 => ?_) (fun h5 => ?_)
  · skip
    obtain ⟨td, rfl, htd⟩ := xTy_1 hT6 h5
    refine rh_aload_n hX dX7_block_10 rfl ?_
    refine rh_iload_n hX dX7_block_11 rfl ?_
    refine rh_uV hX lk_X7_263 mvX7_weighHeld (fun l => c_X7_weighHeld l E _ _ _ T hC td (by omega)) ⟨rfl, rfl⟩ ⟨Nat.le_of_ble_eq_true rfl, Nat.le_of_ble_eq_true rfl⟩ [0, 1, 2, 3, 4, 5, 6, 7, 8, 9, 10, 11, 12, 13, 14, 15, 16, 17, 18, 19, 20, 21, 22, 23, 24, 25, 26, 27, 28, 29, 30, 31, 32, 33, 34, 35] rfl rfl 0 rfl dX7_block_12 rfl rfl (Nat.le_of_ble_eq_true rfl) rfl ?_
    dsimp only [List.cons_append, List.nil_append, List.set_cons_succ, List.set_cons_zero, vput]
    refine rh_aload_n hX dX7_block_15 rfl ?_
    refine rh_aR hX lk_X7_260 mvX7_fewest (fun l => c_X7_fewest l E _ _ (Z.1, Z.2.1, Z.2.2.1, Z.2.2.2.1, Z.2.2.2.2.1, (fun h => cHeld C.1 h td), Z.2.2.2.2.2.2) T hC hz) ⟨rfl, rfl⟩ ⟨Nat.le_of_ble_eq_true rfl, Nat.le_of_ble_eq_true rfl⟩ 0 rfl dX7_block_16 rfl rfl (Nat.le_of_ble_eq_true rfl) (fun r w hp => ?_)
    obtain ⟨Z1, C1, rfl, hz1, hr1, rfl⟩ := hp
    dsimp only [Option.toList, List.cons_append, List.nil_append]
    exact rh_iret hX hR dX7_block_19 (by simp only [List.map_cons, List.map_nil, List.cons_append, List.nil_append]) ⟨Z1, C1, by rw [x_block, if_neg h5, nI_clamp (show td < 2 ^ 31 by omega)], hz1, by rw [x_block, if_neg h5, nI_clamp (show td < 2 ^ 31 by omega)]; exact hr1, rfl⟩
  · skip
    refine rh_iconst hX dX7_block_8 ki_m1 ?_
    exact rh_iret hX hR dX7_block_9 (by simp only [List.map_cons, List.map_nil, List.cons_append, List.nil_append]) (by first | exact ⟨Z, C, by rw [x_block, if_pos h5] <;> rfl, hz, by rw [x_block, if_pos h5] <;> rfl, rfl⟩)

set_option maxRecDepth 100000 in
set_option maxHeartbeats 4000000 in
theorem c_X7_greatest (l : Launch) (E : rhE) (A : Nat → Nat) (C : CT) (Z : ZT)  (T : Nat) (hC : cOk C T) (hz : zOk Z) : Ctr l E yX7_greatest cX7_greatest 2 (some .int) (rmL 4) [.ref (A 0)] (wC E A C Z) (fun r w => ∃ Z1 C1, r = some (Value.int (x_greatest C T).1) ∧ zOk Z1 ∧ rowTold C C1 (x_greatest C T).2 ∧ w = wC E A C1 Z1) := by
  refine Ctr.of (by decide) (Nat.le_of_ble_eq_true rfl) rfl rfl 1 ?_
  intro X hX hR
  obtain ⟨hT, hT1, hT6, hnx, hud, hn, hrn⟩ := id hC
  refine rh_iconst hX dX7_greatest_0 ki_0 ?_
  refine rh_istn1 hX dX7_greatest_1 (by decide) rfl ?_
  suffices hP0 : G X 2 [some (.ref (A 0)), some (.int 0)] [] (wC E A C (Z.1, Z.2.1, Z.2.2.1, Z.2.2.2.1, Z.2.2.2.2.1, (rowTo (fun h => cClaim C.1 h T) Z.2.2.2.2.2.1 0), Z.2.2.2.2.2.2)) by rw [rowTo_0] at hP0; exact hP0
  refine rh_loop (P := fun i => G X 2 [some (.ref (A 0)), some (.int (nI i))] [] (wC E A C (Z.1, Z.2.1, Z.2.2.1, Z.2.2.2.1, Z.2.2.2.2.1, (rowTo (fun h => cClaim C.1 h T) Z.2.2.2.2.2.1 i), Z.2.2.2.2.2.2))) (0) (8) (by omega) ?_ ?_
  · skip
    refine rh_ext (q := 34) (g := (fun h => cClaim C.1 h T)) rfl (fun j hj => rowTo_lt (fun h => cClaim C.1 h T) Z.2.2.2.2.2.1 8 j hj) rfl ?_
    dsimp only [List.cons_append, List.nil_append, List.set_cons_succ, List.set_cons_zero]
    refine rh_iload_n hX dX7_greatest_2 rfl ?_
    refine rh_bipush hX dX7_greatest_3 kb_8 ?_
    refine rh_icmp_ge_t (tgt := 28) hX dX7_greatest_5 (by decide) (nI_le (a := 8) (b := 8) (Nat.le_refl 8) (by decide)) ?_
    refine rh_aload_n hX dX7_greatest_28 rfl ?_
    refine rh_uV hX lk_X7_254 mvX7_rank (fun l => c_X7_rank l E _ _ (Z.1, Z.2.1, Z.2.2.1, Z.2.2.2.1, Z.2.2.2.2.1, (fun h => cClaim C.1 h T), Z.2.2.2.2.2.2)) ⟨rfl, rfl⟩ ⟨Nat.le_of_ble_eq_true rfl, Nat.le_of_ble_eq_true rfl⟩ [0, 1, 2, 3, 4, 5, 6, 7, 8, 9, 10, 11, 12, 13, 14, 15, 16, 17, 18, 19, 20, 21, 22, 23, 24, 25, 26, 27, 28, 29, 30, 31, 32, 33, 34, 35] rfl rfl 0 rfl dX7_greatest_29 rfl rfl (Nat.le_of_ble_eq_true rfl) rfl ?_
    dsimp only [List.cons_append, List.nil_append, List.set_cons_succ, List.set_cons_zero, vput]
    refine rh_aload_n hX dX7_greatest_32 rfl ?_
    refine rh_get hX gl_X7_40 0 dX7_greatest_33 rfl rfl ?_
    refine rh_uV hX lk_X7_184 mvX3_clear (fun l => c_X3_clear l E _ _ _ _) ⟨rfl, rfl⟩ ⟨Nat.le_of_ble_eq_true rfl, Nat.le_of_ble_eq_true rfl⟩ [18, 19] rfl rfl 18 rfl dX7_greatest_36 rfl rfl (Nat.le_of_ble_eq_true rfl) rfl ?_
    dsimp only [List.cons_append, List.nil_append, List.set_cons_succ, List.set_cons_zero, vput]
    refine rh_iconst hX dX7_greatest_39 ki_0 ?_
    refine rh_istn1 hX dX7_greatest_40 (by decide) rfl ?_
    refine (rh_loop (P := fun k => ∀ g1, rowOk g1 ((List.range k).map (fun i => (nI (rkN (fun h => cClaim C.1 h T) 8 i)).toInt64)) → G X 41 [some (.ref (A 0)), some (.int (nI k))] [] (wC E A (setRow C g1 k) (Z.1, Z.2.1, Z.2.2.1, Z.2.2.2.1, Z.2.2.2.2.1, (fun h => cClaim C.1 h T), (fun i => nI (rkN (fun h => cClaim C.1 h T) 8 i))))) (0) (8) (by omega) ?_ ?_) _ (rowOk_nil _)
    · intro g1 hg
      refine rh_iload_n hX dX7_greatest_41 rfl ?_
      refine rh_bipush hX dX7_greatest_42 kb_8 ?_
      refine rh_icmp_ge_t (tgt := 67) hX dX7_greatest_44 (by decide) (nI_le (a := 8) (b := 8) (Nat.le_refl 8) (by decide)) ?_
      refine rh_aload_n hX dX7_greatest_67 rfl ?_
      refine rh_get hX gl_X7_68 0 dX7_greatest_68 rfl rfl ?_
      refine rh_iconst hX dX7_greatest_71 ki_0 ?_
      refine rh_iaload hX 35 _ dX7_greatest_72 rfl rn_c0 (by omega) (by decide) ?_
      exact rh_iret hX hR dX7_greatest_73 (by simp only [List.map_cons, List.map_nil, List.cons_append, List.nil_append]) ⟨(Z.1, Z.2.1, Z.2.2.1, Z.2.2.2.1, Z.2.2.2.2.1, (fun h => cClaim C.1 h T), (fun i => nI (rkN (fun h => cClaim C.1 h T) 8 i))), setRow C g1 8, rfl, hz, ⟨_, hg, by rw [List.length_map, List.length_range]⟩, rfl⟩
    · intro k hk0 hk ihk g1 hg
      refine rh_iload_n hX dX7_greatest_41 rfl ?_
      refine rh_bipush hX dX7_greatest_42 kb_8 ?_
      refine rh_icmp_ge_f (tgt := 67) hX dX7_greatest_44 (by decide) (nI_ge (b := 8) hk (by decide)) ?_
      refine rh_aload_n hX dX7_greatest_47 rfl ?_
      refine rh_get hX gl_X7_40 0 dX7_greatest_48 rfl rfl ?_
      refine rh_aload_n hX dX7_greatest_51 rfl ?_
      refine rh_get hX gl_X7_68 0 dX7_greatest_52 rfl rfl ?_
      refine rh_iload_n hX dX7_greatest_55 rfl ?_
      refine rh_iaload hX 35 _ dX7_greatest_56 rfl rfl (by omega) (by decide) ?_
      refine rh_i2l hX dX7_greatest_57 ?_
      refine rh_uV hX lk_X7_181 mvX3_tell (fun l => c_X3_tell l E _ _ _ k _ (by omega)) ⟨rfl, rfl⟩ ⟨Nat.le_of_ble_eq_true rfl, Nat.le_of_ble_eq_true rfl⟩ [18, 19] rfl rfl 18 rfl dX7_greatest_58 rfl rfl (Nat.le_of_ble_eq_true rfl) rfl ?_
      dsimp only [List.cons_append, List.nil_append, List.set_cons_succ, List.set_cons_zero, vput]
      refine rh_inc1 hX dX7_greatest_61 (by decide) rfl (rn_i1 _) ?_
      refine rh_goto (tgt := 41) hX dX7_greatest_64 (by decide) ?_
      exact ihk _ (by rw [range_push]; exact rowOk_push _ hg (by rw [List.length_map, List.length_range]))
  · intro i hi0 hi ih
    refine rh_iload_n hX dX7_greatest_2 rfl ?_
    refine rh_bipush hX dX7_greatest_3 kb_8 ?_
    refine rh_icmp_ge_f (tgt := 28) hX dX7_greatest_5 (by decide) (nI_ge (b := 8) hi (by decide)) ?_
    refine rh_aload_n hX dX7_greatest_8 rfl ?_
    refine rh_get hX gl_X7_65 0 dX7_greatest_9 rfl rfl ?_
    refine rh_iload_n hX dX7_greatest_12 rfl ?_
    refine rh_aload_n hX dX7_greatest_13 rfl ?_
    refine rh_get hX gl_X7_12 0 dX7_greatest_14 rfl rfl ?_
    refine rh_iload_n hX dX7_greatest_17 rfl ?_
    refine rh_pV hX lk_X7_138 mvX1_claim (fun l => c_X1_claim l E _ _ _ i T hT hT6 (by omega)) ⟨rfl, rfl⟩ ⟨Nat.le_of_ble_eq_true rfl, Nat.le_of_ble_eq_true rfl⟩ [1, 2] rfl rfl 1 rfl dX7_greatest_18 rfl rfl (Nat.le_of_ble_eq_true rfl) ?_
    refine rh_lastore hX 34 _ dX7_greatest_21 rfl rfl (by omega) (by decide) rfl ?_
    dsimp only [List.cons_append, List.nil_append, List.set_cons_succ, List.set_cons_zero, vput]
    refine rh_inc1 hX dX7_greatest_22 (by decide) rfl (rn_i1 _) ?_
    refine rh_goto (tgt := 2) hX dX7_greatest_25 (by decide) ?_
    rw [← rowTo_s (fun h => cClaim C.1 h T)] at ih
    exact ih

set_option maxRecDepth 100000 in
set_option maxHeartbeats 4000000 in
theorem c_X7_leads (l : Launch) (E : rhE) (A : Nat → Nat) (C : CT) (Z : ZT) (t : Int32) (T : Nat) (hC : cOk C T) (hz : zOk Z) : Ctr l E yX7_leads cX7_leads 7 (some .int) (rmL 4) [.ref (A 0), .int t] (wC E A C Z) (fun r w => ∃ Z1 C1, r = some (Value.int (x_leads C T t).1) ∧ zOk Z1 ∧ rowTold C C1 (x_leads C T t).2 ∧ w = wC E A C1 Z1) := by
  refine Ctr.of (by decide) (Nat.le_of_ble_eq_true rfl) rfl rfl 5 ?_
  intro X hX hR
  obtain ⟨hT, hT1, hT6, hnx, hud, hn, hrn⟩ := id hC
  refine rh_aload_n hX dX7_leads_0 rfl ?_
  refine rh_iload_n hX dX7_leads_1 rfl ?_
  refine rh_aP hX lk_X7_110 mvX7_isType (fun l => c_X7_isType l E A C Z _ T hC) ⟨rfl, rfl⟩ ⟨Nat.le_of_ble_eq_true rfl, Nat.le_of_ble_eq_true rfl⟩ 0 rfl dX7_leads_2 rfl rfl (Nat.le_of_ble_eq_true rfl) ?_
  refine rh_if_ne (tgt := 10) hX dX7_leads_5 (by decide) (fun h5 => ?_) (fun h5 => ?_)
  · skip
    obtain ⟨td, rfl, htd⟩ := xTy_1 hT6 h5
    refine rh_aload_n hX dX7_leads_10 rfl ?_
    refine rh_get hX gl_X7_12 0 dX7_leads_11 rfl rfl ?_
    refine rh_iload_n hX dX7_leads_14 rfl ?_
    refine rh_pV hX lk_X7_246 mvX1_allHeld (fun l => c_X1_allHeld l E _ _ _ td (by omega)) ⟨rfl, rfl⟩ ⟨Nat.le_of_ble_eq_true rfl, Nat.le_of_ble_eq_true rfl⟩ [1, 2] rfl rfl 1 rfl dX7_leads_15 rfl rfl (Nat.le_of_ble_eq_true rfl) ?_
    refine rh_lstn2 hX dX7_leads_18 (by decide) rfl ?_
    refine rh_lload_n hX dX7_leads_19 rfl ?_
    refine rh_lconst hX dX7_leads_20 kL_0 ?_
    refine rh_lne (tgt := 28) hX dX7_leads_21 dX7_leads_22 (by decide) (fun h22 => ?_) (fun h22 => ?_)
    · skip
      refine rh_aload_n hX dX7_leads_28 rfl ?_
      refine rh_iload_n hX dX7_leads_29 rfl ?_
      refine rh_uV hX lk_X7_263 mvX7_weighHeld (fun l => c_X7_weighHeld l E _ _ _ T hC td (by omega)) ⟨rfl, rfl⟩ ⟨Nat.le_of_ble_eq_true rfl, Nat.le_of_ble_eq_true rfl⟩ [0, 1, 2, 3, 4, 5, 6, 7, 8, 9, 10, 11, 12, 13, 14, 15, 16, 17, 18, 19, 20, 21, 22, 23, 24, 25, 26, 27, 28, 29, 30, 31, 32, 33, 34, 35] rfl rfl 0 rfl dX7_leads_30 rfl rfl (Nat.le_of_ble_eq_true rfl) rfl ?_
      dsimp only [List.cons_append, List.nil_append, List.set_cons_succ, List.set_cons_zero, vput]
      refine rh_aload_n hX dX7_leads_33 rfl ?_
      refine rh_uV hX lk_X7_254 mvX7_rank (fun l => c_X7_rank l E _ _ (Z.1, Z.2.1, Z.2.2.1, Z.2.2.2.1, Z.2.2.2.2.1, (fun h => cHeld C.1 h td), Z.2.2.2.2.2.2)) ⟨rfl, rfl⟩ ⟨Nat.le_of_ble_eq_true rfl, Nat.le_of_ble_eq_true rfl⟩ [0, 1, 2, 3, 4, 5, 6, 7, 8, 9, 10, 11, 12, 13, 14, 15, 16, 17, 18, 19, 20, 21, 22, 23, 24, 25, 26, 27, 28, 29, 30, 31, 32, 33, 34, 35] rfl rfl 0 rfl dX7_leads_34 rfl rfl (Nat.le_of_ble_eq_true rfl) rfl ?_
      dsimp only [List.cons_append, List.nil_append, List.set_cons_succ, List.set_cons_zero, vput]
      refine rh_aload_n hX dX7_leads_37 rfl ?_
      refine rh_get hX gl_X7_68 0 dX7_leads_38 rfl rfl ?_
      refine rh_iconst hX dX7_leads_41 ki_0 ?_
      refine rh_iaload hX 35 _ dX7_leads_42 rfl rn_c0 (by omega) (by decide) ?_
      refine rh_ist4 hX dX7_leads_43 (by decide) rfl ?_
      refine rh_aload_n hX dX7_leads_45 rfl ?_
      refine rh_get hX gl_X7_12 0 dX7_leads_46 rfl rfl ?_
      refine rh_iload hX dX7_leads_49 rfl ?_
      refine rh_iload_n hX dX7_leads_51 rfl ?_
      refine rh_pV hX lk_X7_113 mvX1_held (fun l => c_X1_held l E _ _ _ (rkN (fun h => cHeld C.1 h td) 8 0) td (rkN_lt _ _ 8 (Nat.le_refl 8)) (by omega)) ⟨rfl, rfl⟩ ⟨Nat.le_of_ble_eq_true rfl, Nat.le_of_ble_eq_true rfl⟩ [1, 2] rfl rfl 1 rfl dX7_leads_52 rfl rfl (Nat.le_of_ble_eq_true rfl) ?_
      refine rh_lst5 hX dX7_leads_55 (by decide) rfl ?_
      refine rh_aload_n hX dX7_leads_57 rfl ?_
      refine rh_get hX gl_X7_40 0 dX7_leads_58 rfl rfl ?_
      refine rh_uV hX lk_X7_184 mvX3_clear (fun l => c_X3_clear l E _ _ _ _) ⟨rfl, rfl⟩ ⟨Nat.le_of_ble_eq_true rfl, Nat.le_of_ble_eq_true rfl⟩ [18, 19] rfl rfl 18 rfl dX7_leads_61 rfl rfl (Nat.le_of_ble_eq_true rfl) rfl ?_
      dsimp only [List.cons_append, List.nil_append, List.set_cons_succ, List.set_cons_zero, vput]
      refine rh_aload_n hX dX7_leads_64 rfl ?_
      refine rh_get hX gl_X7_40 0 dX7_leads_65 rfl rfl ?_
      refine rh_ldc2 hX dX7_leads_68 kl_X7_185 ?_
      refine rh_lload hX dX7_leads_71 rfl ?_
      refine rh_lmul hX dX7_leads_73 ?_
      refine rh_lload_n hX dX7_leads_74 rfl ?_
      refine rh_pS hX lk_X7_187 msX7_quotient (fun l => c_X7_quotient l E _ _) ⟨rfl, rfl⟩ ⟨Nat.le_of_ble_eq_true rfl, Nat.le_of_ble_eq_true rfl⟩ [] rfl rfl dX7_leads_75 rfl rfl (Nat.le_of_ble_eq_true rfl) ?_
      refine rh_uV hX lk_X7_181 mvX3_tell (fun l => c_X3_tell l E _ _ _ 0 _ (by omega)) ⟨rfl, rfl⟩ ⟨Nat.le_of_ble_eq_true rfl, Nat.le_of_ble_eq_true rfl⟩ [18, 19] rfl rfl 18 rfl dX7_leads_78 rfl rfl (Nat.le_of_ble_eq_true rfl) rfl ?_
      dsimp only [List.cons_append, List.nil_append, List.set_cons_succ, List.set_cons_zero, vput]
      refine rh_aload_n hX dX7_leads_81 rfl ?_
      refine rh_get hX gl_X7_40 0 dX7_leads_82 rfl rfl ?_
      refine rh_ldc2 hX dX7_leads_85 kl_X7_266 ?_
      refine rh_lload hX dX7_leads_88 rfl ?_
      refine rh_lmul hX dX7_leads_90 ?_
      refine rh_lload_n hX dX7_leads_91 rfl ?_
      refine rh_lle (tgt := 100) hX dX7_leads_92 dX7_leads_93 (by decide) (fun h93 => ?_) (fun h93 => ?_)
      · skip
        refine rh_lconst hX dX7_leads_100 kL_0 ?_
        refine rh_uV hX lk_X7_181 mvX3_tell (fun l => c_X3_tell l E _ _ _ (0 + 1) _ (by omega)) ⟨rfl, rfl⟩ ⟨Nat.le_of_ble_eq_true rfl, Nat.le_of_ble_eq_true rfl⟩ [18, 19] rfl rfl 18 rfl dX7_leads_101 rfl rfl (Nat.le_of_ble_eq_true rfl) rfl ?_
        dsimp only [List.cons_append, List.nil_append, List.set_cons_succ, List.set_cons_zero, vput]
        refine rh_iload hX dX7_leads_104 rfl ?_
        exact rh_iret hX hR dX7_leads_106 (by simp only [List.map_cons, List.map_nil, List.cons_append, List.nil_append]) (by refine ⟨(Z.1, Z.2.1, Z.2.2.1, Z.2.2.2.1, Z.2.2.2.2.1, (fun h => cHeld C.1 h td), (fun i => nI (rkN (fun h => cHeld C.1 h td) 8 i))), setRow C (va_up (va_up C.2.2.2.2.2.2.2.2.2.1 0 _) (0 + 1) _) (0 + 1 + 1), ?ga, hz, ?gb, rfl⟩; (case ga => rw [x_leads, if_neg h5, nI_clamp (show td < 2 ^ 31 by omega), if_neg h22] <;> rfl); (case gb => rw [x_leads, if_neg h5, nI_clamp (show td < 2 ^ 31 by omega), if_neg h22]; first | (rw [if_pos (show 2 * cHeld C.1 (rkN (UhF C td) 8 0) td ≤ cAllHeld C.1 td from h93)]; exact ⟨_, rowOk2 _ _ _, rfl⟩) | (rw [if_neg (show ¬ 2 * cHeld C.1 (rkN (UhF C td) 8 0) td ≤ cAllHeld C.1 td from h93)]; exact ⟨_, rowOk2 _ _ _, rfl⟩)))
      · skip
        refine rh_lconst hX dX7_leads_96 kL_1 ?_
        refine rh_goto (tgt := 101) hX dX7_leads_97 (by decide) ?_
        refine rh_uV hX lk_X7_181 mvX3_tell (fun l => c_X3_tell l E _ _ _ (0 + 1) _ (by omega)) ⟨rfl, rfl⟩ ⟨Nat.le_of_ble_eq_true rfl, Nat.le_of_ble_eq_true rfl⟩ [18, 19] rfl rfl 18 rfl dX7_leads_101 rfl rfl (Nat.le_of_ble_eq_true rfl) rfl ?_
        dsimp only [List.cons_append, List.nil_append, List.set_cons_succ, List.set_cons_zero, vput]
        refine rh_iload hX dX7_leads_104 rfl ?_
        exact rh_iret hX hR dX7_leads_106 (by simp only [List.map_cons, List.map_nil, List.cons_append, List.nil_append]) (by refine ⟨(Z.1, Z.2.1, Z.2.2.1, Z.2.2.2.1, Z.2.2.2.2.1, (fun h => cHeld C.1 h td), (fun i => nI (rkN (fun h => cHeld C.1 h td) 8 i))), setRow C (va_up (va_up C.2.2.2.2.2.2.2.2.2.1 0 _) (0 + 1) _) (0 + 1 + 1), ?ga, hz, ?gb, rfl⟩; (case ga => rw [x_leads, if_neg h5, nI_clamp (show td < 2 ^ 31 by omega), if_neg h22] <;> rfl); (case gb => rw [x_leads, if_neg h5, nI_clamp (show td < 2 ^ 31 by omega), if_neg h22]; first | (rw [if_pos (show 2 * cHeld C.1 (rkN (UhF C td) 8 0) td ≤ cAllHeld C.1 td from h93)]; exact ⟨_, rowOk2 _ _ _, rfl⟩) | (rw [if_neg (show ¬ 2 * cHeld C.1 (rkN (UhF C td) 8 0) td ≤ cAllHeld C.1 td from h93)]; exact ⟨_, rowOk2 _ _ _, rfl⟩)))
    · skip
      refine rh_bipush hX dX7_leads_25 kb_m2 ?_
      exact rh_iret hX hR dX7_leads_27 (by simp only [List.map_cons, List.map_nil, List.cons_append, List.nil_append]) (by first | exact ⟨Z, C, by rw [x_leads, if_neg h5, nI_clamp (show td < 2 ^ 31 by omega), if_pos h22] <;> rfl, hz, by rw [x_leads, if_neg h5, nI_clamp (show td < 2 ^ 31 by omega), if_pos h22] <;> rfl, rfl⟩)
  · skip
    refine rh_iconst hX dX7_leads_8 ki_m1 ?_
    exact rh_iret hX hR dX7_leads_9 (by simp only [List.map_cons, List.map_nil, List.cons_append, List.nil_append]) (by first | exact ⟨Z, C, by rw [x_leads, if_pos h5] <;> rfl, hz, by rw [x_leads, if_pos h5] <;> rfl, rfl⟩)

set_option maxRecDepth 100000 in
set_option maxHeartbeats 4000000 in
theorem c_X7_swingsOf (l : Launch) (E : rhE) (A : Nat → Nat) (C : CT) (Z : ZT) (hd : Nat) (hdl : hd < 8) (all : Int64)  : Ctr l E yX7_swingsOf cX7_swingsOf 9 (some .int) (rmL 0) [.ref (A 0), .int (nI hd), .long all] (wC E A C Z) (One (some (.int (nI (swN Z.2.2.2.2.2.1 hd all 256)))) (wC E A C Z)) := by
  refine Ctr.of (by decide) (Nat.le_of_ble_eq_true rfl) rfl rfl 5 ?_
  intro X hX hR
  refine rh_iconst hX dX7_swingsOf_0 ki_0 ?_
  refine rh_ist4 hX dX7_swingsOf_1 (by decide) rfl ?_
  refine rh_iconst hX dX7_swingsOf_3 ki_0 ?_
  refine rh_ist5 hX dX7_swingsOf_4 (by decide) rfl ?_
  suffices hP0 : G X 6 [some (.ref (A 0)), some (.int (nI hd)), some (.long all), none, some (.int (nI (swN Z.2.2.2.2.2.1 hd all 0))), some (.int 0), none, none, none] [] (wC E A C Z) by rw [swN_0] at hP0; exact hP0
  refine rh_loop (P := fun i => G X 6 [some (.ref (A 0)), some (.int (nI hd)), some (.long all), none, some (.int (nI (swN Z.2.2.2.2.2.1 hd all i))), some (.int (nI i)), none, none, none] [] (wC E A C Z)) (0) (256) (by omega) ?_ ?_
  · skip
    refine rh_iload hX dX7_swingsOf_6 rfl ?_
    refine rh_sipush hX dX7_swingsOf_8 ks_256 ?_
    refine rh_icmp_ge_t (tgt := 107) hX dX7_swingsOf_11 (by decide) (nI_le (a := 256) (b := 256) (Nat.le_refl 256) (by decide)) ?_
    refine rh_iload hX dX7_swingsOf_107 rfl ?_
    exact rh_iret hX hR dX7_swingsOf_109 (by simp only [List.map_cons, List.map_nil, List.cons_append, List.nil_append]) ⟨rfl, rfl⟩
  · intro i hi0 hi ih
    refine rh_iload hX dX7_swingsOf_6 rfl ?_
    refine rh_sipush hX dX7_swingsOf_8 ks_256 ?_
    refine rh_icmp_ge_f (tgt := 107) hX dX7_swingsOf_11 (by decide) (nI_ge (b := 256) hi (by decide)) ?_
    refine rh_iload hX dX7_swingsOf_14 rfl ?_
    refine rh_iload_n hX dX7_swingsOf_16 rfl ?_
    refine rh_ishr hX dX7_swingsOf_17 ?_
    refine rh_iconst hX dX7_swingsOf_18 ki_1 ?_
    refine rh_iand hX dX7_swingsOf_19 ?_
    refine rh_if_ne (tgt := 101) hX dX7_swingsOf_20 (by decide) (fun h20 => ?_) (fun h20 => ?_)
    · skip
      refine rh_inc5 hX dX7_swingsOf_101 (by decide) rfl (rn_i1 _) ?_
      refine rh_goto (tgt := 6) hX dX7_swingsOf_104 (by decide) ?_
      first | (rw [swN_s, if_neg h20] at ih; exact rh_wk (by exact ⟨rfl, rfl, rfl, rfl, rfl, trivial⟩) ih) | (rw [swN_s, if_pos h20, if_pos h77] at ih; exact rh_wk (by exact ⟨rfl, rfl, rfl, rfl, rfl, trivial⟩) ih) | (rw [swN_s, if_pos h20, if_neg h77, if_pos h95] at ih; exact rh_wk (by exact ⟨rfl, rfl, rfl, rfl, rfl, trivial⟩) ih) | (rw [swN_s, if_pos h20, if_neg h77, if_neg h95] at ih; exact rh_wk (by exact ⟨rfl, rfl, rfl, rfl, rfl, trivial⟩) ih)
    · skip
      refine rh_lconst hX dX7_swingsOf_23 kL_0 ?_
      refine rh_lst6 hX dX7_swingsOf_24 (by decide) rfl ?_
      refine rh_iconst hX dX7_swingsOf_26 ki_0 ?_
      refine rh_ist8 hX dX7_swingsOf_27 (by decide) rfl ?_
      suffices hP1 : G X 29 [some (.ref (A 0)), some (.int (nI hd)), some (.long all), none, some (.int (nI (swN Z.2.2.2.2.2.1 hd all i))), some (.int (nI i)), some (.long (shv Z.2.2.2.2.2.1 i 0)), none, some (.int 0)] [] (wC E A C Z) by rw [shv_0] at hP1; exact hP1
      refine rh_loop (P := fun o => G X 29 [some (.ref (A 0)), some (.int (nI hd)), some (.long all), none, some (.int (nI (swN Z.2.2.2.2.2.1 hd all i))), some (.int (nI i)), some (.long (shv Z.2.2.2.2.2.1 i o)), none, some (.int (nI o))] [] (wC E A C Z)) (0) (8) (by omega) ?_ ?_
      · skip
        refine rh_iload hX dX7_swingsOf_29 rfl ?_
        refine rh_bipush hX dX7_swingsOf_31 kb_8 ?_
        refine rh_icmp_ge_t (tgt := 69) hX dX7_swingsOf_33 (by decide) (nI_le (a := 8) (b := 8) (Nat.le_refl 8) (by decide)) ?_
        refine rh_ldc2 hX dX7_swingsOf_69 kl_X7_266 ?_
        refine rh_lload hX dX7_swingsOf_72 rfl ?_
        refine rh_lmul hX dX7_swingsOf_74 ?_
        refine rh_lload_n hX dX7_swingsOf_75 rfl ?_
        refine rh_lgt (tgt := 101) hX dX7_swingsOf_76 dX7_swingsOf_77 (by decide) (fun h77 => ?_) (fun h77 => ?_)
        · skip
          refine rh_inc5 hX dX7_swingsOf_101 (by decide) rfl (rn_i1 _) ?_
          refine rh_goto (tgt := 6) hX dX7_swingsOf_104 (by decide) ?_
          first | (rw [swN_s, if_neg h20] at ih; exact rh_wk (by exact ⟨rfl, rfl, rfl, rfl, rfl, trivial⟩) ih) | (rw [swN_s, if_pos h20, if_pos h77] at ih; exact rh_wk (by exact ⟨rfl, rfl, rfl, rfl, rfl, trivial⟩) ih) | (rw [swN_s, if_pos h20, if_neg h77, if_pos h95] at ih; exact rh_wk (by exact ⟨rfl, rfl, rfl, rfl, rfl, trivial⟩) ih) | (rw [swN_s, if_pos h20, if_neg h77, if_neg h95] at ih; exact rh_wk (by exact ⟨rfl, rfl, rfl, rfl, rfl, trivial⟩) ih)
        · skip
          refine rh_ldc2 hX dX7_swingsOf_80 kl_X7_266 ?_
          refine rh_lload hX dX7_swingsOf_83 rfl ?_
          refine rh_aload_n hX dX7_swingsOf_85 rfl ?_
          refine rh_get hX gl_X7_65 0 dX7_swingsOf_86 rfl rfl ?_
          refine rh_iload_n hX dX7_swingsOf_89 rfl ?_
          refine rh_laload hX 34 _ dX7_swingsOf_90 rfl rfl (by omega) (by decide) ?_
          refine rh_ladd hX dX7_swingsOf_91 ?_
          refine rh_lmul hX dX7_swingsOf_92 ?_
          refine rh_lload_n hX dX7_swingsOf_93 rfl ?_
          refine rh_lle (tgt := 101) hX dX7_swingsOf_94 dX7_swingsOf_95 (by decide) (fun h95 => ?_) (fun h95 => ?_)
          · skip
            refine rh_inc5 hX dX7_swingsOf_101 (by decide) rfl (rn_i1 _) ?_
            refine rh_goto (tgt := 6) hX dX7_swingsOf_104 (by decide) ?_
            first | (rw [swN_s, if_neg h20] at ih; exact rh_wk (by exact ⟨rfl, rfl, rfl, rfl, rfl, trivial⟩) ih) | (rw [swN_s, if_pos h20, if_pos h77] at ih; exact rh_wk (by exact ⟨rfl, rfl, rfl, rfl, rfl, trivial⟩) ih) | (rw [swN_s, if_pos h20, if_neg h77, if_pos h95] at ih; exact rh_wk (by exact ⟨rfl, rfl, rfl, rfl, rfl, trivial⟩) ih) | (rw [swN_s, if_pos h20, if_neg h77, if_neg h95] at ih; exact rh_wk (by exact ⟨rfl, rfl, rfl, rfl, rfl, trivial⟩) ih)
          · skip
            refine rh_inc4 hX dX7_swingsOf_98 (by decide) rfl (rn_i1 _) ?_
            refine rh_inc5 hX dX7_swingsOf_101 (by decide) rfl (rn_i1 _) ?_
            refine rh_goto (tgt := 6) hX dX7_swingsOf_104 (by decide) ?_
            first | (rw [swN_s, if_neg h20] at ih; exact rh_wk (by exact ⟨rfl, rfl, rfl, rfl, rfl, trivial⟩) ih) | (rw [swN_s, if_pos h20, if_pos h77] at ih; exact rh_wk (by exact ⟨rfl, rfl, rfl, rfl, rfl, trivial⟩) ih) | (rw [swN_s, if_pos h20, if_neg h77, if_pos h95] at ih; exact rh_wk (by exact ⟨rfl, rfl, rfl, rfl, rfl, trivial⟩) ih) | (rw [swN_s, if_pos h20, if_neg h77, if_neg h95] at ih; exact rh_wk (by exact ⟨rfl, rfl, rfl, rfl, rfl, trivial⟩) ih)
      · intro o ho0 ho iho
        refine rh_iload hX dX7_swingsOf_29 rfl ?_
        refine rh_bipush hX dX7_swingsOf_31 kb_8 ?_
        refine rh_icmp_ge_f (tgt := 69) hX dX7_swingsOf_33 (by decide) (nI_ge (b := 8) ho (by decide)) ?_
        refine rh_lload hX dX7_swingsOf_36 rfl ?_
        refine rh_iload hX dX7_swingsOf_38 rfl ?_
        refine rh_iload hX dX7_swingsOf_40 rfl ?_
        refine rh_ishr hX dX7_swingsOf_42 ?_
        refine rh_iconst hX dX7_swingsOf_43 ki_1 ?_
        refine rh_iand hX dX7_swingsOf_44 ?_
        refine rh_iconst hX dX7_swingsOf_45 ki_1 ?_
        refine rh_icmp_ne (tgt := 59) hX dX7_swingsOf_46 (by decide) (fun h46 => ?_) (fun h46 => ?_)
        · skip
          refine rh_lconst hX dX7_swingsOf_59 kL_0 ?_
          refine rh_ladd hX dX7_swingsOf_60 ?_
          refine rh_lst6 hX dX7_swingsOf_61 (by decide) rfl ?_
          refine rh_inc8 hX dX7_swingsOf_63 (by decide) rfl (rn_i1 _) ?_
          refine rh_goto (tgt := 29) hX dX7_swingsOf_66 (by decide) ?_
          first | (rw [shv_s, if_pos h46] at iho; exact iho) | (rw [shv_s, if_neg h46] at iho; exact iho)
        · skip
          refine rh_aload_n hX dX7_swingsOf_49 rfl ?_
          refine rh_get hX gl_X7_65 0 dX7_swingsOf_50 rfl rfl ?_
          refine rh_iload hX dX7_swingsOf_53 rfl ?_
          refine rh_laload hX 34 _ dX7_swingsOf_55 rfl rfl (by omega) (by decide) ?_
          refine rh_goto (tgt := 60) hX dX7_swingsOf_56 (by decide) ?_
          refine rh_ladd hX dX7_swingsOf_60 ?_
          refine rh_lst6 hX dX7_swingsOf_61 (by decide) rfl ?_
          refine rh_inc8 hX dX7_swingsOf_63 (by decide) rfl (rn_i1 _) ?_
          refine rh_goto (tgt := 29) hX dX7_swingsOf_66 (by decide) ?_
          first | (rw [shv_s, if_pos h46] at iho; exact iho) | (rw [shv_s, if_neg h46] at iho; exact iho)

set_option maxRecDepth 100000 in
set_option maxHeartbeats 4000000 in
theorem c_X7_swing (l : Launch) (E : rhE) (A : Nat → Nat) (C : CT) (Z : ZT) (h : Int32) (T : Nat) (hC : cOk C T) (hz : zOk Z) : Ctr l E yX7_swing cX7_swing 7 (some .int) (rmL 4) [.ref (A 0), .int h] (wC E A C Z) (fun r w => ∃ Z1 C1, r = some (Value.int (x_swing C T h).1) ∧ zOk Z1 ∧ rowTold C C1 (x_swing C T h).2 ∧ w = wC E A C1 Z1) := by
  refine Ctr.of (by decide) (Nat.le_of_ble_eq_true rfl) rfl rfl 5 ?_
  intro X hX hR
  obtain ⟨hT, hT1, hT6, hnx, hud, hn, hrn⟩ := id hC
  refine rh_iload_n hX dX7_swing_0 rfl ?_
  refine rh_pS hX lk_X7_104 msX7_isHolder (fun l => c_X7_isHolder l E _) ⟨rfl, rfl⟩ ⟨Nat.le_of_ble_eq_true rfl, Nat.le_of_ble_eq_true rfl⟩ [] rfl rfl dX7_swing_1 rfl rfl (Nat.le_of_ble_eq_true rfl) ?_
  refine rh_if_ne (tgt := 9) hX dX7_swing_4 (by decide) (fun h4 => ?_) (fun h4 => ?_)
  · skip
    obtain ⟨hd, rfl, hdl⟩ := xH_1 h4
    refine rh_aload_n hX dX7_swing_9 rfl ?_
    refine rh_uV hX lk_X7_257 mvX7_weighVotes (fun l => c_X7_weighVotes l E _ _ _ T hC) ⟨rfl, rfl⟩ ⟨Nat.le_of_ble_eq_true rfl, Nat.le_of_ble_eq_true rfl⟩ [0, 1, 2, 3, 4, 5, 6, 7, 8, 9, 10, 11, 12, 13, 14, 15, 16, 17, 18, 19, 20, 21, 22, 23, 24, 25, 26, 27, 28, 29, 30, 31, 32, 33, 34, 35] rfl rfl 0 rfl dX7_swing_10 rfl rfl (Nat.le_of_ble_eq_true rfl) rfl ?_
    dsimp only [List.cons_append, List.nil_append, List.set_cons_succ, List.set_cons_zero, vput]
    refine rh_aload_n hX dX7_swing_13 rfl ?_
    refine rh_get hX gl_X7_12 0 dX7_swing_14 rfl rfl ?_
    refine rh_pV hX lk_X7_230 mvX1_allVotes (fun l => c_X1_allVotes l E _ _ _ T hT hT6) ⟨rfl, rfl⟩ ⟨Nat.le_of_ble_eq_true rfl, Nat.le_of_ble_eq_true rfl⟩ [1, 2] rfl rfl 1 rfl dX7_swing_17 rfl rfl (Nat.le_of_ble_eq_true rfl) ?_
    refine rh_lstn2 hX dX7_swing_20 (by decide) rfl ?_
    refine rh_iconst hX dX7_swing_21 ki_0 ?_
    refine rh_ist4 hX dX7_swing_22 (by decide) rfl ?_
    refine rh_aload_n hX dX7_swing_24 rfl ?_
    refine rh_get hX gl_X7_40 0 dX7_swing_25 rfl rfl ?_
    refine rh_uV hX lk_X7_184 mvX3_clear (fun l => c_X3_clear l E _ _ _ _) ⟨rfl, rfl⟩ ⟨Nat.le_of_ble_eq_true rfl, Nat.le_of_ble_eq_true rfl⟩ [18, 19] rfl rfl 18 rfl dX7_swing_28 rfl rfl (Nat.le_of_ble_eq_true rfl) rfl ?_
    dsimp only [List.cons_append, List.nil_append, List.set_cons_succ, List.set_cons_zero, vput]
    refine rh_iconst hX dX7_swing_31 ki_0 ?_
    refine rh_ist5 hX dX7_swing_32 (by decide) rfl ?_
    refine (rh_loop (P := fun i => ∀ g1, rowOk g1 ((List.range i).map (fun i => (swS C T i).toInt64)) → G X 34 [some (.ref (A 0)), some (.int (nI hd)), some (.long (cAllVotes C.1 T)), none, some (.int (if hd < i then swS C T hd else 0)), some (.int (nI i)), none] [] (wC E A (setRow C g1 i) (Z.1, Z.2.1, Z.2.2.1, Z.2.2.2.1, Z.2.2.2.2.1, (fun h => cVotes C.1 h T), Z.2.2.2.2.2.2))) (0) (8) (by omega) ?_ ?_) _ (rowOk_nil _)
    · intro g1 hg
      rw [if_pos hdl]
      refine rh_iload hX dX7_swing_34 rfl ?_
      refine rh_bipush hX dX7_swing_36 kb_8 ?_
      refine rh_icmp_ge_t (tgt := 76) hX dX7_swing_38 (by decide) (nI_le (a := 8) (b := 8) (Nat.le_refl 8) (by decide)) ?_
      refine rh_iload hX dX7_swing_76 rfl ?_
      exact rh_iret hX hR dX7_swing_78 (by simp only [List.map_cons, List.map_nil, List.cons_append, List.nil_append]) ⟨(Z.1, Z.2.1, Z.2.2.1, Z.2.2.2.1, Z.2.2.2.2.1, (fun h => cVotes C.1 h T), Z.2.2.2.2.2.2), setRow C g1 8, by rw [x_swing, if_neg h4, nI_clamp (show hd < 2 ^ 31 by omega)], hz, by rw [x_swing, if_neg h4, nI_clamp (show hd < 2 ^ 31 by omega)]; exact ⟨_, hg, by rw [List.length_map, List.length_range]⟩, rfl⟩
    · intro i hi0 hi ih g1 hg
      refine rh_iload hX dX7_swing_34 rfl ?_
      refine rh_bipush hX dX7_swing_36 kb_8 ?_
      refine rh_icmp_ge_f (tgt := 76) hX dX7_swing_38 (by decide) (nI_ge (b := 8) hi (by decide)) ?_
      refine rh_aload_n hX dX7_swing_41 rfl ?_
      refine rh_iload hX dX7_swing_42 rfl ?_
      refine rh_lload_n hX dX7_swing_44 rfl ?_
      refine rh_pV hX lk_X7_285 mvX7_swingsOf (fun l => c_X7_swingsOf l E _ _ _ i (by omega) _) ⟨rfl, rfl⟩ ⟨Nat.le_of_ble_eq_true rfl, Nat.le_of_ble_eq_true rfl⟩ [0, 1, 2, 3, 4, 5, 6, 7, 8, 9, 10, 11, 12, 13, 14, 15, 16, 17, 18, 19, 20, 21, 22, 23, 24, 25, 26, 27, 28, 29, 30, 31, 32, 33, 34, 35] rfl rfl 0 rfl dX7_swing_45 rfl rfl (Nat.le_of_ble_eq_true rfl) ?_
      refine rh_ist6 hX dX7_swing_48 (by decide) rfl ?_
      refine rh_aload_n hX dX7_swing_50 rfl ?_
      refine rh_get hX gl_X7_40 0 dX7_swing_51 rfl rfl ?_
      refine rh_iload hX dX7_swing_54 rfl ?_
      refine rh_i2l hX dX7_swing_56 ?_
      refine rh_uV hX lk_X7_181 mvX3_tell (fun l => c_X3_tell l E _ _ _ i _ (by omega)) ⟨rfl, rfl⟩ ⟨Nat.le_of_ble_eq_true rfl, Nat.le_of_ble_eq_true rfl⟩ [18, 19] rfl rfl 18 rfl dX7_swing_57 rfl rfl (Nat.le_of_ble_eq_true rfl) rfl ?_
      dsimp only [List.cons_append, List.nil_append, List.set_cons_succ, List.set_cons_zero, vput]
      refine rh_iload hX dX7_swing_60 rfl ?_
      refine rh_iload_n hX dX7_swing_62 rfl ?_
      refine rh_icmp_ne (tgt := 70) hX dX7_swing_63 (by decide) (fun h63 => ?_) (fun h63 => ?_)
      · skip
        refine rh_inc5 hX dX7_swing_70 (by decide) rfl (rn_i1 _) ?_
        refine rh_goto (tgt := 34) hX dX7_swing_73 (by decide) ?_
        first | (rw [sw_eq (rn_inj h63 (by omega) (by omega))] at ih; have ih2 := ih _ (by rw [range_push]; exact rowOk_push _ hg (by rw [List.length_map, List.length_range])); rw [← rn_inj h63 (by omega) (by omega)] at ih2 ⊢; exact rh_wk (by exact ⟨rfl, rfl, rfl, rfl, rfl, trivial⟩) ih2) | (rw [sw_ne (fun q => h63 (by rw [q]))] at ih; exact rh_wk (by exact ⟨rfl, rfl, rfl, rfl, rfl, trivial⟩) (ih _ (by rw [range_push]; exact rowOk_push _ hg (by rw [List.length_map, List.length_range]))))
      · skip
        refine rh_iload hX dX7_swing_66 rfl ?_
        refine rh_ist4 hX dX7_swing_68 (by decide) rfl ?_
        refine rh_inc5 hX dX7_swing_70 (by decide) rfl (rn_i1 _) ?_
        refine rh_goto (tgt := 34) hX dX7_swing_73 (by decide) ?_
        first | (rw [sw_eq (rn_inj h63 (by omega) (by omega))] at ih; have ih2 := ih _ (by rw [range_push]; exact rowOk_push _ hg (by rw [List.length_map, List.length_range])); rw [← rn_inj h63 (by omega) (by omega)] at ih2 ⊢; exact rh_wk (by exact ⟨rfl, rfl, rfl, rfl, rfl, trivial⟩) ih2) | (rw [sw_ne (fun q => h63 (by rw [q]))] at ih; exact rh_wk (by exact ⟨rfl, rfl, rfl, rfl, rfl, trivial⟩) (ih _ (by rw [range_push]; exact rowOk_push _ hg (by rw [List.length_map, List.length_range]))))
  · skip
    refine rh_iconst hX dX7_swing_7 ki_m1 ?_
    exact rh_iret hX hR dX7_swing_8 (by simp only [List.map_cons, List.map_nil, List.cons_append, List.nil_append]) (by first | exact ⟨Z, C, by rw [x_swing, if_pos h4] <;> rfl, hz, by rw [x_swing, if_pos h4] <;> rfl, rfl⟩)
