def tByte (v sh : Int32) : Int32 := vp_nar .char (((v.toUInt32 >>> (sh.toUInt32 &&& Int32.toUInt32 31)).toInt32 &&& 255).toUInt32 % 65536).toInt32
/-- four signs behind THE TEXT -/
def tAdd (s : Nat → Int32) (n : Nat) (v : Int32) : Nat → Int32 := va_up (va_up (va_up (va_up s n (tByte v 24)) (n + 1) (tByte v 16)) (n + 1 + 1) (tByte v 8)) (n + 1 + 1 + 1) (tByte v 0)
def cutN (n : Nat) (x : Int32) : Option Nat := if x < 0 then none else if nI n < x then none else some x.toNatClampNeg
theorem nI_back {x : Int32} (h : ¬ x < 0) : nI x.toNatClampNeg = x := by
  obtain ⟨k, rfl, hk⟩ := rn_ex (x := x) (by rw [Int32.le_iff_toInt_le]; rw [Int32.lt_iff_toInt_lt] at h; omega)
  rw [nI_clamp hk]

set_option maxRecDepth 100000 in
set_option maxHeartbeats 4000000 in
theorem c_X6_adds (l : Launch) (E : rhE) (o a : Nat) (s : Nat → Int32) (n k : Nat) (v : Int32) (hn : n ≤ 200) : Ctr l E yX6_adds cX6_adds 3 (some .int) (rmL 0) [.ref o, .int v] (wX E o a s n k) (One (some (.int (if n + 4 ≤ 200 then nI (n + 4) else -1))) (wX E o a (if n + 4 ≤ 200 then tAdd s n v else s) (if n + 4 ≤ 200 then n + 4 else n) k)) := by
  refine Ctr.of (by decide) (Nat.le_of_ble_eq_true rfl) rfl rfl 1 ?_
  intro X hX hR
  refine rh_aload_n hX dX6_adds_0 rfl ?_
  refine rh_get hX gl_X6_15 0 dX6_adds_1 rfl rfl ?_
  refine rh_iconst hX dX6_adds_4 ki_4 ?_
  refine rh_iadd hX dX6_adds_5 ?_
  refine rh_sipush hX dX6_adds_6 ks_200 ?_
  rw [show nI n + 4 = nI (n + 4) from rn_add n 4]
  refine rh_icmp_le (tgt := 14) hX dX6_adds_9 (by decide) (fun h9 => ?_) (fun h9 => ?_)
  · skip
    have h9 : n + 4 ≤ 200 := rn_leI (b := 200) h9 (by omega) (by decide)
    refine rh_bipush hX dX6_adds_14 kb_24 ?_
    refine rh_istn2 hX dX6_adds_16 (by decide) rfl ?_
    refine rh_iload_n hX dX6_adds_17 rfl ?_
    refine rh_if_lt_f (tgt := 54) hX dX6_adds_18 (by decide) (by decide) ?_
    refine rh_aload_n hX dX6_adds_21 rfl ?_
    refine rh_get hX gl_X6_9 0 dX6_adds_22 rfl rfl ?_
    refine rh_aload_n hX dX6_adds_25 rfl ?_
    refine rh_get hX gl_X6_15 0 dX6_adds_26 rfl rfl ?_
    refine rh_iload_n hX dX6_adds_29 rfl ?_
    refine rh_iload_n hX dX6_adds_30 rfl ?_
    refine rh_iushr hX dX6_adds_31 ?_
    refine rh_sipush hX dX6_adds_32 ks_255 ?_
    refine rh_iand hX dX6_adds_35 ?_
    refine rh_i2c hX dX6_adds_36 ?_
    refine rh_castore hX 1 (n) dX6_adds_37 rfl (show nI (n) = nI (n) from rfl) (by omega) (by decide) rfl ?_
    dsimp only [List.cons_append, List.nil_append, List.set_cons_succ, List.set_cons_zero, vput]
    refine rh_aload_n hX dX6_adds_38 rfl ?_
    refine rh_dup hX dX6_adds_39 rfl ?_
    refine rh_get hX gl_X6_15 0 dX6_adds_40 rfl rfl ?_
    refine rh_iconst hX dX6_adds_43 ki_1 ?_
    refine rh_iadd hX dX6_adds_44 ?_
    rw [show nI (n) + 1 = nI (n + 1) from (nI_succ (n)).symm]
    refine rh_put hX gl_X6_15 0 dX6_adds_45 rfl rfl rfl (Nat.le_of_ble_eq_true rfl) rfl ?_
    dsimp only [List.cons_append, List.nil_append, List.set_cons_succ, List.set_cons_zero, vput]
    refine rh_inc2 hX dX6_adds_48 (by decide) rfl (show (24 : Int32) + Int32.ofInt (-8) = 16 by decide) ?_
    refine rh_goto (tgt := 17) hX dX6_adds_51 (by decide) ?_
    refine rh_iload_n hX dX6_adds_17 rfl ?_
    refine rh_if_lt_f (tgt := 54) hX dX6_adds_18 (by decide) (by decide) ?_
    refine rh_aload_n hX dX6_adds_21 rfl ?_
    refine rh_get hX gl_X6_9 0 dX6_adds_22 rfl rfl ?_
    refine rh_aload_n hX dX6_adds_25 rfl ?_
    refine rh_get hX gl_X6_15 0 dX6_adds_26 rfl rfl ?_
    refine rh_iload_n hX dX6_adds_29 rfl ?_
    refine rh_iload_n hX dX6_adds_30 rfl ?_
    refine rh_iushr hX dX6_adds_31 ?_
    refine rh_sipush hX dX6_adds_32 ks_255 ?_
    refine rh_iand hX dX6_adds_35 ?_
    refine rh_i2c hX dX6_adds_36 ?_
    refine rh_castore hX 1 (n + 1) dX6_adds_37 rfl (show nI (n + 1) = nI (n + 1) from rfl) (by omega) (by decide) rfl ?_
    dsimp only [List.cons_append, List.nil_append, List.set_cons_succ, List.set_cons_zero, vput]
    refine rh_aload_n hX dX6_adds_38 rfl ?_
    refine rh_dup hX dX6_adds_39 rfl ?_
    refine rh_get hX gl_X6_15 0 dX6_adds_40 rfl rfl ?_
    refine rh_iconst hX dX6_adds_43 ki_1 ?_
    refine rh_iadd hX dX6_adds_44 ?_
    rw [show nI (n + 1) + 1 = nI (n + 1 + 1) from (nI_succ (n + 1)).symm]
    refine rh_put hX gl_X6_15 0 dX6_adds_45 rfl rfl rfl (Nat.le_of_ble_eq_true rfl) rfl ?_
    dsimp only [List.cons_append, List.nil_append, List.set_cons_succ, List.set_cons_zero, vput]
    refine rh_inc2 hX dX6_adds_48 (by decide) rfl (show (16 : Int32) + Int32.ofInt (-8) = 8 by decide) ?_
    refine rh_goto (tgt := 17) hX dX6_adds_51 (by decide) ?_
    refine rh_iload_n hX dX6_adds_17 rfl ?_
    refine rh_if_lt_f (tgt := 54) hX dX6_adds_18 (by decide) (by decide) ?_
    refine rh_aload_n hX dX6_adds_21 rfl ?_
    refine rh_get hX gl_X6_9 0 dX6_adds_22 rfl rfl ?_
    refine rh_aload_n hX dX6_adds_25 rfl ?_
    refine rh_get hX gl_X6_15 0 dX6_adds_26 rfl rfl ?_
    refine rh_iload_n hX dX6_adds_29 rfl ?_
    refine rh_iload_n hX dX6_adds_30 rfl ?_
    refine rh_iushr hX dX6_adds_31 ?_
    refine rh_sipush hX dX6_adds_32 ks_255 ?_
    refine rh_iand hX dX6_adds_35 ?_
    refine rh_i2c hX dX6_adds_36 ?_
    refine rh_castore hX 1 (n + 1 + 1) dX6_adds_37 rfl (show nI (n + 1 + 1) = nI (n + 1 + 1) from rfl) (by omega) (by decide) rfl ?_
    dsimp only [List.cons_append, List.nil_append, List.set_cons_succ, List.set_cons_zero, vput]
    refine rh_aload_n hX dX6_adds_38 rfl ?_
    refine rh_dup hX dX6_adds_39 rfl ?_
    refine rh_get hX gl_X6_15 0 dX6_adds_40 rfl rfl ?_
    refine rh_iconst hX dX6_adds_43 ki_1 ?_
    refine rh_iadd hX dX6_adds_44 ?_
    rw [show nI (n + 1 + 1) + 1 = nI (n + 1 + 1 + 1) from (nI_succ (n + 1 + 1)).symm]
    refine rh_put hX gl_X6_15 0 dX6_adds_45 rfl rfl rfl (Nat.le_of_ble_eq_true rfl) rfl ?_
    dsimp only [List.cons_append, List.nil_append, List.set_cons_succ, List.set_cons_zero, vput]
    refine rh_inc2 hX dX6_adds_48 (by decide) rfl (show (8 : Int32) + Int32.ofInt (-8) = 0 by decide) ?_
    refine rh_goto (tgt := 17) hX dX6_adds_51 (by decide) ?_
    refine rh_iload_n hX dX6_adds_17 rfl ?_
    refine rh_if_lt_f (tgt := 54) hX dX6_adds_18 (by decide) (by decide) ?_
    refine rh_aload_n hX dX6_adds_21 rfl ?_
    refine rh_get hX gl_X6_9 0 dX6_adds_22 rfl rfl ?_
    refine rh_aload_n hX dX6_adds_25 rfl ?_
    refine rh_get hX gl_X6_15 0 dX6_adds_26 rfl rfl ?_
    refine rh_iload_n hX dX6_adds_29 rfl ?_
    refine rh_iload_n hX dX6_adds_30 rfl ?_
    refine rh_iushr hX dX6_adds_31 ?_
    refine rh_sipush hX dX6_adds_32 ks_255 ?_
    refine rh_iand hX dX6_adds_35 ?_
    refine rh_i2c hX dX6_adds_36 ?_
    refine rh_castore hX 1 (n + 1 + 1 + 1) dX6_adds_37 rfl (show nI (n + 1 + 1 + 1) = nI (n + 1 + 1 + 1) from rfl) (by omega) (by decide) rfl ?_
    dsimp only [List.cons_append, List.nil_append, List.set_cons_succ, List.set_cons_zero, vput]
    refine rh_aload_n hX dX6_adds_38 rfl ?_
    refine rh_dup hX dX6_adds_39 rfl ?_
    refine rh_get hX gl_X6_15 0 dX6_adds_40 rfl rfl ?_
    refine rh_iconst hX dX6_adds_43 ki_1 ?_
    refine rh_iadd hX dX6_adds_44 ?_
    rw [show nI (n + 1 + 1 + 1) + 1 = nI (n + 1 + 1 + 1 + 1) from (nI_succ (n + 1 + 1 + 1)).symm]
    refine rh_put hX gl_X6_15 0 dX6_adds_45 rfl rfl rfl (Nat.le_of_ble_eq_true rfl) rfl ?_
    dsimp only [List.cons_append, List.nil_append, List.set_cons_succ, List.set_cons_zero, vput]
    refine rh_inc2 hX dX6_adds_48 (by decide) rfl (show (0 : Int32) + Int32.ofInt (-8) = -8 by decide) ?_
    refine rh_goto (tgt := 17) hX dX6_adds_51 (by decide) ?_
    refine rh_iload_n hX dX6_adds_17 rfl ?_
    refine rh_if_lt_t (tgt := 54) hX dX6_adds_18 (by decide) (by decide) ?_
    refine rh_aload_n hX dX6_adds_54 rfl ?_
    refine rh_get hX gl_X6_15 0 dX6_adds_55 rfl rfl ?_
    exact rh_iret hX hR dX6_adds_58 (by simp only [List.map_cons, List.map_nil, List.cons_append, List.nil_append]) ⟨by rw [if_pos h9], by rw [if_pos h9, if_pos h9]; rfl⟩
  · skip
    have h9 : ¬ n + 4 ≤ 200 := fun q => h9 (nI_le (b := 200) q (by decide))
    refine rh_iconst hX dX6_adds_12 ki_m1 ?_
    exact rh_iret hX hR dX6_adds_13 (by simp only [List.map_cons, List.map_nil, List.cons_append, List.nil_append]) ⟨by rw [if_neg h9], by rw [if_neg h9, if_neg h9]⟩

set_option maxRecDepth 100000 in
set_option maxHeartbeats 4000000 in
theorem c_X6_cutsTo (l : Launch) (E : rhE) (o a : Nat) (s : Nat → Int32) (n k : Nat) (x : Int32) (hn : n ≤ 200) : Ctr l E yX6_cutsTo cX6_cutsTo 2 (some .boolean) (rmL 0) [.ref o, .int x] (wX E o a s n k) (One (some (.int (if (cutN n x).isSome = true then 1 else 0))) (wX E o a s ((cutN n x).getD n) k)) := by
  refine Ctr.of (by decide) (Nat.le_of_ble_eq_true rfl) rfl rfl 0 ?_
  intro X hX hR
  refine rh_iload_n hX dX6_cutsTo_0 rfl ?_
  refine rh_if_lt (tgt := 12) hX dX6_cutsTo_1 (by decide) (fun h1 => ?_) (fun h1 => ?_)
  · skip
    have hc : cutN n x = none := by rw [cutN, if_pos h1]
    refine rh_iconst hX dX6_cutsTo_12 ki_0 ?_
    exact rh_zret hX hR dX6_cutsTo_13 rfl (by simp only [List.map_cons, List.map_nil, List.cons_append, List.nil_append]) ⟨by rw [hc]; rfl, by rw [hc]; rfl⟩
  · skip
    refine rh_iload_n hX dX6_cutsTo_4 rfl ?_
    refine rh_aload_n hX dX6_cutsTo_5 rfl ?_
    refine rh_get hX gl_X6_15 0 dX6_cutsTo_6 rfl rfl ?_
    refine rh_icmp_le (tgt := 14) hX dX6_cutsTo_9 (by decide) (fun h9 => ?_) (fun h9 => ?_)
    · skip
      have hc : cutN n x = some x.toNatClampNeg := by rw [cutN, if_neg h1, if_neg (fun q => by rw [Int32.lt_iff_toInt_lt] at q; rw [Int32.le_iff_toInt_le] at h9; omega)]
      refine rh_aload_n hX dX6_cutsTo_14 rfl ?_
      refine rh_iload_n hX dX6_cutsTo_15 rfl ?_
      rw [show Value.int x = Value.int (nI x.toNatClampNeg) by rw [nI_back h1]]
      refine rh_put hX gl_X6_15 0 dX6_cutsTo_16 rfl rfl rfl (Nat.le_of_ble_eq_true rfl) rfl ?_
      dsimp only [List.cons_append, List.nil_append, List.set_cons_succ, List.set_cons_zero, vput]
      refine rh_iconst hX dX6_cutsTo_19 ki_1 ?_
      exact rh_zret hX hR dX6_cutsTo_20 rfl (by simp only [List.map_cons, List.map_nil, List.cons_append, List.nil_append]) ⟨by rw [hc]; rfl, by rw [hc]; rfl⟩
    · skip
      have hc : cutN n x = none := by rw [cutN, if_neg h1, if_pos (by rw [Int32.lt_iff_toInt_lt]; rw [Int32.le_iff_toInt_le] at h9; omega)]
      refine rh_iconst hX dX6_cutsTo_12 ki_0 ?_
      exact rh_zret hX hR dX6_cutsTo_13 rfl (by simp only [List.map_cons, List.map_nil, List.cons_append, List.nil_append]) ⟨by rw [hc]; rfl, by rw [hc]; rfl⟩

/-- numbers with commas: m of them may come still -/
def rnF (s : Nat → Int32) (n : Nat) : Nat → Nat → Nat → (Nat → Int64) → Bool × Nat × (Nat → Int64)
  | 0, _, k, g => (false, k, g)
  | m + 1, i, k, g => if (rdN s n k 0 1000000000).1 < 0 then (false, (rdN s n k 0 1000000000).2, g) else if (rdN s n k 0 1000000000).2 = n then (true, (rdN s n k 0 1000000000).2, va_up g i (rdN s n k 0 1000000000).1) else if m = 0 then (false, (rdN s n k 0 1000000000).2, va_up g i (rdN s n k 0 1000000000).1) else if tk s n (rdN s n k 0 1000000000).2 44 = true then rnF s n m (i + 1) ((rdN s n k 0 1000000000).2 + 1) (va_up g i (rdN s n k 0 1000000000).1) else (false, (rdN s n k 0 1000000000).2, va_up g i (rdN s n k 0 1000000000).1)
termination_by m => m
theorem rnF_0 (s : Nat → Int32) (n i k : Nat) (g : Nat → Int64) : rnF s n 0 i k g = (false, k, g) := by rw [rnF]
theorem rnF_s (s : Nat → Int32) (n m i k : Nat) (g : Nat → Int64) (v : Int64) (k2 : Nat) (h : (v, k2) = rdN s n k 0 1000000000) : rnF s n (m + 1) i k g = if v < 0 then (false, k2, g) else if k2 = n then (true, k2, va_up g i v) else if m = 0 then (false, k2, va_up g i v) else if tk s n k2 44 = true then rnF s n m (i + 1) (k2 + 1) (va_up g i v) else (false, k2, va_up g i v) := by
  rw [rnF, ← h]
def rNums (s : Nat → Int32) (n : Nat) : Bool × Nat × (Nat → Int64) := if n = 0 then (true, 0, fun _ => 0) else rnF s n 8 0 0 (fun _ => 0)
theorem rdN_le (s : Nat → Int32) (n k : Nat) (le : Int32) (mo : Int64) (h : k ≤ n) (hle : 0 ≤ le) : k ≤ (rdN s n k le mo).2 ∧ (rdN s n k le mo).2 ≤ n := by
  unfold rdN
  by_cases h1 : (dg s n k).toInt64 < le.toInt64
  · rw [if_pos h1]; exact ⟨Nat.le_refl k, h⟩
  · rw [if_neg h1]
    have hk := dg_lt s n k (fun q => h1 (by rw [q]; exact neg_lt64 hle))
    have h3 := rdL_le s n mo 9 (dg s n k).toInt64 (k + 1) hk
    exact ⟨by omega, h3.2⟩

set_option maxRecDepth 100000 in
set_option maxHeartbeats 4000000 in
theorem c_X6_readsNumbers (l : Launch) (E : rhE) (o a : Nat) (s : Nat → Int32) (n k b : Nat) (g : Nat → Int64) (hn : n ≤ 200) : Ctr l E yX6_readsNumbers cX6_readsNumbers 5 (some .boolean) (rmL 2) [.ref o, .ref b] (wX E o a s n k ++ [(b, aL E 8 g)]) (One (some (.int (if (rNums s n).1 = true then 1 else 0))) (wX E o a s n (rNums s n).2.1 ++ [(b, aL E 8 (rNums s n).2.2)])) := by
  refine Ctr.of (by decide) (Nat.le_of_ble_eq_true rfl) rfl rfl 3 ?_
  intro X hX hR
  refine rh_aload_n hX dX6_readsNumbers_0 rfl ?_
  refine rh_iconst hX dX6_readsNumbers_1 ki_0 ?_
  refine rh_put hX gl_X6_19 0 dX6_readsNumbers_2 rfl rfl rfl (Nat.le_of_ble_eq_true rfl) rfl ?_
  dsimp only [List.cons_append, List.nil_append, List.set_cons_succ, List.set_cons_zero, vput]
  refine rh_iconst hX dX6_readsNumbers_5 ki_0 ?_
  refine rh_istn2 hX dX6_readsNumbers_6 (by decide) rfl ?_
  refine rh_loop (P := fun i => G X 7 [some (.ref o), some (.ref b), some (.int (nI i)), none, none] [] (wX E o a s n 0 ++ [(b, aL E 8 (fun x => if x < i then 0 else g x))])) (0) (8) (by omega) ?_ ?_
  · skip
    refine rh_iload_n hX dX6_readsNumbers_7 rfl ?_
    refine rh_aload_n hX dX6_readsNumbers_8 rfl ?_
    refine rh_alen (v := nI 8) hX 2 1 dX6_readsNumbers_9 rfl rfl rfl ?_
    refine rh_icmp_ge_t (tgt := 23) hX dX6_readsNumbers_10 (by decide) (nI_le (a := 8) (b := 8) (Nat.le_refl 8) (by decide)) ?_
    refine rh_ext (q := 2) (g := fun _ => 0) rfl (fun j hj => ?_) rfl ?_
    · show 0 = (if j < 8 then 0 else g j)
      rw [if_pos hj]
    dsimp only [List.cons_append, List.nil_append, List.set_cons_succ, List.set_cons_zero]
    refine rh_aload_n hX dX6_readsNumbers_23 rfl ?_
    refine rh_get hX gl_X6_15 0 dX6_readsNumbers_24 rfl rfl ?_
    refine rh_if_ne (tgt := 32) hX dX6_readsNumbers_27 (by decide) (fun h27 => ?_) (fun h27 => ?_)
    · skip
      have h27 : ¬ n = 0 := fun q => h27 (by rw [q]; rfl)
      have hR0 : rNums s n = rnF s n 8 0 0 (fun _ => 0) := by rw [rNums, if_neg h27]
      refine rh_iconst hX dX6_readsNumbers_32 ki_0 ?_
      refine rh_istn2 hX dX6_readsNumbers_33 (by decide) rfl ?_
      refine (rh_loop (P := fun j => ∀ (k1 : Nat) (g1 : Nat → Int64), (k1 ≤ n ∧ rNums s n = rnF s n (8 - j) j k1 g1) → G X 34 [some (.ref o), some (.ref b), some (.int (nI j)), none, none] [] (wX E o a s n k1 ++ [(b, aL E 8 g1)])) (0) (8) (by omega) ?_ ?_) 0 _ ⟨Nat.zero_le _, hR0⟩
      · intro k1 g1 hH
        obtain ⟨hk1, hH⟩ := hH
        rw [Nat.sub_self, rnF_0] at hH
        refine rh_iload_n hX dX6_readsNumbers_34 rfl ?_
        refine rh_aload_n hX dX6_readsNumbers_35 rfl ?_
        refine rh_alen (v := nI 8) hX 2 1 dX6_readsNumbers_36 rfl rfl rfl ?_
        refine rh_icmp_ge_t (tgt := 99) hX dX6_readsNumbers_37 (by decide) (nI_le (a := 8) (b := 8) (Nat.le_refl 8) (by decide)) ?_
        refine rh_iconst hX dX6_readsNumbers_99 ki_0 ?_
        exact rh_zret hX hR dX6_readsNumbers_100 rfl (by simp only [List.map_cons, List.map_nil, List.cons_append, List.nil_append]) ⟨by rw [hH]; rfl, by rw [hH]⟩
      · intro j hj0 hj ihj k1 g1 hH
        obtain ⟨m, hm⟩ : ∃ m, 8 - j = m + 1 := ⟨8 - j - 1, by omega⟩
        have hm2 : 8 - (j + 1) = m := by omega
        obtain ⟨hk1, hH⟩ := hH
        obtain ⟨v, ev⟩ : ∃ z, z = (rdN s n k1 0 1000000000).1 := ⟨_, rfl⟩
        obtain ⟨k2, ek⟩ : ∃ z, z = (rdN s n k1 0 1000000000).2 := ⟨_, rfl⟩
        have hk2 : k2 ≤ n := by rw [ek]; exact (rdN_le s n k1 0 _ hk1 (by decide)).2
        rw [hm, rnF_s s n m j k1 g1 v k2 (by rw [ev, ek])] at hH
        rw [hm2] at ihj
        refine rh_iload_n hX dX6_readsNumbers_34 rfl ?_
        refine rh_aload_n hX dX6_readsNumbers_35 rfl ?_
        refine rh_alen (v := nI 8) hX 2 1 dX6_readsNumbers_36 rfl rfl rfl ?_
        refine rh_icmp_ge_f (tgt := 99) hX dX6_readsNumbers_37 (by decide) (nI_ge (b := 8) hj (by decide)) ?_
        refine rh_aload_n hX dX6_readsNumbers_40 rfl ?_
        refine rh_iconst hX dX6_readsNumbers_41 ki_0 ?_
        refine rh_ldc2 hX dX6_readsNumbers_42 kl_X6_42 ?_
        refine rh_wV hX lk_X6_44 mvX6_readNumber (fun l => c_X6_readNumber l E _ _ _ _ _ _ _ (by omega) (by omega) (by decide)) ⟨rfl, rfl⟩ ⟨Nat.le_of_ble_eq_true rfl, Nat.le_of_ble_eq_true rfl⟩ [0, 1] rfl rfl 0 rfl dX6_readsNumbers_45 rfl rfl (Nat.le_of_ble_eq_true rfl) rfl ?_
        dsimp only [List.cons_append, List.nil_append, List.set_cons_succ, List.set_cons_zero, vput]
        rw [← ev, ← ek]
        refine rh_lstn3 hX dX6_readsNumbers_48 (by decide) rfl ?_
        refine rh_lload_n hX dX6_readsNumbers_49 rfl ?_
        refine rh_lconst hX dX6_readsNumbers_50 kL_0 ?_
        refine rh_lge (tgt := 57) hX dX6_readsNumbers_51 dX6_readsNumbers_52 (by decide) (fun h51 => ?_) (fun h51 => ?_)
        · skip
          have h51 := rh_le64.mp h51
          refine rh_aload_n hX dX6_readsNumbers_57 rfl ?_
          refine rh_iload_n hX dX6_readsNumbers_58 rfl ?_
          refine rh_lload_n hX dX6_readsNumbers_59 rfl ?_
          refine rh_lastore hX 2 j dX6_readsNumbers_60 rfl (show nI j = nI j from rfl) (by omega) (by decide) rfl ?_
          dsimp only [List.cons_append, List.nil_append, List.set_cons_succ, List.set_cons_zero, vput]
          refine rh_aload_n hX dX6_readsNumbers_61 rfl ?_
          refine rh_get hX gl_X6_19 0 dX6_readsNumbers_62 rfl rfl ?_
          refine rh_aload_n hX dX6_readsNumbers_65 rfl ?_
          refine rh_get hX gl_X6_15 0 dX6_readsNumbers_66 rfl rfl ?_
          refine rh_icmp_ne (tgt := 74) hX dX6_readsNumbers_69 (by decide) (fun h69 => ?_) (fun h69 => ?_)
          · skip
            have h69 : ¬ k2 = n := fun q => h69 (by rw [q])
            refine rh_iload_n hX dX6_readsNumbers_74 rfl ?_
            refine rh_aload_n hX dX6_readsNumbers_75 rfl ?_
            refine rh_alen (v := nI 8) hX 2 1 dX6_readsNumbers_76 rfl rfl rfl ?_
            refine rh_iconst hX dX6_readsNumbers_77 ki_1 ?_
            refine rh_isub hX dX6_readsNumbers_78 ?_
            refine rh_icmp_eq (tgt := 91) hX dX6_readsNumbers_79 (by decide) (fun h79 => ?_) (fun h79 => ?_)
            · skip
              have h79 : m = 0 := by have := rn_inj (b := 7) (show nI j = nI 7 from h79) (by omega) (by decide); omega
              refine rh_iconst hX dX6_readsNumbers_91 ki_0 ?_
              exact rh_zret hX hR dX6_readsNumbers_92 rfl (by simp only [List.map_cons, List.map_nil, List.cons_append, List.nil_append]) ⟨by first | (rw [hH, if_neg h51, if_neg h69, if_pos h79]; rfl) | (rw [hH, if_neg h51, if_neg h69, if_neg h79, if_neg h88]; rfl), by first | (rw [hH, if_neg h51, if_neg h69, if_pos h79]; rfl) | (rw [hH, if_neg h51, if_neg h69, if_neg h79, if_neg h88, tkN, if_neg h88]; rfl)⟩
            · skip
              have h79 : ¬ m = 0 := fun q => h79 (by rw [show j = 7 by omega]; decide)
              refine rh_aload_n hX dX6_readsNumbers_82 rfl ?_
              refine rh_bipush hX dX6_readsNumbers_83 kb_44 ?_
              refine rh_wV hX lk_X6_31 mvX6_takes (fun l => c_X6_takes l E _ _ _ _ _ _ (by omega) (by omega)) ⟨rfl, rfl⟩ ⟨Nat.le_of_ble_eq_true rfl, Nat.le_of_ble_eq_true rfl⟩ [0, 1] rfl rfl 0 rfl dX6_readsNumbers_85 rfl rfl (Nat.le_of_ble_eq_true rfl) rfl ?_
              dsimp only [List.cons_append, List.nil_append, List.set_cons_succ, List.set_cons_zero, vput]
              refine rh_if_ne (tgt := 93) hX dX6_readsNumbers_88 (by decide) (fun h88 => ?_) (fun h88 => ?_)
              · skip
                have h88 : tk s n k2 44 = true := Classical.not_not.mp (fun q => h88 (if_neg q))
                refine rh_inc2 hX dX6_readsNumbers_93 (by decide) rfl (rn_i1 _) ?_
                refine rh_goto (tgt := 34) hX dX6_readsNumbers_96 (by decide) ?_
                exact rh_wk (by exact ⟨rfl, rfl, rfl, trivial⟩) (ihj _ _ ⟨tkN_le s n k2 44 hk2, by rw [hH, if_neg h51, if_neg h69, if_neg h79, if_pos h88, tkN, if_pos h88]⟩)
              · skip
                have h88 : ¬ tk s n k2 44 = true := fun q => by rw [if_pos q] at h88; exact absurd h88 (by decide)
                refine rh_iconst hX dX6_readsNumbers_91 ki_0 ?_
                exact rh_zret hX hR dX6_readsNumbers_92 rfl (by simp only [List.map_cons, List.map_nil, List.cons_append, List.nil_append]) ⟨by first | (rw [hH, if_neg h51, if_neg h69, if_pos h79]; rfl) | (rw [hH, if_neg h51, if_neg h69, if_neg h79, if_neg h88]; rfl), by first | (rw [hH, if_neg h51, if_neg h69, if_pos h79]; rfl) | (rw [hH, if_neg h51, if_neg h69, if_neg h79, if_neg h88, tkN, if_neg h88]; rfl)⟩
          · skip
            have h69 : k2 = n := rn_inj h69 (by omega) (by omega)
            refine rh_iconst hX dX6_readsNumbers_72 ki_1 ?_
            exact rh_zret hX hR dX6_readsNumbers_73 rfl (by simp only [List.map_cons, List.map_nil, List.cons_append, List.nil_append]) ⟨by rw [hH, if_neg h51, if_pos h69]; rfl, by rw [hH, if_neg h51, if_pos h69]; rfl⟩
        · skip
          have h51 : v < 0 := Classical.not_not.mp (fun q => h51 (rh_le64.mpr q))
          refine rh_iconst hX dX6_readsNumbers_55 ki_0 ?_
          exact rh_zret hX hR dX6_readsNumbers_56 rfl (by simp only [List.map_cons, List.map_nil, List.cons_append, List.nil_append]) ⟨by rw [hH, if_pos h51]; rfl, by rw [hH, if_pos h51]; rfl⟩
    · skip
      have h27 : n = 0 := nI_z h27 (by omega)
      refine rh_iconst hX dX6_readsNumbers_30 ki_1 ?_
      exact rh_zret hX hR dX6_readsNumbers_31 rfl (by simp only [List.map_cons, List.map_nil, List.cons_append, List.nil_append]) ⟨by rw [rNums, if_pos h27]; rfl, by rw [rNums, if_pos h27]; rfl⟩
  · intro i hi0 hi ih
    refine rh_iload_n hX dX6_readsNumbers_7 rfl ?_
    refine rh_aload_n hX dX6_readsNumbers_8 rfl ?_
    refine rh_alen (v := nI 8) hX 2 1 dX6_readsNumbers_9 rfl rfl rfl ?_
    refine rh_icmp_ge_f (tgt := 23) hX dX6_readsNumbers_10 (by decide) (nI_ge (b := 8) hi (by decide)) ?_
    refine rh_aload_n hX dX6_readsNumbers_13 rfl ?_
    refine rh_iload_n hX dX6_readsNumbers_14 rfl ?_
    refine rh_lconst hX dX6_readsNumbers_15 kL_0 ?_
    refine rh_lastore hX 2 _ dX6_readsNumbers_16 rfl rfl (by omega) (by decide) rfl ?_
    dsimp only [List.cons_append, List.nil_append, List.set_cons_succ, List.set_cons_zero, vput]
    refine rh_inc2 hX dX6_readsNumbers_17 (by decide) rfl (rn_i1 _) ?_
    refine rh_goto (tgt := 7) hX dX6_readsNumbers_20 (by decide) ?_
    rw [clear_step]
    exact ih

set_option maxRecDepth 100000 in
set_option maxHeartbeats 4000000 in
theorem c_X6_wordOf_0 (l : Launch) (E : rhE)   : Ctr l E yX6_wordOf cX6_wordOf 1 (some (.object "java/lang/String")) (rmL 0) [.int (nI 0)] [] (One (some (.ref (E.2.2.2.1 1))) []) := by
  refine Ctr.of (by decide) (Nat.le_of_ble_eq_true rfl) rfl rfl 0 ?_
  intro X hX hR
  refine rh_iload_n hX dX6_wordOf_0 rfl ?_
  refine rh_tabIn (tgt := 44) (off := 43) hX dX6_wordOf_1 (by decide) (by decide) (by decide) (by decide) ?_
  refine rh_ldcS hX dX6_wordOf_44 (List.mem_of_getElem? (i := 1) rfl) ?_
  exact rh_aret hX hR dX6_wordOf_46 rfl ⟨rfl, rfl⟩

set_option maxRecDepth 100000 in
set_option maxHeartbeats 4000000 in
theorem c_X6_wordOf_1 (l : Launch) (E : rhE)   : Ctr l E yX6_wordOf cX6_wordOf 1 (some (.object "java/lang/String")) (rmL 0) [.int (nI 1)] [] (One (some (.ref (E.2.2.2.1 2))) []) := by
  refine Ctr.of (by decide) (Nat.le_of_ble_eq_true rfl) rfl rfl 0 ?_
  intro X hX hR
  refine rh_iload_n hX dX6_wordOf_0 rfl ?_
  refine rh_tabIn (tgt := 47) (off := 46) hX dX6_wordOf_1 (by decide) (by decide) (by decide) (by decide) ?_
  refine rh_ldcS hX dX6_wordOf_47 (List.mem_of_getElem? (i := 2) rfl) ?_
  exact rh_aret hX hR dX6_wordOf_49 rfl ⟨rfl, rfl⟩

set_option maxRecDepth 100000 in
set_option maxHeartbeats 4000000 in
theorem c_X6_wordOf_2 (l : Launch) (E : rhE)   : Ctr l E yX6_wordOf cX6_wordOf 1 (some (.object "java/lang/String")) (rmL 0) [.int (nI 2)] [] (One (some (.ref (E.2.2.2.1 3))) []) := by
  refine Ctr.of (by decide) (Nat.le_of_ble_eq_true rfl) rfl rfl 0 ?_
  intro X hX hR
  refine rh_iload_n hX dX6_wordOf_0 rfl ?_
  refine rh_tabIn (tgt := 50) (off := 49) hX dX6_wordOf_1 (by decide) (by decide) (by decide) (by decide) ?_
  refine rh_ldcS hX dX6_wordOf_50 (List.mem_of_getElem? (i := 3) rfl) ?_
  exact rh_aret hX hR dX6_wordOf_52 rfl ⟨rfl, rfl⟩

set_option maxRecDepth 100000 in
set_option maxHeartbeats 4000000 in
theorem c_X6_wordOf_3 (l : Launch) (E : rhE)   : Ctr l E yX6_wordOf cX6_wordOf 1 (some (.object "java/lang/String")) (rmL 0) [.int (nI 3)] [] (One (some (.ref (E.2.2.2.1 4))) []) := by
  refine Ctr.of (by decide) (Nat.le_of_ble_eq_true rfl) rfl rfl 0 ?_
  intro X hX hR
  refine rh_iload_n hX dX6_wordOf_0 rfl ?_
  refine rh_tabIn (tgt := 53) (off := 52) hX dX6_wordOf_1 (by decide) (by decide) (by decide) (by decide) ?_
  refine rh_ldcS hX dX6_wordOf_53 (List.mem_of_getElem? (i := 4) rfl) ?_
  exact rh_aret hX hR dX6_wordOf_55 rfl ⟨rfl, rfl⟩

set_option maxRecDepth 100000 in
set_option maxHeartbeats 4000000 in
theorem c_X6_wordOf_4 (l : Launch) (E : rhE)   : Ctr l E yX6_wordOf cX6_wordOf 1 (some (.object "java/lang/String")) (rmL 0) [.int (nI 4)] [] (One (some (.ref (E.2.2.2.1 5))) []) := by
  refine Ctr.of (by decide) (Nat.le_of_ble_eq_true rfl) rfl rfl 0 ?_
  intro X hX hR
  refine rh_iload_n hX dX6_wordOf_0 rfl ?_
  refine rh_tabIn (tgt := 56) (off := 55) hX dX6_wordOf_1 (by decide) (by decide) (by decide) (by decide) ?_
  refine rh_ldcS hX dX6_wordOf_56 (List.mem_of_getElem? (i := 5) rfl) ?_
  exact rh_aret hX hR dX6_wordOf_58 rfl ⟨rfl, rfl⟩

set_option maxRecDepth 100000 in
set_option maxHeartbeats 4000000 in
theorem c_X6_wordOf_5 (l : Launch) (E : rhE)   : Ctr l E yX6_wordOf cX6_wordOf 1 (some (.object "java/lang/String")) (rmL 0) [.int (nI 5)] [] (One (some (.ref (E.2.2.2.1 6))) []) := by
  refine Ctr.of (by decide) (Nat.le_of_ble_eq_true rfl) rfl rfl 0 ?_
  intro X hX hR
  refine rh_iload_n hX dX6_wordOf_0 rfl ?_
  refine rh_tabIn (tgt := 59) (off := 58) hX dX6_wordOf_1 (by decide) (by decide) (by decide) (by decide) ?_
  refine rh_ldcS hX dX6_wordOf_59 (List.mem_of_getElem? (i := 6) rfl) ?_
  exact rh_aret hX hR dX6_wordOf_61 rfl ⟨rfl, rfl⟩

set_option maxRecDepth 100000 in
set_option maxHeartbeats 4000000 in
theorem c_X6_wordOf_6 (l : Launch) (E : rhE)   : Ctr l E yX6_wordOf cX6_wordOf 1 (some (.object "java/lang/String")) (rmL 0) [.int (nI 6)] [] (One (some (.ref (E.2.2.2.1 7))) []) := by
  refine Ctr.of (by decide) (Nat.le_of_ble_eq_true rfl) rfl rfl 0 ?_
  intro X hX hR
  refine rh_iload_n hX dX6_wordOf_0 rfl ?_
  refine rh_tabIn (tgt := 62) (off := 61) hX dX6_wordOf_1 (by decide) (by decide) (by decide) (by decide) ?_
  refine rh_ldcS hX dX6_wordOf_62 (List.mem_of_getElem? (i := 7) rfl) ?_
  exact rh_aret hX hR dX6_wordOf_64 rfl ⟨rfl, rfl⟩

set_option maxRecDepth 100000 in
set_option maxHeartbeats 4000000 in
theorem c_X6_wordOf_7 (l : Launch) (E : rhE)   : Ctr l E yX6_wordOf cX6_wordOf 1 (some (.object "java/lang/String")) (rmL 0) [.int (nI 7)] [] (One (some (.ref (E.2.2.2.1 8))) []) := by
  refine Ctr.of (by decide) (Nat.le_of_ble_eq_true rfl) rfl rfl 0 ?_
  intro X hX hR
  refine rh_iload_n hX dX6_wordOf_0 rfl ?_
  refine rh_tabOut (tgt := 65) hX dX6_wordOf_1 (by decide) (by decide) ?_
  refine rh_ldcS hX dX6_wordOf_65 (List.mem_of_getElem? (i := 8) rfl) ?_
  exact rh_aret hX hR dX6_wordOf_67 rfl ⟨rfl, rfl⟩

theorem c_X6_wordOf (l : Launch) (E : rhE) (w : Nat) (hw : w < 8) : Ctr l E yX6_wordOf cX6_wordOf 1 (some (.object "java/lang/String")) (rmL 0) [.int (nI w)] [] (One (some (.ref (E.2.2.2.1 (w + 1)))) []) := by
  match w, hw with
  | 0, _ => exact c_X6_wordOf_0 l E
  | 1, _ => exact c_X6_wordOf_1 l E
  | 2, _ => exact c_X6_wordOf_2 l E
  | 3, _ => exact c_X6_wordOf_3 l E
  | 4, _ => exact c_X6_wordOf_4 l E
  | 5, _ => exact c_X6_wordOf_5 l E
  | 6, _ => exact c_X6_wordOf_6 l E
  | 7, _ => exact c_X6_wordOf_7 l E
/-- the word that stands at st, of those from w on: it or none, and where reading stands then -/
def rdWF (s : Nat → Int32) (n st : Nat) : Nat → Nat → Nat → Option Nat × Nat
  | 0, _, far => (none, far)
  | m + 1, w, far => if (tkA s n (w + 1) st).1 = true then (some w, (tkA s n (w + 1) st).2) else rdWF s n st m (w + 1) (if far < (tkA s n (w + 1) st).2 then (tkA s n (w + 1) st).2 else far)
termination_by m => m
theorem rdWF_0 (s : Nat → Int32) (n st w far : Nat) : rdWF s n st 0 w far = (none, far) := by rw [rdWF]
theorem rdWF_s (s : Nat → Int32) (n st m w far : Nat) : rdWF s n st (m + 1) w far = if (tkA s n (w + 1) st).1 = true then (some w, (tkA s n (w + 1) st).2) else rdWF s n st m (w + 1) (if far < (tkA s n (w + 1) st).2 then (tkA s n (w + 1) st).2 else far) := by rw [rdWF]
def rdW (s : Nat → Int32) (n st fr : Nat) : Option Nat × Nat := rdWF s n st (8 - fr) fr st
def wdI (r : Option Nat) : Int32 := match r with
  | some w => nI w
  | none => -1
theorem rdWF_le (s : Nat → Int32) (n st : Nat) (hst : st ≤ n) : ∀ m w far, far ≤ n → (rdWF s n st m w far).2 ≤ n ∧ ∀ x, (rdWF s n st m w far).1 = some x → w ≤ x ∧ x < w + m
  | 0, w, far, h => by rw [rdWF_0]; exact ⟨h, fun x q => by cases q⟩
  | m + 1, w, far, h => by
    rw [rdWF_s]
    have ht := tkA_le s n (w + 1) st hst
    by_cases h1 : (tkA s n (w + 1) st).1 = true
    · rw [if_pos h1]
      exact ⟨ht.2, fun x q => by cases q; omega⟩
    · rw [if_neg h1]
      have h3 := rdWF_le s n st hst m (w + 1) (if far < (tkA s n (w + 1) st).2 then (tkA s n (w + 1) st).2 else far) (by split <;> omega)
      exact ⟨h3.1, fun x q => by have := h3.2 x q; omega⟩
theorem nI_maxi {a b : Nat} (ha : a < 2 ^ 31) (hb : b < 2 ^ 31) : (if nI a < nI b then nI b else nI a) = nI (if a < b then b else a) := by
  by_cases h : a < b
  · rw [if_pos (nI_lt h hb), if_pos h]
  · rw [if_neg (nI_nlt (by omega) ha), if_neg h]

set_option maxRecDepth 100000 in
set_option maxHeartbeats 4000000 in
theorem c_X6_readWord (l : Launch) (E : rhE) (o a : Nat) (s : Nat → Int32) (n k : Nat) (fr : Nat) (hk : k ≤ n) (hn : n ≤ 200) (hf : fr ≤ 8) : Ctr l E yX6_readWord cX6_readWord 5 (some .int) (rmL 5) [.ref o, .int (nI fr)] (wX E o a s n k) (One (some (.int (wdI (rdW s n k fr).1))) (wX E o a s n (rdW s n k fr).2)) := by
  refine Ctr.of (by decide) (Nat.le_of_ble_eq_true rfl) rfl rfl 3 ?_
  intro X hX hR
  refine rh_aload_n hX dX6_readWord_0 rfl ?_
  refine rh_get hX gl_X6_19 0 dX6_readWord_1 rfl rfl ?_
  refine rh_istn2 hX dX6_readWord_4 (by decide) rfl ?_
  refine rh_aload_n hX dX6_readWord_5 rfl ?_
  refine rh_get hX gl_X6_19 0 dX6_readWord_6 rfl rfl ?_
  refine rh_istn3 hX dX6_readWord_9 (by decide) rfl ?_
  refine rh_iload_n hX dX6_readWord_10 rfl ?_
  refine rh_ist4 hX dX6_readWord_11 (by decide) rfl ?_
  refine (rh_loop (P := fun w => ∀ (k1 far : Nat), (k1 ≤ n ∧ far ≤ n ∧ rdW s n k fr = rdWF s n k (8 - w) w far) → G X 13 [some (.ref o), some (.int (nI fr)), some (.int (nI k)), some (.int (nI far)), some (.int (nI w))] [] (wX E o a s n k1)) (fr) (8) (by omega) ?_ ?_) k k ⟨hk, hk, rfl⟩
  · intro k1 far hH
    obtain ⟨hk1, hfar, hH⟩ := hH
    rw [Nat.sub_self, rdWF_0] at hH
    refine rh_iload hX dX6_readWord_13 rfl ?_
    refine rh_bipush hX dX6_readWord_15 kb_8 ?_
    refine rh_icmp_ge_t (tgt := 55) hX dX6_readWord_17 (by decide) (nI_le (a := 8) (b := 8) (Nat.le_refl 8) (by decide)) ?_
    refine rh_aload_n hX dX6_readWord_55 rfl ?_
    refine rh_iload_n hX dX6_readWord_56 rfl ?_
    refine rh_put hX gl_X6_19 0 dX6_readWord_57 rfl rfl rfl (Nat.le_of_ble_eq_true rfl) rfl ?_
    dsimp only [List.cons_append, List.nil_append, List.set_cons_succ, List.set_cons_zero, vput]
    refine rh_iconst hX dX6_readWord_60 ki_m1 ?_
    exact rh_iret hX hR dX6_readWord_61 (by simp only [List.map_cons, List.map_nil, List.cons_append, List.nil_append]) ⟨by rw [hH]; rfl, by rw [hH]⟩
  · intro w hw0 hw ihw k1 far hH
    obtain ⟨m, hm⟩ : ∃ m, 8 - w = m + 1 := ⟨8 - w - 1, by omega⟩
    have hm2 : 8 - (w + 1) = m := by omega
    obtain ⟨hk1, hfar, hH⟩ := hH
    rw [hm, rdWF_s] at hH
    rw [hm2] at ihw
    have htk := tkA_le s n (w + 1) k hk
    refine rh_iload hX dX6_readWord_13 rfl ?_
    refine rh_bipush hX dX6_readWord_15 kb_8 ?_
    refine rh_icmp_ge_f (tgt := 55) hX dX6_readWord_17 (by decide) (nI_ge (b := 8) hw (by decide)) ?_
    refine rh_aload_n hX dX6_readWord_20 rfl ?_
    refine rh_iload_n hX dX6_readWord_21 rfl ?_
    refine rh_put hX gl_X6_19 0 dX6_readWord_22 rfl rfl rfl (Nat.le_of_ble_eq_true rfl) rfl ?_
    dsimp only [List.cons_append, List.nil_append, List.set_cons_succ, List.set_cons_zero, vput]
    refine rh_aload_n hX dX6_readWord_25 rfl ?_
    refine rh_iload hX dX6_readWord_26 rfl ?_
    refine rh_pS hX lk_X6_94 msX6_wordOf (fun l => c_X6_wordOf l E _ (by omega)) ⟨rfl, rfl⟩ ⟨Nat.le_of_ble_eq_true rfl, Nat.le_of_ble_eq_true rfl⟩ [] rfl rfl dX6_readWord_28 rfl rfl (Nat.le_of_ble_eq_true rfl) ?_
    refine rh_wV hX lk_X6_55 mvX6_takesAll (fun l => c_X6_takesAll l E _ _ _ _ _ (w + 1) (by omega) (by omega) (by omega)) ⟨rfl, rfl⟩ ⟨Nat.le_of_ble_eq_true rfl, Nat.le_of_ble_eq_true rfl⟩ [0, 1] rfl rfl 0 rfl dX6_readWord_31 rfl rfl (Nat.le_of_ble_eq_true rfl) rfl ?_
    dsimp only [List.cons_append, List.nil_append, List.set_cons_succ, List.set_cons_zero, vput]
    refine rh_if_eq (tgt := 40) hX dX6_readWord_34 (by decide) (fun h34 => ?_) (fun h34 => ?_)
    · skip
      have h34 : ¬ (tkA s n (w + 1) k).1 = true := fun q => by rw [if_pos q] at h34; exact absurd h34 (by decide)
      refine rh_iload_n hX dX6_readWord_40 rfl ?_
      refine rh_aload_n hX dX6_readWord_41 rfl ?_
      refine rh_get hX gl_X6_19 0 dX6_readWord_42 rfl rfl ?_
      refine rh_maxi hX mm_X6_98 dX6_readWord_45 (Nat.le_of_ble_eq_true rfl) (Nat.le_of_ble_eq_true rfl) ?_
      rw [nI_maxi (by omega) (by omega)]
      refine rh_istn3 hX dX6_readWord_48 (by decide) rfl ?_
      refine rh_inc4 hX dX6_readWord_49 (by decide) rfl (rn_i1 _) ?_
      refine rh_goto (tgt := 13) hX dX6_readWord_52 (by decide) ?_
      exact ihw _ _ ⟨htk.2, by split <;> omega, by rw [hH, if_neg h34]⟩
    · skip
      have h34 : (tkA s n (w + 1) k).1 = true := Classical.not_not.mp (fun q => h34 (if_neg q))
      refine rh_iload hX dX6_readWord_37 rfl ?_
      exact rh_iret hX hR dX6_readWord_39 (by simp only [List.map_cons, List.map_nil, List.cons_append, List.nil_append]) ⟨by rw [hH, if_pos h34]; rfl, by rw [hH, if_pos h34]⟩
