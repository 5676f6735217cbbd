/-- a house as it begins -/
def cInit : Nat → Int64 := fun x => if x = 171 then 1 else 0
theorem clear_step (f : Nat → Int64) (i : Nat) : va_up (fun x => if x < i then 0 else f x) i 0 = fun x => if x < i + 1 then 0 else f x := by
  funext x
  unfold va_up
  by_cases e : x = i
  · rw [if_pos e, if_pos (by omega)]
  · rw [if_neg e]
    show (if x < i then 0 else f x) = _
    by_cases h : x < i
    · rw [if_pos h, if_pos (by omega)]
    · rw [if_neg h, if_neg (by omega)]

set_option maxRecDepth 100000 in
set_option maxHeartbeats 4000000 in
theorem c_X1_clear (l : Launch) (E : rhE) (o a : Nat) (f : Nat → Int64)  : Ctr l E yX1_clear cX1_clear 2 none (rmL 0) [.ref o] (wH E o a f) (One none (wH E o a cInit)) := by
  refine Ctr.of (by decide) (Nat.le_of_ble_eq_true rfl) rfl rfl 1 ?_
  intro X hX hR
  refine rh_iconst hX dX1_clear_0 ki_0 ?_
  refine rh_istn1 hX dX1_clear_1 (by decide) rfl ?_
  refine rh_loop (P := fun i => G X 2 [some (.ref o), some (.int (nI i))] [] (wH E o a (fun x => if x < i then 0 else f x))) (0) (172) (by omega) ?_ ?_
  · skip
    refine rh_iload_n hX dX1_clear_2 rfl ?_
    refine rh_sipush hX dX1_clear_3 ks_172 ?_
    refine rh_icmp_ge_t (tgt := 22) hX dX1_clear_6 (by decide) (nI_le (a := 172) (b := 172) (Nat.le_refl 172) (by decide)) ?_
    refine rh_aload_n hX dX1_clear_22 rfl ?_
    refine rh_get hX gl_X1_9 0 dX1_clear_23 rfl rfl ?_
    refine rh_sipush hX dX1_clear_26 ks_171 ?_
    refine rh_lconst hX dX1_clear_29 kL_1 ?_
    refine rh_lastore hX 1 _ dX1_clear_30 rfl rn_c171 (by omega) (by decide) rfl ?_
    dsimp only [List.set_cons_succ, List.set_cons_zero, vput]
    refine rh_ext (q := 1) (g := cInit) rfl (fun j hj => ?_) rfl ?_
    · unfold cInit va_up
      by_cases e : j = 171
      · rw [if_pos e, if_pos e]
      · rw [if_neg e, if_neg e]
        show 0 = (if j < 172 then 0 else f j)
        rw [if_pos hj]
    dsimp only [List.set_cons_succ, List.set_cons_zero]
    exact rh_vret hX hR dX1_clear_31 rfl ⟨rfl, rfl⟩
  · intro i hi0 hi ih
    refine rh_iload_n hX dX1_clear_2 rfl ?_
    refine rh_sipush hX dX1_clear_3 ks_172 ?_
    refine rh_icmp_ge_f (tgt := 22) hX dX1_clear_6 (by decide) (nI_ge (b := 172) hi (by decide)) ?_
    refine rh_aload_n hX dX1_clear_9 rfl ?_
    refine rh_get hX gl_X1_9 0 dX1_clear_10 rfl rfl ?_
    refine rh_iload_n hX dX1_clear_13 rfl ?_
    refine rh_lconst hX dX1_clear_14 kL_0 ?_
    refine rh_lastore hX 1 _ dX1_clear_15 rfl rfl (by omega) (by decide) rfl ?_
    dsimp only [List.set_cons_succ, List.set_cons_zero, vput]
    refine rh_inc1 hX dX1_clear_16 (by decide) rfl (rn_i1 _) ?_
    refine rh_goto (tgt := 2) hX dX1_clear_19 (by decide) ?_
    rw [clear_step]
    exact ih

set_option maxRecDepth 100000 in
set_option maxHeartbeats 4000000 in
theorem c_X1_load (l : Launch) (E : rhE) (o a b : Nat) (f g : Nat → Int64)  : Ctr l E yX1_load cX1_load 2 none (rmL 1) [.ref o, .ref b] [(o, .inr (1, [.ref a])), (a, aL E 172 f), (b, aL E 172 g)] (One none [(o, .inr (1, [.ref a])), (a, aL E 172 g), (b, aL E 172 g)]) := by
  refine Ctr.of (by decide) (Nat.le_of_ble_eq_true rfl) rfl rfl 0 ?_
  intro X hX hR
  refine rh_aload_n hX dX1_load_0 rfl ?_
  refine rh_iconst hX dX1_load_1 ki_0 ?_
  refine rh_aload_n hX dX1_load_2 rfl ?_
  refine rh_get hX gl_X1_9 0 dX1_load_3 rfl rfl ?_
  refine rh_iconst hX dX1_load_6 ki_0 ?_
  refine rh_sipush hX dX1_load_7 ks_172 ?_
  refine rh_copyw hX mm_X1_15 2 1 dX1_load_10 rfl rfl rfl (by decide) (Nat.le_of_ble_eq_true rfl) (by decide) rfl ?_
  dsimp only [List.set_cons_succ, List.set_cons_zero, vput]
  exact rh_vret hX hR dX1_load_13 rfl ⟨rfl, rfl⟩

set_option maxRecDepth 100000 in
set_option maxHeartbeats 4000000 in
theorem c_X1_saveTo (l : Launch) (E : rhE) (o a b : Nat) (f g : Nat → Int64)  : Ctr l E yX1_saveTo cX1_saveTo 2 none (rmL 1) [.ref o, .ref b] [(o, .inr (1, [.ref a])), (a, aL E 172 f), (b, aL E 172 g)] (One none [(o, .inr (1, [.ref a])), (a, aL E 172 f), (b, aL E 172 f)]) := by
  refine Ctr.of (by decide) (Nat.le_of_ble_eq_true rfl) rfl rfl 0 ?_
  intro X hX hR
  refine rh_aload_n hX dX1_saveTo_0 rfl ?_
  refine rh_get hX gl_X1_9 0 dX1_saveTo_1 rfl rfl ?_
  refine rh_iconst hX dX1_saveTo_4 ki_0 ?_
  refine rh_aload_n hX dX1_saveTo_5 rfl ?_
  refine rh_iconst hX dX1_saveTo_6 ki_0 ?_
  refine rh_sipush hX dX1_saveTo_7 ks_172 ?_
  refine rh_copyw hX mm_X1_15 1 2 dX1_saveTo_10 rfl rfl rfl (by decide) (Nat.le_of_ble_eq_true rfl) (by decide) rfl ?_
  dsimp only [List.set_cons_succ, List.set_cons_zero, vput]
  exact rh_vret hX hR dX1_saveTo_13 rfl ⟨rfl, rfl⟩

set_option maxRecDepth 100000 in
set_option maxHeartbeats 4000000 in
theorem c_X1_addType (l : Launch) (E : rhE) (o a : Nat) (f : Nat → Int64) (T : Nat) (hT : (f 171).toInt32 = nI T) (hT6 : T ≤ 6) (h1 : 1 ≤ T) (h5 : T < 6) : Ctr l E yX1_addType cX1_addType 2 (some .int) (rmL 1) [.ref o] (wH E o a f) (One (some (.int (nI T))) (wH E o a (va_up f 171 (nI T + 1).toInt64))) := by
  refine Ctr.of (by decide) (Nat.le_of_ble_eq_true rfl) rfl rfl 1 ?_
  intro X hX hR
  refine rh_aload_n hX dX1_addType_0 rfl ?_
  refine rh_pV hX lk_X1_21 mvX1_types (fun l => c_X1_types l E _ _ _ T hT hT6) ⟨rfl, rfl⟩ ⟨Nat.le_of_ble_eq_true rfl, Nat.le_of_ble_eq_true rfl⟩ [0, 1] rfl rfl 0 rfl dX1_addType_1 rfl rfl (Nat.le_of_ble_eq_true rfl) ?_
  refine rh_istn1 hX dX1_addType_4 (by decide) rfl ?_
  refine rh_iload_n hX dX1_addType_5 rfl ?_
  refine rh_iconst hX dX1_addType_6 ki_1 ?_
  refine rh_icmp_lt_f (tgt := 16) hX dX1_addType_7 (by decide) (nI_nlt (b := 1) h1 (by omega)) ?_
  refine rh_iload_n hX dX1_addType_10 rfl ?_
  refine rh_bipush hX dX1_addType_11 kb_6 ?_
  refine rh_icmp_lt_t (tgt := 18) hX dX1_addType_13 (by decide) (nI_lt (b := 6) h5 (by decide)) ?_
  refine rh_aload_n hX dX1_addType_18 rfl ?_
  refine rh_get hX gl_X1_9 0 dX1_addType_19 rfl rfl ?_
  refine rh_sipush hX dX1_addType_22 ks_171 ?_
  refine rh_iload_n hX dX1_addType_25 rfl ?_
  refine rh_iconst hX dX1_addType_26 ki_1 ?_
  refine rh_iadd hX dX1_addType_27 ?_
  refine rh_i2l hX dX1_addType_28 ?_
  refine rh_lastore hX 1 _ dX1_addType_29 rfl rn_c171 (by omega) (by decide) rfl ?_
  dsimp only [List.set_cons_succ, List.set_cons_zero, vput]
  refine rh_iload_n hX dX1_addType_30 rfl ?_
  exact rh_iret hX hR dX1_addType_31 rfl ⟨rfl, rfl⟩

/-- splits: rows of shares and options so far -/
def mF2 (f : Nat → Int64) (m : Int64) (T i j : Nat) : Nat → Int64 := fun x => if x < 48 ∧ (x / 6 < i ∧ x % 6 < T ∨ x / 6 = i ∧ x % 6 < j) ∨ (96 ≤ x ∧ x < 96 + i) then f x + f x * m else f x
/-- .. and prices so far -/
def mF3 (f : Nat → Int64) (m k : Int64) (T c : Nat) : Nat → Int64 := fun x => if x < 48 ∧ x % 6 < T ∨ (96 ≤ x ∧ x < 104) then f x + f x * m else if x = 170 then f x * k else if 115 ≤ x ∧ x < 104 + c * 11 ∧ (x - 104) % 11 < 2 then (if cQuot (f x) k < 1 then 1 else cQuot (f x) k) else f x
def cMul (f : Nat → Int64) (k : Int32) (T : Nat) : Nat → Int64 := mF3 f (k - 1).toInt64 k.toInt64 T T
theorem mF2_0 (f : Nat → Int64) (m : Int64) (T : Nat) : mF2 f m T 0 0 = f := by
  funext x
  unfold mF2
  rw [if_neg (by omega)]
theorem mF2_at (f : Nat → Int64) (m : Int64) (T i j : Nat) (hi : i ≤ 8) : mF2 f m T i j 171 = f 171 := by
  unfold mF2
  rw [if_neg (by omega)]
theorem mF2_j (f : Nat → Int64) (m : Int64) (T i j : Nat) (hi : i < 8) (hj : j < T) (hT : T ≤ 6) : va_up (mF2 f m T i j) (0 + i * 6 + j) (cHeld (mF2 f m T i j) i j + cHeld (mF2 f m T i j) i j * m) = mF2 f m T i (j + 1) := by
  have e0 : cHeld (mF2 f m T i j) i j = f (0 + i * 6 + j) := by
    unfold cHeld mF2
    rw [if_neg (by omega)]
  rw [e0]
  funext x
  unfold va_up mF2
  by_cases e : x = 0 + i * 6 + j
  · rw [if_pos e, if_pos (by omega), e]
  · rw [if_neg e]
    by_cases h : x < 48 ∧ (x / 6 < i ∧ x % 6 < T ∨ x / 6 = i ∧ x % 6 < j) ∨ (96 ≤ x ∧ x < 96 + i)
    · rw [if_pos h, if_pos (by omega)]
    · rw [if_neg h, if_neg (by omega)]
theorem mF2_i (f : Nat → Int64) (m : Int64) (T i : Nat) (hi : i < 8) (hT : T ≤ 6) : va_up (mF2 f m T i T) (96 + i) (cGranted (mF2 f m T i T) i + cGranted (mF2 f m T i T) i * m) = mF2 f m T (i + 1) 0 := by
  have e0 : cGranted (mF2 f m T i T) i = f (96 + i) := by
    unfold cGranted mF2
    rw [if_neg (by omega)]
  rw [e0]
  funext x
  unfold va_up mF2
  by_cases e : x = 96 + i
  · rw [if_pos e, if_pos (by omega), e]
  · rw [if_neg e]
    by_cases h : x < 48 ∧ (x / 6 < i ∧ x % 6 < T ∨ x / 6 = i ∧ x % 6 < T) ∨ (96 ≤ x ∧ x < 96 + i)
    · rw [if_pos h, if_pos (by omega)]
    · rw [if_neg h, if_neg (by omega)]
theorem mF3_1 (f : Nat → Int64) (m k : Int64) (T : Nat) : va_up (mF2 f m T 8 0) 170 (mF2 f m T 8 0 170 * k) = mF3 f m k T 1 := by
  have e0 : mF2 f m T 8 0 170 = f 170 := by
    unfold mF2
    rw [if_neg (by omega)]
  rw [e0]
  funext x
  unfold va_up mF2 mF3
  by_cases e : x = 170
  · rw [if_pos e, if_neg (by omega), if_pos e, e]
  · rw [if_neg e]
    by_cases h : x < 48 ∧ (x / 6 < 8 ∧ x % 6 < T ∨ x / 6 = 8 ∧ x % 6 < 0) ∨ (96 ≤ x ∧ x < 96 + 8)
    · rw [if_pos h, if_pos (by omega)]
    · rw [if_neg h, if_neg (by omega), if_neg e, if_neg (by omega)]
theorem mF3_at (f : Nat → Int64) (m k : Int64) (T c : Nat) (hc : c ≤ 6) : mF3 f m k T c 171 = f 171 := by
  unfold mF3
  rw [if_neg (by omega), if_neg (by omega), if_neg (by omega)]
theorem mF3_c (f : Nat → Int64) (m k : Int64) (T c : Nat) (h1 : 1 ≤ c) (hc : c < 6) : va_up (va_up (mF3 f m k T c) (104 + c * 11 + 0) (if cQuot (cFact (mF3 f m k T c) c 0) k < 1 then 1 else cQuot (cFact (mF3 f m k T c) c 0) k)) (104 + c * 11 + 1) (if cQuot (cFact (va_up (mF3 f m k T c) (104 + c * 11 + 0) (if cQuot (cFact (mF3 f m k T c) c 0) k < 1 then 1 else cQuot (cFact (mF3 f m k T c) c 0) k)) c 1) k < 1 then 1 else cQuot (cFact (va_up (mF3 f m k T c) (104 + c * 11 + 0) (if cQuot (cFact (mF3 f m k T c) c 0) k < 1 then 1 else cQuot (cFact (mF3 f m k T c) c 0) k)) c 1) k) = mF3 f m k T (c + 1) := by
  have e0 : cFact (mF3 f m k T c) c 0 = f (104 + c * 11 + 0) := by
    unfold cFact mF3
    rw [if_neg (by omega), if_neg (by omega), if_neg (by omega)]
  have e1 : ∀ v, cFact (va_up (mF3 f m k T c) (104 + c * 11 + 0) v) c 1 = f (104 + c * 11 + 1) := by
    intro v
    unfold cFact va_up mF3
    rw [if_neg (by omega), if_neg (by omega), if_neg (by omega), if_neg (by omega)]
  rw [e1, e0]
  funext x
  by_cases x1 : x = 104 + c * 11 + 1
  · subst x1
    have r : mF3 f m k T (c + 1) (104 + c * 11 + 1) = (if cQuot (f (104 + c * 11 + 1)) k < 1 then 1 else cQuot (f (104 + c * 11 + 1)) k) := by
      unfold mF3
      rw [if_neg (show ¬ (104 + c * 11 + 1 < 48 ∧ (104 + c * 11 + 1) % 6 < T ∨ (96 ≤ 104 + c * 11 + 1 ∧ 104 + c * 11 + 1 < 104)) by omega), if_neg (show ¬ 104 + c * 11 + 1 = 170 by omega), if_pos (show 115 ≤ 104 + c * 11 + 1 ∧ 104 + c * 11 + 1 < 104 + (c + 1) * 11 ∧ (104 + c * 11 + 1 - 104) % 11 < 2 by omega)]
    rw [r]
    exact if_pos rfl
  · by_cases x0 : x = 104 + c * 11 + 0
    · subst x0
      have r : mF3 f m k T (c + 1) (104 + c * 11 + 0) = (if cQuot (f (104 + c * 11 + 0)) k < 1 then 1 else cQuot (f (104 + c * 11 + 0)) k) := by
        unfold mF3
        rw [if_neg (show ¬ (104 + c * 11 + 0 < 48 ∧ (104 + c * 11 + 0) % 6 < T ∨ (96 ≤ 104 + c * 11 + 0 ∧ 104 + c * 11 + 0 < 104)) by omega), if_neg (show ¬ 104 + c * 11 + 0 = 170 by omega), if_pos (show 115 ≤ 104 + c * 11 + 0 ∧ 104 + c * 11 + 0 < 104 + (c + 1) * 11 ∧ (104 + c * 11 + 0 - 104) % 11 < 2 by omega)]
      rw [r]
      exact (if_neg x1).trans (if_pos rfl)
    · refine (if_neg x1).trans ((if_neg x0).trans ?_)
      unfold mF3
      by_cases h : x < 48 ∧ x % 6 < T ∨ (96 ≤ x ∧ x < 104)
      · rw [if_pos h, if_pos h]
      · rw [if_neg h, if_neg h]
        by_cases h2 : x = 170
        · rw [if_pos h2, if_pos h2]
        · rw [if_neg h2, if_neg h2]
          by_cases h3 : 115 ≤ x ∧ x < 104 + c * 11 ∧ (x - 104) % 11 < 2
          · rw [if_pos h3, if_pos (show 115 ≤ x ∧ x < 104 + (c + 1) * 11 ∧ (x - 104) % 11 < 2 by omega)]
          · rw [if_neg h3, if_neg (show ¬ (115 ≤ x ∧ x < 104 + (c + 1) * 11 ∧ (x - 104) % 11 < 2) by omega)]

set_option maxRecDepth 100000 in
set_option maxHeartbeats 4000000 in
theorem c_X1_multiply (l : Launch) (E : rhE) (o a : Nat) (f : Nat → Int64) (k : Int32) (T : Nat) (hT : (f 171).toInt32 = nI T) (hT6 : T ≤ 6) (hT1 : 1 ≤ T) : Ctr l E yX1_multiply cX1_multiply 4 none (rmL 1) [.ref o, .int k] (wH E o a f) (One none (wH E o a (cMul f k T))) := by
  refine Ctr.of (by decide) (Nat.le_of_ble_eq_true rfl) rfl rfl 2 ?_
  intro X hX hR
  refine rh_iconst hX dX1_multiply_0 ki_0 ?_
  refine rh_istn2 hX dX1_multiply_1 (by decide) rfl ?_
  rw [← mF2_0 f (k - 1).toInt64 T]
  refine rh_loop (P := fun i => G X 2 [some (.ref o), some (.int k), some (.int (nI i)), none] [] (wH E o a (mF2 f (k - 1).toInt64 T i 0))) (0) (8) (by omega) ?_ ?_
  · skip
    refine rh_iload_n hX dX1_multiply_2 rfl ?_
    refine rh_bipush hX dX1_multiply_3 kb_8 ?_
    refine rh_icmp_ge_t (tgt := 62) hX dX1_multiply_5 (by decide) (nI_le (a := 8) (b := 8) (Nat.le_refl 8) (by decide)) ?_
    refine rh_aload_n hX dX1_multiply_62 rfl ?_
    refine rh_aload_n hX dX1_multiply_63 rfl ?_
    refine rh_pV hX lk_X1_57 mvX1_spare (fun l => c_X1_spare l E _ _ _) ⟨rfl, rfl⟩ ⟨Nat.le_of_ble_eq_true rfl, Nat.le_of_ble_eq_true rfl⟩ [0, 1] rfl rfl 0 rfl dX1_multiply_64 rfl rfl (Nat.le_of_ble_eq_true rfl) ?_
    refine rh_iload_n hX dX1_multiply_67 rfl ?_
    refine rh_i2l hX dX1_multiply_68 ?_
    refine rh_lmul hX dX1_multiply_69 ?_
    refine rh_uV hX lk_X1_76 mvX1_setSpare (fun l => c_X1_setSpare l E _ _ _ _) ⟨rfl, rfl⟩ ⟨Nat.le_of_ble_eq_true rfl, Nat.le_of_ble_eq_true rfl⟩ [0, 1] rfl rfl 0 rfl dX1_multiply_70 rfl rfl (Nat.le_of_ble_eq_true rfl) rfl ?_
    dsimp only [List.set_cons_succ, List.set_cons_zero, vput]
    refine rh_iconst hX dX1_multiply_73 ki_1 ?_
    refine rh_istn2 hX dX1_multiply_74 (by decide) rfl ?_
    rw [mF3_1 f (k - 1).toInt64 k.toInt64 T]
    refine rh_loop (P := fun c => G X 75 [some (.ref o), some (.int k), some (.int (nI c)), none] [] (wH E o a (mF3 f (k - 1).toInt64 k.toInt64 T c))) (1) (T) (by omega) ?_ ?_
    · skip
      refine rh_iload_n hX dX1_multiply_75 rfl ?_
      refine rh_aload_n hX dX1_multiply_76 rfl ?_
      refine rh_pV hX lk_X1_21 mvX1_types (fun l => c_X1_types l E _ _ _ T (by rw [mF3_at _ _ _ _ _ (by omega)]; exact hT) hT6) ⟨rfl, rfl⟩ ⟨Nat.le_of_ble_eq_true rfl, Nat.le_of_ble_eq_true rfl⟩ [0, 1] rfl rfl 0 rfl dX1_multiply_77 rfl rfl (Nat.le_of_ble_eq_true rfl) ?_
      refine rh_icmp_ge_t (tgt := 131) hX dX1_multiply_80 (by decide) (nI_le (Nat.le_refl T) (by omega)) ?_
      exact rh_vret hX hR dX1_multiply_131 rfl ⟨rfl, rfl⟩
    · intro c hc0 hc ihc
      refine rh_iload_n hX dX1_multiply_75 rfl ?_
      refine rh_aload_n hX dX1_multiply_76 rfl ?_
      refine rh_pV hX lk_X1_21 mvX1_types (fun l => c_X1_types l E _ _ _ T (by rw [mF3_at _ _ _ _ _ (by omega)]; exact hT) hT6) ⟨rfl, rfl⟩ ⟨Nat.le_of_ble_eq_true rfl, Nat.le_of_ble_eq_true rfl⟩ [0, 1] rfl rfl 0 rfl dX1_multiply_77 rfl rfl (Nat.le_of_ble_eq_true rfl) ?_
      refine rh_icmp_ge_f (tgt := 131) hX dX1_multiply_80 (by decide) (nI_ge hc (by omega)) ?_
      refine rh_aload_n hX dX1_multiply_83 rfl ?_
      refine rh_iload_n hX dX1_multiply_84 rfl ?_
      refine rh_iconst hX dX1_multiply_85 ki_0 ?_
      refine rh_lconst hX dX1_multiply_86 kL_1 ?_
      refine rh_aload_n hX dX1_multiply_87 rfl ?_
      refine rh_iload_n hX dX1_multiply_88 rfl ?_
      refine rh_iconst hX dX1_multiply_89 ki_0 ?_
      refine rh_pV hX lk_X1_25 mvX1_fact (fun l => c_X1_fact l E _ _ _ _ 0 (by omega) (by omega)) ⟨rfl, rfl⟩ ⟨Nat.le_of_ble_eq_true rfl, Nat.le_of_ble_eq_true rfl⟩ [0, 1] rfl rfl 0 rfl dX1_multiply_90 rfl rfl (Nat.le_of_ble_eq_true rfl) ?_
      refine rh_iload_n hX dX1_multiply_93 rfl ?_
      refine rh_i2l hX dX1_multiply_94 ?_
      refine rh_pS hX lk_X1_29 msX7_quotient (fun l => c_X7_quotient l E _ _) ⟨rfl, rfl⟩ ⟨Nat.le_of_ble_eq_true rfl, Nat.le_of_ble_eq_true rfl⟩ [] rfl rfl dX1_multiply_95 rfl rfl (Nat.le_of_ble_eq_true rfl) ?_
      refine rh_maxl hX mm_X1_80 dX1_multiply_98 (Nat.le_of_ble_eq_true rfl) (Nat.le_of_ble_eq_true rfl) ?_
      refine rh_uV hX lk_X1_85 mvX1_setFact (fun l => c_X1_setFact l E _ _ _ _ 0 _ (by omega) (by omega)) ⟨rfl, rfl⟩ ⟨Nat.le_of_ble_eq_true rfl, Nat.le_of_ble_eq_true rfl⟩ [0, 1] rfl rfl 0 rfl dX1_multiply_101 rfl rfl (Nat.le_of_ble_eq_true rfl) rfl ?_
      dsimp only [List.set_cons_succ, List.set_cons_zero, vput]
      refine rh_aload_n hX dX1_multiply_104 rfl ?_
      refine rh_iload_n hX dX1_multiply_105 rfl ?_
      refine rh_iconst hX dX1_multiply_106 ki_1 ?_
      refine rh_lconst hX dX1_multiply_107 kL_1 ?_
      refine rh_aload_n hX dX1_multiply_108 rfl ?_
      refine rh_iload_n hX dX1_multiply_109 rfl ?_
      refine rh_iconst hX dX1_multiply_110 ki_1 ?_
      refine rh_pV hX lk_X1_25 mvX1_fact (fun l => c_X1_fact l E _ _ _ _ 1 (by omega) (by omega)) ⟨rfl, rfl⟩ ⟨Nat.le_of_ble_eq_true rfl, Nat.le_of_ble_eq_true rfl⟩ [0, 1] rfl rfl 0 rfl dX1_multiply_111 rfl rfl (Nat.le_of_ble_eq_true rfl) ?_
      refine rh_iload_n hX dX1_multiply_114 rfl ?_
      refine rh_i2l hX dX1_multiply_115 ?_
      refine rh_pS hX lk_X1_29 msX7_quotient (fun l => c_X7_quotient l E _ _) ⟨rfl, rfl⟩ ⟨Nat.le_of_ble_eq_true rfl, Nat.le_of_ble_eq_true rfl⟩ [] rfl rfl dX1_multiply_116 rfl rfl (Nat.le_of_ble_eq_true rfl) ?_
      refine rh_maxl hX mm_X1_80 dX1_multiply_119 (Nat.le_of_ble_eq_true rfl) (Nat.le_of_ble_eq_true rfl) ?_
      refine rh_uV hX lk_X1_85 mvX1_setFact (fun l => c_X1_setFact l E _ _ _ _ 1 _ (by omega) (by omega)) ⟨rfl, rfl⟩ ⟨Nat.le_of_ble_eq_true rfl, Nat.le_of_ble_eq_true rfl⟩ [0, 1] rfl rfl 0 rfl dX1_multiply_122 rfl rfl (Nat.le_of_ble_eq_true rfl) rfl ?_
      dsimp only [List.set_cons_succ, List.set_cons_zero, vput]
      refine rh_inc2 hX dX1_multiply_125 (by decide) rfl (rn_i1 _) ?_
      refine rh_goto (tgt := 75) hX dX1_multiply_128 (by decide) ?_
      rw [mF3_c f _ _ T c hc0 (by omega)]
      exact ihc
  · intro i hi0 hi ih
    refine rh_iload_n hX dX1_multiply_2 rfl ?_
    refine rh_bipush hX dX1_multiply_3 kb_8 ?_
    refine rh_icmp_ge_f (tgt := 62) hX dX1_multiply_5 (by decide) (nI_ge (b := 8) hi (by decide)) ?_
    refine rh_iconst hX dX1_multiply_8 ki_0 ?_
    refine rh_istn3 hX dX1_multiply_9 (by decide) rfl ?_
    refine rh_loop (P := fun j => G X 10 [some (.ref o), some (.int k), some (.int (nI i)), some (.int (nI j))] [] (wH E o a (mF2 f (k - 1).toInt64 T i j))) (0) (T) (by omega) ?_ ?_
    · skip
      refine rh_iload_n hX dX1_multiply_10 rfl ?_
      refine rh_aload_n hX dX1_multiply_11 rfl ?_
      refine rh_pV hX lk_X1_21 mvX1_types (fun l => c_X1_types l E _ _ _ T (by rw [mF2_at _ _ _ _ _ (by omega)]; exact hT) hT6) ⟨rfl, rfl⟩ ⟨Nat.le_of_ble_eq_true rfl, Nat.le_of_ble_eq_true rfl⟩ [0, 1] rfl rfl 0 rfl dX1_multiply_12 rfl rfl (Nat.le_of_ble_eq_true rfl) ?_
      refine rh_icmp_ge_t (tgt := 41) hX dX1_multiply_15 (by decide) (nI_le (Nat.le_refl T) (by omega)) ?_
      refine rh_aload_n hX dX1_multiply_41 rfl ?_
      refine rh_iload_n hX dX1_multiply_42 rfl ?_
      refine rh_aload_n hX dX1_multiply_43 rfl ?_
      refine rh_iload_n hX dX1_multiply_44 rfl ?_
      refine rh_pV hX lk_X1_44 mvX1_granted (fun l => c_X1_granted l E _ _ _ _ (by omega)) ⟨rfl, rfl⟩ ⟨Nat.le_of_ble_eq_true rfl, Nat.le_of_ble_eq_true rfl⟩ [0, 1] rfl rfl 0 rfl dX1_multiply_45 rfl rfl (Nat.le_of_ble_eq_true rfl) ?_
      refine rh_iload_n hX dX1_multiply_48 rfl ?_
      refine rh_iconst hX dX1_multiply_49 ki_1 ?_
      refine rh_isub hX dX1_multiply_50 ?_
      refine rh_i2l hX dX1_multiply_51 ?_
      refine rh_lmul hX dX1_multiply_52 ?_
      refine rh_uV hX lk_X1_72 mvX1_addGranted (fun l => c_X1_addGranted l E _ _ _ _ _ (by omega)) ⟨rfl, rfl⟩ ⟨Nat.le_of_ble_eq_true rfl, Nat.le_of_ble_eq_true rfl⟩ [0, 1] rfl rfl 0 rfl dX1_multiply_53 rfl rfl (Nat.le_of_ble_eq_true rfl) rfl ?_
      dsimp only [List.set_cons_succ, List.set_cons_zero, vput]
      refine rh_inc2 hX dX1_multiply_56 (by decide) rfl (rn_i1 _) ?_
      refine rh_goto (tgt := 2) hX dX1_multiply_59 (by decide) ?_
      rw [mF2_i f _ T i hi hT6]
      exact rh_wk (by exact ⟨rfl, rfl, rfl, trivial⟩) ih
    · intro j hj0 hj ihj
      refine rh_iload_n hX dX1_multiply_10 rfl ?_
      refine rh_aload_n hX dX1_multiply_11 rfl ?_
      refine rh_pV hX lk_X1_21 mvX1_types (fun l => c_X1_types l E _ _ _ T (by rw [mF2_at _ _ _ _ _ (by omega)]; exact hT) hT6) ⟨rfl, rfl⟩ ⟨Nat.le_of_ble_eq_true rfl, Nat.le_of_ble_eq_true rfl⟩ [0, 1] rfl rfl 0 rfl dX1_multiply_12 rfl rfl (Nat.le_of_ble_eq_true rfl) ?_
      refine rh_icmp_ge_f (tgt := 41) hX dX1_multiply_15 (by decide) (nI_ge hj (by omega)) ?_
      refine rh_aload_n hX dX1_multiply_18 rfl ?_
      refine rh_iload_n hX dX1_multiply_19 rfl ?_
      refine rh_iload_n hX dX1_multiply_20 rfl ?_
      refine rh_aload_n hX dX1_multiply_21 rfl ?_
      refine rh_iload_n hX dX1_multiply_22 rfl ?_
      refine rh_iload_n hX dX1_multiply_23 rfl ?_
      refine rh_pV hX lk_X1_33 mvX1_held (fun l => c_X1_held l E _ _ _ _ _ (by omega) (by omega)) ⟨rfl, rfl⟩ ⟨Nat.le_of_ble_eq_true rfl, Nat.le_of_ble_eq_true rfl⟩ [0, 1] rfl rfl 0 rfl dX1_multiply_24 rfl rfl (Nat.le_of_ble_eq_true rfl) ?_
      refine rh_iload_n hX dX1_multiply_27 rfl ?_
      refine rh_iconst hX dX1_multiply_28 ki_1 ?_
      refine rh_isub hX dX1_multiply_29 ?_
      refine rh_i2l hX dX1_multiply_30 ?_
      refine rh_lmul hX dX1_multiply_31 ?_
      refine rh_uV hX lk_X1_68 mvX1_addHeld (fun l => c_X1_addHeld l E _ _ _ _ _ _ (by omega) (by omega)) ⟨rfl, rfl⟩ ⟨Nat.le_of_ble_eq_true rfl, Nat.le_of_ble_eq_true rfl⟩ [0, 1] rfl rfl 0 rfl dX1_multiply_32 rfl rfl (Nat.le_of_ble_eq_true rfl) rfl ?_
      dsimp only [List.set_cons_succ, List.set_cons_zero, vput]
      refine rh_inc3 hX dX1_multiply_35 (by decide) rfl (rn_i1 _) ?_
      refine rh_goto (tgt := 10) hX dX1_multiply_38 (by decide) ?_
      rw [mF2_j f _ T i j hi hj hT6]
      exact ihj
