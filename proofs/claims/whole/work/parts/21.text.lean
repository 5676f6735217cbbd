theorem rn_leI {a b : Nat} (h : nI a ≤ nI b) (ha : a < 2 ^ 31) (hb : b < 2 ^ 31) : a ≤ b := by
  rw [Int32.le_iff_toInt_le, nI_toInt ha, nI_toInt hb] at h
  omega
theorem rn_leN {a b : Nat} (h : ¬ nI a ≤ nI b) (ha : a < 2 ^ 31) (hb : b < 2 ^ 31) : b < a := by
  rw [Int32.le_iff_toInt_le, nI_toInt ha, nI_toInt hb] at h
  omega
theorem rn_inj {a b : Nat} (h : nI a = nI b) (ha : a < 2 ^ 31) (hb : b < 2 ^ 31) : a = b := by
  have h1 := nI_toInt ha
  rw [h, nI_toInt hb] at h1
  omega
abbrev aC (E : rhE) (n : Nat) (f : Nat → Int32) : va_E := .inl (E.2.1 3, n, .inl f)
/-- THE TEXT: the object, its signs; how many, where -/
abbrev wX (E : rhE) (o a : Nat) (s : Nat → Int32) (n : Nat) (k : Nat) : va_W := [(o, .inr (6, [.ref a, .int (nI n), .int (nI k)])), (a, aC E 200 s)]
def dg (s : Nat → Int32) (n k : Nat) : Int32 := if n ≤ k then -1 else if s k < 48 then -1 else if 57 < s k then -1 else s k - 48
def tk (s : Nat → Int32) (n k : Nat) (c : Int32) : Bool := decide (k < n) && decide (s k = c)
def tkN (s : Nat → Int32) (n k : Nat) (c : Int32) : Nat := if tk s n k c = true then k + 1 else k
def tkaF (s : Nat → Int32) (n i : Nat) : Nat → Nat → Nat → Bool × Nat
  | 0, _, k => (true, k)
  | m + 1, j, k => if tk s n k (rhCh i j) = true then tkaF s n i m (j + 1) (k + 1) else (false, k)
def tkA (s : Nat → Int32) (n i k : Nat) : Bool × Nat := tkaF s n i (rhLen.getD i 0) 0 k
theorem tkN_le (s : Nat → Int32) (n k : Nat) (c : Int32) (h : k ≤ n) : tkN s n k c ≤ n := by
  unfold tkN tk
  by_cases h1 : k < n
  · split <;> omega
  · simp [h1, h]
theorem tkaF_le (s : Nat → Int32) (n i : Nat) : ∀ m j k, k ≤ n → k ≤ (tkaF s n i m j k).2 ∧ (tkaF s n i m j k).2 ≤ n
  | 0, j, k, h => ⟨Nat.le_refl k, h⟩
  | m + 1, j, k, h => by
    unfold tkaF
    by_cases h1 : tk s n k (rhCh i j) = true
    · rw [if_pos h1]
      have h2 : k < n := by
        unfold tk at h1
        simp only [Bool.and_eq_true, decide_eq_true_eq] at h1
        exact h1.1
      have h3 := tkaF_le s n i m (j + 1) (k + 1) (by omega)
      exact ⟨by omega, h3.2⟩
    · rw [if_neg h1]
      exact ⟨Nat.le_refl k, h⟩
theorem tkA_le (s : Nat → Int32) (n i k : Nat) (h : k ≤ n) : k ≤ (tkA s n i k).2 ∧ (tkA s n i k).2 ≤ n := tkaF_le s n i _ 0 k h
theorem dg_lt (s : Nat → Int32) (n k : Nat) (h : ¬ dg s n k = -1) : k < n := by
  unfold dg at h
  by_cases h1 : n ≤ k
  · rw [if_pos h1] at h
    exact absurd rfl h
  · omega
/-- digits behind the first one: j may come still -/
def rdL (s : Nat → Int32) (n : Nat) (most : Int64) : Nat → Int64 → Nat → Int64 × Nat
  | 0, v, k => (v, k)
  | j + 1, v, k => if dg s n k < 0 then (v, k) else if v = 0 then (-1, k) else if j = 0 then (-1, k) else if most < 10 * v + (dg s n k).toInt64 then (-1, k) else rdL s n most j (10 * v + (dg s n k).toInt64) (k + 1)
termination_by j => j
theorem rdL_0 (s : Nat → Int32) (n : Nat) (most v : Int64) (k : Nat) : rdL s n most 0 v k = (v, k) := by rw [rdL]
theorem rdL_s (s : Nat → Int32) (n : Nat) (most v : Int64) (j k : Nat) : rdL s n most (j + 1) v k = if dg s n k < 0 then (v, k) else if v = 0 then (-1, k) else if j = 0 then (-1, k) else if most < 10 * v + (dg s n k).toInt64 then (-1, k) else rdL s n most j (10 * v + (dg s n k).toInt64) (k + 1) := by rw [rdL]
/-- a number from least to most: it or -1, and where reading stands then -/
def rdN (s : Nat → Int32) (n k : Nat) (least : Int32) (most : Int64) : Int64 × Nat := if (dg s n k).toInt64 < least.toInt64 then (-1, k) else rdL s n most 9 (dg s n k).toInt64 (k + 1)
theorem rdL_le (s : Nat → Int32) (n : Nat) (most : Int64) : ∀ j v k, k ≤ n → k ≤ (rdL s n most j v k).2 ∧ (rdL s n most j v k).2 ≤ n
  | 0, v, k, h => by rw [rdL_0]; exact ⟨Nat.le_refl k, h⟩
  | j + 1, v, k, h => by
    rw [rdL_s]
    by_cases h1 : dg s n k < 0
    · rw [if_pos h1]; exact ⟨Nat.le_refl k, h⟩
    · rw [if_neg h1]
      have hk := dg_lt s n k (fun q => h1 (by rw [q]; decide))
      split
      · exact ⟨Nat.le_refl k, h⟩
      · split
        · exact ⟨Nat.le_refl k, h⟩
        · split
          · exact ⟨Nat.le_refl k, h⟩
          · have h3 := rdL_le s n most j (10 * v + (dg s n k).toInt64) (k + 1) (by omega)
            exact ⟨by omega, h3.2⟩
theorem neg_lt64 {le : Int32} (h : 0 ≤ le) : (-1 : Int32).toInt64 < le.toInt64 := by
  rw [Int64.lt_iff_toInt_lt, Int32.toInt_toInt64, Int32.toInt_toInt64]
  rw [Int32.le_iff_toInt_le] at h
  have e : (-1 : Int32).toInt = -1 := by decide
  have e0 : (0 : Int32).toInt = 0 := by decide
  omega

set_option maxRecDepth 100000 in
set_option maxHeartbeats 4000000 in
theorem c_X6_clear (l : Launch) (E : rhE) (o a : Nat) (s : Nat → Int32) (n k : Nat)  : Ctr l E yX6_clear cX6_clear 1 none (rmL 0) [.ref o] (wX E o a s n k) (One none (wX E o a s 0 k)) := by
  refine Ctr.of (by decide) (Nat.le_of_ble_eq_true rfl) rfl rfl 0 ?_
  intro X hX hR
  refine rh_aload_n hX dX6_clear_0 rfl ?_
  refine rh_iconst hX dX6_clear_1 ki_0 ?_
  refine rh_put hX gl_X6_15 0 dX6_clear_2 rfl rfl rfl (Nat.le_of_ble_eq_true rfl) rfl ?_
  dsimp only [List.cons_append, List.nil_append, List.set_cons_succ, List.set_cons_zero, vput]
  exact rh_vret hX hR dX6_clear_5 (by simp only [List.map_cons, List.map_nil, List.cons_append, List.nil_append]) ⟨rfl, rfl⟩

set_option maxRecDepth 100000 in
set_option maxHeartbeats 4000000 in
theorem c_X6_position (l : Launch) (E : rhE) (o a : Nat) (s : Nat → Int32) (n k : Nat)  : Ctr l E yX6_position cX6_position 1 (some .int) (rmL 0) [.ref o] (wX E o a s n k) (One (some (.int (nI k))) (wX E o a s n k)) := by
  refine Ctr.of (by decide) (Nat.le_of_ble_eq_true rfl) rfl rfl 0 ?_
  intro X hX hR
  refine rh_aload_n hX dX6_position_0 rfl ?_
  refine rh_get hX gl_X6_19 0 dX6_position_1 rfl rfl ?_
  exact rh_iret hX hR dX6_position_4 (by simp only [List.map_cons, List.map_nil, List.cons_append, List.nil_append]) ⟨rfl, rfl⟩

set_option maxRecDepth 100000 in
set_option maxHeartbeats 4000000 in
theorem c_X6_digitHere (l : Launch) (E : rhE) (o a : Nat) (s : Nat → Int32) (n k : Nat) (hk : k ≤ n) (hn : n ≤ 200) : Ctr l E yX6_digitHere cX6_digitHere 1 (some .int) (rmL 0) [.ref o] (wX E o a s n k) (One (some (.int (dg s n k))) (wX E o a s n k)) := by
  refine Ctr.of (by decide) (Nat.le_of_ble_eq_true rfl) rfl rfl 0 ?_
  intro X hX hR
  refine rh_aload_n hX dX6_digitHere_0 rfl ?_
  refine rh_get hX gl_X6_19 0 dX6_digitHere_1 rfl rfl ?_
  refine rh_aload_n hX dX6_digitHere_4 rfl ?_
  refine rh_get hX gl_X6_15 0 dX6_digitHere_5 rfl rfl ?_
  refine rh_icmp_ge (tgt := 54) hX dX6_digitHere_8 (by decide) (fun h8 => ?_) (fun h8 => ?_)
  · skip
    have h8 := rn_leI h8 (by omega) (by omega)
    refine rh_iconst hX dX6_digitHere_54 ki_m1 ?_
    exact rh_iret hX hR dX6_digitHere_55 (by simp only [List.map_cons, List.map_nil, List.cons_append, List.nil_append]) ⟨by first | (rw [dg, if_pos h8]; done) | (rw [dg, if_neg (Nat.not_le.mpr h8), if_pos h22]; done) | (rw [dg, if_neg (Nat.not_le.mpr h8), if_neg h22, if_pos h36]; done) | (rw [dg, if_neg (Nat.not_le.mpr h8), if_neg h22, if_neg h36]; done), rfl⟩
  · skip
    have h8 := rn_leN h8 (by omega) (by omega)
    refine rh_aload_n hX dX6_digitHere_11 rfl ?_
    refine rh_get hX gl_X6_9 0 dX6_digitHere_12 rfl rfl ?_
    refine rh_aload_n hX dX6_digitHere_15 rfl ?_
    refine rh_get hX gl_X6_19 0 dX6_digitHere_16 rfl rfl ?_
    refine rh_caload hX 1 k dX6_digitHere_19 rfl (show nI k = nI k from rfl) (by omega) (by decide) ?_
    refine rh_bipush hX dX6_digitHere_20 kb_48 ?_
    refine rh_icmp_lt (tgt := 54) hX dX6_digitHere_22 (by decide) (fun h22 => ?_) (fun h22 => ?_)
    · skip
      refine rh_iconst hX dX6_digitHere_54 ki_m1 ?_
      exact rh_iret hX hR dX6_digitHere_55 (by simp only [List.map_cons, List.map_nil, List.cons_append, List.nil_append]) ⟨by first | (rw [dg, if_pos h8]; done) | (rw [dg, if_neg (Nat.not_le.mpr h8), if_pos h22]; done) | (rw [dg, if_neg (Nat.not_le.mpr h8), if_neg h22, if_pos h36]; done) | (rw [dg, if_neg (Nat.not_le.mpr h8), if_neg h22, if_neg h36]; done), rfl⟩
    · skip
      refine rh_aload_n hX dX6_digitHere_25 rfl ?_
      refine rh_get hX gl_X6_9 0 dX6_digitHere_26 rfl rfl ?_
      refine rh_aload_n hX dX6_digitHere_29 rfl ?_
      refine rh_get hX gl_X6_19 0 dX6_digitHere_30 rfl rfl ?_
      refine rh_caload hX 1 k dX6_digitHere_33 rfl (show nI k = nI k from rfl) (by omega) (by decide) ?_
      refine rh_bipush hX dX6_digitHere_34 kb_57 ?_
      refine rh_icmp_gt (tgt := 54) hX dX6_digitHere_36 (by decide) (fun h36 => ?_) (fun h36 => ?_)
      · skip
        refine rh_iconst hX dX6_digitHere_54 ki_m1 ?_
        exact rh_iret hX hR dX6_digitHere_55 (by simp only [List.map_cons, List.map_nil, List.cons_append, List.nil_append]) ⟨by first | (rw [dg, if_pos h8]; done) | (rw [dg, if_neg (Nat.not_le.mpr h8), if_pos h22]; done) | (rw [dg, if_neg (Nat.not_le.mpr h8), if_neg h22, if_pos h36]; done) | (rw [dg, if_neg (Nat.not_le.mpr h8), if_neg h22, if_neg h36]; done), rfl⟩
      · skip
        refine rh_aload_n hX dX6_digitHere_39 rfl ?_
        refine rh_get hX gl_X6_9 0 dX6_digitHere_40 rfl rfl ?_
        refine rh_aload_n hX dX6_digitHere_43 rfl ?_
        refine rh_get hX gl_X6_19 0 dX6_digitHere_44 rfl rfl ?_
        refine rh_caload hX 1 k dX6_digitHere_47 rfl (show nI k = nI k from rfl) (by omega) (by decide) ?_
        refine rh_bipush hX dX6_digitHere_48 kb_48 ?_
        refine rh_isub hX dX6_digitHere_50 ?_
        refine rh_goto (tgt := 55) hX dX6_digitHere_51 (by decide) ?_
        exact rh_iret hX hR dX6_digitHere_55 (by simp only [List.map_cons, List.map_nil, List.cons_append, List.nil_append]) ⟨by first | (rw [dg, if_pos h8]; done) | (rw [dg, if_neg (Nat.not_le.mpr h8), if_pos h22]; done) | (rw [dg, if_neg (Nat.not_le.mpr h8), if_neg h22, if_pos h36]; done) | (rw [dg, if_neg (Nat.not_le.mpr h8), if_neg h22, if_neg h36]; done), rfl⟩

set_option maxRecDepth 100000 in
set_option maxHeartbeats 4000000 in
theorem c_X6_takes (l : Launch) (E : rhE) (o a : Nat) (s : Nat → Int32) (n k : Nat) (c : Int32) (hk : k ≤ n) (hn : n ≤ 200) : Ctr l E yX6_takes cX6_takes 2 (some .boolean) (rmL 0) [.ref o, .int c] (wX E o a s n k) (One (some (.int (if tk s n k c = true then 1 else 0))) (wX E o a s n (tkN s n k c))) := by
  refine Ctr.of (by decide) (Nat.le_of_ble_eq_true rfl) rfl rfl 0 ?_
  intro X hX hR
  refine rh_aload_n hX dX6_takes_0 rfl ?_
  refine rh_get hX gl_X6_19 0 dX6_takes_1 rfl rfl ?_
  refine rh_aload_n hX dX6_takes_4 rfl ?_
  refine rh_get hX gl_X6_15 0 dX6_takes_5 rfl rfl ?_
  refine rh_icmp_ge (tgt := 24) hX dX6_takes_8 (by decide) (fun h8 => ?_) (fun h8 => ?_)
  · skip
    have h8 := rn_leI h8 (by omega) (by omega)
    have ht : tk s n k c = false := by unfold tk; simp [Nat.not_lt.mpr h8]
    refine rh_iconst hX dX6_takes_24 ki_0 ?_
    exact rh_zret hX hR dX6_takes_25 rfl (by simp only [List.map_cons, List.map_nil, List.cons_append, List.nil_append]) ⟨by rw [ht]; rfl, by rw [tkN, ht]; rfl⟩
  · skip
    have h8 := rn_leN h8 (by omega) (by omega)
    refine rh_aload_n hX dX6_takes_11 rfl ?_
    refine rh_get hX gl_X6_9 0 dX6_takes_12 rfl rfl ?_
    refine rh_aload_n hX dX6_takes_15 rfl ?_
    refine rh_get hX gl_X6_19 0 dX6_takes_16 rfl rfl ?_
    refine rh_caload hX 1 k dX6_takes_19 rfl (show nI k = nI k from rfl) (by omega) (by decide) ?_
    refine rh_iload_n hX dX6_takes_20 rfl ?_
    refine rh_icmp_eq (tgt := 26) hX dX6_takes_21 (by decide) (fun h21 => ?_) (fun h21 => ?_)
    · skip
      have ht : tk s n k c = true := by unfold tk; simp [h8, h21]
      refine rh_aload_n hX dX6_takes_26 rfl ?_
      refine rh_dup hX dX6_takes_27 rfl ?_
      refine rh_get hX gl_X6_19 0 dX6_takes_28 rfl rfl ?_
      refine rh_iconst hX dX6_takes_31 ki_1 ?_
      refine rh_iadd hX dX6_takes_32 ?_
      rw [show nI k + 1 = nI (k + 1) from (nI_succ k).symm]
      refine rh_put hX gl_X6_19 0 dX6_takes_33 rfl rfl rfl (Nat.le_of_ble_eq_true rfl) rfl ?_
      dsimp only [List.cons_append, List.nil_append, List.set_cons_succ, List.set_cons_zero, vput]
      refine rh_iconst hX dX6_takes_36 ki_1 ?_
      exact rh_zret hX hR dX6_takes_37 rfl (by simp only [List.map_cons, List.map_nil, List.cons_append, List.nil_append]) ⟨by rw [if_pos ht], by rw [tkN, if_pos ht]⟩
    · skip
      have ht : tk s n k c = false := by unfold tk; simp [h21]
      refine rh_iconst hX dX6_takes_24 ki_0 ?_
      exact rh_zret hX hR dX6_takes_25 rfl (by simp only [List.map_cons, List.map_nil, List.cons_append, List.nil_append]) ⟨by rw [ht]; rfl, by rw [tkN, ht]; rfl⟩

set_option maxRecDepth 100000 in
set_option maxHeartbeats 4000000 in
theorem c_X6_takesAll (l : Launch) (E : rhE) (o a : Nat) (s : Nat → Int32) (n k : Nat) (i : Nat) (hk : k ≤ n) (hn : n ≤ 200) (hi : i < 11) : Ctr l E yX6_takesAll cX6_takesAll 3 (some .boolean) (rmL 4) [.ref o, .ref (E.2.2.2.1 i)] (wX E o a s n k) (One (some (.int (if (tkA s n i k).1 = true then 1 else 0))) (wX E o a s n (tkA s n i k).2)) := by
  refine Ctr.of (by decide) (Nat.le_of_ble_eq_true rfl) rfl rfl 1 ?_
  intro X hX hR
  have hsl := str_len i hi
  refine rh_iconst hX dX6_takesAll_0 ki_0 ?_
  refine rh_istn2 hX dX6_takesAll_1 (by decide) rfl ?_
  refine (rh_loop (P := fun j => ∀ (k1 : Nat), (k1 ≤ n ∧ tkA s n i k = tkaF s n i (rhLen.getD i 0 - j) j k1) → G X 2 [some (.ref o), some (.ref (E.2.2.2.1 i)), some (.int (nI j))] [] (wX E o a s n k1)) (0) (rhLen.getD i 0) (by omega) ?_ ?_) k ⟨hk, rfl⟩
  · intro k1 hH
    obtain ⟨hk1, hH⟩ := hH
    rw [Nat.sub_self, tkaF] at hH
    refine rh_iload_n hX dX6_takesAll_2 rfl ?_
    refine rh_aload_n hX dX6_takesAll_3 rfl ?_
    refine rh_pT hX lk_X6_22 mtJ0_length_8abf5 (fun l => c_J0_length l E i hi) hi ⟨rfl, rfl⟩ ⟨Nat.le_of_ble_eq_true rfl, Nat.le_of_ble_eq_true rfl⟩ dX6_takesAll_4 rfl rfl (Nat.le_of_ble_eq_true rfl) ?_
    refine rh_icmp_ge_t (tgt := 30) hX dX6_takesAll_7 (by decide) (nI_le (Nat.le_refl _) (by omega)) ?_
    refine rh_iconst hX dX6_takesAll_30 ki_1 ?_
    exact rh_zret hX hR dX6_takesAll_31 rfl (by simp only [List.map_cons, List.map_nil, List.cons_append, List.nil_append]) ⟨by rw [hH]; rfl, by rw [hH]⟩
  · intro j hj0 hj ihj k1 hH
    obtain ⟨m, hm⟩ : ∃ m, rhLen.getD i 0 - j = m + 1 := ⟨rhLen.getD i 0 - j - 1, by omega⟩
    have hm2 : rhLen.getD i 0 - (j + 1) = m := by omega
    obtain ⟨hk1, hH⟩ := hH
    rw [hm, tkaF] at hH
    rw [hm2] at ihj
    refine rh_iload_n hX dX6_takesAll_2 rfl ?_
    refine rh_aload_n hX dX6_takesAll_3 rfl ?_
    refine rh_pT hX lk_X6_22 mtJ0_length_8abf5 (fun l => c_J0_length l E i hi) hi ⟨rfl, rfl⟩ ⟨Nat.le_of_ble_eq_true rfl, Nat.le_of_ble_eq_true rfl⟩ dX6_takesAll_4 rfl rfl (Nat.le_of_ble_eq_true rfl) ?_
    refine rh_icmp_ge_f (tgt := 30) hX dX6_takesAll_7 (by decide) (nI_ge hj (by omega)) ?_
    refine rh_aload_n hX dX6_takesAll_10 rfl ?_
    refine rh_aload_n hX dX6_takesAll_11 rfl ?_
    refine rh_iload_n hX dX6_takesAll_12 rfl ?_
    refine rh_pT hX lk_X6_27 mtJ0_charAt_5068e (fun l => c_J0_charAt l E i j hi hj) hi ⟨rfl, rfl⟩ ⟨Nat.le_of_ble_eq_true rfl, Nat.le_of_ble_eq_true rfl⟩ dX6_takesAll_13 rfl rfl (Nat.le_of_ble_eq_true rfl) ?_
    refine rh_wV hX lk_X6_31 mvX6_takes (fun l => c_X6_takes l E _ _ _ _ _ _ (by omega) (by omega)) ⟨rfl, rfl⟩ ⟨Nat.le_of_ble_eq_true rfl, Nat.le_of_ble_eq_true rfl⟩ [0, 1] rfl rfl 0 rfl dX6_takesAll_16 rfl rfl (Nat.le_of_ble_eq_true rfl) rfl ?_
    dsimp only [List.cons_append, List.nil_append, List.set_cons_succ, List.set_cons_zero, vput]
    refine rh_if_ne (tgt := 24) hX dX6_takesAll_19 (by decide) (fun h19 => ?_) (fun h19 => ?_)
    · skip
      have h19 : tk s n k1 (rhCh i j) = true := Classical.not_not.mp (fun q => h19 (if_neg q))
      refine rh_inc2 hX dX6_takesAll_24 (by decide) rfl (rn_i1 _) ?_
      refine rh_goto (tgt := 2) hX dX6_takesAll_27 (by decide) ?_
      exact ihj _ ⟨tkN_le s n k1 _ hk1, by rw [hH, if_pos h19, tkN, if_pos h19]⟩
    · skip
      have h19 : ¬ tk s n k1 (rhCh i j) = true := fun q => by rw [if_pos q] at h19; exact absurd h19 (by decide)
      refine rh_iconst hX dX6_takesAll_22 ki_0 ?_
      exact rh_zret hX hR dX6_takesAll_23 rfl (by simp only [List.map_cons, List.map_nil, List.cons_append, List.nil_append]) ⟨by rw [hH, if_neg h19]; rfl, by rw [hH, if_neg h19, tkN, if_neg h19]⟩

set_option maxRecDepth 100000 in
set_option maxHeartbeats 4000000 in
theorem c_X6_readNumber (l : Launch) (E : rhE) (o a : Nat) (s : Nat → Int32) (n k : Nat) (le : Int32) (mo : Int64) (hk : k ≤ n) (hn : n ≤ 200) (hle : 0 ≤ le) : Ctr l E yX6_readNumber cX6_readNumber 8 (some .long) (rmL 1) [.ref o, .int le, .long mo] (wX E o a s n k) (One (some (.long (rdN s n k le mo).1)) (wX E o a s n (rdN s n k le mo).2)) := by
  refine Ctr.of (by decide) (Nat.le_of_ble_eq_true rfl) rfl rfl 4 ?_
  intro X hX hR
  refine rh_aload_n hX dX6_readNumber_0 rfl ?_
  refine rh_pV hX lk_X6_35 mvX6_digitHere (fun l => c_X6_digitHere l E _ _ _ _ _ (by omega) (by omega)) ⟨rfl, rfl⟩ ⟨Nat.le_of_ble_eq_true rfl, Nat.le_of_ble_eq_true rfl⟩ [0, 1] rfl rfl 0 rfl dX6_readNumber_1 rfl rfl (Nat.le_of_ble_eq_true rfl) ?_
  refine rh_i2l hX dX6_readNumber_4 ?_
  refine rh_lst4 hX dX6_readNumber_5 (by decide) rfl ?_
  refine rh_lload hX dX6_readNumber_7 rfl ?_
  refine rh_iload_n hX dX6_readNumber_9 rfl ?_
  refine rh_i2l hX dX6_readNumber_10 ?_
  refine rh_lge (tgt := 19) hX dX6_readNumber_11 dX6_readNumber_12 (by decide) (fun h11 => ?_) (fun h11 => ?_)
  · skip
    have h11 := rh_le64.mp h11
    have hkl : k < n := dg_lt s n k (fun q => h11 (by rw [q]; exact neg_lt64 hle))
    have hR0 : rdN s n k le mo = rdL s n mo 9 (dg s n k).toInt64 (k + 1) := by rw [rdN, if_neg h11]
    refine rh_aload_n hX dX6_readNumber_19 rfl ?_
    refine rh_dup hX dX6_readNumber_20 rfl ?_
    refine rh_get hX gl_X6_19 0 dX6_readNumber_21 rfl rfl ?_
    refine rh_iconst hX dX6_readNumber_24 ki_1 ?_
    refine rh_iadd hX dX6_readNumber_25 ?_
    rw [show nI k + 1 = nI (k + 1) from (nI_succ k).symm]
    refine rh_put hX gl_X6_19 0 dX6_readNumber_26 rfl rfl rfl (Nat.le_of_ble_eq_true rfl) rfl ?_
    dsimp only [List.cons_append, List.nil_append, List.set_cons_succ, List.set_cons_zero, vput]
    refine rh_iconst hX dX6_readNumber_29 ki_1 ?_
    refine rh_ist6 hX dX6_readNumber_30 (by decide) rfl ?_
    refine (rh_loop (P := fun g => ∀ (v : Int64) (k1 : Nat), (k1 ≤ n ∧ rdN s n k le mo = rdL s n mo (10 - g) v k1) → G X 32 [some (.ref o), some (.int le), some (.long mo), none, some (.long v), none, some (.int (nI g)), none] [] (wX E o a s n k1)) (1) (10) (by omega) ?_ ?_) _ (k + 1) ⟨hkl, hR0⟩
    · intro v k1 hH
      obtain ⟨hk1, hH⟩ := hH
      rw [Nat.sub_self, rdL_0] at hH
      refine rh_iload hX dX6_readNumber_32 rfl ?_
      refine rh_bipush hX dX6_readNumber_34 kb_9 ?_
      refine rh_icmp_gt_t (tgt := 114) hX dX6_readNumber_36 (by decide) (by decide) ?_
      refine rh_lload hX dX6_readNumber_114 rfl ?_
      exact rh_lret hX hR dX6_readNumber_116 (by simp only [List.map_cons, List.map_nil, List.cons_append, List.nil_append]) ⟨by rw [hH], by rw [hH]⟩
    · intro g hg0 hg ihg v k1 hH
      obtain ⟨m, hm⟩ : ∃ m, 10 - g = m + 1 := ⟨10 - g - 1, by omega⟩
      have hm2 : 10 - (g + 1) = m := by omega
      obtain ⟨hk1, hH⟩ := hH
      rw [hm, rdL_s] at hH
      rw [hm2] at ihg
      refine rh_iload hX dX6_readNumber_32 rfl ?_
      refine rh_bipush hX dX6_readNumber_34 kb_9 ?_
      refine rh_icmp_gt_f (tgt := 114) hX dX6_readNumber_36 (by decide) (nI_nlt (b := g) (a := 9) (by omega) (by decide)) ?_
      refine rh_aload_n hX dX6_readNumber_39 rfl ?_
      refine rh_pV hX lk_X6_35 mvX6_digitHere (fun l => c_X6_digitHere l E _ _ _ _ _ (by omega) (by omega)) ⟨rfl, rfl⟩ ⟨Nat.le_of_ble_eq_true rfl, Nat.le_of_ble_eq_true rfl⟩ [0, 1] rfl rfl 0 rfl dX6_readNumber_40 rfl rfl (Nat.le_of_ble_eq_true rfl) ?_
      refine rh_ist7 hX dX6_readNumber_43 (by decide) rfl ?_
      refine rh_iload hX dX6_readNumber_45 rfl ?_
      refine rh_if_ge (tgt := 53) hX dX6_readNumber_47 (by decide) (fun h47 => ?_) (fun h47 => ?_)
      · skip
        have h47 : ¬ dg s n k1 < 0 := fun q => by rw [Int32.lt_iff_toInt_lt] at q; rw [Int32.le_iff_toInt_le] at h47; omega
        have hk1l : k1 < n := dg_lt s n k1 (fun q => h47 (by rw [q]; decide))
        refine rh_lload hX dX6_readNumber_53 rfl ?_
        refine rh_lconst hX dX6_readNumber_55 kL_0 ?_
        refine rh_leq (tgt := 82) hX dX6_readNumber_56 dX6_readNumber_57 (by decide) (fun h56 => ?_) (fun h56 => ?_)
        · skip
          refine rh_ldc2 hX dX6_readNumber_82 kl_X6_38 ?_
          exact rh_lret hX hR dX6_readNumber_85 (by simp only [List.map_cons, List.map_nil, List.cons_append, List.nil_append]) ⟨by first | (rw [hH, if_neg h47, if_pos h56]; done) | (rw [hH, if_neg h47, if_neg h56, if_pos h64]; done) | (rw [hH, if_neg h47, if_neg h56, if_neg h64, if_pos (Classical.not_not.mp (fun q => h78 (rh_le64.mpr q)))]; done), by first | (rw [hH, if_neg h47, if_pos h56]; done) | (rw [hH, if_neg h47, if_neg h56, if_pos h64]; done) | (rw [hH, if_neg h47, if_neg h56, if_neg h64, if_pos (Classical.not_not.mp (fun q => h78 (rh_le64.mpr q)))]; done)⟩
        · skip
          refine rh_iload hX dX6_readNumber_60 rfl ?_
          refine rh_bipush hX dX6_readNumber_62 kb_9 ?_
          refine rh_icmp_eq (tgt := 82) hX dX6_readNumber_64 (by decide) (fun h64 => ?_) (fun h64 => ?_)
          · skip
            have h64 : m = 0 := by have := rn_inj (b := 9) h64 (by omega) (by decide); omega
            refine rh_ldc2 hX dX6_readNumber_82 kl_X6_38 ?_
            exact rh_lret hX hR dX6_readNumber_85 (by simp only [List.map_cons, List.map_nil, List.cons_append, List.nil_append]) ⟨by first | (rw [hH, if_neg h47, if_pos h56]; done) | (rw [hH, if_neg h47, if_neg h56, if_pos h64]; done) | (rw [hH, if_neg h47, if_neg h56, if_neg h64, if_pos (Classical.not_not.mp (fun q => h78 (rh_le64.mpr q)))]; done), by first | (rw [hH, if_neg h47, if_pos h56]; done) | (rw [hH, if_neg h47, if_neg h56, if_pos h64]; done) | (rw [hH, if_neg h47, if_neg h56, if_neg h64, if_pos (Classical.not_not.mp (fun q => h78 (rh_le64.mpr q)))]; done)⟩
          · skip
            have h64 : ¬ m = 0 := fun q => h64 (by rw [show g = 9 by omega]; rfl)
            refine rh_ldc2 hX dX6_readNumber_67 kl_X6_40 ?_
            refine rh_lload hX dX6_readNumber_70 rfl ?_
            refine rh_lmul hX dX6_readNumber_72 ?_
            refine rh_iload hX dX6_readNumber_73 rfl ?_
            refine rh_i2l hX dX6_readNumber_75 ?_
            refine rh_ladd hX dX6_readNumber_76 ?_
            refine rh_lload_n hX dX6_readNumber_77 rfl ?_
            refine rh_lle (tgt := 86) hX dX6_readNumber_78 dX6_readNumber_79 (by decide) (fun h78 => ?_) (fun h78 => ?_)
            · skip
              refine rh_ldc2 hX dX6_readNumber_86 kl_X6_40 ?_
              refine rh_lload hX dX6_readNumber_89 rfl ?_
              refine rh_lmul hX dX6_readNumber_91 ?_
              refine rh_iload hX dX6_readNumber_92 rfl ?_
              refine rh_i2l hX dX6_readNumber_94 ?_
              refine rh_ladd hX dX6_readNumber_95 ?_
              refine rh_lst4 hX dX6_readNumber_96 (by decide) rfl ?_
              refine rh_aload_n hX dX6_readNumber_98 rfl ?_
              refine rh_dup hX dX6_readNumber_99 rfl ?_
              refine rh_get hX gl_X6_19 0 dX6_readNumber_100 rfl rfl ?_
              refine rh_iconst hX dX6_readNumber_103 ki_1 ?_
              refine rh_iadd hX dX6_readNumber_104 ?_
              rw [show nI k1 + 1 = nI (k1 + 1) from (nI_succ k1).symm]
              refine rh_put hX gl_X6_19 0 dX6_readNumber_105 rfl rfl rfl (Nat.le_of_ble_eq_true rfl) rfl ?_
              dsimp only [List.cons_append, List.nil_append, List.set_cons_succ, List.set_cons_zero, vput]
              refine rh_inc6 hX dX6_readNumber_108 (by decide) rfl (rn_i1 _) ?_
              refine rh_goto (tgt := 32) hX dX6_readNumber_111 (by decide) ?_
              exact rh_wk (by exact ⟨rfl, rfl, rfl, rfl, rfl, trivial⟩) (ihg _ (k1 + 1) ⟨hk1l, by rw [hH, if_neg h47, if_neg h56, if_neg h64, if_neg (rh_le64.mp h78)]⟩)
            · skip
              refine rh_ldc2 hX dX6_readNumber_82 kl_X6_38 ?_
              exact rh_lret hX hR dX6_readNumber_85 (by simp only [List.map_cons, List.map_nil, List.cons_append, List.nil_append]) ⟨by first | (rw [hH, if_neg h47, if_pos h56]; done) | (rw [hH, if_neg h47, if_neg h56, if_pos h64]; done) | (rw [hH, if_neg h47, if_neg h56, if_neg h64, if_pos (Classical.not_not.mp (fun q => h78 (rh_le64.mpr q)))]; done), by first | (rw [hH, if_neg h47, if_pos h56]; done) | (rw [hH, if_neg h47, if_neg h56, if_pos h64]; done) | (rw [hH, if_neg h47, if_neg h56, if_neg h64, if_pos (Classical.not_not.mp (fun q => h78 (rh_le64.mpr q)))]; done)⟩
      · skip
        have h47 : dg s n k1 < 0 := by rw [Int32.lt_iff_toInt_lt]; rw [Int32.le_iff_toInt_le] at h47; omega
        refine rh_lload hX dX6_readNumber_50 rfl ?_
        exact rh_lret hX hR dX6_readNumber_52 (by simp only [List.map_cons, List.map_nil, List.cons_append, List.nil_append]) ⟨by rw [hH, if_pos h47], by rw [hH, if_pos h47]⟩
  · skip
    have h11 : (dg s n k).toInt64 < le.toInt64 := Classical.not_not.mp (fun q => h11 (rh_le64.mpr q))
    refine rh_ldc2 hX dX6_readNumber_15 kl_X6_38 ?_
    exact rh_lret hX hR dX6_readNumber_18 (by simp only [List.map_cons, List.map_nil, List.cons_append, List.nil_append]) ⟨by rw [rdN, if_pos h11], by rw [rdN, if_pos h11]⟩
