/-! ===== the model's reading beside the class's ===== -/
theorem n48 : (48 : Int32).toInt = 48 := by decide
theorem n48L : (48 : Int64).toInt = 48 := by decide
theorem n57L : (57 : Int64).toInt = 57 := by decide
theorem n10L : (10 : Int64).toInt = 10 := by decide
theorem nm1 : (-1 : Int32).toInt = -1 := by decide
theorem n0L : (0 : Int64).toInt = 0 := rfl
theorem nI_ne1 {k : Nat} (h : k < 2 ^ 31) : ¬ nI k = -1 := fun q => by
  have := congrArg Int32.toInt q
  rw [nI_toInt h, nm1] at this
  omega
theorem dg_c {tx : Nat → Int32} {n k : Nat} (hb : byteOk tx n) : (xIn (mSee tx n k).toInt64 48 57 = 0 ∧ dg (sC tx) n k = -1) ∨ (¬ xIn (mSee tx n k).toInt64 48 57 = 0 ∧ k < n ∧ (mSee tx n k).toInt = (dg (sC tx) n k).toInt + 48 ∧ 0 ≤ (dg (sC tx) n k).toInt ∧ (dg (sC tx) n k).toInt ≤ 9 ∧ dg (sC tx) n k = mSee tx n k - 48) := by
  rw [xIn_0, n48L, n57L]
  by_cases h : k < n
  · have e : mSee tx n k = sC tx k := by unfold mSee; rw [if_pos h]; rfl
    obtain ⟨b1, b2⟩ := sC_b hb h
    rw [e]
    unfold dg
    rw [if_neg (by omega)]
    by_cases a : sC tx k < 48
    · rw [if_pos a]
      rw [z_lt32, n48] at a
      exact Or.inl ⟨Or.inl a, rfl⟩
    · rw [if_neg a]
      rw [z_lt32, n48] at a
      by_cases c : 57 < sC tx k
      · rw [if_pos c]
        rw [z_lt32, show (57 : Int32).toInt = 57 by decide] at c
        exact Or.inl ⟨Or.inr c, rfl⟩
      · rw [if_neg c]
        rw [z_lt32, show (57 : Int32).toInt = 57 by decide] at c
        have f : (sC tx k - 48).toInt = (sC tx k).toInt - 48 := z_sub32 rfl n48 (by omega) (by omega)
        exact Or.inr ⟨by omega, h, by omega, by omega, by omega, rfl⟩
  · have e : mSee tx n k = -1 := by unfold mSee; rw [if_neg h]
    rw [e, nm1]
    unfold dg
    rw [if_pos (by omega)]
    exact Or.inl ⟨Or.inl (by omega), rfl⟩
theorem dg_neg {s : Nat → Int32} {n k : Nat} (h : dg s n k = -1) : dg s n k < 0 := by rw [h]; decide
theorem dg_ge {x : Int32} (h : 0 ≤ x.toInt) : ¬ x < 0 := fun q => by rw [z_lt32, show (0 : Int32).toInt = 0 by decide] at q; omega
/-- how a number of the model's stands to one of the class's -/
def numR (s : Nat → Int32) (n : Nat) (lo mo : Int) (R : Int32 × Nat × Int32) (c : Int64 × Nat) : Prop := (0 ≤ c.1.toInt ∧ lo ≤ c.1.toInt ∧ R = (c.1.toInt32, c.2, -1) ∧ dg s n c.2 = -1 ∧ c.1.toInt ≤ 999999999 ∧ c.1.toInt ≤ mo) ∨ (c.1 = -1 ∧ (R.2.2 = nI c.2 ∨ (R.2.2 = -1 ∧ R.2.1 = c.2 ∧ 0 ≤ (dg s n c.2).toInt)))
theorem numL_rel {tx : Nat → Int32} {n : Nat} (hb : byteOk tx n) {le : Int32} {mo most : Int64} {lo : Int} (hlim : ∀ x : Int, x ≤ 999999999 → (x ≤ mo.toInt ↔ x ≤ most.toInt)) : ∀ (j : Nat) (v : Int64) (k : Nat), 0 ≤ v.toInt → (v.toInt + 1) * 10 ^ j ≤ 1000000000 → v.toInt ≤ mo.toInt → lo ≤ v.toInt → numR (sC tx) n lo mo.toInt (mNumL tx n le mo j v k) (rdL (sC tx) n most (j + 1) v k)
  | 0, v, k, h0, h1, hm, hl0 => by
    rw [Int.pow_zero, Int.mul_one] at h1
    rw [mNumL, rdL_s]
    rcases dg_c (k := k) hb with ⟨-, d⟩ | ⟨-, hk, d1, d2, d3, d4⟩
    · rw [if_pos (dg_neg d)]
      exact Or.inl ⟨h0, hl0, rfl, d, by show v.toInt ≤ _; omega, hm⟩
    · rw [if_neg (dg_ge d2), if_pos rfl]
      split
      · exact Or.inr ⟨rfl, Or.inr ⟨rfl, rfl, d2⟩⟩
      · exact Or.inr ⟨rfl, Or.inr ⟨rfl, rfl, d2⟩⟩
  | j + 1, v, k, h0, h1, hm, hl0 => by
    have hp : (1 : Int) ≤ 10 ^ j := by
      have : (0 : Int) < 10 ^ j := Int.pow_pos (by omega)
      omega
    rw [Int.pow_succ] at h1
    have hv : v.toInt ≤ 99999999 := by
      have e : (v.toInt + 1) * (10 ^ j * 10) = ((v.toInt + 1) * 10) * 10 ^ j := by rw [Int.mul_assoc, Int.mul_comm (10 ^ j) 10]
      have f : ((v.toInt + 1) * 10) * 1 ≤ ((v.toInt + 1) * 10) * 10 ^ j := Int.mul_le_mul_of_nonneg_left hp (by omega)
      omega
    rw [mNumL, rdL_s]
    rcases dg_c (k := k) hb with ⟨x, d⟩ | ⟨x, hk, d1, d2, d3, d4⟩
    · rw [if_pos (dg_neg d)]
      have : (if v ≤ 0 then (v.toInt32, k, (-1 : Int32)) else if xIn (mSee tx n k).toInt64 48 57 = 0 then (v.toInt32, k, -1) else if 10 * v + (mSee tx n k).toInt64 - 48 ≤ mo then mNumL tx n le mo j (10 * v + (mSee tx n k).toInt64 - 48) (k + 1) else (le, k, nI k)) = (v.toInt32, k, -1) := by
        by_cases y : v ≤ 0
        · rw [if_pos y]
        · rw [if_neg y, if_pos x]
      rw [this]
      exact Or.inl ⟨h0, hl0, rfl, d, by show v.toInt ≤ _; omega, hm⟩
    · rw [if_neg (dg_ge d2)]
      by_cases z : v ≤ 0
      · have z0 : v = 0 := Int64.toInt_inj.mp (by rw [z_le, n0L] at z; rw [n0L]; omega)
        rw [if_pos z, if_pos z0]
        exact Or.inr ⟨rfl, Or.inr ⟨rfl, rfl, d2⟩⟩
      · have z0 : ¬ v = 0 := fun q => z (by rw [q]; decide)
        have e1 : (10 * v + (dg (sC tx) n k).toInt64).toInt = 10 * v.toInt + (dg (sC tx) n k).toInt := z_add (z_mul n10L rfl (by omega) (by omega)) (z_l _) (by omega) (by omega)
        have e2 : (10 * v + (mSee tx n k).toInt64 - 48).toInt = 10 * v.toInt + (dg (sC tx) n k).toInt := by
          rw [z_sub (z_add (z_mul n10L rfl (by omega) (by omega)) (z_l _) (by omega) (by omega)) n48L (by omega) (by omega)]
          omega
        have e3 : 10 * v + (mSee tx n k).toInt64 - 48 = 10 * v + (dg (sC tx) n k).toInt64 := Int64.toInt_inj.mp (by rw [e1, e2])
        rw [if_neg z, if_neg x, if_neg z0, if_neg (show ¬ j + 1 = 0 by omega), e3]
        have hl := hlim (10 * v.toInt + (dg (sC tx) n k).toInt) (by omega)
        by_cases q : 10 * v + (dg (sC tx) n k).toInt64 ≤ mo
        · rw [if_pos q]
          rw [z_le, e1] at q
          rw [if_neg (c := most < 10 * v + (dg (sC tx) n k).toInt64) (fun z => by rw [z_lt, e1] at z; omega)]
          have hh : (10 * v.toInt + (dg (sC tx) n k).toInt + 1) * 10 ^ j ≤ 1000000000 := by
            have a : (10 * v.toInt + (dg (sC tx) n k).toInt + 1) * 10 ^ j ≤ ((v.toInt + 1) * 10) * 10 ^ j := Int.mul_le_mul_of_nonneg_right (by omega) (by omega)
            have e : (v.toInt + 1) * (10 ^ j * 10) = ((v.toInt + 1) * 10) * 10 ^ j := by rw [Int.mul_assoc, Int.mul_comm (10 ^ j) 10]
            omega
          exact numL_rel hb hlim j _ _ (by rw [e1]; omega) (by rw [e1]; exact hh) (by rw [e1]; exact q) (by rw [e1]; omega)
        · rw [if_neg q]
          rw [z_le, e1] at q
          rw [if_pos (c := most < 10 * v + (dg (sC tx) n k).toInt64) (by rw [z_lt, e1]; omega)]
          exact Or.inr ⟨rfl, Or.inl rfl⟩
theorem num_rel {tx : Nat → Int32} {n k : Nat} (hb : byteOk tx n) {le : Int32} {mo most : Int64} (hle : 0 ≤ le.toInt) (hmo : 9 ≤ mo.toInt) (hlim : ∀ x : Int, x ≤ 999999999 → (x ≤ mo.toInt ↔ x ≤ most.toInt)) : numR (sC tx) n le.toInt mo.toInt (mNum tx n k (-1) le mo) (rdN (sC tx) n k le most) := by
  unfold mNum rdN
  rw [if_pos rfl]
  rcases dg_c (k := k) hb with ⟨x, d⟩ | ⟨x, hk, d1, d2, d3, d4⟩
  · rw [if_pos x, if_pos (by rw [d, z_lt, z_l, z_l, nm1]; omega)]
    exact Or.inr ⟨rfl, Or.inl rfl⟩
  · rw [if_neg x, ← d4]
    by_cases a : (dg (sC tx) n k).toInt64 < le.toInt64
    · rw [if_pos a, if_pos a]
      exact Or.inr ⟨rfl, Or.inl rfl⟩
    · rw [if_neg a, if_neg a, if_pos (by rw [z_le, z_l]; omega)]
      rw [z_lt, z_l, z_l] at a
      exact numL_rel hb hlim 8 _ _ (by rw [z_l]; exact d2) (by rw [z_l]; omega) (by rw [z_l]; omega) (by rw [z_l]; omega)
theorem num_same {mo : Int64} : ∀ x : Int, x ≤ 999999999 → (x ≤ mo.toInt ↔ x ≤ mo.toInt) := fun _ _ => Iff.rfl
/-- a sign is asked for -/
theorem exp_tk {tx : Nat → Int32} {n k c : Nat} (hc : c < 256) : mExp tx n k (-1) (nI c) = if tk (sC tx) n k (nI c) = true then (k + 1, -1) else (k, nI k) := by
  unfold mExp
  rw [if_pos rfl]
  by_cases h : tk (sC tx) n k (nI c) = true
  · rw [if_pos h, if_pos ((mSee_tk hc).mpr h)]
  · rw [if_neg h, if_neg (fun q => h ((mSee_tk hc).mp q))]
    rfl
theorem exp_no {tx : Nat → Int32} {n k : Nat} {wr c : Int32} (h : ¬ wr = -1) : mExp tx n k wr c = (k, wr) := by unfold mExp; rw [if_neg h]
theorem num_no {tx : Nat → Int32} {n k : Nat} {wr le : Int32} {mo : Int64} (h : ¬ wr = -1) : mNum tx n k wr le mo = (le, k, wr) := by unfold mNum; rw [if_neg h]
theorem ps_no {s : Nat → Int32} {n k i : Nat} {wr : Int32} (h : ¬ wr = -1) : mPs s n k wr i = (false, k) := mPs_1 h
/-! once something is wrong it stays so -/
theorem tE_no {tx : Nat → Int32} {n fr : Nat} {q : MS} (h : ¬ q.2.1 = -1) : (tE tx n fr q).2.1 = q.2.1 := by
  unfold tE tEw
  rw [if_neg h, exp_no h]
theorem t7_no {tx : Nat → Int32} {n fr : Nat} {q : MS} (h : ¬ q.2.1 = -1) : (t7 tx n fr q).2.1 = q.2.1 := by
  unfold t7 mPq
  rw [ps_no h, if_neg Bool.false_ne_true, tE_no h]
theorem t6_no {tx : Nat → Int32} {n fr : Nat} {q : MS} (h : ¬ q.2.1 = -1) : (t6 tx n fr q).2.1 = q.2.1 := by
  unfold t6 mPq
  rw [ps_no h, if_neg Bool.false_ne_true, t7_no h]
theorem t5_no {tx : Nat → Int32} {n fr : Nat} {q : MS} (h : ¬ q.2.1 = -1) : (t5 tx n fr q).2.1 = q.2.1 := by
  unfold t5 mPq
  rw [ps_no h, if_neg Bool.false_ne_true, t6_no h]
theorem t4_no {tx : Nat → Int32} {n fr : Nat} {q : MS} (h : ¬ q.2.1 = -1) : (t4 tx n fr q).2.1 = q.2.1 := by
  unfold t4 mPq
  rw [ps_no h, if_neg Bool.false_ne_true, t5_no h]
theorem t3_no {tx : Nat → Int32} {n fr : Nat} {q : MS} (h : ¬ q.2.1 = -1) : (t3 tx n fr q).2.1 = q.2.1 := by
  unfold t3 mPq
  rw [ps_no h, if_neg Bool.false_ne_true, t4_no h]
theorem t2_no {tx : Nat → Int32} {n fr : Nat} {q : MS} (h : ¬ q.2.1 = -1) : (t2 tx n fr q).2.1 = q.2.1 := by
  unfold t2 mPq
  rw [ps_no h, if_neg Bool.false_ne_true, t3_no h]
theorem t1_no {tx : Nat → Int32} {n fr : Nat} {q : MS} (h : ¬ q.2.1 = -1) : (t1 tx n fr q).2.1 = q.2.1 := by
  unfold t1 mPq
  rw [ps_no h, if_neg Bool.false_ne_true, t2_no h]
/-! where a digit stands no word and no colon does -/
theorem dgt_tk {tx : Nat → Int32} {n k : Nat} (hb : byteOk tx n) (h : 0 ≤ (dg (sC tx) n k).toInt) {c : Nat} (hc : c < 48 ∨ 57 < c) (h8 : c < 256) : ¬ tk (sC tx) n k (nI c) = true := by
  rcases dg_c (k := k) hb with ⟨-, d⟩ | ⟨-, hk, d1, d2, d3, d4⟩
  · rw [d, nm1] at h; omega
  · intro q
    rw [← mSee_tk h8] at q
    rw [q, nI_toInt (by omega)] at d1
    omega
theorem dgt_ps {tx : Nat → Int32} {n k i : Nat} (hb : byteOk tx n) (h : 0 ≤ (dg (sC tx) n k).toInt) : mPs (sC tx) n k (-1) i = (false, k) := mPs_2 rfl (dgt_tk (c := 32) hb h (by omega) (by omega))
theorem tE_d {tx : Nat → Int32} {n fr : Nat} (hb : byteOk tx n) (hn : n ≤ 200) {q : MS} (hw : q.2.1 = -1) (h : 0 ≤ (dg (sC tx) n q.1).toInt) : (tE tx n fr q).2.1 = nI q.1 := by
  have hk : q.1 < n := by
    rcases dg_c (k := q.1) hb with ⟨-, d⟩ | ⟨-, hk, -⟩
    · rw [d, nm1] at h; omega
    · exact hk
  have e : tEw tx n fr q = nI q.1 := by
    unfold tEw mLf
    rw [if_pos hw, if_neg (c := mSee tx n q.1 = 58) (fun z => dgt_tk (c := 58) hb h (by omega) (by omega) ((mSee_tk (by omega)).mp z)), if_neg (c := tk (sC tx) n q.1 32 = true) (dgt_tk (c := 32) hb h (by omega) (by omega)), hw]
    rfl
  unfold tE
  rw [e, exp_no (nI_ne1 (by omega))]
theorem t7_d {tx : Nat → Int32} {n fr : Nat} (hb : byteOk tx n) (hn : n ≤ 200) {q : MS} (hw : q.2.1 = -1) (h : 0 ≤ (dg (sC tx) n q.1).toInt) : (t7 tx n fr q).2.1 = nI q.1 := by
  unfold t7 mPq
  rw [hw, dgt_ps hb h, if_neg Bool.false_ne_true, tE_d hb hn hw h]
theorem t6_d {tx : Nat → Int32} {n fr : Nat} (hb : byteOk tx n) (hn : n ≤ 200) {q : MS} (hw : q.2.1 = -1) (h : 0 ≤ (dg (sC tx) n q.1).toInt) : (t6 tx n fr q).2.1 = nI q.1 := by
  unfold t6 mPq
  rw [hw, dgt_ps hb h, if_neg Bool.false_ne_true, t7_d hb hn hw h]
theorem t5_d {tx : Nat → Int32} {n fr : Nat} (hb : byteOk tx n) (hn : n ≤ 200) {q : MS} (hw : q.2.1 = -1) (h : 0 ≤ (dg (sC tx) n q.1).toInt) : (t5 tx n fr q).2.1 = nI q.1 := by
  unfold t5 mPq
  rw [hw, dgt_ps hb h, if_neg Bool.false_ne_true, t6_d hb hn hw h]
theorem t4_d {tx : Nat → Int32} {n fr : Nat} (hb : byteOk tx n) (hn : n ≤ 200) {q : MS} (hw : q.2.1 = -1) (h : 0 ≤ (dg (sC tx) n q.1).toInt) : (t4 tx n fr q).2.1 = nI q.1 := by
  unfold t4 mPq
  rw [hw, dgt_ps hb h, if_neg Bool.false_ne_true, t5_d hb hn hw h]
theorem t3_d {tx : Nat → Int32} {n fr : Nat} (hb : byteOk tx n) (hn : n ≤ 200) {q : MS} (hw : q.2.1 = -1) (h : 0 ≤ (dg (sC tx) n q.1).toInt) : (t3 tx n fr q).2.1 = nI q.1 := by
  unfold t3 mPq
  rw [hw, dgt_ps hb h, if_neg Bool.false_ne_true, t4_d hb hn hw h]
theorem t2_d {tx : Nat → Int32} {n fr : Nat} (hb : byteOk tx n) (hn : n ≤ 200) {q : MS} (hw : q.2.1 = -1) (h : 0 ≤ (dg (sC tx) n q.1).toInt) : (t2 tx n fr q).2.1 = nI q.1 := by
  unfold t2 mPq
  rw [hw, dgt_ps hb h, if_neg Bool.false_ne_true, t3_d hb hn hw h]
theorem t1_d {tx : Nat → Int32} {n fr : Nat} (hb : byteOk tx n) (hn : n ≤ 200) {q : MS} (hw : q.2.1 = -1) (h : 0 ≤ (dg (sC tx) n q.1).toInt) : (t1 tx n fr q).2.1 = nI q.1 := by
  unfold t1 mPq
  rw [hw, dgt_ps hb h, if_neg Bool.false_ne_true, t2_d hb hn hw h]
theorem t0_no {tx : Nat → Int32} {n fr : Nat} {q : MS} (h : ¬ q.2.1 = -1) : (t0 tx n fr q).2.1 = q.2.1 := by
  unfold t0 mPq
  rw [ps_no h, if_neg Bool.false_ne_true, t1_no h]
theorem t0_d {tx : Nat → Int32} {n fr : Nat} (hb : byteOk tx n) (hn : n ≤ 200) {q : MS} (hw : q.2.1 = -1) (h : 0 ≤ (dg (sC tx) n q.1).toInt) : (t0 tx n fr q).2.1 = nI q.1 := by
  unfold t0 mPq
  rw [hw, dgt_ps hb h, if_neg Bool.false_ne_true, t1_d hb hn hw h]
