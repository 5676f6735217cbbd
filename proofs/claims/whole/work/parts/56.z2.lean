/-! ===== a house's bounds; the model's sale beside the class's ===== -/
/-- the facts of classes -/
def fR (f : Nat → Int64) (T : Nat) : Prop := ∀ t, 1 ≤ t → t < T → (0 ≤ (cFact f t 2).toInt ∧ (cFact f t 2).toInt ≤ 3) ∧ (0 ≤ (cFact f t 3).toInt ∧ (cFact f t 3).toInt ≤ 50) ∧ (cFact f t 4 = 0 ∨ cFact f t 4 = 1) ∧ (cFact f t 5 = 0 ∨ cFact f t 5 = 1)
/-- all that a house keeps -/
def mI (u : Nat → Int32) (T : Nat) : Prop := mOk u T ∧ fB (fm u) T ∧ fR (fm u) T ∧ (∀ h t, h < 8 → T ≤ t → t < 6 → u (6 * h + t) = 0) ∧ (∀ h t, h < 8 → t < 6 → 0 ≤ (cGiven (fm u) h t).toInt ∧ (cGiven (fm u) h t).toInt ≤ 100000000) ∧ zSz (fm u) T ≤ 1000000000
theorem mI.ok {u : Nat → Int32} {T : Nat} (h : mI u T) : mOk u T := h.1
theorem mI.b {u : Nat → Int32} {T : Nat} (h : mI u T) : fB (fm u) T := h.2.1
theorem mI.r {u : Nat → Int32} {T : Nat} (h : mI u T) : fR (fm u) T := h.2.2.1
theorem mI.size0 {u : Nat → Int32} {T : Nat} (h : mI u T) : 0 ≤ cSize (fm u) T := by
  rw [z_le, cSize_z h.b]
  exact zSz_nn h.b
theorem mI.votes0 {u : Nat → Int32} {T : Nat} (h : mI u T) : 0 ≤ cAllVotes (fm u) T := by
  rw [z_le, cAllVotes_z h.b]
  exact zAV_nn h.b
theorem sBit_or2 (x y : Int32) {c : Nat} (hc : c < 8) : sBit (x ||| y) c = 1 ↔ (sBit x c = 1 ∨ sBit y c = 1) := by
  rw [sBit_lsb _ hc, sBit_lsb _ hc, sBit_lsb _ hc, Int32.toBitVec_or, BitVec.getLsbD_or]
  simp
theorem sBit_0 {c : Nat} (hc : c < 8) : ¬ sBit 0 c = 1 := by
  rw [sBit_lsb _ hc]
  simp
theorem sBit_one {t c : Nat} (ht : t < 8) (hc : c < 8) : sBit (sOne t) c = 1 ↔ c = t := by
  rw [sBit_lsb _ hc, sOne_lsb ⟨t, ht⟩ ⟨c, hc⟩]
  simp
theorem sBit_01 (x : Int32) (c : Nat) : sBit x c = 0 ∨ sBit x c = 1 := by
  unfold sBit
  generalize x >>> (nI c &&& 31) = y
  have e : ∀ (z : BitVec 32), z &&& 1#32 = 0#32 ∨ z &&& 1#32 = 1#32 := by
    intro z
    have h := BitVec.and_one_eq_setWidth_ofBool_getLsbD (x := z)
    rw [h]
    cases z.getLsbD 0
    · exact Or.inl rfl
    · exact Or.inr rfl
  rcases e y.toBitVec with h | h
  · exact Or.inl (Int32.toBitVec_inj.mp (by rw [Int32.toBitVec_and]; exact h))
  · exact Or.inr (Int32.toBitVec_inj.mp (by rw [Int32.toBitVec_and]; exact h))
theorem cBit_sOne (x : Int64) (h : Nat) : cBit x h = if x ≤ 0 then 0 else sOne h := rfl
theorem sBit_or1 (g : Nat → Int64) {c : Nat} (hc : c < 8) : ∀ n : Nat, n ≤ 8 → (sBit (or1 (fun c => cBit (g c) c) n) c = 1 ↔ (1 ≤ c ∧ c < n ∧ ¬ g c ≤ 0))
  | 0, _ => by
    rw [or1]
    exact ⟨fun h => absurd h (sBit_0 hc), fun h => absurd h.2.1 (by omega)⟩
  | n + 1, hn => by
    rw [or1]
    by_cases e : n = 0
    · rw [if_pos e]
      exact ⟨fun h => absurd h (sBit_0 hc), fun h => absurd h.2.1 (by omega)⟩
    · rw [if_neg e, sBit_or2 _ _ hc, sBit_or1 g hc n (by omega), cBit_sOne]
      by_cases q : g n ≤ 0
      · rw [if_pos q]
        constructor
        · rintro (h | h)
          · exact ⟨h.1, by omega, h.2.2⟩
          · exact absurd h (sBit_0 hc)
        · rintro ⟨h1, h2, h3⟩
          refine Or.inl ⟨h1, ?_, h3⟩
          have : ¬ c = n := fun z => h3 (by rw [z]; exact q)
          omega
      · rw [if_neg q, sBit_one (by omega) hc]
        constructor
        · rintro (h | h)
          · exact ⟨h.1, by omega, h.2.2⟩
          · rw [h]; exact ⟨by omega, by omega, q⟩
        · rintro ⟨h1, h2, h3⟩
          by_cases z : c = n
          · exact Or.inr z
          · exact Or.inl ⟨h1, by omega, h3⟩
theorem fm_part (u : Nat → Int32) {t : Nat} (ht : t < 6) : (u (82 + t)).toInt64 = cFact (fm u) t 4 := fm_fact u (k := 4) ht (by omega)
theorem part_1 {u : Nat → Int32} {T t : Nat} (hR : fR (fm u) T) (h1 : 1 ≤ t) (ht : t < T) (h6 : T ≤ 6) : u (82 + t) = 1 ↔ ¬ cFact (fm u) t 4 ≤ 0 := by
  have e := fm_part u (t := t) (by omega)
  rcases (hR t h1 ht).2.2.1 with h | h
  · rw [h] at e ⊢
    constructor
    · intro q
      rw [q] at e
      exact absurd e (by decide)
    · intro q
      exact absurd (by decide : (0 : Int64) ≤ 0) q
  · rw [h] at e ⊢
    constructor
    · intro q
      decide
    · intro q
      have := congrArg Int64.toInt32 e
      rw [Int32.toInt32_toInt64] at this
      exact this
theorem part_0 {u : Nat → Int32} {T t : Nat} (hR : fR (fm u) T) (h1 : 1 ≤ t) (ht : t < T) (h6 : T ≤ 6) : ¬ u (82 + t) = 0 ↔ u (82 + t) = 1 := by
  have e := fm_part u (t := t) (by omega)
  rcases (hR t h1 ht).2.2.1 with h | h
  · have h0 : u (82 + t) = 0 := by
      have := congrArg Int64.toInt32 (e.trans h)
      rw [Int32.toInt32_toInt64] at this
      exact this
    rw [h0]
    decide
  · have h0 : u (82 + t) = 1 := by
      have := congrArg Int64.toInt32 (e.trans h)
      rw [Int32.toInt32_toInt64] at this
      exact this
    rw [h0]
    decide
theorem sPt {u : Nat → Int32} {T t : Nat} (hR : fR (fm u) T) (h1 : 1 ≤ t) (ht : t < T) (h6 : T ≤ 6) : sBit (cTypesWith (fm u) 4 T) t = 1 ↔ u (82 + t) = 1 := by
  rw [part_1 hR h1 ht h6]
  unfold cTypesWith
  rw [sBit_or1 (fun c => cFact (fm u) c 4) (by omega) T (by omega)]
  exact ⟨fun h => h.2.2, fun h => ⟨h1, ht, h⟩⟩
theorem mS1_s {u : Nat → Int32} {T t : Nat} (hR : fR (fm u) T) (ht : t < T) (h6 : T ≤ 6) (set : Int32) : mS1 u t set = sIs (cTypesWith (fm u) 4 T) set t := by
  unfold mS1 sIs
  by_cases e : t = 0
  · rw [if_pos e, if_pos e]
  · rw [if_neg e, if_neg e]
    by_cases a : sBit set t = 1
    · rw [if_pos a, if_pos ((sBit_or2 _ _ (by omega)).mpr (Or.inl a))]
    · rw [if_neg a]
      by_cases b : u (82 + t) = 1
      · rw [if_pos b, if_pos ((sBit_or2 _ _ (by omega)).mpr (Or.inr ((sPt hR (by omega) ht h6).mpr b)))]
      · rw [if_neg b, if_neg]
        intro q
        rcases (sBit_or2 _ _ (by omega)).mp q with q | q
        · exact a q
        · exact b ((sPt hR (by omega) ht h6).mp q)
theorem sumF_ext {s : Int64} {g k : Nat → Int64} : ∀ {n : Nat}, (∀ i, i < n → g i = k i) → sumF s g n = sumF s k n
  | 0, _ => rfl
  | n + 1, h => by rw [sumF, sumF, sumF_ext (n := n) (fun i hi => h i (by omega)), h n (by omega)]
theorem i64_alc (a b c : Int64) : a + (b + c) = b + (a + c) := by rw [← Int64.add_assoc, ← Int64.add_assoc, Int64.add_comm a b]
theorem mSr_s {u : Nat → Int32} {T : Nat} (hR : fR (fm u) T) (h1 : 1 ≤ T) (h6 : T ≤ 6) (set : Int32) : mSr (fm u) u set T = pShare (cAllConv (fm u)) (cAllGranted (fm u)) (cTypesWith (fm u) 4 T) set T (T - 1) := by
  unfold mSr
  rw [sumF_ext (k := fun t => if sIs (cTypesWith (fm u) 4 T) set t = 0 then 0 else cAllConv (fm u) t) (fun i hi => by rw [mS1_s hR hi h6 set])]
  generalize cTypesWith (fm u) 4 T = pt
  have hz : sIs pt set 0 = 1 := by unfold sIs; rw [if_pos rfl]
  match T, h1, h6 with
  | 1, _, _ => simp only [sumF, pShare, hz, Nat.sub_self]; rw [if_neg (by decide), Int64.add_comm]
  | 2, _, _ => simp only [sumF, pShare, hz, Nat.add_sub_cancel, Nat.sub_self, Nat.sub_zero]; rw [if_neg (by decide), Int64.add_comm (cAllConv (fm u) 0)]
  | 3, _, _ =>
    simp only [sumF, pShare, hz, show (3 : Nat) - 1 - 0 = 2 from rfl, show (3 : Nat) - 1 - 1 = 1 from rfl, show (3 : Nat) - 1 = 2 from rfl]
    rw [if_neg (by decide)]
    simp only [Int64.add_assoc, Int64.add_comm, i64_alc]
  | 4, _, _ =>
    simp only [sumF, pShare, hz, show (4 : Nat) - 1 - 0 = 3 from rfl, show (4 : Nat) - 1 - 1 = 2 from rfl, show (4 : Nat) - 1 - 2 = 1 from rfl, show (4 : Nat) - 1 = 3 from rfl]
    rw [if_neg (by decide)]
    simp only [Int64.add_assoc, Int64.add_comm, i64_alc]
  | 5, _, _ =>
    simp only [sumF, pShare, hz, show (5 : Nat) - 1 - 0 = 4 from rfl, show (5 : Nat) - 1 - 1 = 3 from rfl, show (5 : Nat) - 1 - 2 = 2 from rfl, show (5 : Nat) - 1 - 3 = 1 from rfl, show (5 : Nat) - 1 = 4 from rfl]
    rw [if_neg (by decide)]
    simp only [Int64.add_assoc, Int64.add_comm, i64_alc]
  | 6, _, _ =>
    simp only [sumF, pShare, hz, show (6 : Nat) - 1 - 0 = 5 from rfl, show (6 : Nat) - 1 - 1 = 4 from rfl, show (6 : Nat) - 1 - 2 = 3 from rfl, show (6 : Nat) - 1 - 3 = 2 from rfl, show (6 : Nat) - 1 - 4 = 1 from rfl, show (6 : Nat) - 1 = 5 from rfl]
    rw [if_neg (by decide)]
    simp only [Int64.add_assoc, Int64.add_comm, i64_alc]
/-- who shares: no less than none, no more than the whole house -/
theorem mSr_b {u : Nat → Int32} {T : Nat} (hB : fB (fm u) T) (set : Int32) : 0 ≤ (mSr (fm u) u set T).toInt ∧ (mSr (fm u) u set T).toInt ≤ zAG (fm u) + zAV (fm u) T := by
  have g0 := zAG_nn hB
  have g1 := hB.2.2.2.2.2.2.1
  have v1 := zAV_lt hB
  have hsum : sumZ (fun t => (cAllConv (fm u) t).toInt) T ≤ zAV (fm u) T := by
    unfold zAV zV
    rw [sumZ_swap]
    exact sumZ_mono (fun t ht => by rw [cAllConv_z hB ht]; exact Int.le_refl _)
  have hnn : ∀ t, t < T → 0 ≤ (cAllConv (fm u) t).toInt := fun t ht => by rw [cAllConv_z hB ht]; exact sumZ_nn (fun h hh => zC_nn hB ht (hB.2.1 h t hh ht))
  have hle : sumZ (fun t => (if mS1 u t set = 0 then (0 : Int64) else cAllConv (fm u) t).toInt) T ≤ sumZ (fun t => (cAllConv (fm u) t).toInt) T := sumZ_mono (fun t ht => by
    by_cases e : mS1 u t set = 0
    · rw [if_pos e]; exact hnn t ht
    · rw [if_neg e]; exact Int.le_refl _)
  have hge : 0 ≤ sumZ (fun t => (if mS1 u t set = 0 then (0 : Int64) else cAllConv (fm u) t).toInt) T := sumZ_nn (fun t ht => by
    by_cases e : mS1 u t set = 0
    · rw [if_pos e]; exact Int.le_refl _
    · rw [if_neg e]; exact hnn t ht)
  unfold mSr
  rw [sumF_z (cAllGranted_z hB) g0 (fun _ _ => rfl) (fun t ht => by
    by_cases e : mS1 u t set = 0
    · rw [if_pos e]; exact Int.le_refl _
    · rw [if_neg e]; exact hnn t ht) (by omega)]
  exact ⟨by omega, by omega⟩
theorem mShareBy_q (sd sr n : Int64) (h : 0 ≤ sr.toInt) : mShareBy sd sr n = cQuot (sd * n) sr := by
  unfold mShareBy
  by_cases e : sr = 0
  · rw [if_pos e, cQuot_0 e]
  · rw [if_neg e, cQuot_n e (by rw [z_le]; exact h)]
theorem mPa_at {f pa : Nat → Int64} {set : Int32} {s : Int64} {T t : Nat} (h1 : 1 ≤ t) (ht : t < T) : mPa f pa set s T t = pFirst (cDue f) set s T t := by
  unfold mPa va_up
  rw [if_neg (by omega), pRow_at _ _ _ _ _ _ _ (by omega)]
theorem mPa_0 {f pa : Nat → Int64} {set : Int32} {s : Int64} {T : Nat} : mPa f pa set s T 0 = 0 := by
  unfold mPa va_up
  rw [if_pos rfl]
theorem mTg_s {u : Nat → Int32} {T t : Nat} (hB : fB (fm u) T) (hR : fR (fm u) T) (h1 : 1 ≤ t) (ht : t < T) (h6 : T ≤ 6) (pa tg : Nat → Int64) (set : Int32) (s : Int64) : rowTo (mTg (fm u) u pa set s T) tg T t = sGets (cDue (fm u)) (cAllConv (fm u)) (cAllGranted (fm u)) (cTypesWith (fm u) 4 T) set s T t := by
  rw [rowTo_in ht, mTg, mPa_at h1 ht, sGets, mS1_s hR ht h6, mShareBy_q _ _ _ (mSr_b hB set).1, mSr_s hR (by omega) h6]
theorem mTg_x {u : Nat → Int32} {T t : Nat} (hB : fB (fm u) T) (hR : fR (fm u) T) (ht : t < T) (h6 : T ≤ 6) (pa tg : Nat → Int64) (s : Int64) : rowTo (mTg (fm u) u pa (xQ (fm u) T s) s T) tg T t = xTG (fm u) T s t := by
  rw [rowTo_in ht, mTg, mS1_s hR ht h6, mShareBy_q _ _ _ (mSr_b hB _).1, mSr_s hR (by omega) h6, xTG, xL, xS]
  by_cases e : t = 0
  · rw [e, mPa_0, xPF, if_pos rfl]
  · rw [mPa_at (by omega) ht, xPF, if_neg e]
theorem mPa_x {u : Nat → Int32} {T t : Nat} (ht : t < T) (pa : Nat → Int64) (s : Int64) : mPa (fm u) pa (xQ (fm u) T s) s T t = xPF (fm u) T s t := by
  by_cases e : t = 0
  · rw [e, mPa_0, xPF, if_pos rfl]
  · rw [mPa_at (by omega) ht, xPF, if_neg e]
theorem mSr_x {u : Nat → Int32} {T : Nat} (hR : fR (fm u) T) (h1 : 1 ≤ T) (h6 : T ≤ 6) (s : Int64) : mSr (fm u) u (xQ (fm u) T s) T = xS (fm u) T s := by
  rw [mSr_s hR h1 h6, xS]
/-! the first that would rather convert -/
theorem firstFrom_skip (P : Nat → Bool) : ∀ (k c : Nat), P c = false → firstFrom P (k + 1) c = firstFrom P k (c + 1) := by
  intro k c h
  rw [firstFrom, h]
  rfl
theorem firstFrom_to (P : Nat → Bool) (n : Nat) : ∀ t : Nat, 1 ≤ t → t ≤ n + 1 → (∀ c, 1 ≤ c → c < t → P c = false) → firstFrom P n 1 = firstFrom P (n + 1 - t) t
  | 0, h, _, _ => absurd h (by omega)
  | 1, _, _, _ => by rw [Nat.add_sub_cancel]
  | t + 2, _, h2, hP => by
    rw [firstFrom_to P n (t + 1) (by omega) (by omega) (fun c a b => hP c a (by omega)), show n + 1 - (t + 1) = (n + 1 - (t + 2)) + 1 by omega, firstFrom_skip P _ _ (hP (t + 1) (by omega) (by omega))]
theorem sOne_and (x : Int32) {c : Nat} (hc : c < 8) : x &&& sOne c = 0 ↔ ¬ sBit x c = 1 := by
  rw [sBit_lsb _ hc]
  constructor
  · intro h q
    have := congrArg (fun z => (Int32.toBitVec z).getLsbD c) h
    simp only [Int32.toBitVec_and, BitVec.getLsbD_and] at this
    rw [q, sOne_lsb ⟨c, hc⟩ ⟨c, hc⟩] at this
    simp at this
  · intro h
    apply Int32.toBitVec_inj.mp
    rw [Int32.toBitVec_and]
    apply BitVec.eq_of_getLsbD_eq
    intro i hi
    rw [BitVec.getLsbD_and]
    have e : ∀ (t : Fin 8) (i : Fin 32), (sOne t.1).toBitVec.getLsbD i.1 = decide (i.1 = t.1) := by decide
    rw [e ⟨c, hc⟩ ⟨i, hi⟩]
    by_cases z : i = c
    · subst z
      simp at h
      simp [h]
    · simp [z]
