/-! ===== numbers without wrap ===== -/
theorem z_bm {z : Int} (h1 : -9223372036854775808 ≤ z) (h2 : z < 9223372036854775808) : z.bmod (2 ^ 64) = z := by
  rw [Int.bmod_eq_of_le (by omega) (by omega)]
theorem z_bm32 {z : Int} (h1 : -2147483648 ≤ z) (h2 : z < 2147483648) : z.bmod (2 ^ 32) = z := by
  rw [Int.bmod_eq_of_le (by omega) (by omega)]
theorem z_add {a b : Int64} {x y : Int} (ha : a.toInt = x) (hb : b.toInt = y) (h1 : -9223372036854775808 ≤ x + y) (h2 : x + y < 9223372036854775808) : (a + b).toInt = x + y := by
  rw [Int64.toInt_add, ha, hb, z_bm h1 h2]
theorem z_sub {a b : Int64} {x y : Int} (ha : a.toInt = x) (hb : b.toInt = y) (h1 : -9223372036854775808 ≤ x - y) (h2 : x - y < 9223372036854775808) : (a - b).toInt = x - y := by
  rw [Int64.toInt_sub, ha, hb, z_bm h1 h2]
theorem z_mul {a b : Int64} {x y : Int} (ha : a.toInt = x) (hb : b.toInt = y) (h1 : -9223372036854775808 ≤ x * y) (h2 : x * y < 9223372036854775808) : (a * b).toInt = x * y := by
  rw [Int64.toInt_mul, ha, hb, z_bm h1 h2]
theorem z_rng (a : Int64) : -9223372036854775808 ≤ a.toInt ∧ a.toInt < 9223372036854775808 := ⟨Int64.le_toInt a, Int64.toInt_lt a⟩
theorem z_rng32 (a : Int32) : -2147483648 ≤ a.toInt ∧ a.toInt < 2147483648 := ⟨Int32.le_toInt a, Int32.toInt_lt a⟩
theorem z_div {a b : Int64} {x y : Int} (ha : a.toInt = x) (hb : b.toInt = y) (h0 : 0 ≤ x) (hy : 0 < y) : (a / b).toInt = x / y := by
  have h1 : 0 ≤ x / y := Int.ediv_nonneg h0 (by omega)
  have h2 : x / y ≤ x := Int.ediv_le_self y h0
  have h3 := z_rng a
  rw [Int64.toInt_div, ha, hb, Int.tdiv_eq_ediv_of_nonneg h0, z_bm (by omega) (by omega)]
theorem z_quot {a b : Int64} {x y : Int} (ha : a.toInt = x) (hb : b.toInt = y) (h0 : 0 ≤ x) (hy : 0 ≤ y) : (cQuot a b).toInt = x / y := by
  unfold cQuot
  by_cases e : y = 0
  · have hb0 : b = 0 := Int64.toInt_inj.mp (by rw [hb, e]; rfl)
    rw [if_neg (by rw [hb0]; decide), e, Int.ediv_zero]
    rfl
  · rw [if_pos (by rw [Int64.lt_iff_toInt_lt, hb]; show (0 : Int) < y; omega)]
    exact z_div ha hb h0 (by omega)
theorem z_l (a : Int32) : a.toInt64.toInt = a.toInt := Int32.toInt_toInt64 a
theorem z_i {a : Int64} {x : Int} (ha : a.toInt = x) (h1 : -2147483648 ≤ x) (h2 : x < 2147483648) : a.toInt32.toInt = x := by
  rw [Int64.toInt_toInt32, ha, z_bm32 h1 h2]
theorem z_li {a : Int64} (h1 : -2147483648 ≤ a.toInt) (h2 : a.toInt < 2147483648) : a.toInt32.toInt64 = a := by
  apply Int64.toInt_inj.mp
  rw [z_l, z_i rfl h1 h2]
theorem z_lt {a b : Int64} : a < b ↔ a.toInt < b.toInt := Int64.lt_iff_toInt_lt
theorem z_le {a b : Int64} : a ≤ b ↔ a.toInt ≤ b.toInt := Int64.le_iff_toInt_le
theorem z_lt32 {a b : Int32} : a < b ↔ a.toInt < b.toInt := Int32.lt_iff_toInt_lt
theorem z_le32 {a b : Int32} : a ≤ b ↔ a.toInt ≤ b.toInt := Int32.le_iff_toInt_le
theorem z_add32 {a b : Int32} {x y : Int} (ha : a.toInt = x) (hb : b.toInt = y) (h1 : -2147483648 ≤ x + y) (h2 : x + y < 2147483648) : (a + b).toInt = x + y := by
  rw [Int32.toInt_add, ha, hb, z_bm32 h1 h2]
theorem z_sub32 {a b : Int32} {x y : Int} (ha : a.toInt = x) (hb : b.toInt = y) (h1 : -2147483648 ≤ x - y) (h2 : x - y < 2147483648) : (a - b).toInt = x - y := by
  rw [Int32.toInt_sub, ha, hb, z_bm32 h1 h2]
theorem z_mul32 {a b : Int32} {x y : Int} (ha : a.toInt = x) (hb : b.toInt = y) (h1 : -2147483648 ≤ x * y) (h2 : x * y < 2147483648) : (a * b).toInt = x * y := by
  rw [Int32.toInt_mul, ha, hb, z_bm32 h1 h2]
theorem z_div32 {a b : Int32} {x y : Int} (ha : a.toInt = x) (hb : b.toInt = y) (h0 : 0 ≤ x) (hy : 0 < y) : (a / b).toInt = x / y := by
  have h1 : 0 ≤ x / y := Int.ediv_nonneg h0 (by omega)
  have h2 : x / y ≤ x := Int.ediv_le_self y h0
  have h3 := z_rng32 a
  rw [Int32.toInt_div, ha, hb, Int.tdiv_eq_ediv_of_nonneg h0, z_bm32 (by omega) (by omega)]
theorem z_min {a b : Int64} : (minl a b).toInt = min a.toInt b.toInt := by
  unfold minl
  by_cases h : b < a
  · rw [if_pos h]; rw [z_lt] at h; omega
  · rw [if_neg h]; rw [z_lt] at h; omega
theorem z_max {a b : Int64} : (maxl a b).toInt = max a.toInt b.toInt := by
  unfold maxl
  by_cases h : b < a
  · rw [if_pos h]; rw [z_lt] at h; omega
  · rw [if_neg h]; rw [z_lt] at h; omega
/-! sums -/
def sumZ (g : Nat → Int) : Nat → Int
  | 0 => 0
  | n + 1 => sumZ g n + g n
theorem sumZ_nn {g : Nat → Int} : ∀ {n : Nat}, (∀ i, i < n → 0 ≤ g i) → 0 ≤ sumZ g n
  | 0, _ => Int.le_refl 0
  | n + 1, h => by
    have h1 := sumZ_nn (n := n) (fun i hi => h i (by omega))
    have h2 := h n (by omega)
    rw [sumZ]
    omega
theorem sumZ_mono {g k : Nat → Int} : ∀ {n : Nat}, (∀ i, i < n → g i ≤ k i) → sumZ g n ≤ sumZ k n
  | 0, _ => Int.le_refl 0
  | n + 1, h => by
    have h1 := sumZ_mono (n := n) (fun i hi => h i (by omega))
    have h2 := h n (by omega)
    rw [sumZ, sumZ]
    omega
theorem sumZ_ext {g k : Nat → Int} : ∀ {n : Nat}, (∀ i, i < n → g i = k i) → sumZ g n = sumZ k n
  | 0, _ => rfl
  | n + 1, h => by rw [sumZ, sumZ, sumZ_ext (n := n) (fun i hi => h i (by omega)), h n (by omega)]
theorem sumZ_at {g : Nat → Int} : ∀ {n : Nat}, (∀ i, i < n → 0 ≤ g i) → ∀ i, i < n → g i ≤ sumZ g n
  | 0, _, i, hi => absurd hi (by omega)
  | n + 1, h, i, hi => by
    have h2 := h n (by omega)
    rw [sumZ]
    by_cases e : i = n
    · have h1 := sumZ_nn (n := n) (fun i hi => h i (by omega))
      rw [e]
      omega
    · have h1 := sumZ_at (n := n) (fun i hi => h i (by omega)) i (by omega)
      omega
theorem sumZ_mul (g : Nat → Int) (c : Int) : ∀ n : Nat, sumZ (fun i => g i * c) n = sumZ g n * c
  | 0 => by rw [sumZ, sumZ, Int.zero_mul]
  | n + 1 => by rw [sumZ, sumZ, sumZ_mul g c n, Int.add_mul]
theorem sumZ_add (g k : Nat → Int) : ∀ n : Nat, sumZ (fun i => g i + k i) n = sumZ g n + sumZ k n
  | 0 => rfl
  | n + 1 => by rw [sumZ, sumZ, sumZ, sumZ_add g k n]; omega
theorem sumZ_zero : ∀ n : Nat, sumZ (fun _ => 0) n = 0
  | 0 => rfl
  | n + 1 => by rw [sumZ, sumZ_zero n]; rfl
theorem sumZ_swap (g : Nat → Nat → Int) : ∀ n m : Nat, sumZ (fun i => sumZ (fun j => g i j) m) n = sumZ (fun j => sumZ (fun i => g i j) n) m
  | 0, m => by
    show (0 : Int) = _
    rw [← sumZ_zero m]
    exact sumZ_ext (fun i _ => rfl)
  | n + 1, m => by rw [sumZ, sumZ_swap g n m, ← sumZ_add]; exact sumZ_ext (fun i _ => rfl)
/-- one of them is another -/
theorem sumZ_up {g k : Nat → Int} {j : Nat} : ∀ {n : Nat}, j < n → (∀ i, i < n → ¬ i = j → k i = g i) → sumZ k n = sumZ g n - g j + k j
  | 0, hj, _ => absurd hj (by omega)
  | n + 1, hj, h => by
    rw [sumZ, sumZ]
    by_cases e : j = n
    · rw [e, sumZ_ext (k := g) (n := n) (fun i hi => h i (by omega) (by omega))]
      omega
    · rw [sumZ_up (g := g) (n := n) (by omega) (fun i hi hne => h i (by omega) hne), h n (by omega) (fun q => e q.symm)]
      omega
theorem sumZ_le_c {g : Nat → Int} {c : Int} : ∀ {n : Nat}, (∀ i, i < n → g i ≤ c) → sumZ g n ≤ n * c
  | 0, _ => by rw [sumZ]; omega
  | n + 1, h => by
    have h1 := sumZ_le_c (n := n) (fun i hi => h i (by omega))
    have h2 := h n (by omega)
    rw [sumZ]
    have h3 : ((n + 1 : Nat) : Int) * c = (n : Int) * c + c := by rw [Int.natCast_add, Int.add_mul]; simp
    omega
theorem sumF_z {g : Nat → Int64} {Gz : Nat → Int} {s : Int64} {S : Int} (hs : s.toInt = S) (h0 : 0 ≤ S) : ∀ {n : Nat}, (∀ i, i < n → (g i).toInt = Gz i) → (∀ i, i < n → 0 ≤ Gz i) → S + sumZ Gz n < 9223372036854775808 → (sumF s g n).toInt = S + sumZ Gz n
  | 0, _, _, _ => by rw [sumF, sumZ, hs]; omega
  | n + 1, hg, hn, hb => by
    have h2 := hn n (by omega)
    have h3 := sumZ_nn (n := n) (fun i hi => hn i (by omega))
    rw [sumZ] at hb
    have h1 := sumF_z hs h0 (n := n) (fun i hi => hg i (by omega)) (fun i hi => hn i (by omega)) (by omega)
    rw [sumF, sumZ, z_add h1 (hg n (by omega)) (by omega) (by omega)]
    omega
theorem sumF_z0 {g : Nat → Int64} {Gz : Nat → Int} {n : Nat} (hg : ∀ i, i < n → (g i).toInt = Gz i) (hn : ∀ i, i < n → 0 ≤ Gz i) (hb : sumZ Gz n < 9223372036854775808) : (sumF 0 g n).toInt = sumZ Gz n := by
  rw [sumF_z (s := 0) (S := 0) rfl (Int.le_refl 0) hg hn (by omega)]
  omega
/-! a house in numbers -/
def zC (f : Nat → Int64) (t : Nat) (n : Int) : Int := if t = 0 then n else n * (cFact f t 0).toInt / (cFact f t 1).toInt
def zV (f : Nat → Int64) (h T : Nat) : Int := sumZ (fun c => zC f c (cHeld f h c).toInt) T
def zAV (f : Nat → Int64) (T : Nat) : Int := sumZ (fun h => zV f h T) 8
def zAG (f : Nat → Int64) : Int := sumZ (fun h => (cGranted f h).toInt) 8
def zSz (f : Nat → Int64) (T : Nat) : Int := zAV f T + zAG f + (f 170).toInt
def zTot (f : Nat → Int64) (T : Nat) : Int := sumZ (fun h => sumZ (fun c => (cHeld f h c).toInt) T) 8
def fB (f : Nat → Int64) (T : Nat) : Prop := T ≤ 6 ∧ (∀ h t, h < 8 → t < T → 0 ≤ (cHeld f h t).toInt) ∧ (∀ h, h < 8 → 0 ≤ (cGranted f h).toInt) ∧ 0 ≤ (f 170).toInt ∧ (∀ t, 1 ≤ t → t < T → 1 ≤ (cFact f t 1).toInt ∧ (cFact f t 1).toInt ≤ (cFact f t 0).toInt ∧ (cFact f t 0).toInt ≤ 100000000) ∧ zTot f T ≤ 10000000000 ∧ zAG f ≤ 20000000000 ∧ (f 170).toInt ≤ 30000000000
theorem zC_ge {f : Nat → Int64} {T : Nat} (hB : fB f T) {t : Nat} (ht : t < T) {n : Int} (hn : 0 ≤ n) : n ≤ zC f t n := by
  unfold zC
  by_cases e : t = 0
  · rw [if_pos e]; omega
  · rw [if_neg e]
    obtain ⟨h1, h2, h3⟩ := hB.2.2.2.2.1 t (by omega) ht
    have : n * (cFact f t 1).toInt ≤ n * (cFact f t 0).toInt := Int.mul_le_mul_of_nonneg_left h2 hn
    exact (Int.le_ediv_iff_mul_le (by omega)).mpr this
theorem zC_nn {f : Nat → Int64} {T : Nat} (hB : fB f T) {t : Nat} (ht : t < T) {n : Int} (hn : 0 ≤ n) : 0 ≤ zC f t n := Int.le_trans hn (zC_ge hB ht hn)
theorem zC_le {f : Nat → Int64} {T : Nat} (hB : fB f T) {t : Nat} (ht : t < T) {n : Int} (hn : 0 ≤ n) : zC f t n ≤ n * 100000000 := by
  unfold zC
  by_cases e : t = 0
  · rw [if_pos e]; omega
  · rw [if_neg e]
    obtain ⟨h1, h2, h3⟩ := hB.2.2.2.2.1 t (by omega) ht
    have a : n * (cFact f t 0).toInt ≤ n * 100000000 := Int.mul_le_mul_of_nonneg_left h3 hn
    exact Int.le_trans (Int.ediv_le_self _ (Int.mul_nonneg hn (by omega))) a
theorem zC_mono {f : Nat → Int64} {T : Nat} (hB : fB f T) {t : Nat} (ht : t < T) {n m : Int} (hnm : n ≤ m) : zC f t n ≤ zC f t m := by
  unfold zC
  by_cases e : t = 0
  · rw [if_pos e, if_pos e]; omega
  · rw [if_neg e, if_neg e]
    obtain ⟨h1, h2, h3⟩ := hB.2.2.2.2.1 t (by omega) ht
    exact Int.ediv_le_ediv (by omega) (Int.mul_le_mul_of_nonneg_right hnm (by omega))
/-- two parts become no more than the whole -/
theorem zC_two {f : Nat → Int64} {T : Nat} (hB : fB f T) {t : Nat} (ht : t < T) {n m : Int} : zC f t n + zC f t m ≤ zC f t (n + m) := by
  unfold zC
  by_cases e : t = 0
  · rw [if_pos e, if_pos e, if_pos e]; omega
  · rw [if_neg e, if_neg e, if_neg e]
    obtain ⟨h1, h2, h3⟩ := hB.2.2.2.2.1 t (by omega) ht
    rw [Int.le_ediv_iff_mul_le (by omega), Int.add_mul, Int.add_mul]
    have a := Int.ediv_mul_le (n * (cFact f t 0).toInt) (b := (cFact f t 1).toInt) (by omega)
    have b := Int.ediv_mul_le (m * (cFact f t 0).toInt) (b := (cFact f t 1).toInt) (by omega)
    omega
theorem cConv_z {f : Nat → Int64} {T : Nat} (hB : fB f T) {t : Nat} (ht : t < T) {n : Int64} {x : Int} (hx : n.toInt = x) (hn : 0 ≤ x) (hm : x ≤ 90000000000) : (cConv f t n).toInt = zC f t x := by
  unfold cConv zC
  by_cases e : t = 0
  · rw [if_pos e, if_pos e, hx]
  · rw [if_neg e, if_neg e]
    obtain ⟨h1, h2, h3⟩ := hB.2.2.2.2.1 t (by omega) ht
    by_cases z : n = 0
    · have : x = 0 := by rw [← hx, z]; rfl
      rw [if_pos z, hx, this, Int.zero_mul, Int.zero_ediv]
    · rw [if_neg z]
      have a : x * (cFact f t 0).toInt ≤ 90000000000 * 100000000 := Int.mul_le_mul hm h3 (by omega) (by omega)
      have b : 0 ≤ x * (cFact f t 0).toInt := Int.mul_nonneg hn (by omega)
      exact z_quot (z_mul hx rfl (by omega) (by omega)) rfl b (by omega)
theorem fB_held {f : Nat → Int64} {T : Nat} (hB : fB f T) {h t : Nat} (hh : h < 8) (ht : t < T) : 0 ≤ (cHeld f h t).toInt ∧ (cHeld f h t).toInt ≤ 10000000000 := by
  have h1 := sumZ_at (g := fun h => sumZ (fun c => (cHeld f h c).toInt) T) (n := 8) (fun i hi => sumZ_nn (fun c hc => hB.2.1 i c hi hc)) h hh
  have h2 := sumZ_at (g := fun c => (cHeld f h c).toInt) (n := T) (fun c hc => hB.2.1 h c hh hc) t ht
  have h3 := hB.2.2.2.2.2.1
  unfold zTot at h3
  exact ⟨hB.2.1 h t hh ht, by omega⟩
theorem zV_nn {f : Nat → Int64} {T : Nat} (hB : fB f T) {h : Nat} (hh : h < 8) : 0 ≤ zV f h T := sumZ_nn (fun c hc => zC_nn hB hc (hB.2.1 h c hh hc))
theorem zV_ge {f : Nat → Int64} {T : Nat} (hB : fB f T) {h : Nat} (hh : h < 8) : sumZ (fun c => (cHeld f h c).toInt) T ≤ zV f h T := sumZ_mono (fun c hc => zC_ge hB hc (hB.2.1 h c hh hc))
theorem zV_le {f : Nat → Int64} {T : Nat} (hB : fB f T) {h : Nat} (hh : h < 8) : zV f h T ≤ sumZ (fun c => (cHeld f h c).toInt) T * 100000000 := by
  rw [← sumZ_mul]
  exact sumZ_mono (fun c hc => zC_le hB hc (hB.2.1 h c hh hc))
theorem zAV_nn {f : Nat → Int64} {T : Nat} (hB : fB f T) : 0 ≤ zAV f T := sumZ_nn (fun h hh => zV_nn hB hh)
theorem zAV_ge {f : Nat → Int64} {T : Nat} (hB : fB f T) : zTot f T ≤ zAV f T := sumZ_mono (fun h hh => zV_ge hB hh)
theorem zAV_le {f : Nat → Int64} {T : Nat} (hB : fB f T) : zAV f T ≤ zTot f T * 100000000 := by
  unfold zTot zAV
  rw [← sumZ_mul]
  exact sumZ_mono (fun h hh => zV_le hB hh)
theorem zAV_lt {f : Nat → Int64} {T : Nat} (hB : fB f T) : zAV f T ≤ 1000000000000000000 := by
  have h1 := zAV_le hB
  have h2 := hB.2.2.2.2.2.1
  omega
theorem zV_at {f : Nat → Int64} {T : Nat} (hB : fB f T) {h : Nat} (hh : h < 8) : zV f h T ≤ zAV f T := sumZ_at (g := fun h => zV f h T) (fun i hi => zV_nn hB hi) h hh
theorem zAG_nn {f : Nat → Int64} {T : Nat} (hB : fB f T) : 0 ≤ zAG f := sumZ_nn (fun h hh => hB.2.2.1 h hh)
theorem cVotes_z {f : Nat → Int64} {T : Nat} (hB : fB f T) {h : Nat} (hh : h < 8) : (cVotes f h T).toInt = zV f h T := by
  have h1 := zV_at hB hh
  have h2 := zAV_lt hB
  exact sumF_z0 (fun c hc => cConv_z hB hc rfl (fB_held hB hh hc).1 (by have := (fB_held hB hh hc).2; omega)) (fun c hc => zC_nn hB hc (fB_held hB hh hc).1) (by unfold zV at h1; omega)
theorem cAllVotes_z {f : Nat → Int64} {T : Nat} (hB : fB f T) : (cAllVotes f T).toInt = zAV f T := by
  have h2 := zAV_lt hB
  exact sumF_z0 (fun h hh => cVotes_z hB hh) (fun h hh => zV_nn hB hh) (by unfold zAV at h2; omega)
theorem cAllGranted_z {f : Nat → Int64} {T : Nat} (hB : fB f T) : (cAllGranted f).toInt = zAG f := by
  have h2 := hB.2.2.2.2.2.2.1
  exact sumF_z0 (fun h _ => rfl) (fun h hh => hB.2.2.1 h hh) (by unfold zAG at h2; omega)
theorem cSize_z {f : Nat → Int64} {T : Nat} (hB : fB f T) : (cSize f T).toInt = zSz f T := by
  have h1 := zAV_lt hB
  have h0 := zAV_nn hB
  have g0 := zAG_nn hB
  have g1 := hB.2.2.2.2.2.2.1
  have p0 := hB.2.2.2.1
  have p1 := hB.2.2.2.2.2.2.2
  unfold cSize zSz
  exact z_add (z_add (cAllVotes_z hB) (cAllGranted_z hB) (by omega) (by omega)) rfl (by omega) (by omega)
theorem zSz_ge {f : Nat → Int64} {T : Nat} (hB : fB f T) : zTot f T + zAG f + (f 170).toInt ≤ zSz f T := by
  have := zAV_ge hB
  unfold zSz
  omega
theorem zSz_nn {f : Nat → Int64} {T : Nat} (hB : fB f T) : 0 ≤ zSz f T := by
  have h0 := zAV_nn hB
  have g0 := zAG_nn hB
  have p0 := hB.2.2.2.1
  unfold zSz
  omega
theorem cClaim_z {f : Nat → Int64} {T : Nat} (hB : fB f T) {h : Nat} (hh : h < 8) : (cClaim f h T).toInt = zV f h T + (cGranted f h).toInt := by
  have h1 := zV_at hB hh
  have h2 := zAV_lt hB
  have h0 := zV_nn hB hh
  have g0 := hB.2.2.1 h hh
  have g2 := hB.2.2.2.2.2.2.1
  have g1 : (cGranted f h).toInt ≤ zAG f := sumZ_at (g := fun h => (cGranted f h).toInt) (n := 8) (fun i hi => hB.2.2.1 i hi) h hh
  unfold cClaim
  exact z_add (cVotes_z hB hh) rfl (by omega) (by omega)
theorem cAllHeld_z {f : Nat → Int64} {T : Nat} (hB : fB f T) {t : Nat} (ht : t < T) : (cAllHeld f t).toInt = sumZ (fun h => (cHeld f h t).toInt) 8 := by
  have h1 : sumZ (fun h => (cHeld f h t).toInt) 8 ≤ zTot f T := sumZ_mono (fun h hh => sumZ_at (g := fun c => (cHeld f h c).toInt) (n := T) (fun c hc => hB.2.1 h c hh hc) t ht)
  have h3 := hB.2.2.2.2.2.1
  exact sumF_z0 (fun h _ => rfl) (fun h hh => hB.2.1 h t hh ht) (by omega)
theorem cAllHeld_b {f : Nat → Int64} {T : Nat} (hB : fB f T) {t : Nat} (ht : t < T) : 0 ≤ (cAllHeld f t).toInt ∧ (cAllHeld f t).toInt ≤ zTot f T := by
  rw [cAllHeld_z hB ht]
  exact ⟨sumZ_nn (fun h hh => hB.2.1 h t hh ht), sumZ_mono (fun h hh => sumZ_at (g := fun c => (cHeld f h c).toInt) (n := T) (fun c hc => hB.2.1 h c hh hc) t ht)⟩
theorem cAllConv_z {f : Nat → Int64} {T : Nat} (hB : fB f T) {t : Nat} (ht : t < T) : (cAllConv f t).toInt = sumZ (fun h => zC f t (cHeld f h t).toInt) 8 := by
  have h1 : sumZ (fun h => zC f t (cHeld f h t).toInt) 8 ≤ zAV f T := sumZ_mono (fun h hh => sumZ_at (g := fun c => zC f c (cHeld f h c).toInt) (n := T) (fun c hc => zC_nn hB hc (hB.2.1 h c hh hc)) t ht)
  have h3 := zAV_lt hB
  exact sumF_z0 (fun h hh => cConv_z hB ht rfl (fB_held hB hh ht).1 (by have := (fB_held hB hh ht).2; omega)) (fun h hh => zC_nn hB ht (hB.2.1 h t hh ht)) (by omega)
