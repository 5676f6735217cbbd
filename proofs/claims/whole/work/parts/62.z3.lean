/-! ===== ranks: sets of the first ones ===== -/
/-- the bits of a set of 8 -/
def bcN (s : Nat) : Nat := (if s.testBit 0 then 1 else 0) + (if s.testBit 1 then 1 else 0) + (if s.testBit 2 then 1 else 0) + (if s.testBit 3 then 1 else 0) + (if s.testBit 4 then 1 else 0) + (if s.testBit 5 then 1 else 0) + (if s.testBit 6 then 1 else 0) + (if s.testBit 7 then 1 else 0)
theorem bcN_s : ∀ k : Fin 256, ¬ k.1 = 0 → bcN k.1 = bcN (k.1 &&& (k.1 - 1)) + 1 := by decide +kernel
theorem onesN_bc : ∀ (n k : Nat), k ≤ n → k < 256 → onesN k = bcN k
  | 0, k, h, _ => by rw [show k = 0 by omega, onesN_0]; rfl
  | n + 1, k, h, hk => by
    by_cases e : k = 0
    · rw [e, onesN_0]; rfl
    · have h1 := and_pred_lt e
      rw [onesN_s e, bcN_s ⟨k, hk⟩ e, onesN_bc n (k &&& (k - 1)) (by omega) (by omega)]
theorem nI_or : ∀ (s : Fin 256) (b : Fin 8), nI s.1 ||| sOne b.1 = nI (s.1 ||| 1 <<< b.1) ∧ (s.1 ||| 1 <<< b.1) < 256 := by decide +kernel
theorem sBit_nI : ∀ (s : Fin 256) (c : Fin 8), (sBit (nI s.1) c.1 = 1) = (s.1.testBit c.1 = true) := by
  have h : ∀ (s : Fin 256) (c : Fin 8), decide (sBit (nI s.1) c.1 = 1) = s.1.testBit c.1 := by decide +kernel
  intro s c
  rw [← h s c]
  simp
/-- one for each in it -/
def bZ (s h : Nat) : Int := if s.testBit h then 1 else 0
theorem bcN_z (s : Nat) : (bcN s : Int) = sumZ (bZ s) 8 := by
  have e (h : Nat) : ((if s.testBit h then 1 else 0 : Nat) : Int) = bZ s h := by unfold bZ; split <;> rfl
  unfold bcN
  simp only [Int.natCast_add, e, sumZ]
  omega
/-- what those in it have -/
def vZ (w : Nat → Int64) (s : Nat) : Int := sumZ (fun h => if s.testBit h then (w h).toInt else 0) 8
/-- the first k by rank, as a set -/
def gS (w : Nat → Int64) : Nat → Nat
  | 0 => 0
  | k + 1 => gS w k ||| 1 <<< rkN w 8 k
termination_by k => k
theorem gS_0 (w : Nat → Int64) : gS w 0 = 0 := by rw [gS]
theorem gS_s (w : Nat → Int64) (k : Nat) : gS w (k + 1) = gS w k ||| 1 <<< rkN w 8 k := by rw [gS]
theorem gS_lt (w : Nat → Int64) : ∀ k : Nat, k ≤ 8 → gS w k < 256
  | 0, _ => by rw [gS_0]; omega
  | k + 1, h => by
    rw [gS_s]
    exact (nI_or ⟨gS w k, gS_lt w k (by omega)⟩ ⟨rkN w 8 k, (rkN_r (by omega)).1⟩).2
theorem gS_bit (w : Nat → Int64) {h : Nat} (hh : h < 8) : ∀ k : Nat, k ≤ 8 → ((gS w k).testBit h = true ↔ ahN w h 8 < k)
  | 0, _ => by rw [gS_0]; simp
  | k + 1, hk => by
    have ih := gS_bit w hh k (by omega)
    have hr := rkN_r (u := w) (j := k) (by omega)
    rw [gS_s, Nat.testBit_or, Bool.or_eq_true, ih, Nat.one_shiftLeft, Nat.testBit_two_pow, decide_eq_true_iff]
    constructor
    · rintro (q | q)
      · omega
      · rw [← q, hr.2]; omega
    · intro q
      by_cases e : ahN w h 8 < k
      · exact Or.inl e
      · exact Or.inr (rkN_eq hh (by omega) (by omega))
theorem rk_ge {w : Nat → Int64} {a b : Nat} (ha : a < 8) (hb : b < 8) (h : ahN w a 8 ≤ ahN w b 8) : (w b).toInt ≤ (w a).toInt := by
  by_cases e : a = b
  · rw [e]; exact Int.le_refl _
  · rcases ahB_total (u := w) e with q | q
    · have := ahN_of ha hb q; omega
    · rcases q with q | q
      · rw [z_lt] at q; omega
      · rw [q.1]; exact Int.le_refl _
/-- sums over the first k by rank -/
theorem rkSum (w : Nat → Int64) (v : Nat → Int) : ∀ k : Nat, k ≤ 8 → sumZ (fun h => if (gS w k).testBit h then v h else 0) 8 = sumZ (fun i => v (rkN w 8 i)) k
  | 0, _ => by
    rw [gS_0, sumZ, sumZ_ext (k := fun _ => 0) (fun i _ => by simp)]
    exact sumZ_zero 8
  | k + 1, hk => by
    have hr := rkN_r (u := w) (j := k) (by omega)
    rw [show sumZ (fun i => v (rkN w 8 i)) (k + 1) = sumZ (fun i => v (rkN w 8 i)) k + v (rkN w 8 k) from rfl, ← rkSum w v k (by omega), sumZ_up (g := fun h => if (gS w k).testBit h then v h else 0) (j := rkN w 8 k) hr.1]
    · have a : ¬ (gS w k).testBit (rkN w 8 k) = true := fun q => by have := (gS_bit w hr.1 k (by omega)).mp q; omega
      have b : (gS w (k + 1)).testBit (rkN w 8 k) = true := (gS_bit w hr.1 (k + 1) hk).mpr (by omega)
      simp only [a, b]
      simp
    · intro i hi hne
      have e : ((gS w (k + 1)).testBit i = true) = ((gS w k).testBit i = true) := by
        rw [gS_bit w hi (k + 1) hk, gS_bit w hi k (by omega)]
        apply propext
        constructor
        · intro q
          have : ¬ ahN w i 8 = k := fun z => hne (rkN_eq hi (by omega) z).symm
          omega
        · omega
      simp only [e]
theorem gS_ones (w : Nat → Int64) {k : Nat} (hk : k ≤ 8) : bcN (gS w k) = k := by
  have h : (bcN (gS w k) : Int) = sumZ (fun _ => 1) k := by
    rw [bcN_z]
    exact rkSum w (fun _ => 1) k hk
  have e : ∀ n : Nat, sumZ (fun _ => 1) n = n := fun n => by
    induction n with
    | zero => rfl
    | succ n ih => rw [sumZ, ih]; omega
  rw [e] at h
  omega
theorem gS_sum (w : Nat → Int64) {k : Nat} (hk : k ≤ 8) : vZ w (gS w k) = sumZ (fun i => (w (rkN w 8 i)).toInt) k := rkSum w (fun h => (w h).toInt) k hk
theorem gS_all (w : Nat → Int64) : vZ w (gS w 8) = sumZ (fun h => (w h).toInt) 8 := by
  unfold vZ
  refine sumZ_ext (fun h hh => ?_)
  have : (gS w 8).testBit h = true := (gS_bit w hh 8 (by omega)).mpr (ahN_lt w h 8 hh)
  simp [this]
/-- no set of as many has more than the first ones -/
theorem vZ_le {w : Nat → Int64} {s k : Nat} (h1 : 1 ≤ k) (hk : k ≤ 8) (hs : bcN s = k) : vZ w s ≤ vZ w (gS w k) ∧ (vZ w s = vZ w (gS w k) → ∀ h, h < 8 → (if s.testBit h then (w h).toInt - (w (rkN w 8 (k - 1))).toInt else 0) = (if (gS w k).testBit h then (w h).toInt - (w (rkN w 8 (k - 1))).toInt else 0)) := by
  have hr := rkN_r (u := w) (j := k - 1) (by omega)
  have hp : ∀ h, h < 8 → (if s.testBit h then (w h).toInt - (w (rkN w 8 (k - 1))).toInt else 0) ≤ (if (gS w k).testBit h then (w h).toInt - (w (rkN w 8 (k - 1))).toInt else 0) := by
    intro h hh
    by_cases g : (gS w k).testBit h = true
    · have a : (w (rkN w 8 (k - 1))).toInt ≤ (w h).toInt := rk_ge hh hr.1 (by have := (gS_bit w hh k hk).mp g; omega)
      rw [if_pos g]
      split <;> omega
    · have a : (w h).toInt ≤ (w (rkN w 8 (k - 1))).toInt := rk_ge hr.1 hh (by
        have : ¬ ahN w h 8 < k := fun q => g ((gS_bit w hh k hk).mpr q)
        omega)
      rw [if_neg g]
      split <;> omega
  have split3 : ∀ t : Nat, sumZ (fun h => if t.testBit h then (w h).toInt - (w (rkN w 8 (k - 1))).toInt else 0) 8 = vZ w t - sumZ (bZ t) 8 * (w (rkN w 8 (k - 1))).toInt := by
    intro t
    have e : sumZ (fun h => if t.testBit h then (w h).toInt - (w (rkN w 8 (k - 1))).toInt else 0) 8 + sumZ (fun h => bZ t h * (w (rkN w 8 (k - 1))).toInt) 8 = vZ w t := by
      rw [← sumZ_add]
      unfold vZ
      refine sumZ_ext (fun h _ => ?_)
      unfold bZ
      split
      · rw [Int.one_mul]; omega
      · rw [Int.zero_mul]; omega
    rw [sumZ_mul] at e
    omega
  have hle := sumZ_mono (n := 8) hp
  have hN : sumZ (bZ s) 8 = sumZ (bZ (gS w k)) 8 := by rw [← bcN_z, ← bcN_z, hs, gS_ones w hk]
  rw [split3, split3, hN] at hle
  refine ⟨by omega, fun heq h hh => ?_⟩
  have h0 : sumZ (fun h => (if (gS w k).testBit h then (w h).toInt - (w (rkN w 8 (k - 1))).toInt else 0) + (if s.testBit h then (w h).toInt - (w (rkN w 8 (k - 1))).toInt else 0) * (-1)) 8 = 0 := by
    rw [sumZ_add, sumZ_mul, split3, split3, hN, heq]
    omega
  have h2 := sumZ_at (g := fun h => (if (gS w k).testBit h then (w h).toInt - (w (rkN w 8 (k - 1))).toInt else 0) + (if s.testBit h then (w h).toInt - (w (rkN w 8 (k - 1))).toInt else 0) * (-1)) (n := 8) (fun i hi => by have := hp i hi; show 0 ≤ _ + _ * (-1); omega) h hh
  rw [h0] at h2
  have h3 := hp h hh
  have h2' : (if (gS w k).testBit h then (w h).toInt - (w (rkN w 8 (k - 1))).toInt else 0) + (if s.testBit h then (w h).toInt - (w (rkN w 8 (k - 1))).toInt else 0) * (-1) ≤ 0 := h2
  omega
/-- the highest bit at which two differ -/
theorem topDiff {s g : Nat} : ∀ n : Nat, (∀ j, n ≤ j → s.testBit j = g.testBit j) → s = g ∨ ∃ d, d < n ∧ s.testBit d ≠ g.testBit d ∧ ∀ j, d < j → s.testBit j = g.testBit j
  | 0, h => Or.inl (Nat.eq_of_testBit_eq (fun i => h i (by omega)))
  | n + 1, h => by
    by_cases e : s.testBit n = g.testBit n
    · rcases topDiff (s := s) (g := g) n (fun j hj => by
        by_cases q : j = n
        · rw [q]; exact e
        · exact h j (by omega)) with a | ⟨d, hd, a, b⟩
      · exact Or.inl a
      · exact Or.inr ⟨d, by omega, a, b⟩
    · exact Or.inr ⟨n, by omega, e, fun j hj => h j (by omega)⟩
theorem bit8 {s j : Nat} (hs : s < 256) (hj : 8 ≤ j) : s.testBit j = false := Nat.testBit_lt_two_pow (Nat.lt_of_lt_of_le hs (Nat.pow_le_pow_right (n := 2) (by omega) hj))
theorem lt_bit {g s d : Nat} (h0 : g.testBit d = false) (h1 : s.testBit d = true) (h : ∀ j, d < j → g.testBit j = s.testBit j) : g < s := by
  have e : g / 2 ^ d / 2 = s / 2 ^ d / 2 := by
    apply Nat.eq_of_testBit_eq
    intro i
    rw [← Nat.testBit_succ, ← Nat.testBit_succ, Nat.testBit_div_two_pow, Nat.testBit_div_two_pow]
    exact h _ (by omega)
  have a : (g / 2 ^ d).testBit 0 = false := by rw [Nat.testBit_div_two_pow, Nat.zero_add]; exact h0
  have b : (s / 2 ^ d).testBit 0 = true := by rw [Nat.testBit_div_two_pow, Nat.zero_add]; exact h1
  rw [Nat.testBit_zero] at a b
  have a' := of_decide_eq_false a
  have b' := of_decide_eq_true b
  exact Nat.lt_of_div_lt_div (c := 2 ^ d) (by omega)
/-- of sets with as many and as much the first ones are the least number -/
theorem gS_least {w : Nat → Int64} {s k : Nat} (h1 : 1 ≤ k) (hk : k ≤ 8) (h256 : s < 256) (hs : bcN s = k) (hv : vZ w s = vZ w (gS w k)) : gS w k ≤ s := by
  have hr := rkN_r (u := w) (j := k - 1) (by omega)
  have hp := (vZ_le h1 hk hs).2 hv
  have g256 := gS_lt w k hk
  rcases topDiff (s := s) (g := gS w k) 8 (fun j hj => by rw [bit8 h256 hj, bit8 g256 hj]) with e | ⟨d, hd, hne, hab⟩
  · rw [e]; exact Nat.le_refl _
  · by_cases gd : (gS w k).testBit d = true
    · exfalso
      have sd : ¬ s.testBit d = true := fun q => hne (by rw [q, gd])
      have wd : (w d).toInt = (w (rkN w 8 (k - 1))).toInt := by
        have := hp d hd
        rw [if_neg sd, if_pos gd] at this
        omega
      have hb : ∀ h, h < 8 → bZ s h ≤ bZ (gS w k) h := by
        intro h hh
        unfold bZ
        by_cases sh : s.testBit h = true
        · have gh : (gS w k).testBit h = true := by
            by_cases q : d < h
            · rw [← hab h q]; exact sh
            · by_cases gh : (gS w k).testBit h = true
              · exact gh
              · exfalso
                have := hp h hh
                rw [if_pos sh, if_neg gh] at this
                have hne2 : ¬ h = d := fun z => sd (by rw [← z]; exact sh)
                have aB : ahB w d h := Or.inr ⟨Int64.toInt_inj.mp (by omega), by omega⟩
                have r1 := ahN_of hd hh aB
                have r2 := (gS_bit w hd k hk).mp gd
                exact gh ((gS_bit w hh k hk).mpr (by omega))
          rw [if_pos sh, if_pos gh]
          exact Int.le_refl _
        · rw [if_neg sh]
          split <;> omega
      have hN : sumZ (bZ s) 8 = sumZ (bZ (gS w k)) 8 := by rw [← bcN_z, ← bcN_z, hs, gS_ones w hk]
      have h0 : sumZ (fun h => bZ (gS w k) h + bZ s h * (-1)) 8 = 0 := by
        rw [sumZ_add, sumZ_mul, hN]
        omega
      have h2 := sumZ_at (g := fun h => bZ (gS w k) h + bZ s h * (-1)) (n := 8) (fun i hi => by have := hb i hi; show 0 ≤ _ + _ * (-1); omega) d hd
      rw [h0] at h2
      have h3 : bZ (gS w k) d + bZ s d * (-1) ≤ 0 := h2
      unfold bZ at h3
      rw [if_pos gd, if_neg sd] at h3
      omega
    · have sd : s.testBit d = true := by
        cases q : s.testBit d with
        | true => rfl
        | false =>
          exfalso
          cases z : (gS w k).testBit d with
          | true => exact gd z
          | false => exact hne (by rw [q, z])
      exact Nat.le_of_lt (lt_bit (d := d) (by cases z : (gS w k).testBit d with
        | true => exact absurd z gd
        | false => rfl) sd (fun j hj => (hab j hj).symm))
