/-! ===== changes of a house ===== -/
theorem fm_up {u : Nat → Int32} {i : Nat} {v : Int32} (j : Nat) (h : ∀ x, piM x = i ↔ x = j) : fm (va_up u i v) = va_up (fm u) j v.toInt64 := by
  funext x
  unfold fm va_up
  by_cases e : x = j
  · rw [if_pos ((h x).mpr e), if_pos e]
  · rw [if_neg (fun q => e ((h x).mp q)), if_neg e]
theorem piM_held {h t : Nat} (hh : h < 8) (ht : t < 6) (x : Nat) : piM x = 6 * h + t ↔ x = 0 + h * 6 + t := by
  unfold piM
  repeat' split
  all_goals omega
theorem piM_given {h t : Nat} (hh : h < 8) (ht : t < 6) (x : Nat) : piM x = 124 + 6 * h + t ↔ x = 48 + h * 6 + t := by
  unfold piM
  repeat' split
  all_goals omega
theorem piM_gr {h : Nat} (hh : h < 8) (x : Nat) : piM x = 48 + h ↔ x = 96 + h := by
  unfold piM
  repeat' split
  all_goals omega
theorem piM_pool (x : Nat) : piM x = 56 ↔ x = 170 := by
  unfold piM
  repeat' split
  all_goals omega
theorem piM_fact {t k : Nat} (ht : t < 6) (hk : k < 6) (x : Nat) : piM x = 58 + 6 * k + t ↔ x = 104 + t * 11 + k := by
  unfold piM
  repeat' split
  all_goals omega
theorem piM_told {t k : Nat} (ht : t < 6) (hk : k < 5) (x : Nat) : piM x = 94 + 5 * t + k ↔ x = 104 + t * 11 + (6 + k) := by
  unfold piM
  repeat' split
  all_goals omega
theorem fm_uH (u : Nat → Int32) {h t : Nat} (hh : h < 8) (ht : t < 6) (v : Int32) : fm (va_up u (6 * h + t) v) = va_up (fm u) (0 + h * 6 + t) v.toInt64 := fm_up _ (piM_held hh ht)
theorem fm_uG (u : Nat → Int32) {h : Nat} (hh : h < 8) (v : Int32) : fm (va_up u (48 + h) v) = va_up (fm u) (96 + h) v.toInt64 := fm_up _ (piM_gr hh)
theorem fm_uP (u : Nat → Int32) (v : Int32) : fm (va_up u 56 v) = va_up (fm u) 170 v.toInt64 := fm_up _ piM_pool
theorem fm_uF (u : Nat → Int32) {t k : Nat} (ht : t < 6) (hk : k < 6) (v : Int32) : fm (va_up u (58 + 6 * k + t) v) = va_up (fm u) (104 + t * 11 + k) v.toInt64 := fm_up _ (piM_fact ht hk)
theorem up_same {α : Type} (f : Nat → α) (i : Nat) (v : α) : va_up f i v i = v := by unfold va_up; rw [if_pos rfl]
theorem up_ne {α : Type} (f : Nat → α) {i j : Nat} (v : α) (h : ¬ j = i) : va_up f i v j = f j := by unfold va_up; rw [if_neg h]
theorem up_comm {α : Type} (f : Nat → α) {i j : Nat} (v w : α) (h : ¬ i = j) : va_up (va_up f i v) j w = va_up (va_up f j w) i v := by
  funext x
  unfold va_up
  by_cases a : x = j
  · rw [if_pos a, if_neg (fun q => h (by rw [← q, a])), if_pos a]
  · rw [if_neg a]
    by_cases b : x = i
    · rw [if_pos b, if_pos b]
    · rw [if_neg b, if_neg b, if_neg a]
/-- signs and facts -/
def gB (f : Nat → Int64) (T : Nat) : Prop := T ≤ 6 ∧ (∀ h t, h < 8 → t < T → 0 ≤ (cHeld f h t).toInt) ∧ (∀ h, h < 8 → 0 ≤ (cGranted f h).toInt) ∧ 0 ≤ (f 170).toInt ∧ (∀ t, 1 ≤ t → t < T → 1 ≤ (cFact f t 1).toInt ∧ (cFact f t 1).toInt ≤ (cFact f t 0).toInt ∧ (cFact f t 0).toInt ≤ 100000000)
theorem fB.g {f : Nat → Int64} {T : Nat} (h : fB f T) : gB f T := ⟨h.1, h.2.1, h.2.2.1, h.2.2.2.1, h.2.2.2.2.1⟩
theorem gC_ge {f : Nat → Int64} {T : Nat} (hB : gB f T) {t : Nat} (ht : t < T) {n : Int} (hn : 0 ≤ n) : n ≤ zC f t n := by
  unfold zC
  by_cases e : t = 0
  · rw [if_pos e]; omega
  · rw [if_neg e]
    obtain ⟨h1, h2, h3⟩ := hB.2.2.2.2 t (by omega) ht
    have : n * (cFact f t 1).toInt ≤ n * (cFact f t 0).toInt := Int.mul_le_mul_of_nonneg_left h2 hn
    exact (Int.le_ediv_iff_mul_le (by omega)).mpr this
theorem gTot_le {f : Nat → Int64} {T : Nat} (hB : gB f T) : zTot f T ≤ zAV f T := sumZ_mono (fun h hh => sumZ_mono (fun c hc => gC_ge hB hc (hB.2.1 h c hh hc)))
theorem gTot_nn {f : Nat → Int64} {T : Nat} (hB : gB f T) : 0 ≤ zTot f T := sumZ_nn (fun h hh => sumZ_nn (fun c hc => hB.2.1 h c hh hc))
theorem gAG_nn {f : Nat → Int64} {T : Nat} (hB : gB f T) : 0 ≤ zAG f := sumZ_nn (fun h hh => hB.2.2.1 h hh)
theorem gB.mk {f : Nat → Int64} {T : Nat} (hB : gB f T) (hz : zSz f T ≤ 10000000000) : fB f T := by
  have h1 := gTot_le hB
  have h2 := gTot_nn hB
  have h3 := gAG_nn hB
  have h4 := hB.2.2.2.1
  unfold zSz at hz
  exact ⟨hB.1, hB.2.1, hB.2.2.1, hB.2.2.2.1, hB.2.2.2.2, by omega, by omega, by omega⟩
/-- a total is known ahead of what it becomes -/
theorem gB.mk2 {f : Nat → Int64} {T : Nat} (hB : gB f T) (h1 : zTot f T ≤ 10000000000) (h2 : zAG f ≤ 20000000000) (h3 : (f 170).toInt ≤ 30000000000) : fB f T := ⟨hB.1, hB.2.1, hB.2.2.1, hB.2.2.2.1, hB.2.2.2.2, h1, h2, h3⟩
theorem zC_same {f g : Nat → Int64} {t : Nat} (h0 : cFact g t 0 = cFact f t 0) (h1 : cFact g t 1 = cFact f t 1) (n : Int) : zC g t n = zC f t n := by
  unfold zC
  rw [h0, h1]
theorem cFact_same {f g : Nat → Int64} (h : ∀ x, 104 ≤ x → x < 170 → g x = f x) {t k : Nat} (ht : t < 6) (hk : k < 11) : cFact g t k = cFact f t k := h _ (by omega) (by omega)
/-- one holder's shares of one class become others -/
theorem zAV_up {f g : Nat → Int64} {T h t : Nat} (hT : T ≤ 6) (hh : h < 8) (ht : t < T) (hf : ∀ x, 104 ≤ x → x < 170 → g x = f x) (hs : ∀ x, x < 48 → ¬ x = 0 + h * 6 + t → g x = f x) : zAV g T = zAV f T - zC f t (cHeld f h t).toInt + zC f t (cHeld g h t).toInt := by
  have hz : ∀ c, c < T → ∀ n, zC g c n = zC f c n := fun c hc n => zC_same (cFact_same hf (by omega) (by omega)) (cFact_same hf (by omega) (by omega)) n
  have hrow : ∀ i, i < 8 → ¬ i = h → zV g i T = zV f i T := by
    intro i hi hne
    refine sumZ_ext (fun c hc => ?_)
    rw [hz c hc, show cHeld g i c = cHeld f i c from hs _ (by omega) (by omega)]
  have hown : zV g h T = zV f h T - zC f t (cHeld f h t).toInt + zC f t (cHeld g h t).toInt := by
    unfold zV
    rw [sumZ_up (g := fun c => zC f c (cHeld f h c).toInt) (j := t) ht (fun c hc hne => by rw [hz c hc, show cHeld g h c = cHeld f h c from hs _ (by omega) (by omega)])]
    rw [hz t ht]
  unfold zAV
  rw [sumZ_up (g := fun i => zV f i T) (j := h) hh hrow, hown]
  omega
theorem zTot_up {f g : Nat → Int64} {T h t : Nat} (hT : T ≤ 6) (hh : h < 8) (ht : t < T) (hs : ∀ x, x < 48 → ¬ x = 0 + h * 6 + t → g x = f x) : zTot g T = zTot f T - (cHeld f h t).toInt + (cHeld g h t).toInt := by
  have hrow : ∀ i, i < 8 → ¬ i = h → sumZ (fun c => (cHeld g i c).toInt) T = sumZ (fun c => (cHeld f i c).toInt) T := by
    intro i hi hne
    refine sumZ_ext (fun c hc => ?_)
    rw [show cHeld g i c = cHeld f i c from hs _ (by omega) (by omega)]
  have hown : sumZ (fun c => (cHeld g h c).toInt) T = sumZ (fun c => (cHeld f h c).toInt) T - (cHeld f h t).toInt + (cHeld g h t).toInt := by
    rw [sumZ_up (g := fun c => (cHeld f h c).toInt) (j := t) ht (fun c hc hne => by rw [show cHeld g h c = cHeld f h c from hs _ (by omega) (by omega)])]
  unfold zTot
  rw [sumZ_up (g := fun i => sumZ (fun c => (cHeld f i c).toInt) T) (j := h) hh hrow, hown]
  omega
theorem zAG_up {f g : Nat → Int64} {h : Nat} (hh : h < 8) (hs : ∀ x, 96 ≤ x → x < 104 → ¬ x = 96 + h → g x = f x) : zAG g = zAG f - (cGranted f h).toInt + (cGranted g h).toInt := by
  unfold zAG
  rw [sumZ_up (g := fun i => (cGranted f i).toInt) (j := h) hh (fun i hi hne => by rw [show cGranted g i = cGranted f i from hs _ (by omega) (by omega) (by omega)])]
theorem zAG_same {f g : Nat → Int64} (hs : ∀ x, 96 ≤ x → x < 104 → g x = f x) : zAG g = zAG f := sumZ_ext (fun i hi => by rw [show cGranted g i = cGranted f i from hs _ (by omega) (by omega)])
theorem zAV_same {f g : Nat → Int64} {T : Nat} (hT : T ≤ 6) (hf : ∀ x, 104 ≤ x → x < 170 → g x = f x) (hs : ∀ x, x < 48 → g x = f x) : zAV g T = zAV f T := by
  refine sumZ_ext (fun i hi => sumZ_ext (fun c hc => ?_))
  rw [zC_same (f := f) (cFact_same hf (by omega) (by omega)) (cFact_same hf (by omega) (by omega)), show cHeld g i c = cHeld f i c from hs _ (by omega)]
/-- what a house holds is small -/
theorem mI.held {u : Nat → Int32} {T : Nat} (hI : mI u T) {h t : Nat} (hh : h < 8) (ht : t < T) : 0 ≤ (u (6 * h + t)).toInt ∧ (u (6 * h + t)).toInt ≤ 1000000000 := by
  have h6 := hI.ok.2.2.1
  have e : (cHeld (fm u) h t).toInt = (u (6 * h + t)).toInt := by rw [← fm_held u hh (by omega), z_l]
  have h1 := sumZ_at (g := fun h => sumZ (fun c => (cHeld (fm u) h c).toInt) T) (n := 8) (fun i hi => sumZ_nn (fun c hc => hI.b.2.1 i c hi hc)) h hh
  have h2 := sumZ_at (g := fun c => (cHeld (fm u) h c).toInt) (n := T) (fun c hc => hI.b.2.1 h c hh hc) t ht
  have h3 := hI.tot
  have h4 := hI.b.2.1 h t hh ht
  unfold zTot at h3
  omega
theorem mI.rest {u : Nat → Int32} {T : Nat} (hI : mI u T) : zAG (fm u) ≤ 1000000000 ∧ 0 ≤ (u 56).toInt ∧ (u 56).toInt ≤ 1000000000 := by
  have e : (fm u 170).toInt = (u 56).toInt := by rw [← fm_pool u, z_l]
  have h1 := zSz_ge hI.b
  have h2 := gTot_nn hI.b.g
  have h3 := hI.b.2.2.2.1
  have h4 := hI.2.2.2.2.2
  have h5 := zAG_nn hI.b
  omega
theorem mI.gr {u : Nat → Int32} {T : Nat} (hI : mI u T) {h : Nat} (hh : h < 8) : 0 ≤ (u (48 + h)).toInt ∧ (u (48 + h)).toInt ≤ 1000000000 := by
  have e : (cGranted (fm u) h).toInt = (u (48 + h)).toInt := by rw [← fm_granted u hh, z_l]
  have h1 := hI.rest.1
  have h2 : (cGranted (fm u) h).toInt ≤ zAG (fm u) := sumZ_at (g := fun h => (cGranted (fm u) h).toInt) (n := 8) (fun i hi => hI.b.2.2.1 i hi) h hh
  have h3 := hI.b.2.2.1 h hh
  omega
