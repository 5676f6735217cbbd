/-! ===== deeds: the class's beside the model's ===== -/
theorem zSz_H {f : Nat → Int64} {T h t : Nat} {v : Int64} (hT : T ≤ 6) (hh : h < 8) (ht : t < T) : zSz (va_up f (0 + h * 6 + t) v) T = zSz f T - zC f t (cHeld f h t).toInt + zC f t v.toInt := by
  have e : cHeld (va_up f (0 + h * 6 + t) v) h t = v := up_same _ _ _
  unfold zSz
  rw [zAV_up (f := f) (h := h) (t := t) hT hh ht (fun x a b => up_ne _ _ (by omega)) (fun x a b => up_ne _ _ b), zAG_same (f := f) (fun x a b => up_ne _ _ (by omega)), up_ne f v (show ¬ 170 = 0 + h * 6 + t by omega), e]
  omega
theorem zSz_G {f : Nat → Int64} {T h : Nat} {v : Int64} (hT : T ≤ 6) (hh : h < 8) : zSz (va_up f (96 + h) v) T = zSz f T - (cGranted f h).toInt + v.toInt := by
  have e : cGranted (va_up f (96 + h) v) h = v := up_same _ _ _
  unfold zSz
  rw [zAV_same (f := f) hT (fun x a b => up_ne _ _ (by omega)) (fun x a => up_ne _ _ (by omega)), zAG_up (f := f) (h := h) hh (fun x a b c => up_ne _ _ c), up_ne f v (show ¬ 170 = 96 + h by omega), e]
  omega
theorem zSz_P {f : Nat → Int64} {T : Nat} {v : Int64} (hT : T ≤ 6) : zSz (va_up f 170 v) T = zSz f T - (f 170).toInt + v.toInt := by
  unfold zSz
  rw [zAV_same (f := f) hT (fun x a b => up_ne _ _ (by omega)) (fun x a => up_ne _ _ (by omega)), zAG_same (f := f) (fun x a b => up_ne _ _ (by omega)), up_same]
  omega
theorem zC_H (f : Nat → Int64) {i : Nat} (v : Int64) (hi : i < 104 ∨ 170 ≤ i) {t : Nat} (ht : t < 6) (n : Int) : zC (va_up f i v) t n = zC f t n := zC_same (show cFact (va_up f i v) t 0 = cFact f t 0 from up_ne f v (by omega)) (show cFact (va_up f i v) t 1 = cFact f t 1 from up_ne f v (by omega)) n
theorem gB_H {f : Nat → Int64} {T h t : Nat} {v : Int64} (hB : gB f T) (hh : h < 8) (ht : t < T) (hv : 0 ≤ v.toInt) : gB (va_up f (0 + h * 6 + t) v) T := by
  have h6 := hB.1
  refine ⟨h6, fun i c hi hc => ?_, fun i hi => ?_, ?_, fun c c1 c2 => ?_⟩
  · unfold cHeld
    by_cases e : 0 + i * 6 + c = 0 + h * 6 + t
    · rw [e, up_same]; exact hv
    · rw [up_ne _ _ e]; exact hB.2.1 i c hi hc
  · unfold cGranted
    rw [up_ne _ _ (by omega)]; exact hB.2.2.1 i hi
  · rw [up_ne _ _ (by omega)]; exact hB.2.2.2.1
  · unfold cFact
    rw [up_ne _ _ (by omega), up_ne _ _ (by omega)]; exact hB.2.2.2.2 c c1 c2
theorem gB_G {f : Nat → Int64} {T h : Nat} {v : Int64} (hB : gB f T) (hh : h < 8) (hv : 0 ≤ v.toInt) : gB (va_up f (96 + h) v) T := by
  have h6 := hB.1
  refine ⟨h6, fun i c hi hc => ?_, fun i hi => ?_, ?_, fun c c1 c2 => ?_⟩
  · unfold cHeld
    rw [up_ne _ _ (by omega)]; exact hB.2.1 i c hi hc
  · unfold cGranted
    by_cases e : 96 + i = 96 + h
    · rw [e, up_same]; exact hv
    · rw [up_ne _ _ e]; exact hB.2.2.1 i hi
  · rw [up_ne _ _ (by omega)]; exact hB.2.2.2.1
  · unfold cFact
    rw [up_ne _ _ (by omega), up_ne _ _ (by omega)]; exact hB.2.2.2.2 c c1 c2
theorem gB_P {f : Nat → Int64} {T : Nat} {v : Int64} (hB : gB f T) (hv : 0 ≤ v.toInt) : gB (va_up f 170 v) T := by
  have h6 := hB.1
  refine ⟨h6, fun i c hi hc => ?_, fun i hi => ?_, ?_, fun c c1 c2 => ?_⟩
  · unfold cHeld
    rw [up_ne _ _ (by omega)]; exact hB.2.1 i c hi hc
  · unfold cGranted
    rw [up_ne _ _ (by omega)]; exact hB.2.2.1 i hi
  · rw [up_same]; exact hv
  · unfold cFact
    rw [up_ne _ _ (by omega), up_ne _ _ (by omega)]; exact hB.2.2.2.2 c c1 c2
theorem mI.pos {u : Nat → Int32} {T : Nat} (hI : mI u T) {x : Nat} (hx : x < 57) : 0 ≤ (u x).toInt := by
  by_cases a : x < 48
  · by_cases b : x % 6 < T
    · have := (hI.held (h := x / 6) (t := x % 6) (by omega) b).1
      rwa [show 6 * (x / 6) + x % 6 = x by omega] at this
    · have := hI.2.2.2.1 (x / 6) (x % 6) (by omega) (by omega) (by omega)
      rw [show 6 * (x / 6) + x % 6 = x by omega] at this
      rw [this]; decide
  · by_cases b : x < 56
    · have := (hI.gr (h := x - 48) (by omega)).1
      rwa [show 48 + (x - 48) = x by omega] at this
    · rw [show x = 56 by omega]; exact hI.rest.2.1
theorem piM_hi {x : Nat} (h : 104 ≤ x ∨ (48 ≤ x ∧ x < 96)) (h2 : ¬ x = 170) : 57 ≤ piM x := by
  unfold piM
  repeat' split
  all_goals omega
/-- what a house keeps, where only what is held changes -/
theorem mI_low {u u1 : Nat → Int32} {T : Nat} (hI : mI u T) (hs : ∀ x, 57 ≤ x → u1 x = u x) (hp : ∀ x, x < 57 → 0 ≤ (u1 x).toInt) (ht : ∀ h t, h < 8 → T ≤ t → t < 6 → u1 (6 * h + t) = 0) (hz : zSz (fm u1) T ≤ 1000000000) : mI u1 T := by
  obtain ⟨a1, a2, a3, a4⟩ := hI.ok
  have hf : ∀ t k, t < 6 → k < 11 → cFact (fm u1) t k = cFact (fm u) t k := fun t k ht hk => by
    unfold cFact fm
    rw [hs _ (piM_hi (by omega) (by omega))]
  have hg : gB (fm u1) T := by
    refine ⟨a3, fun h t hh ht => ?_, fun h hh => ?_, ?_, fun t t1 t2 => ?_⟩
    · rw [← fm_held u1 hh (by omega), z_l]; exact hp _ (by omega)
    · rw [← fm_granted u1 hh, z_l]; exact hp _ (by omega)
    · rw [← fm_pool u1, z_l]; exact hp _ (by omega)
    · rw [hf t 0 (by omega) (by omega), hf t 1 (by omega) (by omega)]; exact hI.b.2.2.2.2.1 t t1 t2
  refine ⟨⟨by rw [hs 57 (by omega)]; exact a1, a2, a3, fun t t1 t2 => by rw [hf t 1 (by omega) (by omega)]; exact a4 t t1 t2⟩, hg.mk (by omega), fun t t1 t2 => ?_, ht, fun h t hh h6 => ?_, hz⟩
  · rw [hf t 2 (by omega) (by omega), hf t 3 (by omega) (by omega), hf t 4 (by omega) (by omega), hf t 5 (by omega) (by omega)]
    exact hI.r t t1 t2
  · have : cGiven (fm u1) h t = cGiven (fm u) h t := by
      unfold cGiven fm
      rw [hs _ (piM_hi (by omega) (by omega))]
    rw [this]
    exact hI.2.2.2.2.1 h t hh h6
theorem mI_1 {u : Nat → Int32} {T i : Nat} {v : Int32} (hI : mI u T) (hi : i < 57) (hv : 0 ≤ v.toInt) (ht : i < 48 → i % 6 < T) (hz : zSz (fm (va_up u i v)) T ≤ 1000000000) : mI (va_up u i v) T := by
  refine mI_low hI (fun x hx => up_ne _ _ (by omega)) (fun x hx => ?_) (fun h t hh h1 h2 => ?_) hz
  · by_cases e : x = i
    · rw [e, up_same]; exact hv
    · rw [up_ne _ _ e]; exact hI.pos hx
  · rw [up_ne _ _ (fun e => by have := ht (by omega); omega)]
    exact hI.2.2.2.1 h t hh h1 h2
theorem mI_2 {u : Nat → Int32} {T i j : Nat} {v w : Int32} (hI : mI u T) (hi : i < 57) (hj : j < 57) (hv : 0 ≤ v.toInt) (hw : 0 ≤ w.toInt) (hti : i < 48 → i % 6 < T) (htj : j < 48 → j % 6 < T) (hz : zSz (fm (va_up (va_up u i v) j w)) T ≤ 1000000000) : mI (va_up (va_up u i v) j w) T := by
  refine mI_low hI (fun x hx => by rw [up_ne _ _ (by omega), up_ne _ _ (by omega)]) (fun x hx => ?_) (fun h t hh h1 h2 => ?_) hz
  · by_cases e : x = j
    · rw [e, up_same]; exact hw
    · rw [up_ne _ _ e]
      by_cases e2 : x = i
      · rw [e2, up_same]; exact hv
      · rw [up_ne _ _ e2]; exact hI.pos hx
  · rw [up_ne _ _ (fun e => by have := htj (by omega); omega), up_ne _ _ (fun e => by have := hti (by omega); omega)]
    exact hI.2.2.2.1 h t hh h1 h2
/-- the class's deed does what the model's does -/
def dR (X : Int32 × CT) (Y : YR) (C : CT) (T1 : Nat) : Prop := X.1 = Y.1 ∧ (Y.2 = none → X.2 = C) ∧ ∀ u1, Y.2 = some u1 → X.2 = accC C (fm u1) ∧ mI u1 T1
theorem dR_no {C : CT} {T1 : Nat} {a : Int32} : dR (a, C) (a, none) C T1 := ⟨rfl, fun _ => rfl, fun _ h => by cases h⟩
theorem dR_acc {C : CT} {T T1 : Nat} {fd : Nat → Int64} {a b : Int32} {u1 : Nat → Int32} (hs : ¬ 1000000000 < cSize fd T) (he : fm u1 = fd) (hab : a = b) (hI : mI u1 T1) : dR (xDeed C fd T a) (b, some u1) C T1 := by
  unfold xDeed
  rw [if_neg hs, hab]
  exact ⟨rfl, (fun h => by cases h), (fun u2 h => by cases h; exact ⟨by rw [he], hI⟩)⟩
theorem dR_much {C : CT} {T T1 : Nat} {fd : Nat → Int64} {a : Int32} (hs : 1000000000 < cSize fd T) : dR (xDeed C fd T a) (-9, none) C T1 := by
  unfold xDeed
  rw [if_pos hs]
  exact dR_no
theorem bil_z : (1000000000 : Int64).toInt = 1000000000 := by decide
theorem much_z {f : Nat → Int64} {T : Nat} (hB : fB f T) : 1000000000 < cSize f T ↔ 1000000000 < zSz f T := by rw [z_lt, cSize_z hB, bil_z]
theorem held_le {f : Nat → Int64} {T : Nat} (hB : fB f T) {h t : Nat} (hh : h < 8) (ht : t < T) : (cHeld f h t).toInt ≤ zSz f T := by
  have h3 := sumZ_at (g := fun h => sumZ (fun c => (cHeld f h c).toInt) T) (n := 8) (fun i hi => sumZ_nn (fun c hc => hB.2.1 i c hi hc)) h hh
  have h4 := sumZ_at (g := fun c => (cHeld f h c).toInt) (n := T) (fun c hc => hB.2.1 h c hh hc) t ht
  have h2 := zSz_ge hB
  have h6 := zAG_nn hB
  have h7 := hB.2.2.2.1
  unfold zTot at h2
  omega
theorem gr_le {f : Nat → Int64} {T : Nat} (hB : fB f T) {h : Nat} (hh : h < 8) : (cGranted f h).toInt ≤ zSz f T := by
  have h3 : (cGranted f h).toInt ≤ zAG f := sumZ_at (g := fun h => (cGranted f h).toInt) (n := 8) (fun i hi => hB.2.2.1 i hi) h hh
  have h2 := zSz_ge hB
  have h6 := gTot_nn hB.g
  have h7 := hB.2.2.2.1
  omega
theorem l_sub {a n : Int32} (h1 : -2147483648 ≤ a.toInt - n.toInt) (h2 : a.toInt - n.toInt < 2147483648) (hn : -2147483648 < n.toInt) : (a - n).toInt64 = a.toInt64 + (-n).toInt64 := by
  apply Int64.toInt_inj.mp
  have r := z_rng32 n
  have e : (-n).toInt = -n.toInt := by
    rw [Int32.toInt_neg, z_bm32 (by omega) (by omega)]
  rw [z_l, z_sub32 rfl rfl h1 h2, z_add (z_l a) (by rw [z_l, e]) (by omega) (by omega)]
  omega
theorem l_add {a n : Int32} (h1 : -2147483648 ≤ a.toInt + n.toInt) (h2 : a.toInt + n.toInt < 2147483648) : (a + n).toInt64 = a.toInt64 + n.toInt64 := by
  apply Int64.toInt_inj.mp
  rw [z_l, z_add32 rfl rfl h1 h2, z_add (z_l a) (z_l n) (by omega) (by omega)]
theorem not_lt1 {n : Int32} (h : ¬ n < 1) : 1 ≤ n.toInt := by rw [z_lt32, show (1 : Int32).toInt = 1 by decide] at h; omega
theorem not_lt0 {n : Int32} (h : ¬ n < 0) : 0 ≤ n.toInt := by rw [z_lt32, show (0 : Int32).toInt = 0 by decide] at h; omega
theorem zC_0 (f : Nat → Int64) (n : Int) : zC f 0 n = n := by unfold zC; rw [if_pos rfl]
theorem eq_issues {C : CT} {u : Nat → Int32} {T : Nat} (hC : C.1 = fm u) (hI : mI u T) (h n : Int32) : dR (x_issues C T h n) (y_issues u T h n) C T := by
  obtain ⟨-, hT1, hT6, -⟩ := hI.ok
  unfold x_issues y_issues
  by_cases a : xH h = 0
  · rw [if_pos a, if_pos a]; exact dR_no
  · rw [if_neg a, if_neg a]
    by_cases b : n < 1
    · rw [if_pos b, if_pos b]; exact dR_no
    · rw [if_neg b, if_neg b]
      obtain ⟨hd, rfl, hdl⟩ := xH_1 a
      have n1 := not_lt1 b
      have nr := z_rng32 n
      rw [nI_clamp (show hd < 2 ^ 31 by omega), hC]
      have hh := hI.held (t := 0) hdl (by omega)
      have ho : (cHeld (fm u) hd 0).toInt = (u (6 * hd + 0)).toInt := by rw [← fm_held u hdl (by omega), z_l]
      have hv : (cHeld (fm u) hd 0 + n.toInt64).toInt = (u (6 * hd + 0)).toInt + n.toInt := z_add ho (z_l n) (by omega) (by omega)
      have hz := zSz_H (f := fm u) (v := cHeld (fm u) hd 0 + n.toInt64) hT6 hdl (show 0 < T by omega)
      rw [zC_0, zC_0, hv, ho] at hz
      have hsz := hI.2.2.2.2.2
      have hg := gB_H (v := cHeld (fm u) hd 0 + n.toInt64) hI.b.g hdl (show 0 < T by omega) (by rw [hv]; omega)
      have hB : fB (va_up (fm u) (0 + hd * 6 + 0) (cHeld (fm u) hd 0 + n.toInt64)) T := hg.mk (by omega)
      have hcs : (cSize (fm u) T + n.toInt64).toInt = zSz (fm u) T + n.toInt := z_add (cSize_z hI.b) (z_l n) (by have := zSz_nn hI.b; omega) (by omega)
      have hm := much_z hB
      by_cases c : 1000000000 < cSize (fm u) T + n.toInt64
      · rw [if_pos c]
        rw [z_lt, hcs, bil_z] at c
        exact dR_much (hm.mpr (by omega))
      · rw [if_neg c]
        rw [z_lt, hcs, bil_z] at c
        have h1 := held_le hB hdl (show 0 < T by omega)
        have h5 : (cHeld (va_up (fm u) (0 + hd * 6 + 0) (cHeld (fm u) hd 0 + n.toInt64)) hd 0).toInt = (u (6 * hd + 0)).toInt + n.toInt := by rw [← hv]; exact congrArg Int64.toInt (up_same _ _ _)
        have he : fm (va_up u (6 * hd + 0) (u (6 * hd + 0) + n)) = va_up (fm u) (0 + hd * 6 + 0) (cHeld (fm u) hd 0 + n.toInt64) := by
          rw [fm_uH u hdl (by omega), ← fm_held u hdl (by omega), l_add (by omega) (by omega)]
        exact dR_acc (by rw [hm]; omega) he (by rw [he]) (mI_1 hI (by omega) (by rw [z_add32 rfl rfl (by omega) (by omega)]; omega) (fun _ => by omega) (by rw [he]; omega))
