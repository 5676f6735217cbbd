/-! ===== who must pay to play: the model's rows beside the class's ===== -/
theorem pGo_held {mn : Nat → Int32} {pd : Int64} {dn : Int32} {t : Nat} {all : Int64} {h : Nat} {s : PL} (hh : h < 8) (ht1 : 1 ≤ t) (ht : t < 6) {i c : Nat} (hi : i < 8) (hc : c < 6) (hc1 : 1 ≤ c) (hne : ¬ (i = h ∧ c = t)) : (pGo mn pd dn t all h s).1 (6 * i + c) = s.1 (6 * i + c) := by
  unfold pGo
  split
  · show (if dn = 0 then s.1 else _) _ = _
    split
    · rfl
    · rw [up_ne _ _ (by omega), up_ne _ _ (by omega)]
  · rfl
theorem pH_held {mn : Nat → Int32} {pd : Int64} {dn : Int32} {t : Nat} {all : Int64} {s : PL} (ht1 : 1 ≤ t) (ht : t < 6) {i c : Nat} (hi : i < 8) (hc : c < 6) (hc1 : 1 ≤ c) : ∀ h : Nat, h ≤ 8 → (¬ c = t ∨ h ≤ i) → (pH mn pd dn t all s h).1 (6 * i + c) = s.1 (6 * i + c)
  | 0, _, _ => by rw [pH_0]
  | h + 1, hh, q => by rw [pH_s, pGo_held (by omega) ht1 ht hi hc hc1 (by omega), pH_held ht1 ht hi hc hc1 h (by omega) (by omega)]
theorem pT_held {mn : Nat → Int32} {pd : Int64} {dn : Int32} {s : PL} {i c : Nat} (hi : i < 8) (hc : c < 6) (hc1 : 1 ≤ c) : ∀ t : Nat, t ≤ 6 → t ≤ c → (pT mn pd dn s t).1 (6 * i + c) = s.1 (6 * i + c)
  | 0, _, _ => by rw [pT]
  | t + 1, ht, q => by
    by_cases e : t = 0
    · rw [pT, if_pos e]
    · rw [pT_s _ _ _ _ (by omega), pH_held (by omega) (by omega) hi hc hc1 8 (by omega) (Or.inl (by omega))]
      exact pT_held hi hc hc1 t (by omega) (by omega)
theorem mI_go {u : Nat → Int32} {T t h : Nat} (hI : mI u T) (h1 : 1 ≤ t) (ht : t < T) (hh : h < 8) : fm (va_up (va_up u (6 * h + 0) (u (6 * h + 0) + (cConv (fm u) t (u (6 * h + t)).toInt64).toInt32)) (6 * h + t) 0) = va_up (va_up (fm u) (0 + h * 6 + t) (cHeld (fm u) h t + -(cHeld (fm u) h t))) (0 + h * 6 + 0) (cHeld (va_up (fm u) (0 + h * 6 + t) (cHeld (fm u) h t + -(cHeld (fm u) h t))) h 0 + cConv (va_up (fm u) (0 + h * 6 + t) (cHeld (fm u) h t + -(cHeld (fm u) h t))) t (cHeld (fm u) h t)) ∧ mI (va_up (va_up u (6 * h + 0) (u (6 * h + 0) + (cConv (fm u) t (u (6 * h + t)).toInt64).toInt32)) (6 * h + t) 0) T := by
  obtain ⟨-, hT1, hT6, -⟩ := hI.ok
  have hsz := hI.2.2.2.2.2
  have hc := fm_held u hh (show t < 6 by omega)
  have hc0 := fm_held u hh (show 0 < 6 by omega)
  have b := hI.held hh ht
  have b0 := hI.held (t := 0) hh (by omega)
  have ho : (cHeld (fm u) h t).toInt = (u (6 * h + t)).toInt := by rw [← hc, z_l]
  have ho0 : (cHeld (fm u) h 0).toInt = (u (6 * h + 0)).toInt := by rw [← hc0, z_l]
  have hcv : (cConv (fm u) t (cHeld (fm u) h t)).toInt = zC (fm u) t (cHeld (fm u) h t).toInt := cConv_z hI.b ht rfl (by omega) (by omega)
  have hci := zC_in hI.b hh ht
  have hcn := zC_nn hI.b ht (show 0 ≤ (cHeld (fm u) h t).toInt by omega)
  have e1 : cHeld (va_up (fm u) (0 + h * 6 + t) (cHeld (fm u) h t + -(cHeld (fm u) h t))) h 0 = cHeld (fm u) h 0 := up_ne _ _ (by omega)
  have e2 : cConv (va_up (fm u) (0 + h * 6 + t) (cHeld (fm u) h t + -(cHeld (fm u) h t))) t (cHeld (fm u) h t) = cConv (fm u) t (cHeld (fm u) h t) := by
    unfold cConv
    rw [show cFact (va_up (fm u) (0 + h * 6 + t) (cHeld (fm u) h t + -(cHeld (fm u) h t))) t 0 = cFact (fm u) t 0 from up_ne _ _ (by omega), show cFact (va_up (fm u) (0 + h * 6 + t) (cHeld (fm u) h t + -(cHeld (fm u) h t))) t 1 = cFact (fm u) t 1 from up_ne _ _ (by omega)]
  rw [e1, e2, i64_neg, hc]
  have hv : (cHeld (fm u) h 0 + cConv (fm u) t (cHeld (fm u) h t)).toInt = (u (6 * h + 0)).toInt + zC (fm u) t (cHeld (fm u) h t).toInt := z_add ho0 hcv (by omega) (by omega)
  have hz1 := zSz_H (f := fm u) (v := 0) hT6 hh ht
  have hz2 := zSz_H (f := va_up (fm u) (0 + h * 6 + t) 0) (v := cHeld (fm u) h 0 + cConv (fm u) t (cHeld (fm u) h t)) hT6 hh (show 0 < T by omega)
  have hzz : zC (fm u) t (0 : Int64).toInt = 0 := by
    unfold zC
    rw [if_neg (by omega), n0L, Int.zero_mul, Int.zero_ediv]
  rw [hzz] at hz1
  rw [zC_0, zC_0, hv, show cHeld (va_up (fm u) (0 + h * 6 + t) 0) h 0 = cHeld (fm u) h 0 from up_ne _ _ (by omega), ho0, hz1] at hz2
  have hg := gB_H (v := cHeld (fm u) h 0 + cConv (fm u) t (cHeld (fm u) h t)) (gB_H (v := 0) hI.b.g hh ht (by decide)) hh (show 0 < T by omega) (by rw [hv]; omega)
  have hB := hg.mk (by omega)
  have hsum : (u (6 * h + 0)).toInt + zC (fm u) t (cHeld (fm u) h t).toInt ≤ 1000000000 := by
    have h1 := held_le hB hh (show 0 < T by omega)
    have h2 : (cHeld (va_up (va_up (fm u) (0 + h * 6 + t) 0) (0 + h * 6 + 0) (cHeld (fm u) h 0 + cConv (fm u) t (cHeld (fm u) h t))) h 0).toInt = (u (6 * h + 0)).toInt + zC (fm u) t (cHeld (fm u) h t).toInt := by rw [← hv]; exact congrArg Int64.toInt (up_same _ _ _)
    omega
  have hc32 : (cConv (fm u) t (cHeld (fm u) h t)).toInt32.toInt = zC (fm u) t (cHeld (fm u) h t).toInt := z_i hcv (by omega) (by omega)
  have hcl : (cConv (fm u) t (cHeld (fm u) h t)).toInt32.toInt64 = cConv (fm u) t (cHeld (fm u) h t) := z_li (by omega) (by omega)
  have he : fm (va_up (va_up u (6 * h + 0) (u (6 * h + 0) + (cConv (fm u) t (cHeld (fm u) h t)).toInt32)) (6 * h + t) 0) = va_up (va_up (fm u) (0 + h * 6 + t) 0) (0 + h * 6 + 0) (cHeld (fm u) h 0 + cConv (fm u) t (cHeld (fm u) h t)) := by
    rw [fm_uH _ hh (by omega), fm_uH _ hh (by omega), l_add (by rw [hc32]; omega) (by rw [hc32]; omega), hc0, hcl, up_comm _ _ _ (by omega)]
    rfl
  exact ⟨he, mI_2 hI (by omega) (by omega) (by rw [z_add32 rfl hc32 (by omega) (by omega)]; omega) (by decide) (fun q => by omega) (fun q => by omega) (by rw [he]; omega)⟩
/-- what the money read is -/
def mnOk (mn : Nat → Int32) (mnq : Nat → Int64) (pd : Int64) : Prop := (∀ h, h < 8 → (mn h).toInt64 = mnq h ∧ 0 ≤ (mn h).toInt ∧ (mn h).toInt ≤ 100000000) ∧ 0 ≤ pd.toInt ∧ pd.toInt ≤ 800000000
theorem mGo_q {u mn : Nat → Int32} {mnq : Nat → Int64} {pd all : Int64} {T t h : Nat} (hI : mI u T) (ht : t < T) (hh : h < 8) (hm : mnOk mn mnq pd) (hp : u (88 + t) = 1) (hal : ¬ u (6 * h + t) ≤ 0 → 0 < all.toInt) : mGo u mn pd h t all = true ↔ ¬ cHeld (fm u) h t ≤ 0 ∧ ¬ cQuot (pd * cHeld (fm u) h t) all ≤ mnq h := by
  have h6 := hI.ok.2.2.1
  have hc := fm_held u hh (show t < 6 by omega)
  have e1 : cHeld (fm u) h t ≤ 0 ↔ u (6 * h + t) ≤ 0 := by rw [← hc]; exact i64_le (b := 0)
  rw [e1]
  unfold mGo
  rw [decide_eq_true hp, Bool.true_and, Bool.and_eq_true, decide_eq_true_iff, decide_eq_true_iff]
  constructor
  · rintro ⟨a, b⟩
    refine ⟨a, fun q => b ?_⟩
    have := hal a
    rw [cQuot_n (fun z => by rw [z] at this; exact absurd this (by decide)) (by rw [z_le, n0L]; omega), ← (hm.1 h hh).1, ← hc] at q
    exact q
  · rintro ⟨a, b⟩
    refine ⟨a, fun q => b ?_⟩
    have := hal a
    rw [cQuot_n (fun z => by rw [z] at this; exact absurd this (by decide)) (by rw [z_le, n0L]; omega), ← (hm.1 h hh).1, ← hc]
    exact q
theorem play_1 {u : Nat → Int32} {T t : Nat} (hI : mI u T) (h1 : 1 ≤ t) (ht : t < T) : u (88 + t) = 1 ↔ cFact (fm u) t 5 = 1 := by
  have h6 := hI.ok.2.2.1
  have e : (u (88 + t)).toInt64 = cFact (fm u) t 5 := fm_fact u (k := 5) (by omega) (by omega)
  rw [← e]
  constructor
  · intro q; rw [q]; rfl
  · intro q
    have := congrArg Int64.toInt32 q
    rw [Int32.toInt32_toInt64] at this
    exact this
/-- all of a class is no less than what one has -/
theorem all_pos {u : Nat → Int32} {T t h : Nat} (hI : mI u T) (ht : t < T) (hh : h < 8) (hp : ¬ u (6 * h + t) ≤ 0) : 0 < (cAllHeld (fm u) t).toInt := by
  have h6 := hI.ok.2.2.1
  rw [cAllHeld_z hI.b ht]
  have := sumZ_at (g := fun h => (cHeld (fm u) h t).toInt) (n := 8) (fun i hi => hI.b.2.1 i t hi ht) h hh
  have e : (cHeld (fm u) h t).toInt = (u (6 * h + t)).toInt := by rw [← fm_held u hh (by omega), z_l]
  rw [z_le32, show (0 : Int32).toInt = 0 by decide] at hp
  omega
/-- the rows of one class, done: the house goes along -/
theorem pH_rel {u0 mn : Nat → Int32} {mnq : Nat → Int64} {pd : Int64} {T t : Nat} {tr : Nat → Int64} {tH : Int32} (hI : mI u0 T) (h1 : 1 ≤ t) (ht : t < T) (hm : mnOk mn mnq pd) (hp : u0 (88 + t) = 1) (l0 : Int64) (hl0 : tr t = l0) : ∀ h : Nat, h ≤ 8 → (dm mnq pd (cAllHeld (fm u0) t) t (fm u0, l0, tH) h).1 = fm (pH mn pd 1 t (cAllHeld (fm u0) t) (u0, tr, tH) h).1 ∧ (dm mnq pd (cAllHeld (fm u0) t) t (fm u0, l0, tH) h).2.1 = (pH mn pd 1 t (cAllHeld (fm u0) t) (u0, tr, tH) h).2.1 t ∧ (dm mnq pd (cAllHeld (fm u0) t) t (fm u0, l0, tH) h).2.2 = (pH mn pd 1 t (cAllHeld (fm u0) t) (u0, tr, tH) h).2.2 ∧ mI (pH mn pd 1 t (cAllHeld (fm u0) t) (u0, tr, tH) h).1 T ∧ (∀ c, ¬ c = t → (pH mn pd 1 t (cAllHeld (fm u0) t) (u0, tr, tH) h).2.1 c = tr c)
  | 0, _ => by rw [pH_0, dm]; exact ⟨rfl, hl0.symm, rfl, hI, fun _ _ => rfl⟩
  | h + 1, hh => by
    have h6 := hI.ok.2.2.1
    obtain ⟨r1, r2, r3, r4, r5⟩ := pH_rel hI h1 ht hm hp l0 hl0 h (by omega) (tr := tr) (tH := tH)
    have hun : (pH mn pd 1 t (cAllHeld (fm u0) t) (u0, tr, tH) h).1 (6 * h + t) = u0 (6 * h + t) := pH_held (s := (u0, tr, tH)) h1 (by omega) (by omega) (by omega) h1 h (by omega) (Or.inr (Nat.le_refl h))
    have hpl : (pH mn pd 1 t (cAllHeld (fm u0) t) (u0, tr, tH) h).1 (88 + t) = 1 := by rw [pH_big (s := (u0, tr, tH)) (by omega) (by omega) h (by omega)]; exact hp
    have hal : ¬ (pH mn pd 1 t (cAllHeld (fm u0) t) (u0, tr, tH) h).1 (6 * h + t) ≤ 0 → 0 < (cAllHeld (fm u0) t).toInt := by rw [hun]; exact all_pos hI ht (by omega)
    rw [pH_s, dm]
    generalize pH mn pd 1 t (cAllHeld (fm u0) t) (u0, tr, tH) h = S at r1 r2 r3 r4 r5 hun hpl hal ⊢
    generalize dm mnq pd (cAllHeld (fm u0) t) t (fm u0, l0, tH) h = D at r1 r2 r3 ⊢
    have hq := mGo_q r4 ht (show h < 8 by omega) hm hpl hal
    have hc := fm_held S.1 (show h < 8 by omega) (show t < 6 by omega)
    obtain ⟨g1, g2⟩ := mI_go r4 h1 ht (show h < 8 by omega)
    unfold pGo dmGo
    rw [r1]
    by_cases a : cHeld (fm S.1) h t ≤ 0
    · rw [if_pos a, if_neg (fun z => (hq.mp z).1 a)]
      exact ⟨r1, r2, r3, r4, r5⟩
    · rw [if_neg a]
      by_cases b : cQuot (pd * cHeld (fm S.1) h t) (cAllHeld (fm u0) t) ≤ mnq h
      · rw [if_pos b, if_neg (fun z => (hq.mp z).2 b)]
        exact ⟨r1, r2, r3, r4, r5⟩
      · rw [if_neg b, if_pos (hq.mpr ⟨a, b⟩), if_neg (show ¬ (1 : Int32) = 0 by decide)]
        refine ⟨g1.symm, ?_, ?_, g2, fun c hc => ?_⟩
        · show D.2.1 + _ = va_up S.2.1 t _ t
          rw [up_same, r2, hc]
        · show D.2.2 ||| _ = S.2.2 ||| _
          rw [r3]
        · show va_up S.2.1 t _ c = _
          rw [up_ne _ _ hc]
          exact r5 c hc
theorem pGo_no {mn : Nat → Int32} {pd : Int64} {dn : Int32} {t : Nat} {all : Int64} {h : Nat} {s : PL} (hp : ¬ s.1 (88 + t) = 1) : pGo mn pd dn t all h s = s := by
  unfold pGo
  rw [mGo_1 hp, if_neg Bool.false_ne_true]
theorem pH_no {mn : Nat → Int32} {pd : Int64} {dn : Int32} {t : Nat} {all : Int64} {s : PL} (hp : ¬ s.1 (88 + t) = 1) : ∀ h : Nat, pH mn pd dn t all s h = s
  | 0 => pH_0 _ _ _ _ _ _
  | h + 1 => by rw [pH_s, pH_no hp h, pGo_no hp]
/-- all classes: the house goes along -/
theorem pT_rel {u mn : Nat → Int32} {mnq : Nat → Int64} {pd : Int64} {T : Nat} {tr lst : Nat → Int64} (hI : mI u T) (hm : mnOk mn mnq pd) : ∀ t : Nat, t ≤ T → (bg mnq pd (fm u, lst, 0) t).1 = fm (pT mn pd 1 (u, tr, 0) t).1 ∧ (∀ c, 1 ≤ c → c < t → (bg mnq pd (fm u, lst, 0) t).2.1 c = (pT mn pd 1 (u, tr, 0) t).2.1 c) ∧ (bg mnq pd (fm u, lst, 0) t).2.2 = (pT mn pd 1 (u, tr, 0) t).2.2 ∧ mI (pT mn pd 1 (u, tr, 0) t).1 T
  | 0, _ => by rw [pT, bg]; exact ⟨rfl, fun c a b => absurd b (by omega), rfl, hI⟩
  | t + 1, ht => by
    have h6 := hI.ok.2.2.1
    by_cases e : t = 0
    · rw [pT, bg, if_pos e, if_pos e]; exact ⟨rfl, fun c a b => absurd b (by omega), rfl, hI⟩
    · obtain ⟨r1, r2, r3, r4⟩ := pT_rel hI hm t (by omega) (tr := tr) (lst := lst)
      rw [pT_s _ _ _ _ (by omega), bg, if_neg e]
      generalize pT mn pd 1 (u, tr, 0) t = S at r1 r2 r3 r4 ⊢
      generalize bg mnq pd (fm u, lst, 0) t = D at r1 r2 r3 ⊢
      unfold bgGo
      rw [r1]
      have hpl := play_1 r4 (show 1 ≤ t by omega) (show t < T by omega)
      by_cases p : S.1 (88 + t) = 1
      · rw [if_pos (hpl.mp p)]
        have hr := pH_rel (tr := va_up S.2.1 t 0) (tH := S.2.2) r4 (show 1 ≤ t by omega) (show t < T by omega) hm p 0 (up_same _ _ _) 8 (by omega)
        rw [up_same, r3]
        refine ⟨hr.1, fun c c1 c2 => ?_, hr.2.2.1, hr.2.2.2.1⟩
        by_cases q : c = t
        · rw [q]
          show va_up (va_up D.2.1 t 0) t _ t = _
          rw [up_same, hr.2.1]
        · show va_up (va_up D.2.1 t 0) t _ c = _
          rw [up_ne _ _ q, up_ne _ _ q, hr.2.2.2.2 c q, up_ne _ _ q]
          exact r2 c c1 (by omega)
      · rw [if_neg (fun q => p (hpl.mpr q)), pH_no (s := (S.1, va_up S.2.1 t 0, S.2.2)) p 8]
        refine ⟨rfl, fun c c1 c2 => ?_, r3, r4⟩
        show va_up D.2.1 t 0 c = va_up S.2.1 t 0 c
        by_cases q : c = t
        · rw [q, up_same, up_same]
        · rw [up_ne _ _ q, up_ne _ _ q]
          exact r2 c c1 (by omega)
/-- no one has more than there is -/
theorem pT_dv {u mn : Nat → Int32} {mnq : Nat → Int64} {pd : Int64} {T : Nat} {tr : Nat → Int64} (hI : mI u T) (hm : mnOk mn mnq pd) : ∀ t h, 1 ≤ t → t < T → h < 8 → ¬ (pH mn pd 1 t (cAllHeld (fm (pT mn pd 1 (u, tr, (0 : Int32)) t).1) t) ((pT mn pd 1 (u, tr, (0 : Int32)) t).1, va_up (pT mn pd 1 (u, tr, (0 : Int32)) t).2.1 t 0, (pT mn pd 1 (u, tr, (0 : Int32)) t).2.2) h).1 (6 * h + t) ≤ 0 → ¬ cAllHeld (fm (pT mn pd 1 (u, tr, (0 : Int32)) t).1) t = 0 := by
  intro t h h1 ht hh hp
  have h6 := hI.ok.2.2.1
  have hr := (pT_rel (tr := tr) (lst := fun _ => 0) hI hm t (by omega)).2.2.2
  rw [pH_held (s := ((pT mn pd 1 (u, tr, (0 : Int32)) t).1, va_up (pT mn pd 1 (u, tr, (0 : Int32)) t).2.1 t 0, (pT mn pd 1 (u, tr, (0 : Int32)) t).2.2)) h1 (by omega) hh (by omega) h1 h (by omega) (Or.inr (Nat.le_refl h))] at hp
  have := all_pos hr ht hh hp
  intro q
  rw [q] at this
  exact absurd this (by decide)
/-! told alone: nothing changes but what is told -/
theorem pH_dn0 {mn : Nat → Int32} {pd : Int64} {t : Nat} {all : Int64} {s : PL} : ∀ h : Nat, (pH mn pd 0 t all s h).1 = s.1
  | 0 => by rw [pH_0]
  | h + 1 => by
    rw [pH_s]
    unfold pGo
    split
    · exact pH_dn0 h
    · exact pH_dn0 h
theorem pT_dn0 {mn : Nat → Int32} {pd : Int64} {s : PL} : ∀ t : Nat, (pT mn pd 0 s t).1 = s.1
  | 0 => by rw [pT]
  | t + 1 => by
    by_cases e : t = 0
    · rw [pT, if_pos e]
    · rw [pT_s _ _ _ _ (by omega), pH_dn0]; exact pT_dn0 t
/-- told alone or done: the same is told -/
theorem pH_01 {mn : Nat → Int32} {pd : Int64} {t : Nat} {all : Int64} {a b : Nat → Int32} {tr : Nat → Int64} {tH : Int32} (h1 : 1 ≤ t) (ht : t < 6) (hp : a (88 + t) = b (88 + t)) (hs : ∀ h, h < 8 → a (6 * h + t) = b (6 * h + t)) : ∀ h : Nat, h ≤ 8 → (pH mn pd 0 t all (a, tr, tH) h).2 = (pH mn pd 1 t all (b, tr, tH) h).2
  | 0, _ => by rw [pH_0, pH_0]
  | h + 1, hh => by
    have ih := pH_01 h1 ht hp hs h (by omega) (mn := mn) (pd := pd) (all := all) (tr := tr) (tH := tH)
    have e0 : (pH mn pd 0 t all (a, tr, tH) h).1 = a := pH_dn0 h
    have e1 : (pH mn pd 1 t all (b, tr, tH) h).1 (6 * h + t) = b (6 * h + t) := pH_held (s := (b, tr, tH)) h1 ht (by omega) ht h1 h (by omega) (Or.inr (Nat.le_refl h))
    have e2 : (pH mn pd 1 t all (b, tr, tH) h).1 (88 + t) = b (88 + t) := pH_big (s := (b, tr, tH)) ht (by omega) h (by omega)
    rw [pH_s, pH_s]
    generalize pH mn pd 0 t all (a, tr, tH) h = S at ih e0 ⊢
    generalize pH mn pd 1 t all (b, tr, tH) h = D at ih e1 e2 ⊢
    have hg : mGo S.1 mn pd h t all = mGo D.1 mn pd h t all := by
      unfold mGo
      rw [e0, e1, e2, hp, hs h (by omega)]
    unfold pGo
    rw [hg]
    split
    · show (va_up S.2.1 t _, S.2.2 ||| _) = (va_up D.2.1 t _, D.2.2 ||| _)
      rw [ih, e0, e1, hs h (by omega)]
    · exact ih
theorem pT_01 {mn : Nat → Int32} {pd : Int64} {u : Nat → Int32} {tr : Nat → Int64} : ∀ t : Nat, t ≤ 6 → (pT mn pd 0 (u, tr, 0) t).2 = (pT mn pd 1 (u, tr, 0) t).2
  | 0, _ => by rw [pT, pT]
  | t + 1, ht => by
    by_cases e : t = 0
    · rw [pT, pT, if_pos e, if_pos e]
    · have ih := pT_01 t (by omega) (mn := mn) (pd := pd) (u := u) (tr := tr)
      have hs : ∀ h, h < 8 → (pT mn pd 0 (u, tr, 0) t).1 (6 * h + t) = (pT mn pd 1 (u, tr, 0) t).1 (6 * h + t) := fun h hh => by rw [pT_dn0, pT_held (s := (u, tr, 0)) hh (by omega) (by omega) t (by omega) (Nat.le_refl t)]
      have hp : (pT mn pd 0 (u, tr, 0) t).1 (88 + t) = (pT mn pd 1 (u, tr, 0) t).1 (88 + t) := by rw [pT_dn0, pT_big (s := (u, tr, 0)) (by omega) t (by omega)]
      have ha : cAllHeld (fm (pT mn pd 0 (u, tr, 0) t).1) t = cAllHeld (fm (pT mn pd 1 (u, tr, 0) t).1) t := by
        unfold cAllHeld
        refine sumF_ext (fun h hh => ?_)
        rw [← fm_held _ hh (by omega), ← fm_held _ hh (by omega), hs h hh]
      rw [pT_s _ _ _ _ (by omega), pT_s _ _ _ _ (by omega), ha, ← ih]
      exact pH_01 (by omega) (by omega) hp hs 8 (by omega)
