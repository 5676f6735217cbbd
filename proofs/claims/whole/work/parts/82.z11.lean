theorem i64_neg (x : Int64) : x + -x = 0 := Int64.add_right_neg x
theorem gvM_at {u : Nat → Int32} {h to : Nat} (hh : h < 8) (ht : to < 8) {x : Nat} (hx : x < 48) : ∀ c : Nat, c ≤ 6 → c ≤ x % 6 → gvM u h to c x = u x
  | 0, _, _ => by rw [gvM_0]
  | c + 1, hc, q => by rw [gvM_s, up_ne _ _ (by omega), up_ne _ _ (by omega), gvM_at hh ht hx c (by omega) (by omega)]
theorem gvM_hi {u : Nat → Int32} {h to : Nat} (hh : h < 8) (ht : to < 8) {x : Nat} (hx : 48 ≤ x) : ∀ c : Nat, c ≤ 6 → gvM u h to c x = u x
  | 0, _ => by rw [gvM_0]
  | c + 1, hc => by rw [gvM_s, up_ne _ _ (by omega), up_ne _ _ (by omega), gvM_hi hh ht hx c (by omega)]
/-- what was given so far: the two rows go along; nothing is made or lost -/
theorem gv_inv {u : Nat → Int32} {T h to : Nat} (hI : mI u T) (hh : h < 8) (ht : to < 8) (hne : ¬ h = to) : ∀ c : Nat, c ≤ T → fm (gvM u h to c) = gvF (fm u) h to c ∧ gB (gvF (fm u) h to c) T ∧ zTot (gvF (fm u) h to c) T = zTot (fm u) T ∧ (∀ x, x < 57 → 0 ≤ (gvM u h to c x).toInt)
  | 0, _ => by rw [gvM_0, gvF_0]; exact ⟨rfl, hI.b.g, rfl, fun x hx => hI.pos hx⟩
  | c + 1, hc => by
    have h6 := hI.ok.2.2.1
    obtain ⟨e, hg, hz, hp⟩ := gv_inv hI hh ht hne c (by omega)
    have a1 : gvM u h to c (6 * to + c) = u (6 * to + c) := gvM_at hh ht (by omega) c (by omega) (by omega)
    have a2 : gvM u h to c (6 * h + c) = u (6 * h + c) := gvM_at hh ht (by omega) c (by omega) (by omega)
    have b1 := hI.held ht (show c < T by omega)
    have b2 := hI.held hh (show c < T by omega)
    have c1 : cHeld (gvF (fm u) h to c) h c = (u (6 * h + c)).toInt64 := by rw [← e, ← fm_held _ hh (by omega), a2]
    have c2 : cHeld (gvF (fm u) h to c) to c = (u (6 * to + c)).toInt64 := by rw [← e, ← fm_held _ ht (by omega), a1]
    have c3 : cHeld (va_up (gvF (fm u) h to c) (0 + h * 6 + c) (cHeld (gvF (fm u) h to c) h c + -(cHeld (gvF (fm u) h to c) h c))) to c = cHeld (gvF (fm u) h to c) to c := up_ne _ _ (by omega)
    have d1 : gvF (fm u) h to (c + 1) = va_up (va_up (gvF (fm u) h to c) (0 + h * 6 + c) 0) (0 + to * 6 + c) ((u (6 * to + c)).toInt64 + (u (6 * h + c)).toInt64) := by
      rw [gvF_s]
      unfold gvGo
      rw [c3, i64_neg, c1, c2]
    have d2 : fm (gvM u h to (c + 1)) = gvF (fm u) h to (c + 1) := by
      rw [gvM_s, a1, a2, fm_uH _ hh (by omega), fm_uH _ ht (by omega), e, d1, up_comm _ _ _ (by omega), l_add (by omega) (by omega)]
      rfl
    have v2 : ((u (6 * to + c)).toInt64 + (u (6 * h + c)).toInt64).toInt = (u (6 * to + c)).toInt + (u (6 * h + c)).toInt := z_add (z_l _) (z_l _) (by omega) (by omega)
    refine ⟨d2, ?_, ?_, fun x hx => ?_⟩
    · rw [d1]
      exact gB_H (gB_H hg hh (by omega) (by decide)) ht (by omega) (by rw [v2]; omega)
    · rw [d1]
      rw [zTot_up (f := va_up (gvF (fm u) h to c) (0 + h * 6 + c) 0) (h := to) (t := c) h6 ht (by omega) (fun x a b => up_ne _ _ b), zTot_up (f := gvF (fm u) h to c) (h := h) (t := c) h6 hh (by omega) (fun x a b => up_ne _ _ b), hz]
      rw [show cHeld (va_up (gvF (fm u) h to c) (0 + h * 6 + c) 0) to c = cHeld (gvF (fm u) h to c) to c from up_ne _ _ (by omega), show cHeld (va_up (gvF (fm u) h to c) (0 + h * 6 + c) 0) h c = 0 from up_same _ _ _, show cHeld (va_up (va_up (gvF (fm u) h to c) (0 + h * 6 + c) 0) (0 + to * 6 + c) ((u (6 * to + c)).toInt64 + (u (6 * h + c)).toInt64)) to c = (u (6 * to + c)).toInt64 + (u (6 * h + c)).toInt64 from up_same _ _ _, v2, c1, c2, z_l, z_l, n0L]
      omega
    · rw [gvM_s]
      by_cases q : x = 6 * h + c
      · rw [q, up_same]; decide
      · rw [up_ne _ _ q]
        by_cases q2 : x = 6 * to + c
        · rw [q2, up_same, a1, a2, z_add32 rfl rfl (by omega) (by omega)]; omega
        · rw [up_ne _ _ q2]; exact hp x hx
theorem eq_gives {C : CT} {u : Nat → Int32} {T : Nat} (hC : C.1 = fm u) (hI : mI u T) (h to : Int32) : dR (x_gives C T h to) (y_gives u T h to) C T := by
  obtain ⟨-, hT1, hT6, -⟩ := hI.ok
  have hsz := hI.2.2.2.2.2
  unfold x_gives y_gives
  by_cases a : xH h = 0
  · rw [if_pos a, if_pos a]; exact dR_no
  rw [if_neg a, if_neg a]
  by_cases a2 : xH to = 0
  · rw [if_pos a2, if_pos a2]; exact dR_no
  rw [if_neg a2, if_neg a2]
  by_cases b : h = to
  · rw [if_pos b, if_pos b]; exact dR_no
  rw [if_neg b, if_neg b]
  obtain ⟨hd, rfl, hdl⟩ := xH_1 a
  obtain ⟨od, rfl, hol⟩ := xH_1 a2
  have hne : ¬ hd = od := fun q => b (by rw [q])
  rw [nI_clamp (show hd < 2 ^ 31 by omega), nI_clamp (show od < 2 ^ 31 by omega), hC]
  have hgr := hI.gr hdl
  have hgo := hI.gr hol
  have hany : (cAny (fm u) hd T).toInt = (cGranted (fm u) hd).toInt + sumZ (fun c => (cHeld (fm u) hd c).toInt) T := by
    have h1 := sumZ_at (g := fun h => sumZ (fun c => (cHeld (fm u) h c).toInt) T) (n := 8) (fun i hi => sumZ_nn (fun c hc => hI.b.2.1 i c hi hc)) hd hdl
    have h3 := hI.tot
    have h4 := gr_le hI.b hdl
    unfold zTot at h3
    exact sumF_z rfl (hI.b.2.2.1 hd hdl) (fun _ _ => rfl) (fun c hc => hI.b.2.1 hd c hdl hc) (by omega)
  have hany0 : 0 ≤ (cAny (fm u) hd T).toInt := by
    rw [hany]
    have := hI.b.2.2.1 hd hdl
    have := sumZ_nn (n := T) (fun c hc => hI.b.2.1 hd c hdl hc)
    omega
  by_cases c : cAny (fm u) hd T = 0
  · rw [if_pos c, if_pos (by rw [c]; decide)]; exact dR_no
  rw [if_neg c, if_neg (fun q => c (Int64.toInt_inj.mp (by rw [z_le, n0L] at q; rw [n0L]; omega)))]
  obtain ⟨e, hg, hz, hp⟩ := gv_inv hI hdl hol hne T (Nat.le_refl T)
  have c1 : cGranted (gvF (fm u) hd od T) hd = (u (48 + hd)).toInt64 := by rw [← e, ← fm_granted _ hdl, gvM_hi hdl hol (by omega) T hT6]
  have c2 : cGranted (gvF (fm u) hd od T) od = (u (48 + od)).toInt64 := by rw [← e, ← fm_granted _ hol, gvM_hi hdl hol (by omega) T hT6]
  have c3 : cGranted (va_up (gvF (fm u) hd od T) (96 + hd) (cGranted (gvF (fm u) hd od T) hd + -(cGranted (gvF (fm u) hd od T) hd))) od = cGranted (gvF (fm u) hd od T) od := up_ne _ _ (by omega)
  have d1 : gvO (gvF (fm u) hd od T) hd od = va_up (va_up (gvF (fm u) hd od T) (96 + hd) 0) (96 + od) ((u (48 + od)).toInt64 + (u (48 + hd)).toInt64) := by
    unfold gvO
    rw [c3, i64_neg, c1, c2]
  have he : fm (uGiv u T hd od) = gvO (gvF (fm u) hd od T) hd od := by
    unfold uGiv gvOM
    rw [gvM_hi hdl hol (by omega) T hT6, gvM_hi hdl hol (by omega) T hT6, fm_uG _ hdl, fm_uG _ hol, e, d1, up_comm _ _ _ (by omega), l_add (by omega) (by omega)]
    rfl
  have v2 : ((u (48 + od)).toInt64 + (u (48 + hd)).toInt64).toInt = (u (48 + od)).toInt + (u (48 + hd)).toInt := z_add (z_l _) (z_l _) (by omega) (by omega)
  have hg2 : gB (gvO (gvF (fm u) hd od T) hd od) T := by
    rw [d1]
    exact gB_G (gB_G hg hdl (by decide)) hol (by rw [v2]; omega)
  have hB : fB (gvO (gvF (fm u) hd od T) hd od) T := by
    have ht := hI.tot
    have hr := hI.rest
    have hz2 : zTot (gvO (gvF (fm u) hd od T) hd od) T = zTot (fm u) T := by
      rw [← hz, d1]
      refine sumZ_ext (fun i hi => sumZ_ext (fun c hc => ?_))
      rw [show cHeld (va_up (va_up (gvF (fm u) hd od T) (96 + hd) 0) (96 + od) ((u (48 + od)).toInt64 + (u (48 + hd)).toInt64)) i c = cHeld (gvF (fm u) hd od T) i c by unfold cHeld; rw [up_ne _ _ (by omega), up_ne _ _ (by omega)]]
    refine hg2.mk2 (by omega) ?_ ?_
    · have h8 : ∀ i, i < 8 → (cGranted (gvO (gvF (fm u) hd od T) hd od) i).toInt ≤ 2000000000 := by
        intro i hi
        rw [d1]
        unfold cGranted
        by_cases q : i = od
        · rw [q, up_same, v2]; omega
        · rw [up_ne _ _ (by omega)]
          by_cases q2 : i = hd
          · rw [q2, up_same]; decide
          · rw [up_ne _ _ (by omega)]
            have : gvF (fm u) hd od T (96 + i) = cGranted (fm u) i := by
              rw [← e, show fm (gvM u hd od T) (96 + i) = cGranted (fm (gvM u hd od T)) i from rfl, ← fm_granted _ hi, gvM_hi hdl hol (by omega) T hT6, fm_granted u hi]
            rw [this, ← fm_granted u hi, z_l]
            have := hI.gr hi
            omega
      have := sumZ_le_c (g := fun i => (cGranted (gvO (gvF (fm u) hd od T) hd od) i).toInt) (c := 2000000000) (n := 8) h8
      unfold zAG
      omega
    · have : gvO (gvF (fm u) hd od T) hd od 170 = fm u 170 := by
        rw [d1, up_ne _ _ (by omega), up_ne _ _ (by omega), ← e, ← fm_pool, gvM_hi hdl hol (by omega) T hT6, fm_pool]
      rw [this, ← fm_pool, z_l]
      omega
  have hm := much_z hB
  rw [he]
  by_cases g : 1000000000 < cSize (gvO (gvF (fm u) hd od T) hd od) T
  · rw [if_pos g]; exact dR_much g
  · rw [if_neg g]
    refine dR_acc g he rfl (mI_low hI (fun x hx => ?_) (fun x hx => ?_) (fun i t hi h1 h2 => ?_) (by rw [he]; rw [hm] at g; omega))
    · unfold uGiv gvOM
      rw [up_ne _ _ (by omega), up_ne _ _ (by omega), gvM_hi hdl hol (by omega) T hT6]
    · unfold uGiv gvOM
      by_cases q : x = 48 + hd
      · rw [q, up_same]; decide
      · rw [up_ne _ _ q]
        by_cases q2 : x = 48 + od
        · rw [q2, up_same, gvM_hi hdl hol (by omega) T hT6, gvM_hi hdl hol (by omega) T hT6, z_add32 rfl rfl (by omega) (by omega)]; omega
        · rw [up_ne _ _ q2]; exact hp x hx
    · unfold uGiv gvOM
      rw [up_ne _ _ (by omega), up_ne _ _ (by omega), gvM_at hdl hol (by omega) T hT6 (by omega)]
      exact hI.2.2.2.1 i t hi h1 h2
/-! a split -/
theorem spAll_z {u : Nat → Int32} {T : Nat} (hI : mI u T) : (spAll (fm u) T).toInt = zAG (fm u) + (fm u 170).toInt + zTot (fm u) T := by
  have hr := hI.rest
  have e : (fm u 170).toInt = (u 56).toInt := by rw [← fm_pool u, z_l]
  have h0 := zAG_nn hI.b
  have ht := hI.tot
  have hsw : zTot (fm u) T = sumZ (fun t => sumZ (fun h => (cHeld (fm u) h t).toInt) 8) T := sumZ_swap (fun h c => (cHeld (fm u) h c).toInt) 8 T
  unfold spAll
  rw [sumF_z (z_add (cAllGranted_z hI.b) rfl (by omega) (by omega)) (by omega) (fun t ht => cAllHeld_z hI.b ht) (fun t ht => sumZ_nn (fun h hh => hI.b.2.1 h t hh ht)) (by omega)]
  omega
theorem cMul_lo (f : Nat → Int64) (k : Int32) (T : Nat) {x : Nat} (h : x < 48 ∧ x % 6 < T ∨ (96 ≤ x ∧ x < 104)) : cMul f k T x = f x + f x * (k - 1).toInt64 := by unfold cMul mF3; rw [if_pos h]
theorem cMul_pool (f : Nat → Int64) (k : Int32) (T : Nat) : cMul f k T 170 = f 170 * k.toInt64 := by unfold cMul mF3; rw [if_neg (by omega), if_pos rfl]
theorem cMul_pc (f : Nat → Int64) (k : Int32) {T t w : Nat} (h1 : 1 ≤ t) (ht : t < T) (h6 : T ≤ 6) (hw : w < 2) : cMul f k T (104 + t * 11 + w) = (if cQuot (f (104 + t * 11 + w)) k.toInt64 < 1 then 1 else cQuot (f (104 + t * 11 + w)) k.toInt64) := by unfold cMul mF3; rw [if_neg (by omega), if_neg (by omega), if_pos (by omega)]
theorem cMul_no (f : Nat → Int64) (k : Int32) (T : Nat) {x : Nat} (h1 : ¬ (x < 48 ∧ x % 6 < T ∨ (96 ≤ x ∧ x < 104))) (h2 : ¬ x = 170) (h3 : ¬ (115 ≤ x ∧ x < 104 + T * 11 ∧ (x - 104) % 11 < 2)) : cMul f k T x = f x := by unfold cMul mF3; rw [if_neg h1, if_neg h2, if_neg h3]
theorem mul_km {x : Int64} {k : Int32} {a b : Int} (hx : x.toInt = a) (hk : k.toInt = b) (ha : 0 ≤ a) (ha2 : a ≤ 1000000000) (hb : 2 ≤ b) (hb2 : b ≤ 10) : (x + x * (k - 1).toInt64).toInt = a * b := by
  have e : (k - 1).toInt64.toInt = b - 1 := by rw [z_l, z_sub32 hk (show (1 : Int32).toInt = 1 by decide) (by omega) (by omega)]
  have m1 : a * (b - 1) ≤ 1000000000 * 9 := Int.mul_le_mul ha2 (by omega) (by omega) (by omega)
  have m0 : 0 ≤ a * (b - 1) := Int.mul_nonneg ha (by omega)
  rw [z_add hx (z_mul hx e (by omega) (by omega)) (by omega) (by omega), Int.mul_sub]
  omega
theorem quot1_z {x : Int64} {k : Int32} {a b : Int} (hx : x.toInt = a) (hk : k.toInt = b) (ha : 1 ≤ a) (hb : 2 ≤ b) : (if cQuot x k.toInt64 < 1 then 1 else cQuot x k.toInt64).toInt = max 1 (a / b) := by
  have e : (cQuot x k.toInt64).toInt = a / b := z_quot hx (by rw [z_l, hk]) (by omega) (by omega)
  by_cases h : cQuot x k.toInt64 < 1
  · rw [if_pos h]
    rw [z_lt, e, show (1 : Int64).toInt = 1 by decide] at h
    rw [show (1 : Int64).toInt = 1 by decide]
    omega
  · rw [if_neg h]
    rw [z_lt, e, show (1 : Int64).toInt = 1 by decide] at h
    rw [e]
    omega
theorem piM_pc {x T : Nat} (hT : T ≤ 6) (h : (59 ≤ piM x ∧ piM x < 58 + T) ∨ (65 ≤ piM x ∧ piM x < 64 + T)) : 115 ≤ x ∧ x < 104 + T * 11 ∧ (x - 104) % 11 < 2 := by
  unfold piM at h
  by_cases a : x < 48
  · rw [if_pos a] at h; omega
  · rw [if_neg a] at h
    by_cases b : x < 96
    · rw [if_pos b] at h; omega
    · rw [if_neg b] at h
      by_cases c : x < 104
      · rw [if_pos c] at h; omega
      · rw [if_neg c] at h
        by_cases d : x < 170
        · rw [if_pos d] at h
          obtain ⟨t, w, ht, hw, hx⟩ : ∃ t w, t < 6 ∧ w < 11 ∧ x = 104 + t * 11 + w := ⟨(x - 104) / 11, (x - 104) % 11, by omega, by omega, by omega⟩
          have e1 : (x - 104) % 11 = w := by omega
          have e2 : (x - 104) / 11 = t := by omega
          rw [e1, e2] at h
          rw [e1]
          by_cases g : w < 6
          · rw [if_pos g] at h
            rcases (show w = 0 ∨ w = 1 ∨ 2 ≤ w by omega) with q | q | q
            · rw [q] at h; omega
            · rw [q] at h; omega
            · omega
          · rw [if_neg g] at h; omega
        · rw [if_neg d] at h
          by_cases g : x = 170
          · rw [if_pos g] at h; omega
          · rw [if_neg g] at h; omega
theorem eq_splits {C : CT} {u : Nat → Int32} {T : Nat} (hC : C.1 = fm u) (hI : mI u T) (k : Int32) : dR (x_splits C T k) (y_splits u T k) C T := by
  obtain ⟨hT, hT1, hT6, hcv⟩ := hI.ok
  have hsz := hI.2.2.2.2.2
  have hr := hI.rest
  have ht := hI.tot
  have h0 := zAG_nn hI.b
  have htn := gTot_nn hI.b.g
  have hop : (fm u 170).toInt = (u 56).toInt := by rw [← fm_pool u, z_l]
  unfold x_splits y_splits
  by_cases a : xIn k.toInt64 2 10 = 0
  · rw [if_pos a]
    rw [xIn_0, show (2 : Int64).toInt = 2 by decide, show (10 : Int64).toInt = 10 by decide] at a
    by_cases b : k < 2
    · rw [if_pos b]; exact dR_no
    · rw [if_neg b, if_pos (by rw [z_lt32, show (10 : Int32).toInt = 10 by decide]; rw [z_lt32, show (2 : Int32).toInt = 2 by decide] at b; omega)]; exact dR_no
  rw [if_neg a]
  rw [xIn_0, show (2 : Int64).toInt = 2 by decide, show (10 : Int64).toInt = 10 by decide] at a
  rw [if_neg (fun q => by rw [z_lt32, show (2 : Int32).toInt = 2 by decide] at q; omega), if_neg (fun q => by rw [z_lt32, show (10 : Int32).toInt = 10 by decide] at q; omega), hC]
  have k1 : 2 ≤ k.toInt := by omega
  have k2 : k.toInt ≤ 10 := by omega
  -- the class's house behind it
  have hH : ∀ h t, h < 8 → t < T → (cHeld (cMul (fm u) k T) h t).toInt = (cHeld (fm u) h t).toInt * k.toInt := by
    intro h t hh h1
    have b := hI.held hh h1
    have e : (cHeld (fm u) h t).toInt = (u (6 * h + t)).toInt := by rw [← fm_held u hh (by omega), z_l]
    show (cMul (fm u) k T (0 + h * 6 + t)).toInt = _
    rw [cMul_lo _ _ _ (by omega)]
    exact mul_km rfl rfl (by show 0 ≤ (cHeld (fm u) h t).toInt; omega) (by show (cHeld (fm u) h t).toInt ≤ _; omega) k1 k2
  have hG : ∀ h, h < 8 → (cGranted (cMul (fm u) k T) h).toInt = (cGranted (fm u) h).toInt * k.toInt := by
    intro h hh
    have b := hI.gr hh
    have e : (cGranted (fm u) h).toInt = (u (48 + h)).toInt := by rw [← fm_granted u hh, z_l]
    show (cMul (fm u) k T (96 + h)).toInt = _
    rw [cMul_lo _ _ _ (by omega)]
    exact mul_km rfl rfl (by show 0 ≤ (cGranted (fm u) h).toInt; omega) (by show (cGranted (fm u) h).toInt ≤ _; omega) k1 k2
  have hPm : (u 56).toInt * k.toInt ≤ 1000000000 * 10 := Int.mul_le_mul hr.2.2 k2 (by omega) (by omega)
  have hP0 : 0 ≤ (u 56).toInt * k.toInt := Int.mul_nonneg hr.2.1 (by omega)
  have hP : (cMul (fm u) k T 170).toInt = (fm u 170).toInt * k.toInt := by
    rw [cMul_pool, hop]
    exact z_mul hop (z_l k) (by omega) (by omega)
  have hF : ∀ t w, 1 ≤ t → t < T → w < 2 → (cFact (cMul (fm u) k T) t w).toInt = max 1 ((cFact (fm u) t w).toInt / k.toInt) := by
    intro t w t1 t2 hw
    obtain ⟨b1, b2, b3⟩ := hI.b.2.2.2.2.1 t t1 t2
    show (cMul (fm u) k T (104 + t * 11 + w)).toInt = _
    rw [cMul_pc _ _ t1 t2 hT6 hw]
    refine quot1_z rfl rfl ?_ k1
    show 1 ≤ (cFact (fm u) t w).toInt
    match w, hw with
    | 0, _ => omega
    | 1, _ => omega
  have hg : gB (cMul (fm u) k T) T := by
    refine ⟨hT6, fun h t hh h1 => ?_, fun h hh => ?_, ?_, fun t t1 t2 => ?_⟩
    · rw [hH h t hh h1]; exact Int.mul_nonneg (hI.b.2.1 h t hh h1) (by omega)
    · rw [hG h hh]; exact Int.mul_nonneg (hI.b.2.2.1 h hh) (by omega)
    · rw [hP]; exact Int.mul_nonneg hI.b.2.2.2.1 (by omega)
    · obtain ⟨b1, b2, b3⟩ := hI.b.2.2.2.2.1 t t1 t2
      rw [hF t 0 t1 t2 (by omega), hF t 1 t1 t2 (by omega)]
      have m1 : (cFact (fm u) t 1).toInt / k.toInt ≤ (cFact (fm u) t 0).toInt / k.toInt := Int.ediv_le_ediv (by omega) b2
      have m2 : (cFact (fm u) t 0).toInt / k.toInt ≤ (cFact (fm u) t 0).toInt := Int.ediv_le_self _ (by omega)
      omega
  have zT : zTot (cMul (fm u) k T) T = zTot (fm u) T * k.toInt := by
    unfold zTot
    rw [← sumZ_mul]
    refine sumZ_ext (fun i hi => ?_)
    rw [← sumZ_mul]
    exact sumZ_ext (fun c hc => hH i c hi hc)
  have zG : zAG (cMul (fm u) k T) = zAG (fm u) * k.toInt := by
    unfold zAG
    rw [← sumZ_mul]
    exact sumZ_ext (fun i hi => hG i hi)
  have bT : zTot (fm u) T * k.toInt ≤ 1000000000 * 10 := Int.mul_le_mul ht k2 (by omega) (by omega)
  have bG : zAG (fm u) * k.toInt ≤ 1000000000 * 10 := Int.mul_le_mul hr.1 k2 (by omega) (by omega)
  have hB : fB (cMul (fm u) k T) T := hg.mk2 (by rw [zT]; omega) (by rw [zG]; omega) (by rw [hP, hop]; omega)
  have hm := much_z hB
  have hge := zSz_ge hB
  rw [zT, zG, hP] at hge
  have hsp := spAll_z hI
  have hks : (k.toInt64 * spAll (fm u) T).toInt = k.toInt * (zAG (fm u) + (fm u 170).toInt + zTot (fm u) T) := by
    have q1 : k.toInt * (zAG (fm u) + (fm u 170).toInt + zTot (fm u) T) ≤ 10 * 3000000000 := Int.mul_le_mul k2 (by omega) (by omega) (by omega)
    have q0 : 0 ≤ k.toInt * (zAG (fm u) + (fm u 170).toInt + zTot (fm u) T) := Int.mul_nonneg (by omega) (by omega)
    exact z_mul (z_l k) hsp (by omega) (by omega)
  have hdist : k.toInt * (zAG (fm u) + (fm u 170).toInt + zTot (fm u) T) = zTot (fm u) T * k.toInt + zAG (fm u) * k.toInt + (fm u 170).toInt * k.toInt := by
    rw [Int.mul_comm, Int.add_mul, Int.add_mul]
    omega
  by_cases b : 1000000000 < k.toInt64 * spAll (fm u) T
  · rw [if_pos b]
    rw [z_lt, hks, bil_z, hdist] at b
    exact dR_much (hm.mpr (by omega))
  rw [if_neg b]
  rw [z_lt, hks, bil_z, hdist] at b
  -- each cell times k is small
  have hcell : ∀ x, x < 57 → 0 ≤ (u x).toInt ∧ (u x).toInt * k.toInt ≤ 1000000000 := by
    intro x hx
    refine ⟨hI.pos hx, ?_⟩
    have n1 : 0 ≤ zTot (fm u) T * k.toInt := Int.mul_nonneg htn (by omega)
    have n2 : 0 ≤ zAG (fm u) * k.toInt := Int.mul_nonneg h0 (by omega)
    have n3 : 0 ≤ (fm u 170).toInt * k.toInt := Int.mul_nonneg (by omega) (by omega)
    by_cases x1 : x < 48
    · by_cases x2 : x % 6 < T
      · have e : (cHeld (fm u) (x / 6) (x % 6)).toInt = (u x).toInt := by rw [← fm_held u (by omega) (by omega), z_l, show 6 * (x / 6) + x % 6 = x by omega]
        have s1 := sumZ_at (g := fun h => sumZ (fun c => (cHeld (fm u) h c).toInt) T) (n := 8) (fun i hi => sumZ_nn (fun c hc => hI.b.2.1 i c hi hc)) (x / 6) (by omega)
        have s2 := sumZ_at (g := fun c => (cHeld (fm u) (x / 6) c).toInt) (n := T) (fun c hc => hI.b.2.1 (x / 6) c (by omega) hc) (x % 6) x2
        have s3 : (u x).toInt ≤ zTot (fm u) T := by unfold zTot; omega
        have := Int.mul_le_mul_of_nonneg_right s3 (show 0 ≤ k.toInt by omega)
        omega
      · have := hI.2.2.2.1 (x / 6) (x % 6) (by omega) (by omega) (by omega)
        rw [show 6 * (x / 6) + x % 6 = x by omega] at this
        rw [this, show (0 : Int32).toInt = 0 by decide]
        omega
    · by_cases x2 : x < 56
      · have e : (cGranted (fm u) (x - 48)).toInt = (u x).toInt := by rw [← fm_granted u (by omega), z_l, show 48 + (x - 48) = x by omega]
        have s1 : (cGranted (fm u) (x - 48)).toInt ≤ zAG (fm u) := sumZ_at (g := fun h => (cGranted (fm u) h).toInt) (n := 8) (fun i hi => hI.b.2.2.1 i hi) (x - 48) (by omega)
        have := Int.mul_le_mul_of_nonneg_right (show (u x).toInt ≤ zAG (fm u) by omega) (show 0 ≤ k.toInt by omega)
        omega
      · rw [show x = 56 by omega, ← hop]
        omega
  have hmul : ∀ x, x < 57 → (u x * k).toInt = (u x).toInt * k.toInt := by
    intro x hx
    obtain ⟨c1, c2⟩ := hcell x hx
    have : 0 ≤ (u x).toInt * k.toInt := Int.mul_nonneg c1 (by omega)
    exact z_mul32 rfl rfl (by omega) (by omega)
  have uS_lo : ∀ x, x < 57 → uSp u k T x = u x * k := fun x hx => by unfold uSp spB spA; rw [if_neg (by omega), if_pos hx]
  have uS_hi : ∀ x, 57 ≤ x → ¬ ((59 ≤ x ∧ x < 58 + T) ∨ (65 ≤ x ∧ x < 64 + T)) → uSp u k T x = u x := fun x hx hn => by unfold uSp spB spA; rw [if_neg hn, if_neg (by omega)]
  have uS_pc : ∀ x, ((59 ≤ x ∧ x < 58 + T) ∨ (65 ≤ x ∧ x < 64 + T)) → uSp u k T x = mxI (u x / k) := fun x hx => by unfold uSp spB spA; rw [if_pos hx, if_neg (by omega)]
  have he : fm (uSp u k T) = cMul (fm u) k T := by
    funext x
    apply Int64.toInt_inj.mp
    by_cases p1 : x < 48
    · rw [show fm (uSp u k T) x = cHeld (fm (uSp u k T)) (x / 6) (x % 6) by unfold cHeld; rw [show 0 + x / 6 * 6 + x % 6 = x by omega], ← fm_held _ (by omega) (by omega), z_l, uS_lo _ (by omega), hmul _ (by omega)]
      by_cases p2 : x % 6 < T
      · have := hH (x / 6) (x % 6) (by omega) p2
        unfold cHeld at this
        rw [show 0 + x / 6 * 6 + x % 6 = x by omega] at this
        rw [this, show fm u x = cHeld (fm u) (x / 6) (x % 6) by unfold cHeld; rw [show 0 + x / 6 * 6 + x % 6 = x by omega], ← fm_held u (by omega) (by omega), z_l]
      · have t0 := hI.2.2.2.1 (x / 6) (x % 6) (by omega) (by omega) (by omega)
        rw [cMul_no _ _ _ (by omega) (by omega) (by omega), t0, show fm u x = cHeld (fm u) (x / 6) (x % 6) by unfold cHeld; rw [show 0 + x / 6 * 6 + x % 6 = x by omega], ← fm_held u (by omega) (by omega), t0]
        show 0 * k.toInt = 0
        omega
    · by_cases p2 : 96 ≤ x ∧ x < 104
      · rw [show fm (uSp u k T) x = cGranted (fm (uSp u k T)) (x - 96) by unfold cGranted; rw [show 96 + (x - 96) = x by omega], ← fm_granted _ (by omega), z_l, uS_lo _ (by omega), hmul _ (by omega)]
        have := hG (x - 96) (by omega)
        unfold cGranted at this
        rw [show 96 + (x - 96) = x by omega] at this
        rw [this, show fm u x = cGranted (fm u) (x - 96) by unfold cGranted; rw [show 96 + (x - 96) = x by omega], ← fm_granted u (by omega), z_l]
      · by_cases p3 : x = 170
        · rw [p3, hP, ← fm_pool, ← fm_pool, z_l, z_l, uS_lo _ (by omega), hmul _ (by omega)]
        · by_cases p4 : 115 ≤ x ∧ x < 104 + T * 11 ∧ (x - 104) % 11 < 2
          · have t1 : 1 ≤ (x - 104) / 11 := by omega
            have t2 : (x - 104) / 11 < T := by omega
            have ex : 104 + (x - 104) / 11 * 11 + (x - 104) % 11 = x := by omega
            have f1 := hF ((x - 104) / 11) ((x - 104) % 11) t1 t2 p4.2.2
            unfold cFact at f1
            rw [ex] at f1
            have eF : fm u x = (u (58 + 6 * ((x - 104) % 11) + (x - 104) / 11)).toInt64 := by
              rw [fm_fact u (by omega) (by omega)]
              unfold cFact
              rw [ex]
            have eG : fm (uSp u k T) x = (uSp u k T (58 + 6 * ((x - 104) % 11) + (x - 104) / 11)).toInt64 := by
              rw [fm_fact _ (by omega) (by omega)]
              unfold cFact
              rw [ex]
            obtain ⟨b1, b2, b3⟩ := hI.b.2.2.2.2.1 ((x - 104) / 11) t1 t2
            have pos : 1 ≤ (u (58 + 6 * ((x - 104) % 11) + (x - 104) / 11)).toInt := by
              rw [← z_l, fm_fact u (by omega) (by omega)]
              rcases (show (x - 104) % 11 = 0 ∨ (x - 104) % 11 = 1 by omega) with q | q
              · rw [q]; omega
              · rw [q]; omega
            rw [f1, eF, eG, z_l, z_l, uS_pc _ (by omega)]
            have dv : (u (58 + 6 * ((x - 104) % 11) + (x - 104) / 11) / k).toInt = (u (58 + 6 * ((x - 104) % 11) + (x - 104) / 11)).toInt / k.toInt := z_div32 rfl rfl (by omega) (by omega)
            unfold mxI
            by_cases q : 1 < u (58 + 6 * ((x - 104) % 11) + (x - 104) / 11) / k
            · rw [if_pos q]
              rw [z_lt32, dv, show (1 : Int32).toInt = 1 by decide] at q
              rw [dv]; omega
            · rw [if_neg q]
              rw [z_lt32, dv, show (1 : Int32).toInt = 1 by decide] at q
              rw [show (1 : Int32).toInt = 1 by decide]; omega
          · rw [cMul_no _ _ _ (by omega) p3 p4]
            unfold fm
            rw [uS_hi (piM x) ?_ ?_]
            · unfold piM; repeat' split
              all_goals omega
            · exact fun q => p4 (piM_pc hT6 q)
  rw [he]
  by_cases g : 1000000000 < cSize (cMul (fm u) k T) T
  · rw [if_pos g]; exact dR_much g
  · rw [if_neg g]
    refine dR_acc g he rfl ⟨mOk_uSp hI.ok, by rw [he]; exact hB, ?_, fun h t hh h1 h2 => ?_, fun h t hh h6 => ?_, by rw [he]; rw [hm] at g; omega⟩
    · rw [he]
      intro t t1 t2
      have key : ∀ w, 2 ≤ w → w < 6 → cFact (cMul (fm u) k T) t w = cFact (fm u) t w := fun w w1 w2 => by
        unfold cFact
        exact cMul_no _ _ _ (by omega) (by omega) (by omega)
      rw [key 2 (by omega) (by omega), key 3 (by omega) (by omega), key 4 (by omega) (by omega), key 5 (by omega) (by omega)]
      exact hI.r t t1 t2
    · rw [uS_lo _ (by omega), hI.2.2.2.1 h t hh h1 h2]
      exact Int32.zero_mul
    · rw [he]
      have : cGiven (cMul (fm u) k T) h t = cGiven (fm u) h t := by
        unfold cGiven
        exact cMul_no _ _ _ (by omega) (by omega) (by omega)
      rw [this]
      exact hI.2.2.2.2.1 h t hh h6
