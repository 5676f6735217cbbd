theorem l_neg_z {n : Int32} (h : -2147483648 < n.toInt) : (-n).toInt64.toInt = -n.toInt := by
  have r := z_rng32 n
  rw [z_l, Int32.toInt_neg, z_bm32 (by omega) (by omega)]
theorem lt_wide {a n : Int32} {f : Int64} (h : a.toInt64 = f) : f < n.toInt64 ↔ a < n := by rw [← h, i64_lt]
theorem l_sub2 {a n : Int32} (h1 : -2147483648 ≤ a.toInt - n.toInt) (h2 : a.toInt - n.toInt < 2147483648) : (a - n).toInt64 = a.toInt64 - n.toInt64 := by
  apply Int64.toInt_inj.mp
  rw [z_l, z_sub32 rfl rfl h1 h2, z_sub (z_l a) (z_l n) (by omega) (by omega)]
theorem eq_pool {C : CT} {u : Nat → Int32} {T : Nat} (hC : C.1 = fm u) (hI : mI u T) (n : Int32) : dR (x_pool C T n) (y_pool u T n) C T := by
  obtain ⟨-, hT1, hT6, -⟩ := hI.ok
  have hsz := hI.2.2.2.2.2
  unfold x_pool y_pool
  by_cases a : n < 0
  · rw [if_pos a, if_pos a]; exact dR_no
  · rw [if_neg a, if_neg a, hC]
    have n0 := not_lt0 a
    have nr := z_rng32 n
    have hp := hI.rest
    have ho : (fm u 170).toInt = (u 56).toInt := by rw [← fm_pool u, z_l]
    have hz := zSz_P (f := fm u) (v := n.toInt64) hT6
    rw [z_l, ho] at hz
    have hz0 := zSz_nn hI.b
    have hg := gB_P (v := n.toInt64) hI.b.g (by rw [z_l]; exact n0)
    have hB : fB (va_up (fm u) 170 n.toInt64) T := hg.mk (by omega)
    have hcs : (cSize (fm u) T - (u 56).toInt64 + n.toInt64).toInt = zSz (fm u) T - (u 56).toInt + n.toInt := z_add (z_sub (cSize_z hI.b) (z_l _) (by omega) (by omega)) (z_l n) (by omega) (by omega)
    have hm := much_z hB
    by_cases c : 1000000000 < cSize (fm u) T - (u 56).toInt64 + n.toInt64
    · rw [if_pos c]
      rw [z_lt, hcs, bil_z] at c
      exact dR_much (hm.mpr (by omega))
    · rw [if_neg c]
      rw [z_lt, hcs, bil_z] at c
      exact dR_acc (by rw [hm]; omega) (fm_uP u n) (by rw [← fm_pool u, Int32.toInt32_toInt64]) (mI_1 hI (by omega) n0 (fun q => absurd q (by omega)) (by rw [fm_uP]; omega))
theorem eq_cancels {C : CT} {u : Nat → Int32} {T : Nat} (hC : C.1 = fm u) (hI : mI u T) (h t n : Int32) : dR (x_cancels C T h t n) (y_cancels u T h t n) C T := by
  obtain ⟨-, hT1, hT6, -⟩ := hI.ok
  have hsz := hI.2.2.2.2.2
  unfold x_cancels y_cancels
  by_cases a : xH h = 0
  · rw [if_pos a, if_pos a]; exact dR_no
  rw [if_neg a, if_neg a]
  by_cases b : xTy T t = 0
  · rw [if_pos b, if_pos b]; exact dR_no
  rw [if_neg b, if_neg b]
  by_cases c : n < 1
  · rw [if_pos c, if_pos c]; exact dR_no
  rw [if_neg c, if_neg c]
  obtain ⟨hd, rfl, hdl⟩ := xH_1 a
  obtain ⟨td, rfl, htd⟩ := xTy_1 hT6 b
  have n1 := not_lt1 c
  have nr := z_rng32 n
  rw [nI_clamp (show hd < 2 ^ 31 by omega), nI_clamp (show td < 2 ^ 31 by omega), hC]
  have hc := fm_held u hdl (show td < 6 by omega)
  have hh := hI.held hdl htd
  by_cases d : u (6 * hd + td) < n
  · rw [if_pos d, if_pos ((lt_wide hc).mpr d)]; exact dR_no
  rw [if_neg d, if_neg (fun q => d ((lt_wide hc).mp q))]
  rw [z_lt32] at d
  have ho : (cHeld (fm u) hd td).toInt = (u (6 * hd + td)).toInt := by rw [← hc, z_l]
  have hv : (cHeld (fm u) hd td + (-n).toInt64).toInt = (u (6 * hd + td)).toInt + -n.toInt := z_add ho (l_neg_z (by omega)) (by omega) (by omega)
  have hz := zSz_H (f := fm u) (v := cHeld (fm u) hd td + (-n).toInt64) hT6 hdl htd
  rw [hv, ho] at hz
  have hmo := zC_mono hI.b htd (show (u (6 * hd + td)).toInt + -n.toInt ≤ (u (6 * hd + td)).toInt by omega)
  have hg := gB_H (v := cHeld (fm u) hd td + (-n).toInt64) hI.b.g hdl htd (by rw [hv]; omega)
  have hB : fB (va_up (fm u) (0 + hd * 6 + td) (cHeld (fm u) hd td + (-n).toInt64)) T := hg.mk (by omega)
  have hm := much_z hB
  have he : fm (uHas u hd td (u (6 * hd + td) - n)) = va_up (fm u) (0 + hd * 6 + td) (cHeld (fm u) hd td + (-n).toInt64) := by
    unfold uHas
    rw [fm_uH u hdl (by omega), ← hc, l_sub (by omega) (by omega) (by omega)]
  refine dR_acc (by rw [hm]; omega) he (by rw [he]) ?_
  unfold uHas at he ⊢
  exact mI_1 hI (by omega) (by rw [z_sub32 rfl rfl (by omega) (by omega)]; omega) (fun _ => by omega) (by rw [he]; omega)
theorem eq_grant {C : CT} {u : Nat → Int32} {T : Nat} (hC : C.1 = fm u) (hI : mI u T) (h n : Int32) : dR (x_grant C T h n) (y_grant u h n) C T := by
  obtain ⟨-, hT1, hT6, -⟩ := hI.ok
  have hsz := hI.2.2.2.2.2
  unfold x_grant y_grant
  by_cases a : xH h = 0
  · rw [if_pos a, if_pos a]; exact dR_no
  rw [if_neg a, if_neg a]
  by_cases c : n < 1
  · rw [if_pos c, if_pos c]; exact dR_no
  rw [if_neg c, if_neg c]
  obtain ⟨hd, rfl, hdl⟩ := xH_1 a
  have n1 := not_lt1 c
  have nr := z_rng32 n
  rw [nI_clamp (show hd < 2 ^ 31 by omega), hC]
  have hp := hI.rest
  have hgr := hI.gr hdl
  by_cases d : u 56 < n
  · rw [if_pos d, if_pos ((lt_wide (fm_pool u)).mpr d)]; exact dR_no
  rw [if_neg d, if_neg (fun q => d ((lt_wide (fm_pool u)).mp q))]
  rw [z_lt32] at d
  have e1 : va_up u 56 (u 56 - n) (48 + hd) = u (48 + hd) := up_ne _ _ (by omega)
  have e2 : cGranted (va_up (fm u) 170 (fm u 170 - n.toInt64)) hd = cGranted (fm u) hd := up_ne _ _ (by omega)
  have hc := fm_granted u hdl
  have hop : (fm u 170).toInt = (u 56).toInt := by rw [← fm_pool u, z_l]
  have hog : (cGranted (fm u) hd).toInt = (u (48 + hd)).toInt := by rw [← hc, z_l]
  rw [e1, e2]
  have hv1 : (fm u 170 - n.toInt64).toInt = (u 56).toInt - n.toInt := z_sub hop (z_l n) (by omega) (by omega)
  have hv2 : (cGranted (fm u) hd + n.toInt64).toInt = (u (48 + hd)).toInt + n.toInt := z_add hog (z_l n) (by omega) (by omega)
  have hz1 := zSz_P (f := fm u) (v := fm u 170 - n.toInt64) hT6
  have hz2 := zSz_G (f := va_up (fm u) 170 (fm u 170 - n.toInt64)) (v := cGranted (fm u) hd + n.toInt64) hT6 hdl
  rw [hv1, hop] at hz1
  rw [hv2, e2, hog, hz1] at hz2
  have hg := gB_G (v := cGranted (fm u) hd + n.toInt64) (gB_P (v := fm u 170 - n.toInt64) hI.b.g (by rw [hv1]; omega)) hdl (by rw [hv2]; omega)
  have hB := hg.mk (by omega)
  have hm := much_z hB
  have hlg := gr_le hI.b hdl
  have hlp := hI.rest
  have hsum : (u (48 + hd)).toInt + n.toInt ≤ 1000000000 := by
    have h1 := zSz_ge hI.b
    have h2 := gTot_nn hI.b.g
    have h3 : (cGranted (fm u) hd).toInt ≤ zAG (fm u) := sumZ_at (g := fun h => (cGranted (fm u) h).toInt) (n := 8) (fun i hi => hI.b.2.2.1 i hi) hd hdl
    omega
  have he : fm (va_up (va_up u 56 (u 56 - n)) (48 + hd) (u (48 + hd) + n)) = va_up (va_up (fm u) 170 (fm u 170 - n.toInt64)) (96 + hd) (cGranted (fm u) hd + n.toInt64) := by
    rw [fm_uG _ hdl, fm_uP, l_sub2 (by omega) (by omega), l_add (by omega) (by omega), fm_pool, hc]
  refine dR_acc (by rw [hm]; omega) he ?_ (mI_2 hI (by omega) (by omega) (by rw [z_sub32 rfl rfl (by omega) (by omega)]; omega) (by rw [z_add32 rfl rfl (by omega) (by omega)]; omega) (fun q => absurd q (by omega)) (fun q => absurd q (by omega)) (by rw [he]; omega))
  rw [← he, ← fm_pool, Int32.toInt32_toInt64]
theorem eq_exercise {C : CT} {u : Nat → Int32} {T : Nat} (hC : C.1 = fm u) (hI : mI u T) (h n : Int32) : dR (x_exercise C T h n) (y_exercise u h n) C T := by
  obtain ⟨-, hT1, hT6, -⟩ := hI.ok
  have hsz := hI.2.2.2.2.2
  unfold x_exercise y_exercise
  by_cases a : xH h = 0
  · rw [if_pos a, if_pos a]; exact dR_no
  rw [if_neg a, if_neg a]
  by_cases c : n < 1
  · rw [if_pos c, if_pos c]; exact dR_no
  rw [if_neg c, if_neg c]
  obtain ⟨hd, rfl, hdl⟩ := xH_1 a
  have n1 := not_lt1 c
  have nr := z_rng32 n
  rw [nI_clamp (show hd < 2 ^ 31 by omega), hC]
  have hgr := hI.gr hdl
  have hh := hI.held (t := 0) hdl (by omega)
  have hc := fm_granted u hdl
  have hc2 := fm_held u hdl (show 0 < 6 by omega)
  by_cases d : u (48 + hd) < n
  · rw [if_pos d, if_pos ((lt_wide hc).mpr d)]; exact dR_no
  rw [if_neg d, if_neg (fun q => d ((lt_wide hc).mp q))]
  rw [z_lt32] at d
  have e1 : va_up u (48 + hd) (u (48 + hd) - n) (6 * hd + 0) = u (6 * hd + 0) := up_ne _ _ (by omega)
  have e2 : cHeld (va_up (fm u) (96 + hd) (cGranted (fm u) hd + (-n).toInt64)) hd 0 = cHeld (fm u) hd 0 := up_ne _ _ (by omega)
  have hog : (cGranted (fm u) hd).toInt = (u (48 + hd)).toInt := by rw [← hc, z_l]
  have hoh : (cHeld (fm u) hd 0).toInt = (u (6 * hd + 0)).toInt := by rw [← hc2, z_l]
  unfold uExe
  rw [e1, e2]
  have hv1 : (cGranted (fm u) hd + (-n).toInt64).toInt = (u (48 + hd)).toInt + -n.toInt := z_add hog (l_neg_z (by omega)) (by omega) (by omega)
  have hv2 : (cHeld (fm u) hd 0 + n.toInt64).toInt = (u (6 * hd + 0)).toInt + n.toInt := z_add hoh (z_l n) (by omega) (by omega)
  have hz1 := zSz_G (f := fm u) (v := cGranted (fm u) hd + (-n).toInt64) hT6 hdl
  have hz2 := zSz_H (f := va_up (fm u) (96 + hd) (cGranted (fm u) hd + (-n).toInt64)) (v := cHeld (fm u) hd 0 + n.toInt64) hT6 hdl (show 0 < T by omega)
  rw [hv1, hog] at hz1
  rw [zC_0, zC_0, hv2, e2, hoh, hz1] at hz2
  have hg := gB_H (v := cHeld (fm u) hd 0 + n.toInt64) (gB_G (v := cGranted (fm u) hd + (-n).toInt64) hI.b.g hdl (by rw [hv1]; omega)) hdl (show 0 < T by omega) (by rw [hv2]; omega)
  have hB := hg.mk (by omega)
  have hm := much_z hB
  have hsum : (u (6 * hd + 0)).toInt + n.toInt ≤ 1000000000 := by
    have h1 := held_le hB hdl (show 0 < T by omega)
    have h2 : (cHeld (va_up (va_up (fm u) (96 + hd) (cGranted (fm u) hd + (-n).toInt64)) (0 + hd * 6 + 0) (cHeld (fm u) hd 0 + n.toInt64)) hd 0).toInt = (u (6 * hd + 0)).toInt + n.toInt := by rw [← hv2]; exact congrArg Int64.toInt (up_same _ _ _)
    omega
  have he : fm (va_up (va_up u (48 + hd) (u (48 + hd) - n)) (6 * hd + 0) (u (6 * hd + 0) + n)) = va_up (va_up (fm u) (96 + hd) (cGranted (fm u) hd + (-n).toInt64)) (0 + hd * 6 + 0) (cHeld (fm u) hd 0 + n.toInt64) := by
    rw [fm_uH _ hdl (by omega), fm_uG _ hdl, l_sub (by omega) (by omega) (by omega), l_add (by omega) (by omega), hc, hc2]
  refine dR_acc (by rw [hm]; omega) he ?_ (mI_2 hI (by omega) (by omega) (by rw [z_sub32 rfl rfl (by omega) (by omega)]; omega) (by rw [z_add32 rfl rfl (by omega) (by omega)]; omega) (fun q => absurd q (by omega)) (fun q => by omega) (by rw [he]; omega))
  rw [← he, ← fm_granted _ hdl, Int32.toInt32_toInt64]
theorem eq_lapses {C : CT} {u : Nat → Int32} {T : Nat} (hC : C.1 = fm u) (hI : mI u T) (h n : Int32) : dR (x_lapses C T h n) (y_lapses u h n) C T := by
  obtain ⟨-, hT1, hT6, -⟩ := hI.ok
  have hsz := hI.2.2.2.2.2
  unfold x_lapses y_lapses
  by_cases a : xH h = 0
  · rw [if_pos a, if_pos a]; exact dR_no
  rw [if_neg a, if_neg a]
  by_cases c : n < 1
  · rw [if_pos c, if_pos c]; exact dR_no
  rw [if_neg c, if_neg c]
  obtain ⟨hd, rfl, hdl⟩ := xH_1 a
  have n1 := not_lt1 c
  have nr := z_rng32 n
  rw [nI_clamp (show hd < 2 ^ 31 by omega), hC]
  have hgr := hI.gr hdl
  have hp := hI.rest
  have hc := fm_granted u hdl
  by_cases d : u (48 + hd) < n
  · rw [if_pos d, if_pos ((lt_wide hc).mpr d)]; exact dR_no
  rw [if_neg d, if_neg (fun q => d ((lt_wide hc).mp q))]
  rw [z_lt32] at d
  have e1 : va_up u (48 + hd) (u (48 + hd) - n) 56 = u 56 := up_ne _ _ (by omega)
  have e2 : va_up (fm u) (96 + hd) (cGranted (fm u) hd + (-n).toInt64) 170 = fm u 170 := up_ne _ _ (by omega)
  have hog : (cGranted (fm u) hd).toInt = (u (48 + hd)).toInt := by rw [← hc, z_l]
  have hop : (fm u 170).toInt = (u 56).toInt := by rw [← fm_pool u, z_l]
  unfold uLap
  rw [e1, e2]
  have hv1 : (cGranted (fm u) hd + (-n).toInt64).toInt = (u (48 + hd)).toInt + -n.toInt := z_add hog (l_neg_z (by omega)) (by omega) (by omega)
  have hv2 : (fm u 170 + n.toInt64).toInt = (u 56).toInt + n.toInt := z_add hop (z_l n) (by omega) (by omega)
  have hz1 := zSz_G (f := fm u) (v := cGranted (fm u) hd + (-n).toInt64) hT6 hdl
  have hz2 := zSz_P (f := va_up (fm u) (96 + hd) (cGranted (fm u) hd + (-n).toInt64)) (v := fm u 170 + n.toInt64) hT6
  rw [hv1, hog] at hz1
  rw [hv2, e2, hop, hz1] at hz2
  have hg := gB_P (v := fm u 170 + n.toInt64) (gB_G (v := cGranted (fm u) hd + (-n).toInt64) hI.b.g hdl (by rw [hv1]; omega)) (by rw [hv2]; omega)
  have hB := hg.mk (by omega)
  have hm := much_z hB
  have he : fm (va_up (va_up u (48 + hd) (u (48 + hd) - n)) 56 (u 56 + n)) = va_up (va_up (fm u) (96 + hd) (cGranted (fm u) hd + (-n).toInt64)) 170 (fm u 170 + n.toInt64) := by
    rw [fm_uP, fm_uG _ hdl, l_sub (by omega) (by omega) (by omega), l_add (by omega) (by omega), hc, fm_pool]
  refine dR_acc (by rw [hm]; omega) he ?_ (mI_2 hI (by omega) (by omega) (by rw [z_sub32 rfl rfl (by omega) (by omega)]; omega) (by rw [z_add32 rfl rfl (by omega) (by omega)]; omega) (fun q => absurd q (by omega)) (fun q => absurd q (by omega)) (by rw [he]; omega))
  rw [← he, ← fm_pool, Int32.toInt32_toInt64]
