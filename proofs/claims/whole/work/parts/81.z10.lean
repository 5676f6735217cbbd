theorem zC_in {f : Nat → Int64} {T : Nat} (hB : fB f T) {h t : Nat} (hh : h < 8) (ht : t < T) : zC f t (cHeld f h t).toInt ≤ zSz f T := by
  have h1 := sumZ_at (g := fun c => zC f c (cHeld f h c).toInt) (n := T) (fun c hc => zC_nn hB hc (hB.2.1 h c hh hc)) t ht
  have h2 := zV_at hB hh
  have h3 := zAG_nn hB
  have h4 := hB.2.2.2.1
  unfold zV at h2
  unfold zSz
  omega
theorem eq_converts {C : CT} {u : Nat → Int32} {T : Nat} (hC : C.1 = fm u) (hI : mI u T) (h t n : Int32) : dR (x_converts C T h t n) (y_converts u T h t n) C T := by
  obtain ⟨-, hT1, hT6, -⟩ := hI.ok
  have hsz := hI.2.2.2.2.2
  unfold x_converts y_converts
  by_cases a : xH h = 0
  · rw [if_pos a, if_pos a]; exact dR_no
  rw [if_neg a, if_neg a]
  by_cases b : xSe T t = 0
  · rw [if_pos b, if_pos b]; exact dR_no
  rw [if_neg b, if_neg b]
  by_cases c : n < 1
  · rw [if_pos c, if_pos c]; exact dR_no
  rw [if_neg c, if_neg c]
  obtain ⟨hd, rfl, hdl⟩ := xH_1 a
  obtain ⟨td, rfl, htd1, htd⟩ := xSe_1 hT6 b
  have n1 := not_lt1 c
  have nr := z_rng32 n
  rw [nI_clamp (show hd < 2 ^ 31 by omega), nI_clamp (show td < 2 ^ 31 by omega), hC]
  have hc := fm_held u hdl (show td < 6 by omega)
  have hc0 := fm_held u hdl (show 0 < 6 by omega)
  have hh := hI.held hdl htd
  have hh0 := hI.held (t := 0) hdl (by omega)
  by_cases d : u (6 * hd + td) < n
  · rw [if_pos d, if_pos ((lt_wide hc).mpr d)]; exact dR_no
  rw [if_neg d, if_neg (fun q => d ((lt_wide hc).mp q))]
  rw [z_lt32] at d
  have ho : (cHeld (fm u) hd td).toInt = (u (6 * hd + td)).toInt := by rw [← hc, z_l]
  have ho0 : (cHeld (fm u) hd 0).toInt = (u (6 * hd + 0)).toInt := by rw [← hc0, z_l]
  have hcv : (cConv (fm u) td n.toInt64).toInt = zC (fm u) td n.toInt := cConv_z hI.b htd (z_l n) (by omega) (by omega)
  have hcn := zC_nn hI.b htd (show 0 ≤ n.toInt by omega)
  have hci := zC_in hI.b hdl htd
  have hcm := zC_mono hI.b htd (show n.toInt ≤ (cHeld (fm u) hd td).toInt by omega)
  have htwo := zC_two hI.b htd (n := (u (6 * hd + td)).toInt + -n.toInt) (m := n.toInt)
  rw [show (u (6 * hd + td)).toInt + -n.toInt + n.toInt = (cHeld (fm u) hd td).toInt by omega] at htwo
  have hv1 : (cHeld (fm u) hd td + (-n).toInt64).toInt = (u (6 * hd + td)).toInt + -n.toInt := z_add ho (l_neg_z (by omega)) (by omega) (by omega)
  have e1 : va_up u (6 * hd + td) (u (6 * hd + td) - n) (6 * hd + 0) = u (6 * hd + 0) := up_ne _ _ (by omega)
  have e2 : cHeld (va_up (fm u) (0 + hd * 6 + td) (cHeld (fm u) hd td + (-n).toInt64)) hd 0 = cHeld (fm u) hd 0 := up_ne _ _ (by omega)
  unfold uCnv
  rw [e1, e2]
  have hv2 : (cHeld (fm u) hd 0 + cConv (fm u) td n.toInt64).toInt = (u (6 * hd + 0)).toInt + zC (fm u) td n.toInt := z_add ho0 hcv (by omega) (by omega)
  have hz1 := zSz_H (f := fm u) (v := cHeld (fm u) hd td + (-n).toInt64) hT6 hdl htd
  have hz2 := zSz_H (f := va_up (fm u) (0 + hd * 6 + td) (cHeld (fm u) hd td + (-n).toInt64)) (v := cHeld (fm u) hd 0 + cConv (fm u) td n.toInt64) hT6 hdl (show 0 < T by omega)
  rw [hv1] at hz1
  rw [zC_0, zC_0, hv2, e2, ho0, hz1] at hz2
  have hg := gB_H (v := cHeld (fm u) hd 0 + cConv (fm u) td n.toInt64) (gB_H (v := cHeld (fm u) hd td + (-n).toInt64) hI.b.g hdl htd (by rw [hv1]; omega)) hdl (show 0 < T by omega) (by rw [hv2]; omega)
  have hB := hg.mk (by omega)
  have hm := much_z hB
  have hsum : (u (6 * hd + 0)).toInt + zC (fm u) td n.toInt ≤ 1000000000 := by
    have h1 := held_le hB hdl (show 0 < T by omega)
    have h2 : (cHeld (va_up (va_up (fm u) (0 + hd * 6 + td) (cHeld (fm u) hd td + (-n).toInt64)) (0 + hd * 6 + 0) (cHeld (fm u) hd 0 + cConv (fm u) td n.toInt64)) hd 0).toInt = (u (6 * hd + 0)).toInt + zC (fm u) td n.toInt := by rw [← hv2]; exact congrArg Int64.toInt (up_same _ _ _)
    omega
  have hc32 : (cConv (fm u) td n.toInt64).toInt32.toInt = zC (fm u) td n.toInt := z_i hcv (by omega) (by omega)
  have hcl : (cConv (fm u) td n.toInt64).toInt32.toInt64 = cConv (fm u) td n.toInt64 := z_li (by omega) (by omega)
  have he : fm (va_up (va_up u (6 * hd + td) (u (6 * hd + td) - n)) (6 * hd + 0) (u (6 * hd + 0) + (cConv (fm u) td n.toInt64).toInt32)) = va_up (va_up (fm u) (0 + hd * 6 + td) (cHeld (fm u) hd td + (-n).toInt64)) (0 + hd * 6 + 0) (cHeld (fm u) hd 0 + cConv (fm u) td n.toInt64) := by
    rw [fm_uH _ hdl (by omega), fm_uH _ hdl (by omega), l_sub (by omega) (by omega) (by omega), l_add (by rw [hc32]; omega) (by rw [hc32]; omega), hc, hc0, hcl]
  exact dR_acc (by rw [hm]; omega) he rfl (mI_2 hI (by omega) (by omega) (by rw [z_sub32 rfl rfl (by omega) (by omega)]; omega) (by rw [z_add32 rfl hc32 (by omega) (by omega)]; omega) (fun q => by omega) (fun q => by omega) (by rw [he]; omega))
theorem zTot_two {f : Nat → Int64} {T : Nat} (hB : fB f T) {h t to : Nat} (hh : h < 8) (hto : to < 8) (hne : ¬ h = to) (ht : t < T) : (cHeld f h t).toInt + (cHeld f to t).toInt ≤ zTot f T := by
  have key : ∀ i, i < 8 → (cHeld f i t).toInt ≤ sumZ (fun c => (cHeld f i c).toInt) T := fun i hi => sumZ_at (g := fun c => (cHeld f i c).toInt) (n := T) (fun c hc => hB.2.1 i c hi hc) t ht
  have h1 : sumZ (fun i => (cHeld f i t).toInt) 8 ≤ zTot f T := sumZ_mono (fun i hi => key i hi)
  have h2 := sumZ_up (g := fun i => (cHeld f i t).toInt) (k := fun i => if i = h then 0 else (cHeld f i t).toInt) (j := h) (n := 8) hh (fun i _ hn => if_neg hn)
  rw [if_pos rfl] at h2
  have h3 := sumZ_at (g := fun i => if i = h then 0 else (cHeld f i t).toInt) (n := 8) (fun i hi => by
    by_cases e : i = h
    · rw [if_pos e]; exact Int.le_refl _
    · rw [if_neg e]; exact hB.2.1 i t hi ht) to hto
  rw [if_neg (fun q => hne q.symm)] at h3
  omega
theorem eq_sells {C : CT} {u : Nat → Int32} {T : Nat} (hC : C.1 = fm u) (hI : mI u T) (h to t n : Int32) : dR (x_sells C T h to t n) (y_sells u T h to t n) C T := by
  obtain ⟨-, hT1, hT6, -⟩ := hI.ok
  have hsz := hI.2.2.2.2.2
  unfold x_sells y_sells
  by_cases a : xH h = 0
  · rw [if_pos a, if_pos a]; exact dR_no
  rw [if_neg a, if_neg a]
  by_cases a2 : xH to = 0
  · rw [if_pos a2, if_pos a2]; exact dR_no
  rw [if_neg a2, if_neg a2]
  by_cases b : xTy T t = 0
  · rw [if_pos b, if_pos b]; exact dR_no
  rw [if_neg b, if_neg b]
  by_cases c : n < 1
  · rw [if_pos c, if_pos c]; exact dR_no
  rw [if_neg c, if_neg c]
  obtain ⟨hd, rfl, hdl⟩ := xH_1 a
  obtain ⟨od, rfl, hol⟩ := xH_1 a2
  obtain ⟨td, rfl, htd⟩ := xTy_1 hT6 b
  have n1 := not_lt1 c
  have nr := z_rng32 n
  rw [nI_clamp (show hd < 2 ^ 31 by omega), nI_clamp (show td < 2 ^ 31 by omega), nI_clamp (show od < 2 ^ 31 by omega), hC]
  have hc := fm_held u hdl (show td < 6 by omega)
  have hc2 := fm_held u hol (show td < 6 by omega)
  have hh := hI.held hdl htd
  have hh2 := hI.held hol htd
  by_cases d : u (6 * hd + td) < n
  · rw [if_pos d]
    by_cases e : nI hd = nI od
    · rw [if_pos e]; exact dR_no
    · rw [if_neg e, if_pos ((lt_wide hc).mpr d)]; exact dR_no
  rw [if_neg d]
  by_cases e : nI hd = nI od
  · rw [if_pos e, if_pos e]; exact dR_no
  rw [if_neg e, if_neg e, if_neg (fun q => d ((lt_wide hc).mp q))]
  have hne : ¬ hd = od := fun q => e (by rw [q])
  rw [z_lt32] at d
  have ho : (cHeld (fm u) hd td).toInt = (u (6 * hd + td)).toInt := by rw [← hc, z_l]
  have ho2 : (cHeld (fm u) od td).toInt = (u (6 * od + td)).toInt := by rw [← hc2, z_l]
  have htot := zTot_two hI.b hdl hol hne htd
  have ht9 := hI.tot
  have hv1 : (cHeld (fm u) hd td + (-n).toInt64).toInt = (u (6 * hd + td)).toInt + -n.toInt := z_add ho (l_neg_z (by omega)) (by omega) (by omega)
  have e1 : va_up u (6 * hd + td) (u (6 * hd + td) - n) (6 * od + td) = u (6 * od + td) := up_ne _ _ (by omega)
  have e2 : cHeld (va_up (fm u) (0 + hd * 6 + td) (cHeld (fm u) hd td + (-n).toInt64)) od td = cHeld (fm u) od td := up_ne _ _ (by omega)
  unfold uSel
  rw [e1, e2]
  have hv2 : (cHeld (fm u) od td + n.toInt64).toInt = (u (6 * od + td)).toInt + n.toInt := z_add ho2 (z_l n) (by omega) (by omega)
  have hg := gB_H (v := cHeld (fm u) od td + n.toInt64) (gB_H (v := cHeld (fm u) hd td + (-n).toInt64) hI.b.g hdl htd (by rw [hv1]; omega)) hol htd (by rw [hv2]; omega)
  have hz1 := zTot_up (f := fm u) (g := va_up (fm u) (0 + hd * 6 + td) (cHeld (fm u) hd td + (-n).toInt64)) (h := hd) (t := td) hT6 hdl htd (fun x a b => up_ne _ _ b)
  have hz2 := zTot_up (f := va_up (fm u) (0 + hd * 6 + td) (cHeld (fm u) hd td + (-n).toInt64)) (g := va_up (va_up (fm u) (0 + hd * 6 + td) (cHeld (fm u) hd td + (-n).toInt64)) (0 + od * 6 + td) (cHeld (fm u) od td + n.toInt64)) (h := od) (t := td) hT6 hol htd (fun x a b => up_ne _ _ b)
  rw [show cHeld (va_up (fm u) (0 + hd * 6 + td) (cHeld (fm u) hd td + (-n).toInt64)) hd td = cHeld (fm u) hd td + (-n).toInt64 from up_same _ _ _, hv1] at hz1
  rw [show cHeld (va_up (va_up (fm u) (0 + hd * 6 + td) (cHeld (fm u) hd td + (-n).toInt64)) (0 + od * 6 + td) (cHeld (fm u) od td + n.toInt64)) od td = cHeld (fm u) od td + n.toInt64 from up_same _ _ _, hv2, e2, hz1] at hz2
  have hr := hI.rest
  have hB : fB (va_up (va_up (fm u) (0 + hd * 6 + td) (cHeld (fm u) hd td + (-n).toInt64)) (0 + od * 6 + td) (cHeld (fm u) od td + n.toInt64)) T := hg.mk2 (by omega) (by
    rw [zAG_same (f := fm u) (fun x a b => by rw [up_ne _ _ (by omega), up_ne _ _ (by omega)])]
    omega) (by
    rw [up_ne _ _ (by omega), up_ne _ _ (by omega), ← fm_pool u, z_l]
    omega)
  have hm := much_z hB
  have he : fm (va_up (va_up u (6 * hd + td) (u (6 * hd + td) - n)) (6 * od + td) (u (6 * od + td) + n)) = va_up (va_up (fm u) (0 + hd * 6 + td) (cHeld (fm u) hd td + (-n).toInt64)) (0 + od * 6 + td) (cHeld (fm u) od td + n.toInt64) := by
    rw [fm_uH _ hol (by omega), fm_uH _ hdl (by omega), l_sub (by omega) (by omega) (by omega), l_add (by omega) (by omega), hc, hc2]
  rw [he]
  by_cases g : 1000000000 < cSize (va_up (va_up (fm u) (0 + hd * 6 + td) (cHeld (fm u) hd td + (-n).toInt64)) (0 + od * 6 + td) (cHeld (fm u) od td + n.toInt64)) T
  · rw [if_pos g]; exact dR_much g
  · rw [if_neg g]
    refine dR_acc g he ?_ (mI_2 hI (by omega) (by omega) (by rw [z_sub32 rfl rfl (by omega) (by omega)]; omega) (by rw [z_add32 rfl rfl (by omega) (by omega)]; omega) (fun q => by omega) (fun q => by omega) (by rw [he]; rw [hm] at g; omega))
    rw [← he, ← fm_held _ hdl (by omega), Int32.toInt32_toInt64]
theorem eq_back {C : CT} {u kp : Nat → Int32} {ik : Int32} {Tk : Nat} (hK : C.2.1 = fm kp) (hik : C.2.2.1 = ik) (hI : ¬ ik = 0 → mI kp Tk) : dR (x_back C Tk) (y_back kp ik Tk) C Tk := by
  unfold x_back y_back
  rw [hik]
  by_cases a : ik = 0
  · rw [if_pos a, if_pos a]; exact dR_no
  · rw [if_neg a, if_neg a, hK]
    have h := hI a
    exact dR_acc (by rw [much_z h.b]; have := h.2.2.2.2.2; omega) rfl rfl h
theorem mostT_v {w : Nat} (hw : w < 4) {v : Int32} (h0 : ¬ v < 0) (h1 : ¬ mostT (nI w) < v) : 0 ≤ v.toInt ∧ v.toInt ≤ (if w = 0 then 3 else if w = 1 then 50 else 1) := by
  refine ⟨not_lt0 h0, ?_⟩
  have e : (mostT (nI w)).toInt = (if w = 0 then 3 else if w = 1 then 50 else 1) := by
    match w, hw with
    | 0, _ => rfl
    | 1, _ => rfl
    | 2, _ => rfl
    | 3, _ => rfl
  rw [z_lt32] at h1
  omega
theorem eq_term {C : CT} {u : Nat → Int32} {T : Nat} (hC : C.1 = fm u) (hI : mI u T) (t w v : Int32) : dR (x_term C T t w v) (y_term u T t w v) C T := by
  obtain ⟨hT, hT1, hT6, hcv⟩ := hI.ok
  have hsz := hI.2.2.2.2.2
  unfold x_term y_term
  by_cases a : xSe T t = 0
  · rw [if_pos a, if_pos a]; exact dR_no
  rw [if_neg a, if_neg a]
  by_cases b : w < 0
  · rw [if_pos b, if_pos b]; exact dR_no
  rw [if_neg b, if_neg b]
  by_cases c : 3 < w
  · rw [if_pos c, if_pos c]; exact dR_no
  rw [if_neg c, if_neg c]
  by_cases d : v < 0
  · rw [if_pos d, if_pos d]; exact dR_no
  rw [if_neg d, if_neg d]
  by_cases e : mostT w < v
  · rw [if_pos e, if_pos e]; exact dR_no
  rw [if_neg e, if_neg e]
  obtain ⟨td, rfl, htd1, htd⟩ := xSe_1 hT6 a
  obtain ⟨wd, rfl, hwd⟩ := nI_ex (not_lt0 b)
  rw [z_lt32, show (3 : Int32).toInt = 3 by decide] at c
  have hw4 : wd < 4 := by omega
  have hv := mostT_v hw4 d e
  rw [nI_clamp (show td < 2 ^ 31 by omega), nI_clamp (show wd < 2 ^ 31 by omega), hC]
  have he : fm (va_up u (58 + 6 * (2 + wd) + td) v) = va_up (fm u) (104 + td * 11 + (2 + wd)) v.toInt64 := fm_uF u (by omega) (by omega) v
  have hfl : ∀ x, x < 104 → va_up (fm u) (104 + td * 11 + (2 + wd)) v.toInt64 x = fm u x := fun x hx => up_ne _ _ (by omega)
  have hz : zSz (va_up (fm u) (104 + td * 11 + (2 + wd)) v.toInt64) T = zSz (fm u) T := by
    have h1 : zAV (va_up (fm u) (104 + td * 11 + (2 + wd)) v.toInt64) T = zAV (fm u) T := by
      refine sumZ_ext (fun i hi => sumZ_ext (fun c hc => ?_))
      rw [zC_same (f := fm u) (show cFact (va_up (fm u) (104 + td * 11 + (2 + wd)) v.toInt64) c 0 = cFact (fm u) c 0 from up_ne _ _ (by omega)) (show cFact (va_up (fm u) (104 + td * 11 + (2 + wd)) v.toInt64) c 1 = cFact (fm u) c 1 from up_ne _ _ (by omega)), show cHeld (va_up (fm u) (104 + td * 11 + (2 + wd)) v.toInt64) i c = cHeld (fm u) i c from hfl _ (by omega)]
    unfold zSz
    rw [h1, zAG_same (f := fm u) (fun x a b => hfl x (by omega)), up_ne (fm u) _ (show ¬ 170 = 104 + td * 11 + (2 + wd) by omega)]
  have hg : gB (va_up (fm u) (104 + td * 11 + (2 + wd)) v.toInt64) T := by
    refine ⟨hT6, fun i c hi hc => ?_, fun i hi => ?_, ?_, fun c c1 c2 => ?_⟩
    · rw [show cHeld (va_up (fm u) (104 + td * 11 + (2 + wd)) v.toInt64) i c = cHeld (fm u) i c from hfl _ (by omega)]; exact hI.b.2.1 i c hi hc
    · rw [show cGranted (va_up (fm u) (104 + td * 11 + (2 + wd)) v.toInt64) i = cGranted (fm u) i from hfl _ (by omega)]; exact hI.b.2.2.1 i hi
    · rw [up_ne _ _ (by omega)]; exact hI.b.2.2.2.1
    · rw [show cFact (va_up (fm u) (104 + td * 11 + (2 + wd)) v.toInt64) c 0 = cFact (fm u) c 0 from up_ne _ _ (by omega), show cFact (va_up (fm u) (104 + td * 11 + (2 + wd)) v.toInt64) c 1 = cFact (fm u) c 1 from up_ne _ _ (by omega)]; exact hI.b.2.2.2.2.1 c c1 c2
  have hB := hg.mk (by omega)
  have hm := much_z hB
  refine dR_acc (by rw [hm]; omega) he (by rw [← fm_fact u (by omega) (by omega), Int32.toInt32_toInt64]) ?_
  refine ⟨mOk_up hI.ok (by omega) (by omega), by rw [he]; exact hB, ?_, fun i c hi h1 h2 => ?_, fun i c hi hc => ?_, by rw [he]; omega⟩
  · rw [he]
    intro c c1 c2
    obtain ⟨r1, r2, r3, r4⟩ := hI.r c c1 c2
    have key : ∀ k, k < 4 → cFact (va_up (fm u) (104 + td * 11 + (2 + wd)) v.toInt64) c (2 + k) = if c = td ∧ k = wd then v.toInt64 else cFact (fm u) c (2 + k) := by
      intro k hk
      unfold cFact
      by_cases q : c = td ∧ k = wd
      · rw [if_pos q, q.1, q.2, up_same]
      · rw [if_neg q, up_ne _ _ (by omega)]
    have k0 := key 0 (by omega)
    have k1 := key 1 (by omega)
    have k2 := key 2 (by omega)
    have k3 := key 3 (by omega)
    rw [show 2 + 0 = 2 from rfl] at k0
    rw [show 2 + 1 = 3 from rfl] at k1
    rw [show 2 + 2 = 4 from rfl] at k2
    rw [show 2 + 3 = 5 from rfl] at k3
    have v01 : 1 < wd → v = 0 ∨ v = 1 := fun q => by
      rw [if_neg (by omega), if_neg (by omega)] at hv
      rcases (show v.toInt = 0 ∨ v.toInt = 1 by omega) with z | z
      · exact Or.inl (Int32.toInt_inj.mp z)
      · exact Or.inr (Int32.toInt_inj.mp z)
    rw [k0, k1, k2, k3]
    refine ⟨?_, ?_, ?_, ?_⟩
    · split
      · rename_i q
        rw [if_pos q.2.symm] at hv
        rw [z_l]; exact hv
      · exact r1
    · split
      · rename_i q
        rw [if_neg (by omega), if_pos q.2.symm] at hv
        rw [z_l]; exact hv
      · exact r2
    · split
      · rename_i q
        rcases v01 (by omega) with z | z
        · rw [z]; exact Or.inl rfl
        · rw [z]; exact Or.inr rfl
      · exact r3
    · split
      · rename_i q
        rcases v01 (by omega) with z | z
        · rw [z]; exact Or.inl rfl
        · rw [z]; exact Or.inr rfl
      · exact r4
  · rw [up_ne _ _ (by omega)]; exact hI.2.2.2.1 i c hi h1 h2
  · rw [he, show cGiven (va_up (fm u) (104 + td * 11 + (2 + wd)) v.toInt64) i c = cGiven (fm u) i c from hfl _ (by omega)]
    exact hI.2.2.2.2.1 i c hi hc
