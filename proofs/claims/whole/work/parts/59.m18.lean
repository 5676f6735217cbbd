theorem stLk_b {u : Nat → Int32} {T : Nat} (h : mI u T) {s : Int64} (hs : 0 ≤ s.toInt) : ∀ c : Nat, c ≤ T → 0 ≤ (stLk (fm u) T s c).toInt ∧ (stLk (fm u) T s c).toInt ≤ c * 50000000000000
  | 0, _ => by rw [stLk]; exact ⟨Int.le_refl 0, by show (0 : Int) ≤ _; omega⟩
  | c + 1, hc => by
    have h6 := h.ok.2.2.1
    by_cases e : c = 0
    · rw [stLk, if_pos e]; exact ⟨Int.le_refl 0, by show (0 : Int) ≤ _; omega⟩
    · obtain ⟨a1, a2⟩ := stLk_b h hs c (by omega)
      by_cases q : sBit (xQ (fm u) T s) c = 1
      · rw [stLk_t (by omega) q]; omega
      · obtain ⟨b1, b2, b3⟩ := xPF_b h hs (show c < T by omega)
        obtain ⟨d1, d2⟩ := cDue_b h (show c < T by omega)
        rw [stLk_f (by omega) q, z_add rfl (z_sub rfl rfl (by omega) (by omega)) (by omega) (by omega)]
        omega
theorem lim_z : (2000000000 : Int64).toInt = 2000000000 := by decide
theorem stLk_cap {u : Nat → Int32} {T : Nat} (h : mI u T) {s : Int64} (hs : 0 ≤ s.toInt) {c : Nat} (h1 : 1 ≤ c) (hc : c < T) (q : ¬ sBit (xQ (fm u) T s) c = 1) : minl 2000000000 (minl (stLk (fm u) T s c) 2000000000 + minl 2000000000 (cDue (fm u) c - xPF (fm u) T s c)) = minl (stLk (fm u) T s (c + 1)) 2000000000 := by
  have h6 := h.ok.2.2.1
  obtain ⟨a1, a2⟩ := stLk_b h hs c (by omega)
  obtain ⟨b1, b2, b3⟩ := xPF_b h hs hc
  obtain ⟨d1, d2⟩ := cDue_b h hc
  have e1 : (cDue (fm u) c - xPF (fm u) T s c).toInt = (cDue (fm u) c).toInt - (xPF (fm u) T s c).toInt := z_sub rfl rfl (by omega) (by omega)
  apply Int64.toInt_inj.mp
  rw [stLk_f h1 q, z_min, z_min, z_add z_min z_min (by rw [lim_z]; omega) (by rw [lim_z]; omega), z_add rfl e1 (by omega) (by omega), lim_z, e1]
  omega
theorem cap_l {x : Int64} (h : 0 ≤ x.toInt) : (xCap x).toInt64 = minl x 2000000000 := by
  unfold xCap
  exact z_li (by rw [z_min, lim_z]; omega) (by rw [z_min, lim_z]; omega)
theorem sumT_h (g : Nat → Int64) : ∀ (n t : Nat), sumT g t (n + 1) = sumT g (t + 1) n + g t
  | 0, t => by rw [sumT, sumT, sumT]; rfl
  | n + 1, t => by rw [sumT, sumT_h g n t, sumT, show t + 1 + n = t + (n + 1) by omega, Int64.add_assoc, Int64.add_assoc, Int64.add_comm (g t)]
theorem sumT_b {u : Nat → Int32} {T : Nat} (h : mI u T) {t : Nat} (h1 : 1 ≤ t) : ∀ n : Nat, t + n ≤ T → 0 ≤ (sumT (cPref (fm u)) t n).toInt ∧ (sumT (cPref (fm u)) t n).toInt ≤ n * 50000000000000
  | 0, _ => ⟨Int.le_refl 0, by show (0 : Int) ≤ _; omega⟩
  | n + 1, hn => by
    have h6 := h.ok.2.2.1
    obtain ⟨a1, a2⟩ := sumT_b h h1 n (by omega)
    obtain ⟨b1, b2⟩ := cPref_b h (show 1 ≤ t + n by omega) (by omega)
    rw [sumT, z_add rfl rfl (by omega) (by omega)]
    omega
theorem sumT_cap {u : Nat → Int32} {T : Nat} (h : mI u T) {j : Nat} (hj : j + 1 < T) : minl 2000000000 (minl (sumT (cPref (fm u)) (T - j) j) 2000000000 + minl 2000000000 (cPref (fm u) (T - 1 - j))) = minl (sumT (cPref (fm u)) (T - (j + 1)) (j + 1)) 2000000000 := by
  have h6 := h.ok.2.2.1
  rw [sumT_h, show T - (j + 1) + 1 = T - j by omega, show T - 1 - j = T - (j + 1) by omega]
  obtain ⟨a1, a2⟩ := sumT_b h (show 1 ≤ T - j by omega) j (by omega)
  obtain ⟨b1, b2⟩ := cPref_b h (show 1 ≤ T - (j + 1) by omega) (by omega)
  apply Int64.toInt_inj.mp
  rw [z_min, z_min, z_add z_min z_min (by rw [lim_z]; omega) (by rw [lim_z]; omega), z_add rfl rfl (by omega) (by omega), lim_z]
  omega

set_option maxRecDepth 100000 in
set_option maxHeartbeats 4000000 in
theorem c_X8_stage (l : Launch) (E : rhE) (B : Nat → Nat) (u : Nat → Int32) (kp : Nat → Int32) (ik : Int32) (ps : Nat → Int32) (pm : Nat) (dd : Int32) (tx : Nat → Int32) (ty : Nat) (rw : Nat → Int64) (rm : Nat) (th : Int32) (sz : Nat) (he : Nat) (wr : Int32) (mn : Nat → Int32) (vl : Int32) (tp : Int32) (lt : Int32) (ra : Int32) (pf : Int32) (pt : Int32) (pl : Int32) (pd : Int64) (prc : Int64) (ns : Int64) (tu : Nat) (ba : Int64) (na : Int64) (ca : Nat → Int64) (bo : Nat → Int32) (tr : Nat → Int64) (tH : Int32) (asd : Nat → Int32) (pa : Nat → Int64) (tg : Nat → Int64) (sd : Int64) (sr : Int64) (s : Int32) (C : CT) (hCu : C.1 = fm u) (T : Nat) (hI : mI u T)  : Ctr l E yX8_stage cX8_stage 9 (some .int) (rmL 6) [.ref (B 0), .int s] (wM E B u kp ik ps pm dd tx ty rw rm th sz he wr mn vl tp lt ra pf pt pl pd prc ns tu ba na ca bo tr tH asd pa tg sd sr) (fun r w => ∃ pa1 tg1 sd1 sr1 rw1 rm1, r = some (Value.int (x_stage C T s).1) ∧ mTold rw rm rw1 rm1 (x_stage C T s).2 ∧ w = (wM E B u kp ik ps pm dd tx ty rw1 rm1 0 sz he wr mn vl tp lt ra pf pt pl pd prc ns tu ba na ca bo tr tH asd pa1 tg1 sd1 sr1)) := by
  refine Ctr.of (by decide) (Nat.le_of_ble_eq_true rfl) rfl rfl 7 ?_
  intro X hX hR
  have hM := hI.ok
  obtain ⟨hT, hT1, hT6, hcv⟩ := id hM
  refine rh_aload_n hX dX8_stage_0 rfl ?_
  refine rh_iconst hX dX8_stage_1 ki_0 ?_
  refine rh_put hX gl_X8_48 0 dX8_stage_2 rfl rfl rfl (Nat.le_of_ble_eq_true rfl) rfl ?_
  dsimp only [List.cons_append, List.nil_append, List.set_cons_succ, List.set_cons_zero, vput]
  refine rh_iload_n hX dX8_stage_5 rfl ?_
  refine rh_pS hX lk_X8_361 msX8_isSum (fun l => c_X8_isSumS l E _) ⟨rfl, rfl⟩ ⟨Nat.le_of_ble_eq_true rfl, Nat.le_of_ble_eq_true rfl⟩ [] rfl rfl dX8_stage_6 rfl rfl (Nat.le_of_ble_eq_true rfl) ?_
  refine rh_if_ne (tgt := 14) hX dX8_stage_9 (by decide) (fun h9 => ?_) (fun h9 => ?_)
  · skip
    have hs := sum_l h9
    refine rh_aload_n hX dX8_stage_14 rfl ?_
    refine rh_iload_n hX dX8_stage_15 rfl ?_
    refine rh_i2l hX dX8_stage_16 ?_
    refine rh_callV hX lk_X8_364 mvX8_converting (fun l => c_X8_converting l E _ _ _ _ _ _ _ _ _ _ _ _ _ _ _ _ _ _ _ _ _ _ _ _ _ _ _ _ _ _ _ _ _ _ _ _ _ _ _ T hI) ⟨rfl, rfl⟩ ⟨Nat.le_of_ble_eq_true rfl, Nat.le_of_ble_eq_true rfl⟩ [0, 1, 2, 3, 4, 5, 6, 7, 8, 9, 10, 11, 12] rfl rfl 0 rfl dX8_stage_17 rfl rfl (Nat.le_of_ble_eq_true rfl) (fun r w hp hf => ?_)
    obtain ⟨pa1, tg1, rfl, hpa, htg, rfl⟩ := hp
    dsimp only [vput, List.set_cons_succ, List.set_cons_zero, Option.toList, List.cons_append, List.nil_append]
    refine rh_istn2 hX dX8_stage_20 (by decide) rfl ?_
    refine rh_iconst hX dX8_stage_21 ki_0 ?_
    refine rh_istn3 hX dX8_stage_22 (by decide) rfl ?_
    refine rh_lconst hX dX8_stage_23 kL_0 ?_
    refine rh_lst4 hX dX8_stage_24 (by decide) rfl ?_
    refine rh_iconst hX dX8_stage_26 ki_1 ?_
    refine rh_ist6 hX dX8_stage_27 (by decide) rfl ?_
    suffices hP0 : G X 29 [some (.ref (B 0)), some (.int s), some (.int (xQ (fm u) T s.toInt64)), some (.int (stWh (fm u) T s.toInt64 1)), some (.long (minl (stLk (fm u) T s.toInt64 1) 2000000000)), none, some (.int 1), none, none] [] (wM E B u kp ik ps pm dd tx ty rw rm 0 sz he wr mn vl tp lt ra pf pt pl pd prc ns tu ba na ca bo tr tH asd pa1 tg1 (xL (fm u) T s.toInt64) (xS (fm u) T s.toInt64)) by rw [stWh_1, stLk_1, show minl 0 2000000000 = 0 by decide] at hP0; exact hP0
    refine rh_loop (P := fun c => G X 29 [some (.ref (B 0)), some (.int s), some (.int (xQ (fm u) T s.toInt64)), some (.int (stWh (fm u) T s.toInt64 c)), some (.long (minl (stLk (fm u) T s.toInt64 c) 2000000000)), none, some (.int (nI c)), none, none] [] (wM E B u kp ik ps pm dd tx ty rw rm 0 sz he wr mn vl tp lt ra pf pt pl pd prc ns tu ba na ca bo tr tH asd pa1 tg1 (xL (fm u) T s.toInt64) (xS (fm u) T s.toInt64))) (1) (T) (by omega) ?_ ?_
    · skip
      refine rh_iload hX dX8_stage_29 rfl ?_
      refine rh_aload_n hX dX8_stage_31 rfl ?_
      refine rh_get hX gl_X8_7 0 dX8_stage_32 rfl rfl ?_
      refine rh_bipush hX dX8_stage_35 kb_57 ?_
      refine rh_iaload hX 1 _ dX8_stage_37 rfl rn_c57 (by omega) (by decide) ?_
      refine rh_icmp_ge_t (tgt := 113) hX dX8_stage_38 (by decide) (by rw [hT]; exact nI_le (Nat.le_refl T) (by omega)) ?_
      refine rh_aload_n hX dX8_stage_113 rfl ?_
      refine rh_iconst hX dX8_stage_114 ki_0 ?_
      refine rh_put hX gl_X8_52 0 dX8_stage_115 rfl rfl rfl (Nat.le_of_ble_eq_true rfl) rfl ?_
      dsimp only [List.cons_append, List.nil_append, List.set_cons_succ, List.set_cons_zero, vput]
      refine rh_aload_n hX dX8_stage_118 rfl ?_
      refine rh_lload hX dX8_stage_119 rfl ?_
      refine rh_uV hX lk_X8_299 mvX8_tell (fun l => c_X8_tell l E _ _ _ _ _ _ _ _ _ _ 0 _ _ _ _ _ _ _ _ _ _ _ _ _ _ _ _ _ _ _ _ _ _ _ _ _ _ _ _ (by omega)) ⟨rfl, rfl⟩ ⟨Nat.le_of_ble_eq_true rfl, Nat.le_of_ble_eq_true rfl⟩ [0, 1, 2, 3, 4, 5, 6, 7, 8, 9, 10, 11, 12] rfl rfl 0 rfl dX8_stage_121 rfl rfl (Nat.le_of_ble_eq_true rfl) rfl ?_
      dsimp only [List.cons_append, List.nil_append, List.set_cons_succ, List.set_cons_zero, vput]
      refine rh_iload_n hX dX8_stage_124 rfl ?_
      exact rh_iret hX hR dX8_stage_125 (by simp only [List.map_cons, List.map_nil, List.cons_append, List.nil_append]) (by refine ⟨pa1, tg1, _, _, (va_up rw 0 _), (0 + 1), ?ga, ?gb, rfl⟩; (case ga => rw [x_stage, if_neg h9, hCu]); (case gb => rw [x_stage, if_neg h9, hCu, cap_l (stLk_b hI hs T (Nat.le_refl T)).1]; exact ⟨rowOk1 _ _, rfl⟩))
    · intro c hc0 hc ihc
      have hdu : cDue (fm u) c = cPref (fm u) c := if_neg (by omega)
      refine rh_iload hX dX8_stage_29 rfl ?_
      refine rh_aload_n hX dX8_stage_31 rfl ?_
      refine rh_get hX gl_X8_7 0 dX8_stage_32 rfl rfl ?_
      refine rh_bipush hX dX8_stage_35 kb_57 ?_
      refine rh_iaload hX 1 _ dX8_stage_37 rfl rn_c57 (by omega) (by decide) ?_
      refine rh_icmp_ge_f (tgt := 113) hX dX8_stage_38 (by decide) (by rw [hT]; exact nI_ge hc (by omega)) ?_
      refine rh_iload_n hX dX8_stage_41 rfl ?_
      refine rh_iload hX dX8_stage_42 rfl ?_
      refine rh_ishr hX dX8_stage_44 ?_
      refine rh_iconst hX dX8_stage_45 ki_1 ?_
      refine rh_iand hX dX8_stage_46 ?_
      refine rh_iconst hX dX8_stage_47 ki_1 ?_
      refine rh_icmp_ne (tgt := 54) hX dX8_stage_48 (by decide) (fun h48 => ?_) (fun h48 => ?_)
      · skip
        have h48 : ¬ sBit (xQ (fm u) T s.toInt64) c = 1 := h48
        refine rh_aload_n hX dX8_stage_54 rfl ?_
        refine rh_iload hX dX8_stage_55 rfl ?_
        refine rh_pV hX lk_X8_340 mvX8_preferenceOf (fun l => c_X8_preferenceOf l E _ _ _ _ _ _ _ _ _ _ _ _ _ _ _ _ _ _ _ _ _ _ _ _ _ _ _ _ _ _ _ _ _ _ _ _ _ _ c (by omega)) ⟨rfl, rfl⟩ ⟨Nat.le_of_ble_eq_true rfl, Nat.le_of_ble_eq_true rfl⟩ [0, 1, 2, 3, 4, 5, 6, 7, 8, 9, 10, 11, 12] rfl rfl 0 rfl dX8_stage_57 rfl rfl (Nat.le_of_ble_eq_true rfl) ?_
        rw [← hdu]
        refine rh_aload_n hX dX8_stage_60 rfl ?_
        refine rh_get hX gl_X8_42 0 dX8_stage_61 rfl rfl ?_
        refine rh_iload hX dX8_stage_64 rfl ?_
        refine rh_laload hX 11 c dX8_stage_66 rfl rfl (by omega) (by decide) ?_
        rw [hpa c (by omega)]
        refine rh_lsub hX dX8_stage_67 ?_
        refine rh_lst7 hX dX8_stage_68 (by decide) rfl ?_
        refine rh_iload_n hX dX8_stage_70 rfl ?_
        refine rh_lload hX dX8_stage_71 rfl ?_
        refine rh_lconst hX dX8_stage_73 kL_0 ?_
        refine rh_lne (tgt := 85) hX dX8_stage_74 dX8_stage_75 (by decide) (fun h75 => ?_) (fun h75 => ?_)
        · skip
          refine rh_iconst hX dX8_stage_85 ki_0 ?_
          refine rh_ior hX dX8_stage_86 ?_
          refine rh_istn3 hX dX8_stage_87 (by decide) rfl ?_
          refine rh_ldc2 hX dX8_stage_88 kl_X8_333 ?_
          refine rh_lload hX dX8_stage_91 rfl ?_
          refine rh_ldc2 hX dX8_stage_93 kl_X8_333 ?_
          refine rh_lload hX dX8_stage_96 rfl ?_
          refine rh_minl hX mm_X8_261 dX8_stage_98 (Nat.le_of_ble_eq_true rfl) (Nat.le_of_ble_eq_true rfl) ?_
          refine rh_ladd hX dX8_stage_101 ?_
          refine rh_minl hX mm_X8_261 dX8_stage_102 (Nat.le_of_ble_eq_true rfl) (Nat.le_of_ble_eq_true rfl) ?_
          refine rh_lst4 hX dX8_stage_105 (by decide) rfl ?_
          refine rh_inc6 hX dX8_stage_107 (by decide) rfl (rn_i1 _) ?_
          refine rh_goto (tgt := 29) hX dX8_stage_110 (by decide) ?_
          first | (rw [stWh_t hc0 h48, stLk_t hc0 h48] at ihc; exact rh_wk (by exact ⟨rfl, rfl, rfl, rfl, rfl, rfl, trivial⟩) ihc) | (rw [stWh_a hc0 h48 h75, ← stLk_cap hI hs hc0 hc h48] at ihc; exact rh_wk (by exact ⟨rfl, rfl, rfl, rfl, rfl, rfl, trivial⟩) ihc) | (rw [stWh_b hc0 h48 h75, ← stLk_cap hI hs hc0 hc h48] at ihc; exact rh_wk (by exact ⟨rfl, rfl, rfl, rfl, rfl, rfl, trivial⟩) ihc)
        · skip
          refine rh_iconst hX dX8_stage_78 ki_1 ?_
          refine rh_iload hX dX8_stage_79 rfl ?_
          refine rh_ishl hX dX8_stage_81 ?_
          refine rh_goto (tgt := 86) hX dX8_stage_82 (by decide) ?_
          refine rh_ior hX dX8_stage_86 ?_
          refine rh_istn3 hX dX8_stage_87 (by decide) rfl ?_
          refine rh_ldc2 hX dX8_stage_88 kl_X8_333 ?_
          refine rh_lload hX dX8_stage_91 rfl ?_
          refine rh_ldc2 hX dX8_stage_93 kl_X8_333 ?_
          refine rh_lload hX dX8_stage_96 rfl ?_
          refine rh_minl hX mm_X8_261 dX8_stage_98 (Nat.le_of_ble_eq_true rfl) (Nat.le_of_ble_eq_true rfl) ?_
          refine rh_ladd hX dX8_stage_101 ?_
          refine rh_minl hX mm_X8_261 dX8_stage_102 (Nat.le_of_ble_eq_true rfl) (Nat.le_of_ble_eq_true rfl) ?_
          refine rh_lst4 hX dX8_stage_105 (by decide) rfl ?_
          refine rh_inc6 hX dX8_stage_107 (by decide) rfl (rn_i1 _) ?_
          refine rh_goto (tgt := 29) hX dX8_stage_110 (by decide) ?_
          first | (rw [stWh_t hc0 h48, stLk_t hc0 h48] at ihc; exact rh_wk (by exact ⟨rfl, rfl, rfl, rfl, rfl, rfl, trivial⟩) ihc) | (rw [stWh_a hc0 h48 h75, ← stLk_cap hI hs hc0 hc h48] at ihc; exact rh_wk (by exact ⟨rfl, rfl, rfl, rfl, rfl, rfl, trivial⟩) ihc) | (rw [stWh_b hc0 h48 h75, ← stLk_cap hI hs hc0 hc h48] at ihc; exact rh_wk (by exact ⟨rfl, rfl, rfl, rfl, rfl, rfl, trivial⟩) ihc)
      · skip
        have h48 : sBit (xQ (fm u) T s.toInt64) c = 1 := h48
        refine rh_goto (tgt := 107) hX dX8_stage_51 (by decide) ?_
        refine rh_inc6 hX dX8_stage_107 (by decide) rfl (rn_i1 _) ?_
        refine rh_goto (tgt := 29) hX dX8_stage_110 (by decide) ?_
        first | (rw [stWh_t hc0 h48, stLk_t hc0 h48] at ihc; exact rh_wk (by exact ⟨rfl, rfl, rfl, rfl, rfl, rfl, trivial⟩) ihc) | (rw [stWh_a hc0 h48 h75, ← stLk_cap hI hs hc0 hc h48] at ihc; exact rh_wk (by exact ⟨rfl, rfl, rfl, rfl, rfl, rfl, trivial⟩) ihc) | (rw [stWh_b hc0 h48 h75, ← stLk_cap hI hs hc0 hc h48] at ihc; exact rh_wk (by exact ⟨rfl, rfl, rfl, rfl, rfl, rfl, trivial⟩) ihc)
  · skip
    refine rh_iconst hX dX8_stage_12 ki_m1 ?_
    exact rh_iret hX hR dX8_stage_13 (by simp only [List.map_cons, List.map_nil, List.cons_append, List.nil_append]) (by first | exact ⟨pa, tg, sd, sr, rw, rm, by rw [x_stage, if_pos h9] <;> rfl, by rw [x_stage, if_pos h9]; exact ⟨rfl, rfl⟩, rfl⟩)

set_option maxRecDepth 100000 in
set_option maxHeartbeats 4000000 in
theorem c_X8_reaches (l : Launch) (E : rhE) (B : Nat → Nat) (u : Nat → Int32) (kp : Nat → Int32) (ik : Int32) (ps : Nat → Int32) (pm : Nat) (dd : Int32) (tx : Nat → Int32) (ty : Nat) (rw : Nat → Int64) (rm : Nat) (th : Int32) (sz : Nat) (he : Nat) (wr : Int32) (mn : Nat → Int32) (vl : Int32) (tp : Int32) (lt : Int32) (ra : Int32) (pf : Int32) (pt : Int32) (pl : Int32) (pd : Int64) (prc : Int64) (ns : Int64) (tu : Nat) (ba : Int64) (na : Int64) (ca : Nat → Int64) (bo : Nat → Int32) (tr : Nat → Int64) (tH : Int32) (asd : Nat → Int32) (pa : Nat → Int64) (tg : Nat → Int64) (sd : Int64) (sr : Int64) (h x d : Int32) (C : CT) (hCu : C.1 = fm u) (T : Nat) (hI : mI u T)  : Ctr l E yX8_reaches cX8_reaches 5 (some .int) (rmL 7) [.ref (B 0), .int h, .int x, .int d] (wM E B u kp ik ps pm dd tx ty rw rm th sz he wr mn vl tp lt ra pf pt pl pd prc ns tu ba na ca bo tr tH asd pa tg sd sr) (fun r w => ∃ pa1 tg1 sd1 sr1, r = some (Value.int (x_reaches C T h x d)) ∧ w = (wM E B u kp ik ps pm dd tx ty rw rm 0 sz he wr mn vl tp lt ra pf pt pl pd prc ns tu ba na ca bo tr tH asd pa1 tg1 sd1 sr1)) := by
  refine Ctr.of (by decide) (Nat.le_of_ble_eq_true rfl) rfl rfl 1 ?_
  intro X hX hR
  have hM := hI.ok
  obtain ⟨hT, hT1, hT6, hcv⟩ := id hM
  refine rh_aload_n hX dX8_reaches_0 rfl ?_
  refine rh_iconst hX dX8_reaches_1 ki_0 ?_
  refine rh_put hX gl_X8_48 0 dX8_reaches_2 rfl rfl rfl (Nat.le_of_ble_eq_true rfl) rfl ?_
  dsimp only [List.cons_append, List.nil_append, List.set_cons_succ, List.set_cons_zero, vput]
  refine rh_iload_n hX dX8_reaches_5 rfl ?_
  refine rh_pS hX lk_X8_140 msX8_isHolder (fun l => c_X8_isHolderH l E _) ⟨rfl, rfl⟩ ⟨Nat.le_of_ble_eq_true rfl, Nat.le_of_ble_eq_true rfl⟩ [] rfl rfl dX8_reaches_6 rfl rfl (Nat.le_of_ble_eq_true rfl) ?_
  refine rh_if_eq (tgt := 28) hX dX8_reaches_9 (by decide) (fun h9 => ?_) (fun h9 => ?_)
  · skip
    refine rh_iconst hX dX8_reaches_28 ki_m1 ?_
    exact rh_iret hX hR dX8_reaches_29 (by simp only [List.map_cons, List.map_nil, List.cons_append, List.nil_append]) (by first | exact ⟨_, _, _, _, by rw [x_reaches, if_pos h9] <;> rfl, rfl⟩ | exact ⟨_, _, _, _, by rw [x_reaches, if_neg h9, if_pos h13] <;> rfl, rfl⟩ | exact ⟨_, _, _, _, by rw [x_reaches, if_neg h9, if_neg h13, if_pos h25] <;> rfl, rfl⟩)
  · skip
    obtain ⟨hd, rfl, hdl⟩ := xH_1 h9
    refine rh_iload_n hX dX8_reaches_12 rfl ?_
    refine rh_if_lt (tgt := 28) hX dX8_reaches_13 (by decide) (fun h13 => ?_) (fun h13 => ?_)
    · skip
      refine rh_iconst hX dX8_reaches_28 ki_m1 ?_
      exact rh_iret hX hR dX8_reaches_29 (by simp only [List.map_cons, List.map_nil, List.cons_append, List.nil_append]) (by first | exact ⟨_, _, _, _, by rw [x_reaches, if_pos h9] <;> rfl, rfl⟩ | exact ⟨_, _, _, _, by rw [x_reaches, if_neg h9, if_pos h13] <;> rfl, rfl⟩ | exact ⟨_, _, _, _, by rw [x_reaches, if_neg h9, if_neg h13, if_pos h25] <;> rfl, rfl⟩)
    · skip
      refine rh_iload_n hX dX8_reaches_16 rfl ?_
      refine rh_i2l hX dX8_reaches_17 ?_
      refine rh_lconst hX dX8_reaches_18 kL_1 ?_
      refine rh_ldc2 hX dX8_reaches_19 kl_X8_374 ?_
      refine rh_pS hX lk_X8_58 msX8_in (fun l => c_X8_in l E _ _ _) ⟨rfl, rfl⟩ ⟨Nat.le_of_ble_eq_true rfl, Nat.le_of_ble_eq_true rfl⟩ [] rfl rfl dX8_reaches_22 rfl rfl (Nat.le_of_ble_eq_true rfl) ?_
      rw [xIn_U]
      refine rh_if_ne (tgt := 30) hX dX8_reaches_25 (by decide) (fun h25 => ?_) (fun h25 => ?_)
      · skip
        obtain ⟨hd1, -⟩ := xUp_1 h25
        refine rh_iconst hX dX8_reaches_30 ki_0 ?_
        refine rh_ist4 hX dX8_reaches_31 (by decide) rfl ?_
        refine (rh_loop (P := fun k => ∀ pa1 tg1 sd1 sr1, (stepAt (rcP (fm u) T hd x d) d (101 - k) k = stepAt (rcP (fm u) T hd x d) d 101 0) → G X 33 [some (.ref (B 0)), some (.int (nI hd)), some (.int x), some (.int d), some (.int (nI k))] [] (wM E B u kp ik ps pm dd tx ty rw rm 0 sz he wr mn vl tp lt ra pf pt pl pd prc ns tu ba na ca bo tr tH asd pa1 tg1 sd1 sr1)) (0) (101) (by omega) ?_ ?_) _ _ _ _ rfl
        · intro pa1 tg1 sd1 sr1 hH
          refine rh_iload hX dX8_reaches_33 rfl ?_
          refine rh_bipush hX dX8_reaches_35 kb_100 ?_
          refine rh_icmp_gt_t (tgt := 68) hX dX8_reaches_37 (by decide) (nI_lt (a := 100) (b := 101) (by decide) (by decide)) ?_
          refine rh_bipush hX dX8_reaches_68 kb_m2 ?_
          exact rh_iret hX hR dX8_reaches_70 (by simp only [List.map_cons, List.map_nil, List.cons_append, List.nil_append]) ⟨_, _, _, _, by rw [x_reaches, if_neg h9, if_neg h13, if_neg h25, nI_clamp (show hd < 2 ^ 31 by omega), hCu, ← hH, Nat.sub_self, stepAt_0] <;> rfl, rfl⟩
        · intro k hk0 hk ihk pa1 tg1 sd1 sr1 hH
          refine rh_iload hX dX8_reaches_33 rfl ?_
          refine rh_bipush hX dX8_reaches_35 kb_100 ?_
          refine rh_icmp_gt_f (tgt := 68) hX dX8_reaches_37 (by decide) (nI_nlt (a := 100) (b := k) (by omega) (by decide)) ?_
          refine rh_aload_n hX dX8_reaches_40 rfl ?_
          refine rh_iload_n hX dX8_reaches_41 rfl ?_
          refine rh_iload hX dX8_reaches_42 rfl ?_
          refine rh_i2l hX dX8_reaches_44 ?_
          refine rh_iload_n hX dX8_reaches_45 rfl ?_
          refine rh_i2l hX dX8_reaches_46 ?_
          refine rh_lmul hX dX8_reaches_47 ?_
          refine rh_callV hX lk_X8_376 mvX8_getsAll (fun l => c_X8_getsAll l E _ _ _ _ _ _ _ _ _ _ _ _ _ _ _ _ _ _ _ _ _ _ _ _ _ _ _ _ _ _ _ _ _ _ _ _ _ _ hd ((nI k).toInt64 * d.toInt64) T hI (by omega) (stp_nn (by omega) hd1)) ⟨rfl, rfl⟩ ⟨Nat.le_of_ble_eq_true rfl, Nat.le_of_ble_eq_true rfl⟩ [0, 1, 2, 3, 4, 5, 6, 7, 8, 9, 10, 11, 12] rfl rfl 0 rfl dX8_reaches_48 rfl rfl (Nat.le_of_ble_eq_true rfl) (fun r w hp hf => ?_)
          obtain ⟨pa2, tg2, rfl, hpa, htg, rfl⟩ := hp
          dsimp only [vput, List.set_cons_succ, List.set_cons_zero, Option.toList, List.cons_append, List.nil_append]
          refine rh_iload_n hX dX8_reaches_51 rfl ?_
          refine rh_i2l hX dX8_reaches_52 ?_
          refine rh_llt (tgt := 62) hX dX8_reaches_53 dX8_reaches_54 (by decide) (fun h54 => ?_) (fun h54 => ?_)
          · skip
            refine rh_inc4 hX dX8_reaches_62 (by decide) rfl (rn_i1 _) ?_
            refine rh_goto (tgt := 33) hX dX8_reaches_65 (by decide) ?_
            exact ihk _ _ _ _ (by rw [show 101 - k = (101 - (k + 1)) + 1 by omega, stepAt_f (show ¬ rcP (fm u) T hd x d k = true from fun q => (of_decide_eq_true q : ¬ _ < _) h54)] at hH; exact hH)
          · skip
            refine rh_iload hX dX8_reaches_57 rfl ?_
            refine rh_iload_n hX dX8_reaches_59 rfl ?_
            refine rh_imul hX dX8_reaches_60 ?_
            exact rh_iret hX hR dX8_reaches_61 (by simp only [List.map_cons, List.map_nil, List.cons_append, List.nil_append]) ⟨_, _, _, _, by rw [x_reaches, if_neg h9, if_neg h13, if_neg h25, nI_clamp (show hd < 2 ^ 31 by omega), hCu, ← hH, show 101 - k = (101 - (k + 1)) + 1 by omega, stepAt_t (decide_eq_true h54)], rfl⟩
      · skip
        refine rh_iconst hX dX8_reaches_28 ki_m1 ?_
        exact rh_iret hX hR dX8_reaches_29 (by simp only [List.map_cons, List.map_nil, List.cons_append, List.nil_append]) (by first | exact ⟨_, _, _, _, by rw [x_reaches, if_pos h9] <;> rfl, rfl⟩ | exact ⟨_, _, _, _, by rw [x_reaches, if_neg h9, if_pos h13] <;> rfl, rfl⟩ | exact ⟨_, _, _, _, by rw [x_reaches, if_neg h9, if_neg h13, if_pos h25] <;> rfl, rfl⟩)

set_option maxRecDepth 100000 in
set_option maxHeartbeats 4000000 in
theorem c_X8_flips (l : Launch) (E : rhE) (B : Nat → Nat) (u : Nat → Int32) (kp : Nat → Int32) (ik : Int32) (ps : Nat → Int32) (pm : Nat) (dd : Int32) (tx : Nat → Int32) (ty : Nat) (rw : Nat → Int64) (rm : Nat) (th : Int32) (sz : Nat) (he : Nat) (wr : Int32) (mn : Nat → Int32) (vl : Int32) (tp : Int32) (lt : Int32) (ra : Int32) (pf : Int32) (pt : Int32) (pl : Int32) (pd : Int64) (prc : Int64) (ns : Int64) (tu : Nat) (ba : Int64) (na : Int64) (ca : Nat → Int64) (bo : Nat → Int32) (tr : Nat → Int64) (tH : Int32) (asd : Nat → Int32) (pa : Nat → Int64) (tg : Nat → Int64) (sd : Int64) (sr : Int64) (t d : Int32) (C : CT) (hCu : C.1 = fm u) (T : Nat) (hI : mI u T)  : Ctr l E yX8_flips cX8_flips 4 (some .int) (rmL 6) [.ref (B 0), .int t, .int d] (wM E B u kp ik ps pm dd tx ty rw rm th sz he wr mn vl tp lt ra pf pt pl pd prc ns tu ba na ca bo tr tH asd pa tg sd sr) (fun r w => ∃ pa1 tg1 sd1 sr1, r = some (Value.int (x_flips C T t d)) ∧ w = (wM E B u kp ik ps pm dd tx ty rw rm 0 sz he wr mn vl tp lt ra pf pt pl pd prc ns tu ba na ca bo tr tH asd pa1 tg1 sd1 sr1)) := by
  refine Ctr.of (by decide) (Nat.le_of_ble_eq_true rfl) rfl rfl 1 ?_
  intro X hX hR
  have hM := hI.ok
  obtain ⟨hT, hT1, hT6, hcv⟩ := id hM
  refine rh_aload_n hX dX8_flips_0 rfl ?_
  refine rh_iconst hX dX8_flips_1 ki_0 ?_
  refine rh_put hX gl_X8_48 0 dX8_flips_2 rfl rfl rfl (Nat.le_of_ble_eq_true rfl) rfl ?_
  dsimp only [List.cons_append, List.nil_append, List.set_cons_succ, List.set_cons_zero, vput]
  refine rh_aload_n hX dX8_flips_5 rfl ?_
  refine rh_iload_n hX dX8_flips_6 rfl ?_
  refine rh_pV hX lk_X8_162 mvX8_isRound (fun l => c_X8_isRound l E _ _ _ _ _ _ _ _ _ _ _ _ _ _ _ _ _ _ _ _ _ _ _ _ _ _ _ _ _ _ _ _ _ _ _ _ _ _ _ T hM) ⟨rfl, rfl⟩ ⟨Nat.le_of_ble_eq_true rfl, Nat.le_of_ble_eq_true rfl⟩ [0, 1, 2, 3, 4, 5, 6, 7, 8, 9, 10, 11, 12] rfl rfl 0 rfl dX8_flips_7 rfl rfl (Nat.le_of_ble_eq_true rfl) ?_
  refine rh_if_eq (tgt := 25) hX dX8_flips_10 (by decide) (fun h10 => ?_) (fun h10 => ?_)
  · skip
    refine rh_iconst hX dX8_flips_25 ki_m1 ?_
    exact rh_iret hX hR dX8_flips_26 (by simp only [List.map_cons, List.map_nil, List.cons_append, List.nil_append]) (by first | exact ⟨_, _, _, _, by rw [x_flips, if_pos h10] <;> rfl, rfl⟩ | exact ⟨_, _, _, _, by rw [x_flips, if_neg h10, if_pos h22] <;> rfl, rfl⟩)
  · skip
    obtain ⟨td, rfl, htd1, htd⟩ := xSe_1 hT6 h10
    refine rh_iload_n hX dX8_flips_13 rfl ?_
    refine rh_i2l hX dX8_flips_14 ?_
    refine rh_lconst hX dX8_flips_15 kL_1 ?_
    refine rh_ldc2 hX dX8_flips_16 kl_X8_374 ?_
    refine rh_pS hX lk_X8_58 msX8_in (fun l => c_X8_in l E _ _ _) ⟨rfl, rfl⟩ ⟨Nat.le_of_ble_eq_true rfl, Nat.le_of_ble_eq_true rfl⟩ [] rfl rfl dX8_flips_19 rfl rfl (Nat.le_of_ble_eq_true rfl) ?_
    rw [xIn_U]
    refine rh_if_ne (tgt := 27) hX dX8_flips_22 (by decide) (fun h22 => ?_) (fun h22 => ?_)
    · skip
      obtain ⟨hd1, -⟩ := xUp_1 h22
      refine rh_iconst hX dX8_flips_27 ki_0 ?_
      refine rh_istn3 hX dX8_flips_28 (by decide) rfl ?_
      refine (rh_loop (P := fun k => ∀ pa1 tg1 sd1 sr1, (stepAt (flP (fm u) T td d) d (101 - k) k = stepAt (flP (fm u) T td d) d 101 0) → G X 29 [some (.ref (B 0)), some (.int (nI td)), some (.int d), some (.int (nI k))] [] (wM E B u kp ik ps pm dd tx ty rw rm 0 sz he wr mn vl tp lt ra pf pt pl pd prc ns tu ba na ca bo tr tH asd pa1 tg1 sd1 sr1)) (0) (101) (by omega) ?_ ?_) _ _ _ _ rfl
      · intro pa1 tg1 sd1 sr1 hH
        refine rh_iload_n hX dX8_flips_29 rfl ?_
        refine rh_bipush hX dX8_flips_30 kb_100 ?_
        refine rh_icmp_gt_t (tgt := 62) hX dX8_flips_32 (by decide) (nI_lt (a := 100) (b := 101) (by decide) (by decide)) ?_
        refine rh_bipush hX dX8_flips_62 kb_m2 ?_
        exact rh_iret hX hR dX8_flips_64 (by simp only [List.map_cons, List.map_nil, List.cons_append, List.nil_append]) ⟨_, _, _, _, by rw [x_flips, if_neg h10, if_neg h22, nI_clamp (show td < 2 ^ 31 by omega), hCu, ← hH, Nat.sub_self, stepAt_0] <;> rfl, rfl⟩
      · intro k hk0 hk ihk pa1 tg1 sd1 sr1 hH
        refine rh_iload_n hX dX8_flips_29 rfl ?_
        refine rh_bipush hX dX8_flips_30 kb_100 ?_
        refine rh_icmp_gt_f (tgt := 62) hX dX8_flips_32 (by decide) (nI_nlt (a := 100) (b := k) (by omega) (by decide)) ?_
        refine rh_aload_n hX dX8_flips_35 rfl ?_
        refine rh_iload_n hX dX8_flips_36 rfl ?_
        refine rh_i2l hX dX8_flips_37 ?_
        refine rh_iload_n hX dX8_flips_38 rfl ?_
        refine rh_i2l hX dX8_flips_39 ?_
        refine rh_lmul hX dX8_flips_40 ?_
        refine rh_callV hX lk_X8_364 mvX8_converting (fun l => c_X8_converting l E _ _ _ _ _ _ _ _ _ _ _ _ _ _ _ _ _ _ _ _ _ _ _ _ _ _ _ _ _ _ _ _ _ _ _ _ _ _ ((nI k).toInt64 * d.toInt64) T hI) ⟨rfl, rfl⟩ ⟨Nat.le_of_ble_eq_true rfl, Nat.le_of_ble_eq_true rfl⟩ [0, 1, 2, 3, 4, 5, 6, 7, 8, 9, 10, 11, 12] rfl rfl 0 rfl dX8_flips_41 rfl rfl (Nat.le_of_ble_eq_true rfl) (fun r w hp hf => ?_)
        obtain ⟨pa2, tg2, rfl, hpa, htg, rfl⟩ := hp
        dsimp only [vput, List.set_cons_succ, List.set_cons_zero, Option.toList, List.cons_append, List.nil_append]
        refine rh_iload_n hX dX8_flips_44 rfl ?_
        refine rh_ishr hX dX8_flips_45 ?_
        refine rh_iconst hX dX8_flips_46 ki_1 ?_
        refine rh_iand hX dX8_flips_47 ?_
        refine rh_iconst hX dX8_flips_48 ki_1 ?_
        refine rh_icmp_ne (tgt := 56) hX dX8_flips_49 (by decide) (fun h49 => ?_) (fun h49 => ?_)
        · skip
          have h49 : ¬ sBit (xQ (fm u) T ((nI k).toInt64 * d.toInt64)) td = 1 := h49
          refine rh_inc3 hX dX8_flips_56 (by decide) rfl (rn_i1 _) ?_
          refine rh_goto (tgt := 29) hX dX8_flips_59 (by decide) ?_
          exact ihk _ _ _ _ (by rw [show 101 - k = (101 - (k + 1)) + 1 by omega, stepAt_f (fun q => h49 (of_decide_eq_true q))] at hH; exact hH)
        · skip
          have h49 : sBit (xQ (fm u) T ((nI k).toInt64 * d.toInt64)) td = 1 := h49
          refine rh_iload_n hX dX8_flips_52 rfl ?_
          refine rh_iload_n hX dX8_flips_53 rfl ?_
          refine rh_imul hX dX8_flips_54 ?_
          exact rh_iret hX hR dX8_flips_55 (by simp only [List.map_cons, List.map_nil, List.cons_append, List.nil_append]) ⟨_, _, _, _, by rw [x_flips, if_neg h10, if_neg h22, nI_clamp (show td < 2 ^ 31 by omega), hCu, ← hH, show 101 - k = (101 - (k + 1)) + 1 by omega, stepAt_t (decide_eq_true h49)], rfl⟩
    · skip
      refine rh_iconst hX dX8_flips_25 ki_m1 ?_
      exact rh_iret hX hR dX8_flips_26 (by simp only [List.map_cons, List.map_nil, List.cons_append, List.nil_append]) (by first | exact ⟨_, _, _, _, by rw [x_flips, if_pos h10] <;> rfl, rfl⟩ | exact ⟨_, _, _, _, by rw [x_flips, if_neg h10, if_pos h22] <;> rfl, rfl⟩)

set_option maxRecDepth 100000 in
set_option maxHeartbeats 4000000 in
theorem c_X8_curve (l : Launch) (E : rhE) (B : Nat → Nat) (u : Nat → Int32) (kp : Nat → Int32) (ik : Int32) (ps : Nat → Int32) (pm : Nat) (dd : Int32) (tx : Nat → Int32) (ty : Nat) (rw : Nat → Int64) (rm : Nat) (th : Int32) (sz : Nat) (he : Nat) (wr : Int32) (mn : Nat → Int32) (vl : Int32) (tp : Int32) (lt : Int32) (ra : Int32) (pf : Int32) (pt : Int32) (pl : Int32) (pd : Int64) (prc : Int64) (ns : Int64) (tu : Nat) (ba : Int64) (na : Int64) (ca : Nat → Int64) (bo : Nat → Int32) (tr : Nat → Int64) (tH : Int32) (asd : Nat → Int32) (pa : Nat → Int64) (tg : Nat → Int64) (sd : Int64) (sr : Int64) (h d : Int32) (C : CT) (hCu : C.1 = fm u) (T : Nat) (hI : mI u T)  : Ctr l E yX8_curve cX8_curve 8 (some .long) (rmL 7) [.ref (B 0), .int h, .int d] (wM E B u kp ik ps pm dd tx ty rw rm th sz he wr mn vl tp lt ra pf pt pl pd prc ns tu ba na ca bo tr tH asd pa tg sd sr) (fun r w => ∃ pa1 tg1 sd1 sr1 rw1 rm1, r = some (Value.long (x_curve C T h d).1) ∧ mTold rw rm rw1 rm1 (x_curve C T h d).2 ∧ w = (wM E B u kp ik ps pm dd tx ty rw1 rm1 0 sz he wr mn vl tp lt ra pf pt pl pd prc ns tu ba na ca bo tr tH asd pa1 tg1 sd1 sr1)) := by
  refine Ctr.of (by decide) (Nat.le_of_ble_eq_true rfl) rfl rfl 5 ?_
  intro X hX hR
  have hM := hI.ok
  obtain ⟨hT, hT1, hT6, hcv⟩ := id hM
  refine rh_aload_n hX dX8_curve_0 rfl ?_
  refine rh_iconst hX dX8_curve_1 ki_0 ?_
  refine rh_put hX gl_X8_48 0 dX8_curve_2 rfl rfl rfl (Nat.le_of_ble_eq_true rfl) rfl ?_
  dsimp only [List.cons_append, List.nil_append, List.set_cons_succ, List.set_cons_zero, vput]
  refine rh_iload_n hX dX8_curve_5 rfl ?_
  refine rh_pS hX lk_X8_140 msX8_isHolder (fun l => c_X8_isHolderH l E _) ⟨rfl, rfl⟩ ⟨Nat.le_of_ble_eq_true rfl, Nat.le_of_ble_eq_true rfl⟩ [] rfl rfl dX8_curve_6 rfl rfl (Nat.le_of_ble_eq_true rfl) ?_
  refine rh_if_eq (tgt := 24) hX dX8_curve_9 (by decide) (fun h9 => ?_) (fun h9 => ?_)
  · skip
    refine rh_ldc2 hX dX8_curve_24 kl_X8_384 ?_
    exact rh_lret hX hR dX8_curve_27 (by simp only [List.map_cons, List.map_nil, List.cons_append, List.nil_append]) (by first | exact ⟨pa, tg, sd, sr, rw, rm, by rw [x_curve, if_pos h9] <;> rfl, by rw [x_curve, if_pos h9]; exact ⟨rfl, rfl⟩, rfl⟩ | exact ⟨pa, tg, sd, sr, rw, rm, by rw [x_curve, if_neg h9, if_pos h21] <;> rfl, by rw [x_curve, if_neg h9, if_pos h21]; exact ⟨rfl, rfl⟩, rfl⟩)
  · skip
    obtain ⟨hd, rfl, hdl⟩ := xH_1 h9
    refine rh_iload_n hX dX8_curve_12 rfl ?_
    refine rh_i2l hX dX8_curve_13 ?_
    refine rh_lconst hX dX8_curve_14 kL_1 ?_
    refine rh_ldc2 hX dX8_curve_15 kl_X8_382 ?_
    refine rh_pS hX lk_X8_58 msX8_in (fun l => c_X8_in l E _ _ _) ⟨rfl, rfl⟩ ⟨Nat.le_of_ble_eq_true rfl, Nat.le_of_ble_eq_true rfl⟩ [] rfl rfl dX8_curve_18 rfl rfl (Nat.le_of_ble_eq_true rfl) ?_
    rw [xIn_U]
    refine rh_if_ne (tgt := 28) hX dX8_curve_21 (by decide) (fun h21 => ?_) (fun h21 => ?_)
    · skip
      obtain ⟨hd1, -⟩ := xUp_1 h21
      refine rh_lconst hX dX8_curve_28 kL_0 ?_
      refine rh_lstn3 hX dX8_curve_29 (by decide) rfl ?_
      refine rh_aload_n hX dX8_curve_30 rfl ?_
      refine rh_iconst hX dX8_curve_31 ki_0 ?_
      refine rh_put hX gl_X8_52 0 dX8_curve_32 rfl rfl rfl (Nat.le_of_ble_eq_true rfl) rfl ?_
      dsimp only [List.cons_append, List.nil_append, List.set_cons_succ, List.set_cons_zero, vput]
      refine rh_iconst hX dX8_curve_35 ki_1 ?_
      refine rh_ist5 hX dX8_curve_36 (by decide) rfl ?_
      refine (rh_loop (P := fun c => ∀ g1 pa1 tg1 sd1 sr1, rowOk g1 ((List.range (c - 1)).map (fun k => xHG (fm u) T ((nI (k + 1)).toInt64 * d.toInt64) hd)) → G X 38 [some (.ref (B 0)), some (.int (nI hd)), some (.int d), some (.long (sumF 0 (fun k => xHG (fm u) T ((nI (k + 1)).toInt64 * d.toInt64) hd) (c - 1))), none, some (.int (nI c)), none, none] [] (wM E B u kp ik ps pm dd tx ty g1 (c - 1) 0 sz he wr mn vl tp lt ra pf pt pl pd prc ns tu ba na ca bo tr tH asd pa1 tg1 sd1 sr1)) (1) (9) (by omega) ?_ ?_) _ _ _ _ _ (rowOk_nil _)
      · intro g1 pa1 tg1 sd1 sr1 hg
        refine rh_iload hX dX8_curve_38 rfl ?_
        refine rh_bipush hX dX8_curve_40 kb_8 ?_
        refine rh_icmp_gt_t (tgt := 75) hX dX8_curve_42 (by decide) (nI_lt (a := 8) (b := 9) (by decide) (by decide)) ?_
        refine rh_lload_n hX dX8_curve_75 rfl ?_
        exact rh_lret hX hR dX8_curve_76 (by simp only [List.map_cons, List.map_nil, List.cons_append, List.nil_append]) (by refine ⟨pa1, tg1, sd1, sr1, g1, 8, ?ga, ?gb, rfl⟩; (case ga => rw [x_curve, if_neg h9, if_neg h21, nI_clamp (show hd < 2 ^ 31 by omega), hCu] <;> rfl); (case gb => rw [x_curve, if_neg h9, if_neg h21, nI_clamp (show hd < 2 ^ 31 by omega), hCu]; exact ⟨hg, by rw [List.length_map, List.length_range]⟩))
      · intro c hc0 hc ihc g1 pa1 tg1 sd1 sr1 hg
        obtain ⟨e, rfl⟩ : ∃ e, c = e + 1 := ⟨c - 1, by omega⟩
        refine rh_iload hX dX8_curve_38 rfl ?_
        refine rh_bipush hX dX8_curve_40 kb_8 ?_
        refine rh_icmp_gt_f (tgt := 75) hX dX8_curve_42 (by decide) (nI_nlt (a := 8) (b := e + 1) (by omega) (by decide)) ?_
        refine rh_aload_n hX dX8_curve_45 rfl ?_
        refine rh_iload_n hX dX8_curve_46 rfl ?_
        refine rh_iload hX dX8_curve_47 rfl ?_
        refine rh_i2l hX dX8_curve_49 ?_
        refine rh_iload_n hX dX8_curve_50 rfl ?_
        refine rh_i2l hX dX8_curve_51 ?_
        refine rh_lmul hX dX8_curve_52 ?_
        refine rh_callV hX lk_X8_376 mvX8_getsAll (fun l => c_X8_getsAll l E _ _ _ _ _ _ _ _ _ _ _ _ _ _ _ _ _ _ _ _ _ _ _ _ _ _ _ _ _ _ _ _ _ _ _ _ _ _ hd ((nI (e + 1)).toInt64 * d.toInt64) T hI (by omega) (stp_nn (by omega) hd1)) ⟨rfl, rfl⟩ ⟨Nat.le_of_ble_eq_true rfl, Nat.le_of_ble_eq_true rfl⟩ [0, 1, 2, 3, 4, 5, 6, 7, 8, 9, 10, 11, 12] rfl rfl 0 rfl dX8_curve_53 rfl rfl (Nat.le_of_ble_eq_true rfl) (fun r w hp hf => ?_)
        obtain ⟨pa2, tg2, rfl, hpa, htg, rfl⟩ := hp
        dsimp only [vput, List.set_cons_succ, List.set_cons_zero, Option.toList, List.cons_append, List.nil_append]
        refine rh_lst6 hX dX8_curve_56 (by decide) rfl ?_
        refine rh_aload_n hX dX8_curve_58 rfl ?_
        refine rh_lload hX dX8_curve_59 rfl ?_
        refine rh_uV hX lk_X8_299 mvX8_tell (fun l => c_X8_tell l E _ _ _ _ _ _ _ _ _ _ e _ _ _ _ _ _ _ _ _ _ _ _ _ _ _ _ _ _ _ _ _ _ _ _ _ _ _ _ (by omega)) ⟨rfl, rfl⟩ ⟨Nat.le_of_ble_eq_true rfl, Nat.le_of_ble_eq_true rfl⟩ [0, 1, 2, 3, 4, 5, 6, 7, 8, 9, 10, 11, 12] rfl rfl 0 rfl dX8_curve_61 rfl rfl (Nat.le_of_ble_eq_true rfl) rfl ?_
        dsimp only [List.cons_append, List.nil_append, List.set_cons_succ, List.set_cons_zero, vput]
        refine rh_lload_n hX dX8_curve_64 rfl ?_
        refine rh_lload hX dX8_curve_65 rfl ?_
        refine rh_ladd hX dX8_curve_67 ?_
        refine rh_lstn3 hX dX8_curve_68 (by decide) rfl ?_
        refine rh_inc5 hX dX8_curve_69 (by decide) rfl (rn_i1 _) ?_
        refine rh_goto (tgt := 38) hX dX8_curve_72 (by decide) ?_
        exact rh_wk (by exact ⟨rfl, rfl, rfl, rfl, rfl, trivial⟩) (ihc _ _ _ _ _ (by rw [show e + 1 + 1 - 1 = e + 1 by omega, range_push]; exact rowOk_push _ hg (by rw [List.length_map, List.length_range] <;> rfl)))
    · skip
      refine rh_ldc2 hX dX8_curve_24 kl_X8_384 ?_
      exact rh_lret hX hR dX8_curve_27 (by simp only [List.map_cons, List.map_nil, List.cons_append, List.nil_append]) (by first | exact ⟨pa, tg, sd, sr, rw, rm, by rw [x_curve, if_pos h9] <;> rfl, by rw [x_curve, if_pos h9]; exact ⟨rfl, rfl⟩, rfl⟩ | exact ⟨pa, tg, sd, sr, rw, rm, by rw [x_curve, if_neg h9, if_pos h21] <;> rfl, by rw [x_curve, if_neg h9, if_pos h21]; exact ⟨rfl, rfl⟩, rfl⟩)

set_option maxRecDepth 100000 in
set_option maxHeartbeats 4000000 in
theorem c_X8_preference (l : Launch) (E : rhE) (B : Nat → Nat) (u : Nat → Int32) (kp : Nat → Int32) (ik : Int32) (ps : Nat → Int32) (pm : Nat) (dd : Int32) (tx : Nat → Int32) (ty : Nat) (rw : Nat → Int64) (rm : Nat) (th : Int32) (sz : Nat) (he : Nat) (wr : Int32) (mn : Nat → Int32) (vl : Int32) (tp : Int32) (lt : Int32) (ra : Int32) (pf : Int32) (pt : Int32) (pl : Int32) (pd : Int64) (prc : Int64) (ns : Int64) (tu : Nat) (ba : Int64) (na : Int64) (ca : Nat → Int64) (bo : Nat → Int32) (tr : Nat → Int64) (tH : Int32) (asd : Nat → Int32) (pa : Nat → Int64) (tg : Nat → Int64) (sd : Int64) (sr : Int64) (t : Int32) (C : CT) (hCu : C.1 = fm u) (T : Nat) (hI : mI u T)  : Ctr l E yX8_preference cX8_preference 5 (some .int) (rmL 4) [.ref (B 0), .int t] (wM E B u kp ik ps pm dd tx ty rw rm th sz he wr mn vl tp lt ra pf pt pl pd prc ns tu ba na ca bo tr tH asd pa tg sd sr) (fun r w => ∃ rw1 rm1, r = some (Value.int (x_preference C T t).1) ∧ mTold rw rm rw1 rm1 (x_preference C T t).2 ∧ w = (wM E B u kp ik ps pm dd tx ty rw1 rm1 0 sz he wr mn vl tp lt ra pf pt pl pd prc ns tu ba na ca bo tr tH asd pa tg sd sr)) := by
  refine Ctr.of (by decide) (Nat.le_of_ble_eq_true rfl) rfl rfl 3 ?_
  intro X hX hR
  have hM := hI.ok
  obtain ⟨hT, hT1, hT6, hcv⟩ := id hM
  refine rh_aload_n hX dX8_preference_0 rfl ?_
  refine rh_iconst hX dX8_preference_1 ki_0 ?_
  refine rh_put hX gl_X8_48 0 dX8_preference_2 rfl rfl rfl (Nat.le_of_ble_eq_true rfl) rfl ?_
  dsimp only [List.cons_append, List.nil_append, List.set_cons_succ, List.set_cons_zero, vput]
  refine rh_aload_n hX dX8_preference_5 rfl ?_
  refine rh_iload_n hX dX8_preference_6 rfl ?_
  refine rh_pV hX lk_X8_162 mvX8_isRound (fun l => c_X8_isRound l E _ _ _ _ _ _ _ _ _ _ _ _ _ _ _ _ _ _ _ _ _ _ _ _ _ _ _ _ _ _ _ _ _ _ _ _ _ _ _ T hM) ⟨rfl, rfl⟩ ⟨Nat.le_of_ble_eq_true rfl, Nat.le_of_ble_eq_true rfl⟩ [0, 1, 2, 3, 4, 5, 6, 7, 8, 9, 10, 11, 12] rfl rfl 0 rfl dX8_preference_7 rfl rfl (Nat.le_of_ble_eq_true rfl) ?_
  refine rh_if_ne (tgt := 15) hX dX8_preference_10 (by decide) (fun h10 => ?_) (fun h10 => ?_)
  · skip
    obtain ⟨td, rfl, htd1, htd⟩ := xSe_1 hT6 h10
    refine rh_lconst hX dX8_preference_15 kL_0 ?_
    refine rh_lstn2 hX dX8_preference_16 (by decide) rfl ?_
    refine rh_aload_n hX dX8_preference_17 rfl ?_
    refine rh_get hX gl_X8_7 0 dX8_preference_18 rfl rfl ?_
    refine rh_bipush hX dX8_preference_21 kb_57 ?_
    refine rh_iaload hX 1 _ dX8_preference_23 rfl rn_c57 (by omega) (by decide) ?_
    rw [hT]
    refine rh_iconst hX dX8_preference_24 ki_1 ?_
    refine rh_isub hX dX8_preference_25 ?_
    rw [show nI T - 1 = nI (T - 1) from rn_sub (b := 1) hT1]
    refine rh_ist4 hX dX8_preference_26 (by decide) rfl ?_
    suffices hP0 : G X 28 [some (.ref (B 0)), some (.int (nI td)), some (.long (minl (sumT (cPref (fm u)) (T - 0) 0) 2000000000)), none, some (.int (nI (T - 1)))] [] (wM E B u kp ik ps pm dd tx ty rw rm 0 sz he wr mn vl tp lt ra pf pt pl pd prc ns tu ba na ca bo tr tH asd pa tg sd sr) by rw [show (minl (sumT (cPref (fm u)) (T - 0) 0) 2000000000) = 0 by rfl] at hP0; exact hP0
    refine rh_loop (P := fun j => G X 28 [some (.ref (B 0)), some (.int (nI td)), some (.long (minl (sumT (cPref (fm u)) (T - j) j) 2000000000)), none, some (.int (nI (T - 1 - j)))] [] (wM E B u kp ik ps pm dd tx ty rw rm 0 sz he wr mn vl tp lt ra pf pt pl pd prc ns tu ba na ca bo tr tH asd pa tg sd sr)) (0) (T - td) (by omega) ?_ ?_
    · skip
      refine rh_iload hX dX8_preference_28 rfl ?_
      refine rh_iload_n hX dX8_preference_30 rfl ?_
      refine rh_icmp_lt_t (tgt := 61) hX dX8_preference_31 (by decide) (nI_lt (by omega) (by omega)) ?_
      refine rh_aload_n hX dX8_preference_61 rfl ?_
      refine rh_iconst hX dX8_preference_62 ki_0 ?_
      refine rh_put hX gl_X8_52 0 dX8_preference_63 rfl rfl rfl (Nat.le_of_ble_eq_true rfl) rfl ?_
      dsimp only [List.cons_append, List.nil_append, List.set_cons_succ, List.set_cons_zero, vput]
      refine rh_aload_n hX dX8_preference_66 rfl ?_
      refine rh_lload_n hX dX8_preference_67 rfl ?_
      refine rh_uV hX lk_X8_299 mvX8_tell (fun l => c_X8_tell l E _ _ _ _ _ _ _ _ _ _ 0 _ _ _ _ _ _ _ _ _ _ _ _ _ _ _ _ _ _ _ _ _ _ _ _ _ _ _ _ (by omega)) ⟨rfl, rfl⟩ ⟨Nat.le_of_ble_eq_true rfl, Nat.le_of_ble_eq_true rfl⟩ [0, 1, 2, 3, 4, 5, 6, 7, 8, 9, 10, 11, 12] rfl rfl 0 rfl dX8_preference_68 rfl rfl (Nat.le_of_ble_eq_true rfl) rfl ?_
      dsimp only [List.cons_append, List.nil_append, List.set_cons_succ, List.set_cons_zero, vput]
      refine rh_ldc2 hX dX8_preference_71 kl_X8_333 ?_
      refine rh_aload_n hX dX8_preference_74 rfl ?_
      refine rh_iload_n hX dX8_preference_75 rfl ?_
      refine rh_pV hX lk_X8_340 mvX8_preferenceOf (fun l => c_X8_preferenceOf l E _ _ _ _ _ _ _ _ _ _ _ _ _ _ _ _ _ _ _ _ _ _ _ _ _ _ _ _ _ _ _ _ _ _ _ _ _ _ td (by omega)) ⟨rfl, rfl⟩ ⟨Nat.le_of_ble_eq_true rfl, Nat.le_of_ble_eq_true rfl⟩ [0, 1, 2, 3, 4, 5, 6, 7, 8, 9, 10, 11, 12] rfl rfl 0 rfl dX8_preference_76 rfl rfl (Nat.le_of_ble_eq_true rfl) ?_
      refine rh_minl hX mm_X8_261 dX8_preference_79 (Nat.le_of_ble_eq_true rfl) (Nat.le_of_ble_eq_true rfl) ?_
      refine rh_l2i hX dX8_preference_82 ?_
      exact rh_iret hX hR dX8_preference_83 (by simp only [List.map_cons, List.map_nil, List.cons_append, List.nil_append]) (by refine ⟨(va_up rw 0 _), (0 + 1), ?ga, ?gb, rfl⟩; (case ga => rw [x_preference, if_neg h10, nI_clamp (show td < 2 ^ 31 by omega), hCu, ← cap_c] <;> rfl); (case gb => rw [x_preference, if_neg h10, nI_clamp (show td < 2 ^ 31 by omega), hCu, cap_l (sumT_b hI htd1 (T - td) (by omega)).1]; rw [show T - (T - td) = td by omega]; exact ⟨rowOk1 _ _, rfl⟩))
    · intro j hj0 hj ihj
      refine rh_iload hX dX8_preference_28 rfl ?_
      refine rh_iload_n hX dX8_preference_30 rfl ?_
      refine rh_icmp_lt_f (tgt := 61) hX dX8_preference_31 (by decide) (nI_nlt (by omega) (by omega)) ?_
      refine rh_ldc2 hX dX8_preference_34 kl_X8_333 ?_
      refine rh_lload_n hX dX8_preference_37 rfl ?_
      refine rh_ldc2 hX dX8_preference_38 kl_X8_333 ?_
      refine rh_aload_n hX dX8_preference_41 rfl ?_
      refine rh_iload hX dX8_preference_42 rfl ?_
      refine rh_pV hX lk_X8_340 mvX8_preferenceOf (fun l => c_X8_preferenceOf l E _ _ _ _ _ _ _ _ _ _ _ _ _ _ _ _ _ _ _ _ _ _ _ _ _ _ _ _ _ _ _ _ _ _ _ _ _ _ (T - 1 - j) (by omega)) ⟨rfl, rfl⟩ ⟨Nat.le_of_ble_eq_true rfl, Nat.le_of_ble_eq_true rfl⟩ [0, 1, 2, 3, 4, 5, 6, 7, 8, 9, 10, 11, 12] rfl rfl 0 rfl dX8_preference_44 rfl rfl (Nat.le_of_ble_eq_true rfl) ?_
      refine rh_minl hX mm_X8_261 dX8_preference_47 (Nat.le_of_ble_eq_true rfl) (Nat.le_of_ble_eq_true rfl) ?_
      refine rh_ladd hX dX8_preference_50 ?_
      refine rh_minl hX mm_X8_261 dX8_preference_51 (Nat.le_of_ble_eq_true rfl) (Nat.le_of_ble_eq_true rfl) ?_
      refine rh_lstn2 hX dX8_preference_54 (by decide) rfl ?_
      refine rh_inc4 hX dX8_preference_55 (by decide) rfl (rn_dm (by omega)) ?_
      refine rh_goto (tgt := 28) hX dX8_preference_58 (by decide) ?_
      rw [← sumT_cap hI (by omega), show T - 1 - (j + 1) = T - 1 - j - 1 by omega] at ihj
      exact ihj
  · skip
    refine rh_iconst hX dX8_preference_13 ki_m1 ?_
    exact rh_iret hX hR dX8_preference_14 (by simp only [List.map_cons, List.map_nil, List.cons_append, List.nil_append]) (by first | exact ⟨rw, rm, by rw [x_preference, if_pos h10] <;> rfl, by rw [x_preference, if_pos h10]; exact ⟨rfl, rfl⟩, rfl⟩)
