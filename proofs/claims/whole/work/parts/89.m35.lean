/-- why there is no price: never that there are classes enough, where there aren't -/
theorem mTn_c (u : Nat → Int32) (T : Nat) (vl tp lt : Int32) (mn : Nat → Int32) (pd : Int64) (ca : Nat → Int64) (ba na : Int64) (pA : Int32) : ¬ mTn u T vl tp lt mn pd ca ba na pA = -2 := by
  unfold mTn mTnG
  repeat' split
  all_goals decide
theorem mTh_ne {u : Nat → Int32} {T : Nat} {vl tp lt : Int32} {mn : Nat → Int32} {pd : Int64} {ca tr : Nat → Int64} (h6 : ¬ T = 6) {ra pf pt pl : Int32} {X : Int32 × Option ((Nat → Int64) × Int64 × Nat × Int64)} (h : rkR T mn ra pf pt pl vl pd (mRk u T vl tp lt mn pd ca tr) X) : ¬ mTh (mRk u T vl tp lt mn pd ca tr) = -2 := by
  have key : ∀ (k : Nat) (w : Nat → Int32) (n : Nat) (c : Nat → Int64) (b a : Int64) (p : Int32), (mLp T vl tp lt mn pd c b a p k w n).2 = none → ¬ (mLp T vl tp lt mn pd c b a p k w n).1 = -2 := by
    intro k
    induction k with
    | zero => intro w n c b a p _; rw [mLp_0]; exact (by decide : ¬ (-4 : Int32) = -2)
    | succ k ih =>
      intro w n c b a p
      rw [mLp_s]
      by_cases z : mTn w T vl tp lt mn pd c b a p = 0
      · rw [if_pos z]; exact ih _ _ _ _ _ _
      · rw [if_neg z]
        by_cases y : 0 ≤ mTn w T vl tp lt mn pd c b a p
        · rw [if_pos y]; intro q; cases q
        · rw [if_neg y]; intro _; exact mTn_c _ _ _ _ _ _ _ _ _ _ _
  rcases h with ⟨a, b, c⟩ | ⟨p, fd, a, b, c, d, e, f⟩
  · unfold mTh
    rw [a]
    unfold mRk at a ⊢
    rw [if_neg h6] at a ⊢
    exact key _ _ _ _ _ _ _ a
  · unfold mTh
    rw [a]
    intro q
    have := congrArg Int32.toInt q
    rw [z_i rfl (by omega) (by omega), show (-2 : Int32).toInt = -2 by decide] at this
    omega
theorem mTh_6 {u : Nat → Int32} {T : Nat} {vl tp lt : Int32} {mn : Nat → Int32} {pd : Int64} {ca tr : Nat → Int64} (h6 : T = 6) : mTh (mRk u T vl tp lt mn pd ca tr) = -2 := by
  unfold mTh mRk
  rw [if_pos h6]
theorem rdF_v {q : TS} {vl tp lt ra pf pt pl w : Int32} (h : rdF q (0, 0, vl, tp, lt, ra, pf, pt, pl)) (hw : 1 ≤ w.toInt ∧ w.toInt ≤ 1000000000) : rdF (w.toInt64, q.2) (0, 0, w, tp, lt, ra, pf, pt, pl) := by
  obtain ⟨p1, p2, p3, p4, p5, p6, p7, p10, p11, p12, p13, p14, p15⟩ := h
  exact ⟨rfl, p2, p3, p4, p5, p6, p7, p10, p11, p12, p13, p14, hw⟩
/-- a step of a sweep: the model's value, and the class's answer by it -/
theorem swp_z {v : Int64} (h1 : 1 ≤ v.toInt) : 1 ≤ (minl 1000000000 v).toInt32.toInt ∧ (minl 1000000000 v).toInt32.toInt ≤ 1000000000 ∧ (v.toInt ≤ 1000000000 → (minl 1000000000 v).toInt32.toInt64 = v) := by
  have e : (minl 1000000000 v).toInt = min 1000000000 v.toInt := by rw [z_min, bil_z]
  have e2 : (minl 1000000000 v).toInt32.toInt = min 1000000000 v.toInt := z_i e (by omega) (by omega)
  refine ⟨by omega, by omega, fun h => ?_⟩
  rw [z_li (by omega) (by omega)]
  exact Int64.toInt_inj.mp (by omega)
theorem dS_big {f : Nat → Int64} {T : Nat} {q : TS} (h : 1000000000 < q.1) : (xDS f T q).1 = if T < 6 then -3 else -2 := by
  unfold xDS dSettle
  by_cases e : 6 ≤ T
  · rw [if_pos e, if_neg (by omega)]
  · rw [if_neg e, if_pos h, if_pos (by omega)]

set_option maxRecDepth 100000 in
set_option maxHeartbeats 4000000 in
theorem c_X8_sweep (l : Launch) (E : rhE) (B : Nat → Nat) (u : Nat → Int32) (kp : Nat → Int32) (ik : Int32) (ps : Nat → Int32) (pm : Nat) (dd : Int32) (tx : Nat → Int32) (ty : Nat) (rw : Nat → Int64) (rm : Nat) (th : Int32) (sz : Nat) (he : Nat) (wr : Int32) (mn : Nat → Int32) (vl : Int32) (tp : Int32) (lt : Int32) (ra : Int32) (pf : Int32) (pt : Int32) (pl : Int32) (pd : Int64) (prc : Int64) (ns : Int64) (tu : Nat) (ba : Int64) (na : Int64) (ca : Nat → Int64) (bo : Nat → Int32) (tr : Nat → Int64) (tH : Int32) (asd : Nat → Int32) (pa : Nat → Int64) (tg : Nat → Int64) (sd : Int64) (sr : Int64) (d : Int32) (C : CT) (hCu : C.1 = fm u) (hCs : C.2.2.2.2.2.2.2.1 = sC tx) (hCl : C.2.2.2.2.2.2.2.2.1 = ty) (T : Nat) (hI : mI u T) (hty : ty ≤ 200) (hbt : byteOk tx ty)  : Ctr l E yX8_sweep cX8_sweep 8 (some .int) (rmL 8) [.ref (B 0), .int d] (wM E B u kp ik ps pm dd tx ty rw rm th sz he wr mn vl tp lt ra pf pt pl pd prc ns tu ba na ca bo tr tH asd pa tg sd sr) (fun r w => ∃ he1 wr1 mn1 vl1 tp1 lt1 ra1 pf1 pt1 pl1 pd1 prc1 ns1 tu1 ba1 na1 ca1 tr1 tH1 asd1 rw1 rm1, r = some (Value.int (x_sweep C T d).1) ∧ mTold rw rm rw1 rm1 (x_sweep C T d).2.2 ∧ (x_sweep C T d).2.1 = clT C ∧ w = (wM E B u kp ik ps pm dd tx 0 rw1 rm1 0 ty he1 wr1 mn1 vl1 tp1 lt1 ra1 pf1 pt1 pl1 pd1 prc1 ns1 tu1 ba1 na1 ca1 bo tr1 tH1 asd1 pa tg sd sr)) := by
  refine Ctr.of (by decide) (Nat.le_of_ble_eq_true rfl) rfl rfl 6 ?_
  intro X hX hR
  have hM := hI.ok
  obtain ⟨hT, hT1, hT6, hcv⟩ := id hM
  refine rh_aload_n hX dX8_sweep_0 rfl ?_
  refine rh_iconst hX dX8_sweep_1 ki_0 ?_
  refine rh_put hX gl_X8_48 0 dX8_sweep_2 rfl rfl rfl (Nat.le_of_ble_eq_true rfl) rfl ?_
  dsimp only [List.cons_append, List.nil_append, List.set_cons_succ, List.set_cons_zero, vput]
  refine rh_aload_n hX dX8_sweep_5 rfl ?_
  refine rh_uV hX lk_X8_293 mvX8_readsRound (fun l => c_X8_readsRound l E _ _ _ _ _ _ _ _ _ _ _ _ _ _ _ _ _ _ _ _ _ _ _ _ _ _ _ _ _ _ _ _ _ _ _ _ _ _ hty hbt) ⟨rfl, rfl⟩ ⟨Nat.le_of_ble_eq_true rfl, Nat.le_of_ble_eq_true rfl⟩ [0, 1, 2, 3, 4, 5, 6, 7, 8, 9, 10, 11, 12] rfl rfl 0 rfl dX8_sweep_6 rfl rfl (Nat.le_of_ble_eq_true rfl) rfl ?_
  dsimp only [List.cons_append, List.nil_append, List.set_cons_succ, List.set_cons_zero, vput]
  have hrd0 := rdI_z (rd_rel hbt hty (0, -1, vl, tp, lt, ra, pf, pt, pl)) (w := (0, 0, (tS tx ty (0, -1, vl, tp, lt, ra, pf, pt, pl)).2.2)) rfl
  generalize hRD : mRd tx ty (tS tx ty (0, -1, vl, tp, lt, ra, pf, pt, pl)) = RD9 at hrd0 ⊢
  generalize hTS : (tS tx ty (0, -1, vl, tp, lt, ra, pf, pt, pl)).2.2 = TS9 at hrd0 ⊢
  obtain ⟨he1, wr1, mn1, pd1⟩ := RD9
  obtain ⟨vl1, tp1, lt1, ra1, pf1, pt1, pl1⟩ := TS9
  dsimp only at hrd0 ⊢
  have hrd : rdI (rrF (sC tx) ty) (he1, wr1, mn1, pd1) (0, 0, vl1, tp1, lt1, ra1, pf1, pt1, pl1) := hrd0
  clear hrd0 hRD hTS
  refine rh_aload_n hX dX8_sweep_9 rfl ?_
  refine rh_get hX gl_X8_105 0 dX8_sweep_10 rfl rfl ?_
  refine rh_iconst hX dX8_sweep_13 ki_m1 ?_
  refine rh_icmp_eq (tgt := 25) hX dX8_sweep_14 (by decide) (fun h14 => ?_) (fun h14 => ?_)
  · skip
    obtain ⟨hx0, hF, hmn, hpd⟩ := rd_ok hCs hCl hrd h14
    have hmn : mnOk mn1 (tRound C).2.2.2.2.2.2.1 pd1 := hmn
    have hpd : pd1 = (tRound C).2.2.2.2.2.2.2 := hpd
    have hxl := rt_0 hx0
    have hv1 : vl1.toInt64 = (tRound C).2.2.1 := hF.1
    have hvb : 1 ≤ vl1.toInt ∧ vl1.toInt ≤ 1000000000 := hF.2.2.2.2.2.2.2.2.2.2.2.2
    refine rh_iload_n hX dX8_sweep_25 rfl ?_
    refine rh_i2l hX dX8_sweep_26 ?_
    refine rh_lconst hX dX8_sweep_27 kL_1 ?_
    refine rh_ldc2 hX dX8_sweep_28 kl_X8_243 ?_
    refine rh_pS hX lk_X8_58 msX8_in (fun l => c_X8_in l E _ _ _) ⟨rfl, rfl⟩ ⟨Nat.le_of_ble_eq_true rfl, Nat.le_of_ble_eq_true rfl⟩ [] rfl rfl dX8_sweep_31 rfl rfl (Nat.le_of_ble_eq_true rfl) ?_
    rw [xIn_U]
    refine rh_if_ne (tgt := 39) hX dX8_sweep_34 (by decide) (fun h34 => ?_) (fun h34 => ?_)
    · skip
      obtain ⟨hd1, hd2⟩ := xUp_1 h34
      have hd3 : (100000000 : Int64).toInt = 100000000 := by decide
      refine rh_aload_n hX dX8_sweep_39 rfl ?_
      refine rh_get hX gl_X8_207 0 dX8_sweep_40 rfl rfl ?_
      refine rh_istn2 hX dX8_sweep_43 (by decide) rfl ?_
      refine rh_iconst hX dX8_sweep_44 ki_0 ?_
      refine rh_istn3 hX dX8_sweep_45 (by decide) rfl ?_
      refine rh_aload_n hX dX8_sweep_46 rfl ?_
      refine rh_iconst hX dX8_sweep_47 ki_0 ?_
      refine rh_put hX gl_X8_52 0 dX8_sweep_48 rfl rfl rfl (Nat.le_of_ble_eq_true rfl) rfl ?_
      dsimp only [List.cons_append, List.nil_append, List.set_cons_succ, List.set_cons_zero, vput]
      refine rh_iconst hX dX8_sweep_51 ki_0 ?_
      refine rh_ist4 hX dX8_sweep_52 (by decide) rfl ?_
      suffices hP0 : G X 54 [some (.ref (B 0)), some (.int d), some (.int vl1), some (.int (nI (cnP (swP C T d) 0))), some (.int 0), none, none, none] [] (wM E B u kp ik ps pm dd tx 0 rw 0 0 ty he1 wr1 mn1 vl1 tp1 lt1 ra1 pf1 pt1 pl1 pd1 prc ns tu ba na ca bo tr tH asd pa tg sd sr) by rw [cnP_0] at hP0; exact hP0
      refine (rh_loop (P := fun i => ∀ (vl2 : Int32) (prc2 ns2 : Int64) (tu2 : Nat) (ba2 na2 : Int64) (ca2 tr2 : Nat → Int64) (tH2 : Int32) (asd2 : Nat → Int32) (g1 : Nat → Int64), rowOk g1 ((List.range i).map (fun j => (swP C T d j).toInt64)) → G X 54 [some (.ref (B 0)), some (.int d), some (.int vl1), some (.int (nI (cnP (swP C T d) i))), some (.int (nI i)), none, none, none] [] (wM E B u kp ik ps pm dd tx 0 g1 i 0 ty he1 wr1 mn1 vl2 tp1 lt1 ra1 pf1 pt1 pl1 pd1 prc2 ns2 tu2 ba2 na2 ca2 bo tr2 tH2 asd2 pa tg sd sr)) (0) (8) (by omega) ?_ ?_) _ _ _ _ _ _ _ _ _ _ _ (rowOk_nil _)
      · intro vl2 prc2 ns2 tu2 ba2 na2 ca2 tr2 tH2 asd2 g1 hg
        refine rh_iload hX dX8_sweep_54 rfl ?_
        refine rh_bipush hX dX8_sweep_56 kb_8 ?_
        refine rh_icmp_ge_t (tgt := 142) hX dX8_sweep_58 (by decide) (nI_le (a := 8) (b := 8) (Nat.le_refl 8) (by decide)) ?_
        refine rh_iload_n hX dX8_sweep_142 rfl ?_
        exact rh_iret hX hR dX8_sweep_143 (by simp only [List.map_cons, List.map_nil, List.cons_append, List.nil_append]) ⟨_, _, _, _, _, _, _, _, _, _, _, _, _, _, _, _, _, _, _, _, g1, 8, by rw [x_sweep, if_pos hxl, if_neg h34], by rw [x_sweep, if_pos hxl, if_neg h34]; exact ⟨hg, by rw [List.length_map, List.length_range]⟩, by rw [x_sweep, if_pos hxl, if_neg h34], rfl⟩
      · intro i hi0 hi ih vl2 prc2 ns2 tu2 ba2 na2 ca2 tr2 tH2 asd2 g1 hg
        have hvz : (vl1.toInt64 + (nI i).toInt64 * d.toInt64).toInt = vl1.toInt + i * d.toInt := z_add (z_l _) (stp_z (by omega) hd1) (by have : 0 ≤ (i : Int) * d.toInt := Int.mul_nonneg (by omega) (by omega); omega) (by have : (i : Int) * d.toInt ≤ 8 * 100000000 := Int.mul_le_mul (by omega) (by omega) (by omega) (by omega); omega)
        have hvp : 1 ≤ (vl1.toInt64 + (nI i).toInt64 * d.toInt64).toInt := by have : 0 ≤ (i : Int) * d.toInt := Int.mul_nonneg (by omega) (by omega); omega
        obtain ⟨s1, s2, s3⟩ := swp_z hvp
        refine rh_iload hX dX8_sweep_54 rfl ?_
        refine rh_bipush hX dX8_sweep_56 kb_8 ?_
        refine rh_icmp_ge_f (tgt := 142) hX dX8_sweep_58 (by decide) (nI_ge (b := 8) hi (by decide)) ?_
        refine rh_iload_n hX dX8_sweep_61 rfl ?_
        refine rh_i2l hX dX8_sweep_62 ?_
        refine rh_iload hX dX8_sweep_63 rfl ?_
        refine rh_i2l hX dX8_sweep_65 ?_
        refine rh_iload_n hX dX8_sweep_66 rfl ?_
        refine rh_i2l hX dX8_sweep_67 ?_
        refine rh_lmul hX dX8_sweep_68 ?_
        refine rh_ladd hX dX8_sweep_69 ?_
        refine rh_lst5 hX dX8_sweep_70 (by decide) rfl ?_
        refine rh_aload_n hX dX8_sweep_72 rfl ?_
        refine rh_ldc2 hX dX8_sweep_73 kl_X8_131 ?_
        refine rh_lload hX dX8_sweep_76 rfl ?_
        refine rh_minl hX mm_X8_261 dX8_sweep_78 (Nat.le_of_ble_eq_true rfl) (Nat.le_of_ble_eq_true rfl) ?_
        refine rh_l2i hX dX8_sweep_81 ?_
        rw [show (if (vl1.toInt64 + (nI i).toInt64 * d.toInt64) < 1000000000 then (vl1.toInt64 + (nI i).toInt64 * d.toInt64) else 1000000000) = minl 1000000000 (vl1.toInt64 + (nI i).toInt64 * d.toInt64) from rfl]
        refine rh_put hX gl_X8_207 0 dX8_sweep_82 rfl rfl rfl (Nat.le_of_ble_eq_true rfl) rfl ?_
        dsimp only [List.cons_append, List.nil_append, List.set_cons_succ, List.set_cons_zero, vput]
        refine rh_aload_n hX dX8_sweep_85 rfl ?_
        refine rh_callV hX lk_X8_308 mvX8_thinks (fun l => c_X8_thinks l E _ _ _ _ _ _ _ _ _ _ _ _ _ _ _ _ _ _ _ _ _ _ _ _ _ _ _ _ _ _ _ _ _ _ _ _ _ _ T hM (pT_dv hI hmn) (hc8_of hI) (rdF_tp hF)) ⟨rfl, rfl⟩ ⟨Nat.le_of_ble_eq_true rfl, Nat.le_of_ble_eq_true rfl⟩ [0, 1, 2, 3, 4, 5, 6, 7, 8, 9, 10, 11, 12] rfl rfl 0 rfl dX8_sweep_86 rfl rfl (Nat.le_of_ble_eq_true rfl) (fun r w hp hf => ?_)
        obtain ⟨prc3, ns3, tu3, ba3, na3, ca3, tr3, tH3, asd3, rfl, rfl⟩ := hp
        dsimp only [vput, List.set_cons_succ, List.set_cons_zero, Option.toList, List.cons_append, List.nil_append]
        have hrk : rkR T mn1 ra1 pf1 pt1 pl1 (minl 1000000000 (vl1.toInt64 + (nI i).toInt64 * d.toInt64)).toInt32 pd1 (mRk u T (minl 1000000000 (vl1.toInt64 + (nI i).toInt64 * d.toInt64)).toInt32 tp1 lt1 mn1 pd1 ca2 tr2) (xDS C.1 T ((minl 1000000000 (vl1.toInt64 + (nI i).toInt64 * d.toInt64)).toInt32.toInt64, (tRound C).2.2.2)) := by rw [hCu]; exact rk_rel hI hmn hpd (rdF_v hF ⟨s1, s2⟩)
        have hsw : swP C T d i = (xDS C.1 T ((vl1.toInt64 + (nI i).toInt64 * d.toInt64), (tRound C).2.2.2)).1 := by unfold swP; rw [← hv1]
        have hth := rkR_th hrk
        refine rh_ist7 hX dX8_sweep_89 (by decide) rfl ?_
        refine rh_lload hX dX8_sweep_91 rfl ?_
        refine rh_ldc2 hX dX8_sweep_93 kl_X8_131 ?_
        refine rh_lle (tgt := 112) hX dX8_sweep_96 dX8_sweep_97 (by decide) (fun h97 => ?_) (fun h97 => ?_)
        · skip
          have hr9 : (mTh (mRk u T (minl 1000000000 (vl1.toInt64 + (nI i).toInt64 * d.toInt64)).toInt32 tp1 lt1 mn1 pd1 ca2 tr2)) = swP C T d i := by rw [hsw, ← hth, s3 (by rw [z_le, bil_z] at h97; exact h97)]
          rw [show mTh _ = swP C T d i from hr9]
          refine rh_iload hX dX8_sweep_112 rfl ?_
          refine rh_ist7 hX dX8_sweep_114 (by decide) rfl ?_
          refine rh_aload_n hX dX8_sweep_116 rfl ?_
          refine rh_iload hX dX8_sweep_117 rfl ?_
          refine rh_i2l hX dX8_sweep_119 ?_
          refine rh_uV hX lk_X8_299 mvX8_tell (fun l => c_X8_tell l E _ _ _ _ _ _ _ _ _ _ i _ _ _ _ _ _ _ _ _ _ _ _ _ _ _ _ _ _ _ _ _ _ _ _ _ _ _ _ (by omega)) ⟨rfl, rfl⟩ ⟨Nat.le_of_ble_eq_true rfl, Nat.le_of_ble_eq_true rfl⟩ [0, 1, 2, 3, 4, 5, 6, 7, 8, 9, 10, 11, 12] rfl rfl 0 rfl dX8_sweep_120 rfl rfl (Nat.le_of_ble_eq_true rfl) rfl ?_
          dsimp only [List.cons_append, List.nil_append, List.set_cons_succ, List.set_cons_zero, vput]
          refine rh_iload_n hX dX8_sweep_123 rfl ?_
          refine rh_iload hX dX8_sweep_124 rfl ?_
          refine rh_if_le (tgt := 133) hX dX8_sweep_126 (by decide) (fun h126 => ?_) (fun h126 => ?_)
          · skip
            refine rh_iconst hX dX8_sweep_133 ki_0 ?_
            refine rh_iadd hX dX8_sweep_134 ?_
            refine rh_istn3 hX dX8_sweep_135 (by decide) rfl ?_
            refine rh_inc4 hX dX8_sweep_136 (by decide) rfl (rn_i1 _) ?_
            refine rh_goto (tgt := 54) hX dX8_sweep_139 (by decide) ?_
            first | (rw [cnP_t h126] at ih; rw [Int32.add_zero]; exact rh_wk (by exact ⟨rfl, rfl, rfl, rfl, rfl, trivial⟩) (ih _ _ _ _ _ _ _ _ _ _ _ (by rw [range_push]; exact rowOk_push _ hg (by rw [List.length_map, List.length_range])))) | (rw [cnP_f h126, show nI (cnP (swP C T d) i + 1) = nI (cnP (swP C T d) i) + 1 from (rn_add _ 1).symm] at ih; exact rh_wk (by exact ⟨rfl, rfl, rfl, rfl, rfl, trivial⟩) (ih _ _ _ _ _ _ _ _ _ _ _ (by rw [range_push]; exact rowOk_push _ hg (by rw [List.length_map, List.length_range]))))
          · skip
            refine rh_iconst hX dX8_sweep_129 ki_1 ?_
            refine rh_goto (tgt := 134) hX dX8_sweep_130 (by decide) ?_
            refine rh_iadd hX dX8_sweep_134 ?_
            refine rh_istn3 hX dX8_sweep_135 (by decide) rfl ?_
            refine rh_inc4 hX dX8_sweep_136 (by decide) rfl (rn_i1 _) ?_
            refine rh_goto (tgt := 54) hX dX8_sweep_139 (by decide) ?_
            first | (rw [cnP_t h126] at ih; rw [Int32.add_zero]; exact rh_wk (by exact ⟨rfl, rfl, rfl, rfl, rfl, trivial⟩) (ih _ _ _ _ _ _ _ _ _ _ _ (by rw [range_push]; exact rowOk_push _ hg (by rw [List.length_map, List.length_range])))) | (rw [cnP_f h126, show nI (cnP (swP C T d) i + 1) = nI (cnP (swP C T d) i) + 1 from (rn_add _ 1).symm] at ih; exact rh_wk (by exact ⟨rfl, rfl, rfl, rfl, rfl, trivial⟩) (ih _ _ _ _ _ _ _ _ _ _ _ (by rw [range_push]; exact rowOk_push _ hg (by rw [List.length_map, List.length_range]))))
        · skip
          have hbg : 1000000000 < (vl1.toInt64 + (nI i).toInt64 * d.toInt64) := by rw [z_lt]; rw [z_le] at h97; omega
          have hd9 := dS_big (f := C.1) (T := T) (q := ((vl1.toInt64 + (nI i).toInt64 * d.toInt64), (tRound C).2.2.2)) hbg
          refine rh_iload hX dX8_sweep_100 rfl ?_
          refine rh_bipush hX dX8_sweep_102 kb_m2 ?_
          refine rh_icmp_eq (tgt := 112) hX dX8_sweep_104 (by decide) (fun h104 => ?_) (fun h104 => ?_)
          · skip
            have h6 : T = 6 := Classical.not_not.mp (fun z => mTh_ne z hrk h104)
            have hr9 : (mTh (mRk u T (minl 1000000000 (vl1.toInt64 + (nI i).toInt64 * d.toInt64)).toInt32 tp1 lt1 mn1 pd1 ca2 tr2)) = swP C T d i := by rw [hsw, hd9, if_neg (by omega), mTh_6 h6]
            rw [show mTh _ = swP C T d i from hr9]
            refine rh_iload hX dX8_sweep_112 rfl ?_
            refine rh_ist7 hX dX8_sweep_114 (by decide) rfl ?_
            refine rh_aload_n hX dX8_sweep_116 rfl ?_
            refine rh_iload hX dX8_sweep_117 rfl ?_
            refine rh_i2l hX dX8_sweep_119 ?_
            refine rh_uV hX lk_X8_299 mvX8_tell (fun l => c_X8_tell l E _ _ _ _ _ _ _ _ _ _ i _ _ _ _ _ _ _ _ _ _ _ _ _ _ _ _ _ _ _ _ _ _ _ _ _ _ _ _ (by omega)) ⟨rfl, rfl⟩ ⟨Nat.le_of_ble_eq_true rfl, Nat.le_of_ble_eq_true rfl⟩ [0, 1, 2, 3, 4, 5, 6, 7, 8, 9, 10, 11, 12] rfl rfl 0 rfl dX8_sweep_120 rfl rfl (Nat.le_of_ble_eq_true rfl) rfl ?_
            dsimp only [List.cons_append, List.nil_append, List.set_cons_succ, List.set_cons_zero, vput]
            refine rh_iload_n hX dX8_sweep_123 rfl ?_
            refine rh_iload hX dX8_sweep_124 rfl ?_
            refine rh_if_le (tgt := 133) hX dX8_sweep_126 (by decide) (fun h126 => ?_) (fun h126 => ?_)
            · skip
              refine rh_iconst hX dX8_sweep_133 ki_0 ?_
              refine rh_iadd hX dX8_sweep_134 ?_
              refine rh_istn3 hX dX8_sweep_135 (by decide) rfl ?_
              refine rh_inc4 hX dX8_sweep_136 (by decide) rfl (rn_i1 _) ?_
              refine rh_goto (tgt := 54) hX dX8_sweep_139 (by decide) ?_
              first | (rw [cnP_t h126] at ih; rw [Int32.add_zero]; exact rh_wk (by exact ⟨rfl, rfl, rfl, rfl, rfl, trivial⟩) (ih _ _ _ _ _ _ _ _ _ _ _ (by rw [range_push]; exact rowOk_push _ hg (by rw [List.length_map, List.length_range])))) | (rw [cnP_f h126, show nI (cnP (swP C T d) i + 1) = nI (cnP (swP C T d) i) + 1 from (rn_add _ 1).symm] at ih; exact rh_wk (by exact ⟨rfl, rfl, rfl, rfl, rfl, trivial⟩) (ih _ _ _ _ _ _ _ _ _ _ _ (by rw [range_push]; exact rowOk_push _ hg (by rw [List.length_map, List.length_range]))))
            · skip
              refine rh_iconst hX dX8_sweep_129 ki_1 ?_
              refine rh_goto (tgt := 134) hX dX8_sweep_130 (by decide) ?_
              refine rh_iadd hX dX8_sweep_134 ?_
              refine rh_istn3 hX dX8_sweep_135 (by decide) rfl ?_
              refine rh_inc4 hX dX8_sweep_136 (by decide) rfl (rn_i1 _) ?_
              refine rh_goto (tgt := 54) hX dX8_sweep_139 (by decide) ?_
              first | (rw [cnP_t h126] at ih; rw [Int32.add_zero]; exact rh_wk (by exact ⟨rfl, rfl, rfl, rfl, rfl, trivial⟩) (ih _ _ _ _ _ _ _ _ _ _ _ (by rw [range_push]; exact rowOk_push _ hg (by rw [List.length_map, List.length_range])))) | (rw [cnP_f h126, show nI (cnP (swP C T d) i + 1) = nI (cnP (swP C T d) i) + 1 from (rn_add _ 1).symm] at ih; exact rh_wk (by exact ⟨rfl, rfl, rfl, rfl, rfl, trivial⟩) (ih _ _ _ _ _ _ _ _ _ _ _ (by rw [range_push]; exact rowOk_push _ hg (by rw [List.length_map, List.length_range]))))
          · skip
            have h6 : ¬ T = 6 := fun z => h104 (mTh_6 z)
            have hr9 : (-3 : Int32) = swP C T d i := by rw [hsw, hd9, if_pos (by omega)]
            refine rh_bipush hX dX8_sweep_107 kb_m3 ?_
            rw [hr9]
            refine rh_goto (tgt := 114) hX dX8_sweep_109 (by decide) ?_
            refine rh_ist7 hX dX8_sweep_114 (by decide) rfl ?_
            refine rh_aload_n hX dX8_sweep_116 rfl ?_
            refine rh_iload hX dX8_sweep_117 rfl ?_
            refine rh_i2l hX dX8_sweep_119 ?_
            refine rh_uV hX lk_X8_299 mvX8_tell (fun l => c_X8_tell l E _ _ _ _ _ _ _ _ _ _ i _ _ _ _ _ _ _ _ _ _ _ _ _ _ _ _ _ _ _ _ _ _ _ _ _ _ _ _ (by omega)) ⟨rfl, rfl⟩ ⟨Nat.le_of_ble_eq_true rfl, Nat.le_of_ble_eq_true rfl⟩ [0, 1, 2, 3, 4, 5, 6, 7, 8, 9, 10, 11, 12] rfl rfl 0 rfl dX8_sweep_120 rfl rfl (Nat.le_of_ble_eq_true rfl) rfl ?_
            dsimp only [List.cons_append, List.nil_append, List.set_cons_succ, List.set_cons_zero, vput]
            refine rh_iload_n hX dX8_sweep_123 rfl ?_
            refine rh_iload hX dX8_sweep_124 rfl ?_
            refine rh_if_le (tgt := 133) hX dX8_sweep_126 (by decide) (fun h126 => ?_) (fun h126 => ?_)
            · skip
              refine rh_iconst hX dX8_sweep_133 ki_0 ?_
              refine rh_iadd hX dX8_sweep_134 ?_
              refine rh_istn3 hX dX8_sweep_135 (by decide) rfl ?_
              refine rh_inc4 hX dX8_sweep_136 (by decide) rfl (rn_i1 _) ?_
              refine rh_goto (tgt := 54) hX dX8_sweep_139 (by decide) ?_
              first | (rw [cnP_t h126] at ih; rw [Int32.add_zero]; exact rh_wk (by exact ⟨rfl, rfl, rfl, rfl, rfl, trivial⟩) (ih _ _ _ _ _ _ _ _ _ _ _ (by rw [range_push]; exact rowOk_push _ hg (by rw [List.length_map, List.length_range])))) | (rw [cnP_f h126, show nI (cnP (swP C T d) i + 1) = nI (cnP (swP C T d) i) + 1 from (rn_add _ 1).symm] at ih; exact rh_wk (by exact ⟨rfl, rfl, rfl, rfl, rfl, trivial⟩) (ih _ _ _ _ _ _ _ _ _ _ _ (by rw [range_push]; exact rowOk_push _ hg (by rw [List.length_map, List.length_range]))))
            · skip
              refine rh_iconst hX dX8_sweep_129 ki_1 ?_
              refine rh_goto (tgt := 134) hX dX8_sweep_130 (by decide) ?_
              refine rh_iadd hX dX8_sweep_134 ?_
              refine rh_istn3 hX dX8_sweep_135 (by decide) rfl ?_
              refine rh_inc4 hX dX8_sweep_136 (by decide) rfl (rn_i1 _) ?_
              refine rh_goto (tgt := 54) hX dX8_sweep_139 (by decide) ?_
              first | (rw [cnP_t h126] at ih; rw [Int32.add_zero]; exact rh_wk (by exact ⟨rfl, rfl, rfl, rfl, rfl, trivial⟩) (ih _ _ _ _ _ _ _ _ _ _ _ (by rw [range_push]; exact rowOk_push _ hg (by rw [List.length_map, List.length_range])))) | (rw [cnP_f h126, show nI (cnP (swP C T d) i + 1) = nI (cnP (swP C T d) i) + 1 from (rn_add _ 1).symm] at ih; exact rh_wk (by exact ⟨rfl, rfl, rfl, rfl, rfl, trivial⟩) (ih _ _ _ _ _ _ _ _ _ _ _ (by rw [range_push]; exact rowOk_push _ hg (by rw [List.length_map, List.length_range]))))
    · skip
      refine rh_iconst hX dX8_sweep_37 ki_m1 ?_
      exact rh_iret hX hR dX8_sweep_38 (by simp only [List.map_cons, List.map_nil, List.cons_append, List.nil_append]) (by first | exact ⟨_, _, _, _, _, _, _, _, _, _, _, _, _, _, _, _, _, _, _, _, rw, rm, by rw [x_sweep, if_pos hxl, if_pos h34] <;> rfl, by rw [x_sweep, if_pos hxl, if_pos h34]; exact ⟨rfl, rfl⟩, by rw [x_sweep, if_pos hxl, if_pos h34], rfl⟩)
  · skip
    obtain ⟨hxb, hxn⟩ := rd_bad hCs hCl hrd h14
    refine rh_bipush hX dX8_sweep_17 kb_m21 ?_
    refine rh_aload_n hX dX8_sweep_19 rfl ?_
    refine rh_get hX gl_X8_105 0 dX8_sweep_20 rfl rfl ?_
    refine rh_isub hX dX8_sweep_23 ?_
    exact rh_iret hX hR dX8_sweep_24 (by simp only [List.map_cons, List.map_nil, List.cons_append, List.nil_append]) (by first | exact ⟨_, _, _, _, _, _, _, _, _, _, _, _, _, _, _, _, _, _, _, _, rw, rm, by rw [x_sweep, if_neg hxn, hxb] <;> rfl, by rw [x_sweep, if_neg hxn, hxb]; exact ⟨rfl, rfl⟩, by rw [x_sweep, if_neg hxn, hxb], rfl⟩)
