set_option maxRecDepth 100000 in
set_option maxHeartbeats 4000000 in
theorem c_X8_ratchets (l : Launch) (E : rhE) (B : Nat → Nat) (u : Nat → Int32) (kp : Nat → Int32) (ik : Int32) (ps : Nat → Int32) (pm : Nat) (dd : Int32) (tx : Nat → Int32) (ty : Nat) (rw : Nat → Int64) (rm : Nat) (th : Int32) (sz : Nat) (he : Nat) (wr : Int32) (mn : Nat → Int32) (vl : Int32) (tp : Int32) (lt : Int32) (ra : Int32) (pf : Int32) (pt : Int32) (pl : Int32) (pd : Int64) (prc : Int64) (ns : Int64) (tu : Nat) (ba : Int64) (na : Int64) (ca : Nat → Int64) (bo : Nat → Int32) (tr : Nat → Int64) (tH : Int32) (asd : Nat → Int32) (pa : Nat → Int64) (tg : Nat → Int64) (sd : Int64) (sr : Int64) (C : CT) (hCu : C.1 = fm u) (hCs : C.2.2.2.2.2.2.2.1 = sC tx) (hCl : C.2.2.2.2.2.2.2.2.1 = ty) (T : Nat) (hI : mI u T) (hty : ty ≤ 200) (hbt : byteOk tx ty)  : Ctr l E yX8_ratchets cX8_ratchets 5 (some .int) (rmL 8) [.ref (B 0)] (wM E B u kp ik ps pm dd tx ty rw rm th sz he wr mn vl tp lt ra pf pt pl pd prc ns tu ba na ca bo tr tH asd pa tg sd sr) (fun r w => ∃ he1 wr1 mn1 vl1 tp1 lt1 ra1 pf1 pt1 pl1 pd1 prc1 ns1 tu1 ba1 na1 ca1 tr1 tH1 asd1 rw1 rm1, r = some (Value.int (x_ratchets C T).1) ∧ mTold rw rm rw1 rm1 (x_ratchets C T).2.2 ∧ (x_ratchets C T).2.1 = clT C ∧ w = (wM E B u kp ik ps pm dd tx 0 rw1 rm1 0 ty he1 wr1 mn1 vl1 tp1 lt1 ra1 pf1 pt1 pl1 pd1 prc1 ns1 tu1 ba1 na1 ca1 bo tr1 tH1 asd1 pa tg sd sr)) := by
  refine Ctr.of (by decide) (Nat.le_of_ble_eq_true rfl) rfl rfl 4 ?_
  intro X hX hR
  have hM := hI.ok
  obtain ⟨hT, hT1, hT6, hcv⟩ := id hM
  refine rh_aload_n hX dX8_ratchets_0 rfl ?_
  refine rh_iconst hX dX8_ratchets_1 ki_0 ?_
  refine rh_put hX gl_X8_48 0 dX8_ratchets_2 rfl rfl rfl (Nat.le_of_ble_eq_true rfl) rfl ?_
  dsimp only [List.cons_append, List.nil_append, List.set_cons_succ, List.set_cons_zero, vput]
  refine rh_aload_n hX dX8_ratchets_5 rfl ?_
  refine rh_uV hX lk_X8_293 mvX8_readsRound (fun l => c_X8_readsRound l E _ _ _ _ _ _ _ _ _ _ _ _ _ _ _ _ _ _ _ _ _ _ _ _ _ _ _ _ _ _ _ _ _ _ _ _ _ _ hty hbt) ⟨rfl, rfl⟩ ⟨Nat.le_of_ble_eq_true rfl, Nat.le_of_ble_eq_true rfl⟩ [0, 1, 2, 3, 4, 5, 6, 7, 8, 9, 10, 11, 12] rfl rfl 0 rfl dX8_ratchets_6 rfl rfl (Nat.le_of_ble_eq_true rfl) rfl ?_
  dsimp only [List.cons_append, List.nil_append, List.set_cons_succ, List.set_cons_zero, vput]
  have hrd0 := rdI_z (rd_rel hbt hty (0, -1, vl, tp, lt, ra, pf, pt, pl)) (w := (0, 0, (tS tx ty (0, -1, vl, tp, lt, ra, pf, pt, pl)).2.2)) rfl
  generalize hRD : mRd tx ty (tS tx ty (0, -1, vl, tp, lt, ra, pf, pt, pl)) = RD9 at hrd0 ⊢
  generalize hTS : (tS tx ty (0, -1, vl, tp, lt, ra, pf, pt, pl)).2.2 = TS9 at hrd0 ⊢
  obtain ⟨he1, wr1, mn1, pd1⟩ := RD9
  obtain ⟨vl1, tp1, lt1, ra1, pf1, pt1, pl1⟩ := TS9
  dsimp only at hrd0 ⊢
  have hrd : rdI (rrF (sC tx) ty) (he1, wr1, mn1, pd1) (0, 0, vl1, tp1, lt1, ra1, pf1, pt1, pl1) := hrd0
  clear hrd0 hRD hTS
  refine rh_aload_n hX dX8_ratchets_9 rfl ?_
  refine rh_get hX gl_X8_105 0 dX8_ratchets_10 rfl rfl ?_
  refine rh_iconst hX dX8_ratchets_13 ki_m1 ?_
  refine rh_icmp_eq (tgt := 25) hX dX8_ratchets_14 (by decide) (fun h14 => ?_) (fun h14 => ?_)
  · skip
    obtain ⟨hx0, hF, hmn, hpd⟩ := rd_ok hCs hCl hrd h14
    have hmn : mnOk mn1 (tRound C).2.2.2.2.2.2.1 pd1 := hmn
    have hpd : pd1 = (tRound C).2.2.2.2.2.2.2 := hpd
    have hxl := rt_0 hx0
    refine rh_iconst hX dX8_ratchets_25 ki_0 ?_
    refine rh_istn1 hX dX8_ratchets_26 (by decide) rfl ?_
    refine rh_aload_n hX dX8_ratchets_27 rfl ?_
    refine rh_iconst hX dX8_ratchets_28 ki_0 ?_
    refine rh_put hX gl_X8_52 0 dX8_ratchets_29 rfl rfl rfl (Nat.le_of_ble_eq_true rfl) rfl ?_
    dsimp only [List.cons_append, List.nil_append, List.set_cons_succ, List.set_cons_zero, vput]
    refine rh_iconst hX dX8_ratchets_32 ki_0 ?_
    refine rh_istn2 hX dX8_ratchets_33 (by decide) rfl ?_
    suffices hP0 : G X 34 [some (.ref (B 0)), some (.int (nI (unN (rtP C T) 0))), some (.int 0), none, none] [] (wM E B u kp ik ps pm dd tx 0 rw 0 0 ty he1 wr1 mn1 vl1 tp1 lt1 ra1 pf1 pt1 pl1 pd1 prc ns tu ba na ca bo tr tH asd pa tg sd sr) by rw [unN_0] at hP0; exact hP0
    refine (rh_loop (P := fun i => ∀ (prc2 ns2 : Int64) (tu2 : Nat) (ba2 na2 : Int64) (ca2 tr2 : Nat → Int64) (tH2 : Int32) (asd2 : Nat → Int32) (g1 : Nat → Int64), rowOk g1 ((List.range i).map (fun k => (rtP C T k).toInt64)) → G X 34 [some (.ref (B 0)), some (.int (nI (unN (rtP C T) i))), some (.int (nI i)), none, none] [] (wM E B u kp ik ps pm dd tx 0 g1 i 0 ty he1 wr1 mn1 vl1 tp1 lt1 ra1 pf1 pt1 pl1 pd1 prc2 ns2 tu2 ba2 na2 ca2 bo tr2 tH2 asd2 pa tg sd sr)) (0) (4) (by omega) ?_ ?_) _ _ _ _ _ _ _ _ _ _ (rowOk_nil _)
    · intro prc2 ns2 tu2 ba2 na2 ca2 tr2 tH2 asd2 g1 hg
      refine rh_iload_n hX dX8_ratchets_34 rfl ?_
      refine rh_iconst hX dX8_ratchets_35 ki_4 ?_
      refine rh_icmp_ge_t (tgt := 131) hX dX8_ratchets_36 (by decide) (by decide) ?_
      refine rh_iload_n hX dX8_ratchets_131 rfl ?_
      exact rh_iret hX hR dX8_ratchets_132 (by simp only [List.map_cons, List.map_nil, List.cons_append, List.nil_append]) ⟨_, _, _, _, _, _, _, _, _, _, _, _, _, _, _, _, _, _, _, _, g1, 4, by rw [x_ratchets, if_pos hxl], by rw [x_ratchets, if_pos hxl]; exact ⟨hg, by rw [List.length_map, List.length_range]⟩, by rw [x_ratchets, if_pos hxl], rfl⟩
    · intro i hi0 hi ih prc2 ns2 tu2 ba2 na2 ca2 tr2 tH2 asd2 g1 hg
      have hIk := mI_uRk hI hi
      refine rh_iload_n hX dX8_ratchets_34 rfl ?_
      refine rh_iconst hX dX8_ratchets_35 ki_4 ?_
      refine rh_icmp_ge_f (tgt := 131) hX dX8_ratchets_36 (by decide) (Int32.not_lt.mpr (nI_le (show i ≤ 3 by omega) (by decide))) ?_
      refine rh_aload_n hX dX8_ratchets_39 rfl ?_
      refine rh_uV hX lk_X8_68 mvX8_lays (fun l => c_X8_lays l E _ _ _ _ _ _ _ _ _ _ _ _ _ _ _ _ _ _ _ _ _ _ _ _ _ _ _ _ _ _ _ _ _ _ _ _ _ _ ) ⟨rfl, rfl⟩ ⟨Nat.le_of_ble_eq_true rfl, Nat.le_of_ble_eq_true rfl⟩ [0, 1, 2, 3, 4, 5, 6, 7, 8, 9, 10, 11, 12] rfl rfl 0 rfl dX8_ratchets_40 rfl rfl (Nat.le_of_ble_eq_true rfl) rfl ?_
      dsimp only [List.cons_append, List.nil_append, List.set_cons_succ, List.set_cons_zero, vput]
      refine rh_iconst hX dX8_ratchets_43 ki_1 ?_
      refine rh_istn3 hX dX8_ratchets_44 (by decide) rfl ?_
      suffices hP0 : G X 45 [some (.ref (B 0)), some (.int (nI (unN (rtP C T) i))), some (.int (nI i)), some (.int 1), none] [] (wM E B (uRk u (nI i) 1) kp ik ps pm dd tx 0 g1 i 0 ty he1 wr1 mn1 vl1 tp1 lt1 ra1 pf1 pt1 pl1 pd1 prc2 ns2 tu2 ba2 na2 ca2 bo tr2 tH2 u pa tg sd sr) by rw [uRk_1] at hP0; exact hP0
      refine rh_loop (P := fun c => G X 45 [some (.ref (B 0)), some (.int (nI (unN (rtP C T) i))), some (.int (nI i)), some (.int (nI c)), none] [] (wM E B (uRk u (nI i) c) kp ik ps pm dd tx 0 g1 i 0 ty he1 wr1 mn1 vl1 tp1 lt1 ra1 pf1 pt1 pl1 pd1 prc2 ns2 tu2 ba2 na2 ca2 bo tr2 tH2 u pa tg sd sr)) (1) (T) (by omega) ?_ ?_
      · skip
        refine rh_iload_n hX dX8_ratchets_45 rfl ?_
        refine rh_aload_n hX dX8_ratchets_46 rfl ?_
        refine rh_get hX gl_X8_7 0 dX8_ratchets_47 rfl rfl ?_
        refine rh_bipush hX dX8_ratchets_50 kb_57 ?_
        refine rh_iaload hX 1 _ dX8_ratchets_52 rfl rn_c57 (by omega) (by decide) ?_
        rw [uRk_57, hT]
        refine rh_icmp_ge_t (tgt := 72) hX dX8_ratchets_53 (by decide) (nI_le (Nat.le_refl T) (by omega)) ?_
        refine rh_aload_n hX dX8_ratchets_72 rfl ?_
        refine rh_callV hX lk_X8_296 mvX8_reckons (fun l => c_X8_reckons l E _ _ _ _ _ _ _ _ _ _ _ _ _ _ _ _ _ _ _ _ _ _ _ _ _ _ _ _ _ _ _ _ _ _ _ _ _ _ T hIk.ok (pT_dv hIk hmn) (hc8_of hIk) (rdF_tp hF)) ⟨rfl, rfl⟩ ⟨Nat.le_of_ble_eq_true rfl, Nat.le_of_ble_eq_true rfl⟩ [0, 1, 2, 3, 4, 5, 6, 7, 8, 9, 10, 11, 12] rfl rfl 0 rfl dX8_ratchets_73 rfl rfl (Nat.le_of_ble_eq_true rfl) (fun r w hp hf => ?_)
        obtain ⟨u3, prc3, ns3, tu3, ba3, na3, ca3, tr3, tH3, rfl, hgood, -, rfl⟩ := hp
        dsimp only [vput, List.set_cons_succ, List.set_cons_zero, Option.toList, List.cons_append, List.nil_append]
        have hrt : rtP C T i = mTh (mRk (uRk u (nI i) T) T vl1 tp1 lt1 mn1 pd1 ca2 tr2) := by have hq := rkR_th (rk_rat (ca := ca2) (tr := tr2) hI hi hmn hpd hF); unfold rtP; rw [hCu]; exact hq
        refine rh_istn3 hX dX8_ratchets_76 (by decide) rfl ?_
        refine rh_aload_n hX dX8_ratchets_77 rfl ?_
        refine rh_uV hX lk_X8_146 mvX8_puts (fun l => c_X8_puts l E _ _ _ _ _ _ _ _ _ _ _ _ _ _ _ _ _ _ _ _ _ _ _ _ _ _ _ _ _ _ _ _ _ _ _ _ _ _ ) ⟨rfl, rfl⟩ ⟨Nat.le_of_ble_eq_true rfl, Nat.le_of_ble_eq_true rfl⟩ [0, 1, 2, 3, 4, 5, 6, 7, 8, 9, 10, 11, 12] rfl rfl 0 rfl dX8_ratchets_78 rfl rfl (Nat.le_of_ble_eq_true rfl) rfl ?_
        dsimp only [List.cons_append, List.nil_append, List.set_cons_succ, List.set_cons_zero, vput]
        refine rh_iload_n hX dX8_ratchets_81 rfl ?_
        refine rh_if_ge (tgt := 89) hX dX8_ratchets_82 (by decide) (fun h82 => ?_) (fun h82 => ?_)
        · skip
          obtain ⟨q9, hq9, hq0⟩ := (mRk_neg (uRk u (nI i) T) T vl1 tp1 lt1 mn1 pd1 ca2 tr2).resolve_left (fun z => z.2 h82)
          obtain ⟨-, hp9, -⟩ := hgood q9 hq9
          have hr9 : prc3.toInt32 = rtP C T i := by rw [hrt, mTh, hq9, hp9]
          refine rh_aload_n hX dX8_ratchets_89 rfl ?_
          refine rh_get hX gl_X8_269 0 dX8_ratchets_90 rfl rfl ?_
          refine rh_l2i hX dX8_ratchets_93 ?_
          rw [hr9]
          refine rh_ist4 hX dX8_ratchets_94 (by decide) rfl ?_
          refine rh_iload_n hX dX8_ratchets_96 rfl ?_
          refine rh_iload hX dX8_ratchets_97 rfl ?_
          refine rh_if_le (tgt := 115) hX dX8_ratchets_99 (by decide) (fun h99 => ?_) (fun h99 => ?_)
          · skip
            refine rh_iconst hX dX8_ratchets_115 ki_0 ?_
            refine rh_iadd hX dX8_ratchets_116 ?_
            refine rh_istn1 hX dX8_ratchets_117 (by decide) rfl ?_
            refine rh_aload_n hX dX8_ratchets_118 rfl ?_
            refine rh_iload hX dX8_ratchets_119 rfl ?_
            refine rh_i2l hX dX8_ratchets_121 ?_
            refine rh_uV hX lk_X8_299 mvX8_tell (fun l => c_X8_tell l E _ _ _ _ _ _ _ _ _ _ i _ _ _ _ _ _ _ _ _ _ _ _ _ _ _ _ _ _ _ _ _ _ _ _ _ _ _ _ (by omega)) ⟨rfl, rfl⟩ ⟨Nat.le_of_ble_eq_true rfl, Nat.le_of_ble_eq_true rfl⟩ [0, 1, 2, 3, 4, 5, 6, 7, 8, 9, 10, 11, 12] rfl rfl 0 rfl dX8_ratchets_122 rfl rfl (Nat.le_of_ble_eq_true rfl) rfl ?_
            dsimp only [List.cons_append, List.nil_append, List.set_cons_succ, List.set_cons_zero, vput]
            refine rh_inc2 hX dX8_ratchets_125 (by decide) rfl (rn_i1 _) ?_
            refine rh_goto (tgt := 34) hX dX8_ratchets_128 (by decide) ?_
            first | (rw [unN_a h99] at ih; rw [Int32.add_zero]; exact rh_wk (by exact ⟨rfl, rfl, rfl, trivial⟩) (ih _ _ _ _ _ _ _ _ _ _ (by rw [range_push]; exact rowOk_push _ hg (by rw [List.length_map, List.length_range])))) | (rw [unN_b h99 h108] at ih; rw [Int32.add_zero]; exact rh_wk (by exact ⟨rfl, rfl, rfl, trivial⟩) (ih _ _ _ _ _ _ _ _ _ _ (by rw [range_push]; exact rowOk_push _ hg (by rw [List.length_map, List.length_range])))) | (rw [unN_c h99 h108, show nI (unN (rtP C T) i + 1) = nI (unN (rtP C T) i) + 1 from (rn_add _ 1).symm] at ih; exact rh_wk (by exact ⟨rfl, rfl, rfl, trivial⟩) (ih _ _ _ _ _ _ _ _ _ _ (by rw [range_push]; exact rowOk_push _ hg (by rw [List.length_map, List.length_range]))))
          · skip
            refine rh_aload_n hX dX8_ratchets_102 rfl ?_
            refine rh_iload hX dX8_ratchets_103 rfl ?_
            refine rh_pV hX lk_X8_311 mvX8_isToldAlready (fun l => c_X8_isToldAlready l E _ _ _ _ _ _ _ _ _ _ _ _ _ _ _ _ _ _ _ _ _ _ _ _ _ _ _ _ _ _ _ _ _ _ _ _ _ _ _ (by omega)) ⟨rfl, rfl⟩ ⟨Nat.le_of_ble_eq_true rfl, Nat.le_of_ble_eq_true rfl⟩ [0, 1, 2, 3, 4, 5, 6, 7, 8, 9, 10, 11, 12] rfl rfl 0 rfl dX8_ratchets_105 rfl rfl (Nat.le_of_ble_eq_true rfl) ?_
            refine rh_if_ne (tgt := 115) hX dX8_ratchets_108 (by decide) (fun h108 => ?_) (fun h108 => ?_)
            · skip
              have h108 : cHas (fun k => (rtP C T k).toInt64) (rtP C T i).toInt64 i = true := by rw [← cHas_ext i (rowOk_at hg)]; exact Classical.not_not.mp (fun q => h108 (if_neg q))
              refine rh_iconst hX dX8_ratchets_115 ki_0 ?_
              refine rh_iadd hX dX8_ratchets_116 ?_
              refine rh_istn1 hX dX8_ratchets_117 (by decide) rfl ?_
              refine rh_aload_n hX dX8_ratchets_118 rfl ?_
              refine rh_iload hX dX8_ratchets_119 rfl ?_
              refine rh_i2l hX dX8_ratchets_121 ?_
              refine rh_uV hX lk_X8_299 mvX8_tell (fun l => c_X8_tell l E _ _ _ _ _ _ _ _ _ _ i _ _ _ _ _ _ _ _ _ _ _ _ _ _ _ _ _ _ _ _ _ _ _ _ _ _ _ _ (by omega)) ⟨rfl, rfl⟩ ⟨Nat.le_of_ble_eq_true rfl, Nat.le_of_ble_eq_true rfl⟩ [0, 1, 2, 3, 4, 5, 6, 7, 8, 9, 10, 11, 12] rfl rfl 0 rfl dX8_ratchets_122 rfl rfl (Nat.le_of_ble_eq_true rfl) rfl ?_
              dsimp only [List.cons_append, List.nil_append, List.set_cons_succ, List.set_cons_zero, vput]
              refine rh_inc2 hX dX8_ratchets_125 (by decide) rfl (rn_i1 _) ?_
              refine rh_goto (tgt := 34) hX dX8_ratchets_128 (by decide) ?_
              first | (rw [unN_a h99] at ih; rw [Int32.add_zero]; exact rh_wk (by exact ⟨rfl, rfl, rfl, trivial⟩) (ih _ _ _ _ _ _ _ _ _ _ (by rw [range_push]; exact rowOk_push _ hg (by rw [List.length_map, List.length_range])))) | (rw [unN_b h99 h108] at ih; rw [Int32.add_zero]; exact rh_wk (by exact ⟨rfl, rfl, rfl, trivial⟩) (ih _ _ _ _ _ _ _ _ _ _ (by rw [range_push]; exact rowOk_push _ hg (by rw [List.length_map, List.length_range])))) | (rw [unN_c h99 h108, show nI (unN (rtP C T) i + 1) = nI (unN (rtP C T) i) + 1 from (rn_add _ 1).symm] at ih; exact rh_wk (by exact ⟨rfl, rfl, rfl, trivial⟩) (ih _ _ _ _ _ _ _ _ _ _ (by rw [range_push]; exact rowOk_push _ hg (by rw [List.length_map, List.length_range]))))
            · skip
              have h108 : ¬ cHas (fun k => (rtP C T k).toInt64) (rtP C T i).toInt64 i = true := by rw [← cHas_ext i (rowOk_at hg)]; exact fun q => absurd h108 (by first | (rw [if_pos q]; decide) | exact fun z => absurd (z.symm.trans (if_pos q)) (by decide))
              refine rh_iconst hX dX8_ratchets_111 ki_1 ?_
              refine rh_goto (tgt := 116) hX dX8_ratchets_112 (by decide) ?_
              refine rh_iadd hX dX8_ratchets_116 ?_
              refine rh_istn1 hX dX8_ratchets_117 (by decide) rfl ?_
              refine rh_aload_n hX dX8_ratchets_118 rfl ?_
              refine rh_iload hX dX8_ratchets_119 rfl ?_
              refine rh_i2l hX dX8_ratchets_121 ?_
              refine rh_uV hX lk_X8_299 mvX8_tell (fun l => c_X8_tell l E _ _ _ _ _ _ _ _ _ _ i _ _ _ _ _ _ _ _ _ _ _ _ _ _ _ _ _ _ _ _ _ _ _ _ _ _ _ _ (by omega)) ⟨rfl, rfl⟩ ⟨Nat.le_of_ble_eq_true rfl, Nat.le_of_ble_eq_true rfl⟩ [0, 1, 2, 3, 4, 5, 6, 7, 8, 9, 10, 11, 12] rfl rfl 0 rfl dX8_ratchets_122 rfl rfl (Nat.le_of_ble_eq_true rfl) rfl ?_
              dsimp only [List.cons_append, List.nil_append, List.set_cons_succ, List.set_cons_zero, vput]
              refine rh_inc2 hX dX8_ratchets_125 (by decide) rfl (rn_i1 _) ?_
              refine rh_goto (tgt := 34) hX dX8_ratchets_128 (by decide) ?_
              first | (rw [unN_a h99] at ih; rw [Int32.add_zero]; exact rh_wk (by exact ⟨rfl, rfl, rfl, trivial⟩) (ih _ _ _ _ _ _ _ _ _ _ (by rw [range_push]; exact rowOk_push _ hg (by rw [List.length_map, List.length_range])))) | (rw [unN_b h99 h108] at ih; rw [Int32.add_zero]; exact rh_wk (by exact ⟨rfl, rfl, rfl, trivial⟩) (ih _ _ _ _ _ _ _ _ _ _ (by rw [range_push]; exact rowOk_push _ hg (by rw [List.length_map, List.length_range])))) | (rw [unN_c h99 h108, show nI (unN (rtP C T) i + 1) = nI (unN (rtP C T) i) + 1 from (rn_add _ 1).symm] at ih; exact rh_wk (by exact ⟨rfl, rfl, rfl, trivial⟩) (ih _ _ _ _ _ _ _ _ _ _ (by rw [range_push]; exact rowOk_push _ hg (by rw [List.length_map, List.length_range]))))
        · skip
          obtain ⟨hn2, -⟩ := (mRk_neg (uRk u (nI i) T) T vl1 tp1 lt1 mn1 pd1 ca2 tr2).resolve_right (fun ⟨q, _, z⟩ => h82 (by rw [z]; decide))
          have hr9 : (mRk (uRk u (nI i) T) T vl1 tp1 lt1 mn1 pd1 ca2 tr2).1 = rtP C T i := by rw [hrt, mTh, hn2]
          refine rh_iload_n hX dX8_ratchets_85 rfl ?_
          rw [hr9]
          refine rh_goto (tgt := 94) hX dX8_ratchets_86 (by decide) ?_
          refine rh_ist4 hX dX8_ratchets_94 (by decide) rfl ?_
          refine rh_iload_n hX dX8_ratchets_96 rfl ?_
          refine rh_iload hX dX8_ratchets_97 rfl ?_
          refine rh_if_le (tgt := 115) hX dX8_ratchets_99 (by decide) (fun h99 => ?_) (fun h99 => ?_)
          · skip
            refine rh_iconst hX dX8_ratchets_115 ki_0 ?_
            refine rh_iadd hX dX8_ratchets_116 ?_
            refine rh_istn1 hX dX8_ratchets_117 (by decide) rfl ?_
            refine rh_aload_n hX dX8_ratchets_118 rfl ?_
            refine rh_iload hX dX8_ratchets_119 rfl ?_
            refine rh_i2l hX dX8_ratchets_121 ?_
            refine rh_uV hX lk_X8_299 mvX8_tell (fun l => c_X8_tell l E _ _ _ _ _ _ _ _ _ _ i _ _ _ _ _ _ _ _ _ _ _ _ _ _ _ _ _ _ _ _ _ _ _ _ _ _ _ _ (by omega)) ⟨rfl, rfl⟩ ⟨Nat.le_of_ble_eq_true rfl, Nat.le_of_ble_eq_true rfl⟩ [0, 1, 2, 3, 4, 5, 6, 7, 8, 9, 10, 11, 12] rfl rfl 0 rfl dX8_ratchets_122 rfl rfl (Nat.le_of_ble_eq_true rfl) rfl ?_
            dsimp only [List.cons_append, List.nil_append, List.set_cons_succ, List.set_cons_zero, vput]
            refine rh_inc2 hX dX8_ratchets_125 (by decide) rfl (rn_i1 _) ?_
            refine rh_goto (tgt := 34) hX dX8_ratchets_128 (by decide) ?_
            first | (rw [unN_a h99] at ih; rw [Int32.add_zero]; exact rh_wk (by exact ⟨rfl, rfl, rfl, trivial⟩) (ih _ _ _ _ _ _ _ _ _ _ (by rw [range_push]; exact rowOk_push _ hg (by rw [List.length_map, List.length_range])))) | (rw [unN_b h99 h108] at ih; rw [Int32.add_zero]; exact rh_wk (by exact ⟨rfl, rfl, rfl, trivial⟩) (ih _ _ _ _ _ _ _ _ _ _ (by rw [range_push]; exact rowOk_push _ hg (by rw [List.length_map, List.length_range])))) | (rw [unN_c h99 h108, show nI (unN (rtP C T) i + 1) = nI (unN (rtP C T) i) + 1 from (rn_add _ 1).symm] at ih; exact rh_wk (by exact ⟨rfl, rfl, rfl, trivial⟩) (ih _ _ _ _ _ _ _ _ _ _ (by rw [range_push]; exact rowOk_push _ hg (by rw [List.length_map, List.length_range]))))
          · skip
            refine rh_aload_n hX dX8_ratchets_102 rfl ?_
            refine rh_iload hX dX8_ratchets_103 rfl ?_
            refine rh_pV hX lk_X8_311 mvX8_isToldAlready (fun l => c_X8_isToldAlready l E _ _ _ _ _ _ _ _ _ _ _ _ _ _ _ _ _ _ _ _ _ _ _ _ _ _ _ _ _ _ _ _ _ _ _ _ _ _ _ (by omega)) ⟨rfl, rfl⟩ ⟨Nat.le_of_ble_eq_true rfl, Nat.le_of_ble_eq_true rfl⟩ [0, 1, 2, 3, 4, 5, 6, 7, 8, 9, 10, 11, 12] rfl rfl 0 rfl dX8_ratchets_105 rfl rfl (Nat.le_of_ble_eq_true rfl) ?_
            refine rh_if_ne (tgt := 115) hX dX8_ratchets_108 (by decide) (fun h108 => ?_) (fun h108 => ?_)
            · skip
              have h108 : cHas (fun k => (rtP C T k).toInt64) (rtP C T i).toInt64 i = true := by rw [← cHas_ext i (rowOk_at hg)]; exact Classical.not_not.mp (fun q => h108 (if_neg q))
              refine rh_iconst hX dX8_ratchets_115 ki_0 ?_
              refine rh_iadd hX dX8_ratchets_116 ?_
              refine rh_istn1 hX dX8_ratchets_117 (by decide) rfl ?_
              refine rh_aload_n hX dX8_ratchets_118 rfl ?_
              refine rh_iload hX dX8_ratchets_119 rfl ?_
              refine rh_i2l hX dX8_ratchets_121 ?_
              refine rh_uV hX lk_X8_299 mvX8_tell (fun l => c_X8_tell l E _ _ _ _ _ _ _ _ _ _ i _ _ _ _ _ _ _ _ _ _ _ _ _ _ _ _ _ _ _ _ _ _ _ _ _ _ _ _ (by omega)) ⟨rfl, rfl⟩ ⟨Nat.le_of_ble_eq_true rfl, Nat.le_of_ble_eq_true rfl⟩ [0, 1, 2, 3, 4, 5, 6, 7, 8, 9, 10, 11, 12] rfl rfl 0 rfl dX8_ratchets_122 rfl rfl (Nat.le_of_ble_eq_true rfl) rfl ?_
              dsimp only [List.cons_append, List.nil_append, List.set_cons_succ, List.set_cons_zero, vput]
              refine rh_inc2 hX dX8_ratchets_125 (by decide) rfl (rn_i1 _) ?_
              refine rh_goto (tgt := 34) hX dX8_ratchets_128 (by decide) ?_
              first | (rw [unN_a h99] at ih; rw [Int32.add_zero]; exact rh_wk (by exact ⟨rfl, rfl, rfl, trivial⟩) (ih _ _ _ _ _ _ _ _ _ _ (by rw [range_push]; exact rowOk_push _ hg (by rw [List.length_map, List.length_range])))) | (rw [unN_b h99 h108] at ih; rw [Int32.add_zero]; exact rh_wk (by exact ⟨rfl, rfl, rfl, trivial⟩) (ih _ _ _ _ _ _ _ _ _ _ (by rw [range_push]; exact rowOk_push _ hg (by rw [List.length_map, List.length_range])))) | (rw [unN_c h99 h108, show nI (unN (rtP C T) i + 1) = nI (unN (rtP C T) i) + 1 from (rn_add _ 1).symm] at ih; exact rh_wk (by exact ⟨rfl, rfl, rfl, trivial⟩) (ih _ _ _ _ _ _ _ _ _ _ (by rw [range_push]; exact rowOk_push _ hg (by rw [List.length_map, List.length_range]))))
            · skip
              have h108 : ¬ cHas (fun k => (rtP C T k).toInt64) (rtP C T i).toInt64 i = true := by rw [← cHas_ext i (rowOk_at hg)]; exact fun q => absurd h108 (by first | (rw [if_pos q]; decide) | exact fun z => absurd (z.symm.trans (if_pos q)) (by decide))
              refine rh_iconst hX dX8_ratchets_111 ki_1 ?_
              refine rh_goto (tgt := 116) hX dX8_ratchets_112 (by decide) ?_
              refine rh_iadd hX dX8_ratchets_116 ?_
              refine rh_istn1 hX dX8_ratchets_117 (by decide) rfl ?_
              refine rh_aload_n hX dX8_ratchets_118 rfl ?_
              refine rh_iload hX dX8_ratchets_119 rfl ?_
              refine rh_i2l hX dX8_ratchets_121 ?_
              refine rh_uV hX lk_X8_299 mvX8_tell (fun l => c_X8_tell l E _ _ _ _ _ _ _ _ _ _ i _ _ _ _ _ _ _ _ _ _ _ _ _ _ _ _ _ _ _ _ _ _ _ _ _ _ _ _ (by omega)) ⟨rfl, rfl⟩ ⟨Nat.le_of_ble_eq_true rfl, Nat.le_of_ble_eq_true rfl⟩ [0, 1, 2, 3, 4, 5, 6, 7, 8, 9, 10, 11, 12] rfl rfl 0 rfl dX8_ratchets_122 rfl rfl (Nat.le_of_ble_eq_true rfl) rfl ?_
              dsimp only [List.cons_append, List.nil_append, List.set_cons_succ, List.set_cons_zero, vput]
              refine rh_inc2 hX dX8_ratchets_125 (by decide) rfl (rn_i1 _) ?_
              refine rh_goto (tgt := 34) hX dX8_ratchets_128 (by decide) ?_
              first | (rw [unN_a h99] at ih; rw [Int32.add_zero]; exact rh_wk (by exact ⟨rfl, rfl, rfl, trivial⟩) (ih _ _ _ _ _ _ _ _ _ _ (by rw [range_push]; exact rowOk_push _ hg (by rw [List.length_map, List.length_range])))) | (rw [unN_b h99 h108] at ih; rw [Int32.add_zero]; exact rh_wk (by exact ⟨rfl, rfl, rfl, trivial⟩) (ih _ _ _ _ _ _ _ _ _ _ (by rw [range_push]; exact rowOk_push _ hg (by rw [List.length_map, List.length_range])))) | (rw [unN_c h99 h108, show nI (unN (rtP C T) i + 1) = nI (unN (rtP C T) i) + 1 from (rn_add _ 1).symm] at ih; exact rh_wk (by exact ⟨rfl, rfl, rfl, trivial⟩) (ih _ _ _ _ _ _ _ _ _ _ (by rw [range_push]; exact rowOk_push _ hg (by rw [List.length_map, List.length_range]))))
      · intro c hc0 hc ihc
        refine rh_iload_n hX dX8_ratchets_45 rfl ?_
        refine rh_aload_n hX dX8_ratchets_46 rfl ?_
        refine rh_get hX gl_X8_7 0 dX8_ratchets_47 rfl rfl ?_
        refine rh_bipush hX dX8_ratchets_50 kb_57 ?_
        refine rh_iaload hX 1 _ dX8_ratchets_52 rfl rn_c57 (by omega) (by decide) ?_
        rw [uRk_57, hT]
        refine rh_icmp_ge_f (tgt := 72) hX dX8_ratchets_53 (by decide) (nI_ge hc (by omega)) ?_
        refine rh_aload_n hX dX8_ratchets_56 rfl ?_
        refine rh_get hX gl_X8_7 0 dX8_ratchets_57 rfl rfl ?_
        refine rh_bipush hX dX8_ratchets_60 kb_70 ?_
        refine rh_iload_n hX dX8_ratchets_62 rfl ?_
        refine rh_iadd hX dX8_ratchets_63 ?_
        refine rh_iload_n hX dX8_ratchets_64 rfl ?_
        refine rh_iastore hX 1 (70 + c) dX8_ratchets_65 rfl (rn_a rn_c70 rfl) (by omega) (by decide) rfl ?_
        dsimp only [List.cons_append, List.nil_append, List.set_cons_succ, List.set_cons_zero, vput]
        refine rh_inc3 hX dX8_ratchets_66 (by decide) rfl (rn_i1 _) ?_
        refine rh_goto (tgt := 45) hX dX8_ratchets_69 (by decide) ?_
        rw [← uRk_s u (nI i) hc0] at ihc
        exact ihc
  · skip
    obtain ⟨hxb, hxn⟩ := rd_bad hCs hCl hrd h14
    refine rh_bipush hX dX8_ratchets_17 kb_m21 ?_
    refine rh_aload_n hX dX8_ratchets_19 rfl ?_
    refine rh_get hX gl_X8_105 0 dX8_ratchets_20 rfl rfl ?_
    refine rh_isub hX dX8_ratchets_23 ?_
    exact rh_iret hX hR dX8_ratchets_24 (by simp only [List.map_cons, List.map_nil, List.cons_append, List.nil_append]) (by first | exact ⟨_, _, _, _, _, _, _, _, _, _, _, _, _, _, _, _, _, _, _, _, rw, rm, by rw [x_ratchets, if_neg hxn, hxb] <;> rfl, by rw [x_ratchets, if_neg hxn, hxb]; exact ⟨rfl, rfl⟩, by rw [x_ratchets, if_neg hxn, hxb], rfl⟩)
