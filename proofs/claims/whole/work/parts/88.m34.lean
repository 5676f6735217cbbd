theorem rk_lt {u : Nat → Int32} {T : Nat} {vl tp lt : Int32} {mn : Nat → Int32} {pd : Int64} {ca tr : Nat → Int64} (h : ¬ (mRk u T vl tp lt mn pd ca tr).1 = 0) : ¬ 0 ≤ (mRk u T vl tp lt mn pd ca tr).1 := by
  rcases mRk_neg u T vl tp lt mn pd ca tr with z | ⟨q, z1, z2⟩
  · exact z.2
  · exact absurd z2 h
theorem mOk_T {u : Nat → Int32} {a b : Nat} (h : mOk u a) (k : mOk u b) : a = b := rn_inj (h.1.symm.trans k.1) (by have := h.2.2.1; omega) (by have := k.2.2.1; omega)
theorem rkR_th {T : Nat} {mn : Nat → Int32} {ra pf pt pl vl : Int32} {pd : Int64} {R : LPR} {X : Int32 × Option ((Nat → Int64) × Int64 × Nat × Int64)} (h : rkR T mn ra pf pt pl vl pd R X) : X.1 = mTh R := by
  unfold mTh
  rcases h with ⟨a, b, c⟩ | ⟨p, fd, a, b, c, d, e, f⟩
  · rw [a, c]
  · rw [a, e]
theorem pT_dv0 {u mn : Nat → Int32} {pd : Int64} {T : Nat} {tr : Nat → Int64} (hI : mI u T) : ∀ t h, 1 ≤ t → t < T → h < 8 → ¬ (pH mn pd 0 t (cAllHeld (fm (pT mn pd 0 (u, tr, (0 : Int32)) t).1) t) ((pT mn pd 0 (u, tr, (0 : Int32)) t).1, va_up (pT mn pd 0 (u, tr, (0 : Int32)) t).2.1 t 0, (pT mn pd 0 (u, tr, (0 : Int32)) t).2.2) h).1 (6 * h + t) ≤ 0 → ¬ cAllHeld (fm (pT mn pd 0 (u, tr, (0 : Int32)) t).1) t = 0 := by
  intro t h h1 ht hh hp
  rw [pH_dn0] at hp
  rw [pT_dn0] at hp ⊢
  have := all_pos hI ht hh hp
  intro q
  rw [q] at this
  exact absurd this (by decide)
theorem x_thoughtG_s {C : CT} {T : Nat} {p : Int32} {fd : Nat → Int64} {a c : Int64} {b : Nat} : x_thoughtG C T (p, some (fd, a, b, c)) = (p, clT C, some ([a, (nI b).toInt64, c, fd 170] ++ (List.range T).map (fun c => cFact fd (c + 1) 1))) := rfl
theorem x_dilutedG_s {C : CT} {T h : Nat} {p : Int32} {fd : Nat → Int64} {a c : Int64} {b : Nat} : x_dilutedG C T h (p, some (fd, a, b, c)) = ((cQuot (1000 * cClaim fd h (T + 1)) c).toInt32, clT C, some [cQuot (1000 * cClaim C.1 h T) (cSize C.1 T), cClaim fd h (T + 1)]) := rfl
theorem x_dilutedG_n {C : CT} {T h : Nat} {p : Int32} : x_dilutedG C T h (p, none) = (p, clT C, none) := rfl
theorem x_thoughtG_n {C : CT} {T : Nat} {p : Int32} : x_thoughtG C T (p, none) = (p, clT C, none) := rfl

set_option maxRecDepth 100000 in
set_option maxHeartbeats 4000000 in
theorem c_X8_thought (l : Launch) (E : rhE) (B : Nat → Nat) (u : Nat → Int32) (kp : Nat → Int32) (ik : Int32) (ps : Nat → Int32) (pm : Nat) (dd : Int32) (tx : Nat → Int32) (ty : Nat) (rw : Nat → Int64) (rm : Nat) (th : Int32) (sz : Nat) (he : Nat) (wr : Int32) (mn : Nat → Int32) (vl : Int32) (tp : Int32) (lt : Int32) (ra : Int32) (pf : Int32) (pt : Int32) (pl : Int32) (pd : Int64) (prc : Int64) (ns : Int64) (tu : Nat) (ba : Int64) (na : Int64) (ca : Nat → Int64) (bo : Nat → Int32) (tr : Nat → Int64) (tH : Int32) (asd : Nat → Int32) (pa : Nat → Int64) (tg : Nat → Int64) (sd : Int64) (sr : Int64) (C : CT) (hCu : C.1 = fm u) (hCs : C.2.2.2.2.2.2.2.1 = sC tx) (hCl : C.2.2.2.2.2.2.2.2.1 = ty) (T : Nat) (hI : mI u T) (hty : ty ≤ 200) (hbt : byteOk tx ty)  : Ctr l E yX8_thought cX8_thought 3 (some .int) (rmL 8) [.ref (B 0)] (wM E B u kp ik ps pm dd tx ty rw rm th sz he wr mn vl tp lt ra pf pt pl pd prc ns tu ba na ca bo tr tH asd pa tg sd sr) (fun r w => ∃ he1 wr1 mn1 vl1 tp1 lt1 ra1 pf1 pt1 pl1 pd1 prc1 ns1 tu1 ba1 na1 ca1 tr1 tH1 asd1 rw1 rm1, r = some (Value.int (x_thought C T).1) ∧ mTold rw rm rw1 rm1 (x_thought C T).2.2 ∧ (x_thought C T).2.1 = clT C ∧ w = (wM E B u kp ik ps pm dd tx 0 rw1 rm1 0 ty he1 wr1 mn1 vl1 tp1 lt1 ra1 pf1 pt1 pl1 pd1 prc1 ns1 tu1 ba1 na1 ca1 bo tr1 tH1 asd1 pa tg sd sr)) := by
  refine Ctr.of (by decide) (Nat.le_of_ble_eq_true rfl) rfl rfl 2 ?_
  intro X hX hR
  have hM := hI.ok
  obtain ⟨hT, hT1, hT6, hcv⟩ := id hM
  refine rh_aload_n hX dX8_thought_0 rfl ?_
  refine rh_iconst hX dX8_thought_1 ki_0 ?_
  refine rh_put hX gl_X8_48 0 dX8_thought_2 rfl rfl rfl (Nat.le_of_ble_eq_true rfl) rfl ?_
  dsimp only [List.cons_append, List.nil_append, List.set_cons_succ, List.set_cons_zero, vput]
  refine rh_aload_n hX dX8_thought_5 rfl ?_
  refine rh_uV hX lk_X8_293 mvX8_readsRound (fun l => c_X8_readsRound l E _ _ _ _ _ _ _ _ _ _ _ _ _ _ _ _ _ _ _ _ _ _ _ _ _ _ _ _ _ _ _ _ _ _ _ _ _ _ hty hbt) ⟨rfl, rfl⟩ ⟨Nat.le_of_ble_eq_true rfl, Nat.le_of_ble_eq_true rfl⟩ [0, 1, 2, 3, 4, 5, 6, 7, 8, 9, 10, 11, 12] rfl rfl 0 rfl dX8_thought_6 rfl rfl (Nat.le_of_ble_eq_true rfl) rfl ?_
  dsimp only [List.cons_append, List.nil_append, List.set_cons_succ, List.set_cons_zero, vput]
  have hrd0 := rdI_z (rd_rel hbt hty (0, -1, vl, tp, lt, ra, pf, pt, pl)) (w := (0, 0, (tS tx ty (0, -1, vl, tp, lt, ra, pf, pt, pl)).2.2)) rfl
  generalize hRD : mRd tx ty (tS tx ty (0, -1, vl, tp, lt, ra, pf, pt, pl)) = RD9 at hrd0 ⊢
  generalize hTS : (tS tx ty (0, -1, vl, tp, lt, ra, pf, pt, pl)).2.2 = TS9 at hrd0 ⊢
  obtain ⟨he1, wr1, mn1, pd1⟩ := RD9
  obtain ⟨vl1, tp1, lt1, ra1, pf1, pt1, pl1⟩ := TS9
  dsimp only at hrd0 ⊢
  have hrd : rdI (rrF (sC tx) ty) (he1, wr1, mn1, pd1) (0, 0, vl1, tp1, lt1, ra1, pf1, pt1, pl1) := hrd0
  clear hrd0 hRD hTS
  refine rh_aload_n hX dX8_thought_9 rfl ?_
  refine rh_get hX gl_X8_105 0 dX8_thought_10 rfl rfl ?_
  refine rh_iconst hX dX8_thought_13 ki_m1 ?_
  refine rh_icmp_eq (tgt := 25) hX dX8_thought_14 (by decide) (fun h14 => ?_) (fun h14 => ?_)
  · skip
    obtain ⟨hx0, hF, hmn, hpd⟩ := rd_ok hCs hCl hrd h14
    have hmn : mnOk mn1 (tRound C).2.2.2.2.2.2.1 pd1 := hmn
    have hpd : pd1 = (tRound C).2.2.2.2.2.2.2 := hpd
    have hxl := rt_0 hx0
    refine rh_aload_n hX dX8_thought_25 rfl ?_
    refine rh_uV hX lk_X8_68 mvX8_lays (fun l => c_X8_lays l E _ _ _ _ _ _ _ _ _ _ _ _ _ _ _ _ _ _ _ _ _ _ _ _ _ _ _ _ _ _ _ _ _ _ _ _ _ _ ) ⟨rfl, rfl⟩ ⟨Nat.le_of_ble_eq_true rfl, Nat.le_of_ble_eq_true rfl⟩ [0, 1, 2, 3, 4, 5, 6, 7, 8, 9, 10, 11, 12] rfl rfl 0 rfl dX8_thought_26 rfl rfl (Nat.le_of_ble_eq_true rfl) rfl ?_
    dsimp only [List.cons_append, List.nil_append, List.set_cons_succ, List.set_cons_zero, vput]
    refine rh_aload_n hX dX8_thought_29 rfl ?_
    refine rh_callV hX lk_X8_296 mvX8_reckons (fun l => c_X8_reckons l E _ _ _ _ _ _ _ _ _ _ _ _ _ _ _ _ _ _ _ _ _ _ _ _ _ _ _ _ _ _ _ _ _ _ _ _ _ _ T hM (pT_dv hI hmn) (hc8_of hI) (rdF_tp hF)) ⟨rfl, rfl⟩ ⟨Nat.le_of_ble_eq_true rfl, Nat.le_of_ble_eq_true rfl⟩ [0, 1, 2, 3, 4, 5, 6, 7, 8, 9, 10, 11, 12] rfl rfl 0 rfl dX8_thought_30 rfl rfl (Nat.le_of_ble_eq_true rfl) (fun r w hp hf => ?_)
    obtain ⟨u1, prc1, ns1, tu1, ba1, na1, ca1, tr1, tH1, rfl, hgood, ⟨T9, hT9⟩, rfl⟩ := hp
    dsimp only [vput, List.set_cons_succ, List.set_cons_zero, Option.toList, List.cons_append, List.nil_append]
    have hrk : rkR T mn1 ra1 pf1 pt1 pl1 vl1 pd1 (mRk u T vl1 tp1 lt1 mn1 pd1 ca tr) (xDS C.1 T (tRound C).2.2) := by rw [hCu]; exact rk_rel hI hmn hpd hF
    refine rh_istn1 hX dX8_thought_33 (by decide) rfl ?_
    refine rh_iload_n hX dX8_thought_34 rfl ?_
    refine rh_if_ne (tgt := 113) hX dX8_thought_35 (by decide) (fun h35 => ?_) (fun h35 => ?_)
    · skip
      have hlt := rk_lt h35
      have hX9 := rk_no hrk hlt
      refine rh_aload_n hX dX8_thought_113 rfl ?_
      refine rh_uV hX lk_X8_146 mvX8_puts (fun l => c_X8_puts l E _ _ _ _ _ _ _ _ _ _ _ _ _ _ _ _ _ _ _ _ _ _ _ _ _ _ _ _ _ _ _ _ _ _ _ _ _ _ ) ⟨rfl, rfl⟩ ⟨Nat.le_of_ble_eq_true rfl, Nat.le_of_ble_eq_true rfl⟩ [0, 1, 2, 3, 4, 5, 6, 7, 8, 9, 10, 11, 12] rfl rfl 0 rfl dX8_thought_114 rfl rfl (Nat.le_of_ble_eq_true rfl) rfl ?_
      dsimp only [List.cons_append, List.nil_append, List.set_cons_succ, List.set_cons_zero, vput]
      refine rh_iload_n hX dX8_thought_117 rfl ?_
      refine rh_if_ge_f (tgt := 125) hX dX8_thought_118 (by decide) hlt ?_
      refine rh_iload_n hX dX8_thought_121 rfl ?_
      refine rh_goto (tgt := 130) hX dX8_thought_122 (by decide) ?_
      exact rh_iret hX hR dX8_thought_130 (by simp only [List.map_cons, List.map_nil, List.cons_append, List.nil_append]) ⟨_, _, _, _, _, _, _, _, _, _, _, _, _, _, _, _, _, _, _, _, rw, rm, by rw [x_thought, if_pos hxl, hX9, x_thoughtG_n], by rw [x_thought, if_pos hxl, hX9, x_thoughtG_n]; exact ⟨rfl, rfl⟩, by rw [x_thought, if_pos hxl, hX9, x_thoughtG_n], rfl⟩
    · skip
      obtain ⟨p9, fd9, hp9, hT5, htu9, hpr9, hX9, hfd9, hmI9⟩ := hrk.resolve_left (fun z => z.2.1 (by rw [h35]; decide))
      obtain ⟨rfl, rfl, rfl, rfl, htu2, hmk9⟩ := hgood p9 hp9
      rw [h35]
      refine rh_aload_n hX dX8_thought_38 rfl ?_
      refine rh_iconst hX dX8_thought_39 ki_0 ?_
      refine rh_put hX gl_X8_52 0 dX8_thought_40 rfl rfl rfl (Nat.le_of_ble_eq_true rfl) rfl ?_
      dsimp only [List.cons_append, List.nil_append, List.set_cons_succ, List.set_cons_zero, vput]
      refine rh_aload_n hX dX8_thought_43 rfl ?_
      refine rh_aload_n hX dX8_thought_44 rfl ?_
      refine rh_get hX gl_X8_272 0 dX8_thought_45 rfl rfl ?_
      refine rh_uV hX lk_X8_299 mvX8_tell (fun l => c_X8_tell l E _ _ _ _ _ _ _ _ _ _ 0 _ _ _ _ _ _ _ _ _ _ _ _ _ _ _ _ _ _ _ _ _ _ _ _ _ _ _ _ (by omega)) ⟨rfl, rfl⟩ ⟨Nat.le_of_ble_eq_true rfl, Nat.le_of_ble_eq_true rfl⟩ [0, 1, 2, 3, 4, 5, 6, 7, 8, 9, 10, 11, 12] rfl rfl 0 rfl dX8_thought_48 rfl rfl (Nat.le_of_ble_eq_true rfl) rfl ?_
      dsimp only [List.cons_append, List.nil_append, List.set_cons_succ, List.set_cons_zero, vput]
      refine rh_aload_n hX dX8_thought_51 rfl ?_
      refine rh_aload_n hX dX8_thought_52 rfl ?_
      refine rh_get hX gl_X8_287 0 dX8_thought_53 rfl rfl ?_
      refine rh_i2l hX dX8_thought_56 ?_
      refine rh_uV hX lk_X8_299 mvX8_tell (fun l => c_X8_tell l E _ _ _ _ _ _ _ _ _ _ (0 + 1) _ _ _ _ _ _ _ _ _ _ _ _ _ _ _ _ _ _ _ _ _ _ _ _ _ _ _ _ (by omega)) ⟨rfl, rfl⟩ ⟨Nat.le_of_ble_eq_true rfl, Nat.le_of_ble_eq_true rfl⟩ [0, 1, 2, 3, 4, 5, 6, 7, 8, 9, 10, 11, 12] rfl rfl 0 rfl dX8_thought_57 rfl rfl (Nat.le_of_ble_eq_true rfl) rfl ?_
      dsimp only [List.cons_append, List.nil_append, List.set_cons_succ, List.set_cons_zero, vput]
      refine rh_aload_n hX dX8_thought_60 rfl ?_
      refine rh_aload_n hX dX8_thought_61 rfl ?_
      refine rh_pV hX lk_X8_143 mvX8_fullNow (fun l => c_X8_fullNow l E _ _ _ _ _ _ _ _ _ _ _ _ _ _ _ _ _ _ _ _ _ _ _ _ _ _ _ _ _ _ _ _ _ _ _ _ _ _ (T + 1) hmI9.ok) ⟨rfl, rfl⟩ ⟨Nat.le_of_ble_eq_true rfl, Nat.le_of_ble_eq_true rfl⟩ [0, 1, 2, 3, 4, 5, 6, 7, 8, 9, 10, 11, 12] rfl rfl 0 rfl dX8_thought_62 rfl rfl (Nat.le_of_ble_eq_true rfl) ?_
      refine rh_uV hX lk_X8_299 mvX8_tell (fun l => c_X8_tell l E _ _ _ _ _ _ _ _ _ _ (0 + 1 + 1) _ _ _ _ _ _ _ _ _ _ _ _ _ _ _ _ _ _ _ _ _ _ _ _ _ _ _ _ (by omega)) ⟨rfl, rfl⟩ ⟨Nat.le_of_ble_eq_true rfl, Nat.le_of_ble_eq_true rfl⟩ [0, 1, 2, 3, 4, 5, 6, 7, 8, 9, 10, 11, 12] rfl rfl 0 rfl dX8_thought_65 rfl rfl (Nat.le_of_ble_eq_true rfl) rfl ?_
      dsimp only [List.cons_append, List.nil_append, List.set_cons_succ, List.set_cons_zero, vput]
      refine rh_aload_n hX dX8_thought_68 rfl ?_
      refine rh_aload_n hX dX8_thought_69 rfl ?_
      refine rh_get hX gl_X8_7 0 dX8_thought_70 rfl rfl ?_
      refine rh_bipush hX dX8_thought_73 kb_56 ?_
      refine rh_iaload hX 1 _ dX8_thought_75 rfl rn_c56 (by omega) (by decide) ?_
      refine rh_i2l hX dX8_thought_76 ?_
      rw [fm_pool]
      refine rh_uV hX lk_X8_299 mvX8_tell (fun l => c_X8_tell l E _ _ _ _ _ _ _ _ _ _ (0 + 1 + 1 + 1) _ _ _ _ _ _ _ _ _ _ _ _ _ _ _ _ _ _ _ _ _ _ _ _ _ _ _ _ (by omega)) ⟨rfl, rfl⟩ ⟨Nat.le_of_ble_eq_true rfl, Nat.le_of_ble_eq_true rfl⟩ [0, 1, 2, 3, 4, 5, 6, 7, 8, 9, 10, 11, 12] rfl rfl 0 rfl dX8_thought_77 rfl rfl (Nat.le_of_ble_eq_true rfl) rfl ?_
      dsimp only [List.cons_append, List.nil_append, List.set_cons_succ, List.set_cons_zero, vput]
      refine rh_iconst hX dX8_thought_80 ki_1 ?_
      refine rh_istn2 hX dX8_thought_81 (by decide) rfl ?_
      refine (rh_loop (P := fun c => ∀ g1, rowOk g1 ([p9.2.2.1, (nI p9.2.2.2).toInt64, cSize (fm (aM3 (aMq T mn1 ra1 pf1 pt1 pl1 vl1 pd1 p9) T)) (T + 1), fm (aM3 (aMq T mn1 ra1 pf1 pt1 pl1 vl1 pd1 p9) T) 170] ++ (List.range (c - 1)).map (fun k => cFact (fm (aM3 (aMq T mn1 ra1 pf1 pt1 pl1 vl1 pd1 p9) T)) (k + 1) 1)) → G X 82 [some (.ref (B 0)), some (.int 0), some (.int (nI c))] [] (wM E B (aM3 (aMq T mn1 ra1 pf1 pt1 pl1 vl1 pd1 p9) T) kp ik ps pm dd tx 0 g1 (c + 3) 0 ty he1 wr1 mn1 vl1 tp1 lt1 ra1 pf1 pt1 pl1 pd1 p9.2.1 p9.2.2.1 p9.2.2.2 ba1 na1 ca1 bo tr1 tH1 u pa tg sd sr)) (1) (T + 1) (by omega) ?_ ?_) _ (rowOk_push _ (rowOk3 _ _ _ _) rfl)
      · intro g1 hg
        refine rh_iload_n hX dX8_thought_82 rfl ?_
        refine rh_aload_n hX dX8_thought_83 rfl ?_
        refine rh_get hX gl_X8_7 0 dX8_thought_84 rfl rfl ?_
        refine rh_bipush hX dX8_thought_87 kb_57 ?_
        refine rh_iaload hX 1 _ dX8_thought_89 rfl rn_c57 (by omega) (by decide) ?_
        refine rh_icmp_ge_t (tgt := 113) hX dX8_thought_90 (by decide) (by rw [hmI9.ok.1]; exact nI_le (Nat.le_refl _) (by omega)) ?_
        refine rh_aload_n hX dX8_thought_113 rfl ?_
        refine rh_uV hX lk_X8_146 mvX8_puts (fun l => c_X8_puts l E _ _ _ _ _ _ _ _ _ _ _ _ _ _ _ _ _ _ _ _ _ _ _ _ _ _ _ _ _ _ _ _ _ _ _ _ _ _ ) ⟨rfl, rfl⟩ ⟨Nat.le_of_ble_eq_true rfl, Nat.le_of_ble_eq_true rfl⟩ [0, 1, 2, 3, 4, 5, 6, 7, 8, 9, 10, 11, 12] rfl rfl 0 rfl dX8_thought_114 rfl rfl (Nat.le_of_ble_eq_true rfl) rfl ?_
        dsimp only [List.cons_append, List.nil_append, List.set_cons_succ, List.set_cons_zero, vput]
        refine rh_iload_n hX dX8_thought_117 rfl ?_
        refine rh_if_ge_t (tgt := 125) hX dX8_thought_118 (by decide) (by decide) ?_
        have hrow : (List.range T).map (fun c => cFact fd9 (c + 1) 1) = (List.range T).map (fun k => cFact (fm (aM3 (aMq T mn1 ra1 pf1 pt1 pl1 vl1 pd1 p9) T)) (k + 1) 1) := List.map_congr_left (fun c hc => hfd9 _ (by have := List.mem_range.mp hc; omega))
        refine rh_aload_n hX dX8_thought_125 rfl ?_
        refine rh_get hX gl_X8_269 0 dX8_thought_126 rfl rfl ?_
        refine rh_l2i hX dX8_thought_129 ?_
        exact rh_iret hX hR dX8_thought_130 (by simp only [List.map_cons, List.map_nil, List.cons_append, List.nil_append]) ⟨_, _, _, _, _, _, _, _, _, _, _, _, _, _, _, _, _, _, _, _, g1, T + 1 + 3, by rw [x_thought, if_pos hxl, hX9, x_thoughtG_s], by rw [x_thought, if_pos hxl, hX9, x_thoughtG_s, hfd9 170 (by omega), hrow]; exact ⟨hg, by simp⟩, by rw [x_thought, if_pos hxl, hX9, x_thoughtG_s], rfl⟩
      · intro c hc0 hc ihc g1 hg
        obtain ⟨e, rfl⟩ : ∃ e, c = e + 1 := ⟨c - 1, by omega⟩
        refine rh_iload_n hX dX8_thought_82 rfl ?_
        refine rh_aload_n hX dX8_thought_83 rfl ?_
        refine rh_get hX gl_X8_7 0 dX8_thought_84 rfl rfl ?_
        refine rh_bipush hX dX8_thought_87 kb_57 ?_
        refine rh_iaload hX 1 _ dX8_thought_89 rfl rn_c57 (by omega) (by decide) ?_
        refine rh_icmp_ge_f (tgt := 113) hX dX8_thought_90 (by decide) (by rw [hmI9.ok.1]; exact nI_ge hc (by omega)) ?_
        refine rh_aload_n hX dX8_thought_93 rfl ?_
        refine rh_aload_n hX dX8_thought_94 rfl ?_
        refine rh_get hX gl_X8_7 0 dX8_thought_95 rfl rfl ?_
        refine rh_bipush hX dX8_thought_98 kb_64 ?_
        refine rh_iload_n hX dX8_thought_100 rfl ?_
        refine rh_iadd hX dX8_thought_101 ?_
        refine rh_iaload hX 1 (64 + (e + 1)) dX8_thought_102 rfl (rn_a rn_c64 rfl) (by omega) (by decide) ?_
        refine rh_i2l hX dX8_thought_103 ?_
        rw [show ((aM3 (aMq T mn1 ra1 pf1 pt1 pl1 vl1 pd1 p9) T) (64 + (e + 1))).toInt64 = cFact (fm (aM3 (aMq T mn1 ra1 pf1 pt1 pl1 vl1 pd1 p9) T)) (e + 1) 1 from fm_fact (aM3 (aMq T mn1 ra1 pf1 pt1 pl1 vl1 pd1 p9) T) (k := 1) (by omega) (by omega)]
        refine rh_uV hX lk_X8_299 mvX8_tell (fun l => c_X8_tell l E _ _ _ _ _ _ _ _ _ _ (e + 1 + 3) _ _ _ _ _ _ _ _ _ _ _ _ _ _ _ _ _ _ _ _ _ _ _ _ _ _ _ _ (by omega)) ⟨rfl, rfl⟩ ⟨Nat.le_of_ble_eq_true rfl, Nat.le_of_ble_eq_true rfl⟩ [0, 1, 2, 3, 4, 5, 6, 7, 8, 9, 10, 11, 12] rfl rfl 0 rfl dX8_thought_104 rfl rfl (Nat.le_of_ble_eq_true rfl) rfl ?_
        dsimp only [List.cons_append, List.nil_append, List.set_cons_succ, List.set_cons_zero, vput]
        refine rh_inc2 hX dX8_thought_107 (by decide) rfl (rn_i1 _) ?_
        refine rh_goto (tgt := 82) hX dX8_thought_110 (by decide) ?_
        exact ihc _ (by rw [show e + 1 + 1 - 1 = e + 1 by omega, range_push, ← List.append_assoc]; exact rowOk_push _ hg (by rw [List.length_append, List.length_map, List.length_range]; simp; omega))
  · skip
    obtain ⟨hxb, hxn⟩ := rd_bad hCs hCl hrd h14
    refine rh_bipush hX dX8_thought_17 kb_m21 ?_
    refine rh_aload_n hX dX8_thought_19 rfl ?_
    refine rh_get hX gl_X8_105 0 dX8_thought_20 rfl rfl ?_
    refine rh_isub hX dX8_thought_23 ?_
    exact rh_iret hX hR dX8_thought_24 (by simp only [List.map_cons, List.map_nil, List.cons_append, List.nil_append]) (by first | exact ⟨_, _, _, _, _, _, _, _, _, _, _, _, _, _, _, _, _, _, _, _, rw, rm, by rw [x_thought, if_neg hxn, hxb] <;> rfl, by rw [x_thought, if_neg hxn, hxb]; exact ⟨rfl, rfl⟩, by rw [x_thought, if_neg hxn, hxb], rfl⟩)

set_option maxRecDepth 100000 in
set_option maxHeartbeats 4000000 in
theorem c_X8_diluted (l : Launch) (E : rhE) (B : Nat → Nat) (u : Nat → Int32) (kp : Nat → Int32) (ik : Int32) (ps : Nat → Int32) (pm : Nat) (dd : Int32) (tx : Nat → Int32) (ty : Nat) (rw : Nat → Int64) (rm : Nat) (th : Int32) (sz : Nat) (he : Nat) (wr : Int32) (mn : Nat → Int32) (vl : Int32) (tp : Int32) (lt : Int32) (ra : Int32) (pf : Int32) (pt : Int32) (pl : Int32) (pd : Int64) (prc : Int64) (ns : Int64) (tu : Nat) (ba : Int64) (na : Int64) (ca : Nat → Int64) (bo : Nat → Int32) (tr : Nat → Int64) (tH : Int32) (asd : Nat → Int32) (pa : Nat → Int64) (tg : Nat → Int64) (sd : Int64) (sr : Int64) (h : Int32) (C : CT) (hCu : C.1 = fm u) (hCs : C.2.2.2.2.2.2.2.1 = sC tx) (hCl : C.2.2.2.2.2.2.2.2.1 = ty) (T : Nat) (hI : mI u T) (hty : ty ≤ 200) (hbt : byteOk tx ty)  : Ctr l E yX8_diluted cX8_diluted 9 (some .int) (rmL 8) [.ref (B 0), .int h] (wM E B u kp ik ps pm dd tx ty rw rm th sz he wr mn vl tp lt ra pf pt pl pd prc ns tu ba na ca bo tr tH asd pa tg sd sr) (fun r w => ∃ he1 wr1 mn1 vl1 tp1 lt1 ra1 pf1 pt1 pl1 pd1 prc1 ns1 tu1 ba1 na1 ca1 tr1 tH1 asd1 rw1 rm1, r = some (Value.int (x_diluted C T h).1) ∧ mTold rw rm rw1 rm1 (x_diluted C T h).2.2 ∧ (x_diluted C T h).2.1 = clT C ∧ w = (wM E B u kp ik ps pm dd tx 0 rw1 rm1 0 ty he1 wr1 mn1 vl1 tp1 lt1 ra1 pf1 pt1 pl1 pd1 prc1 ns1 tu1 ba1 na1 ca1 bo tr1 tH1 asd1 pa tg sd sr)) := by
  refine Ctr.of (by decide) (Nat.le_of_ble_eq_true rfl) rfl rfl 7 ?_
  intro X hX hR
  have hM := hI.ok
  obtain ⟨hT, hT1, hT6, hcv⟩ := id hM
  refine rh_aload_n hX dX8_diluted_0 rfl ?_
  refine rh_iconst hX dX8_diluted_1 ki_0 ?_
  refine rh_put hX gl_X8_48 0 dX8_diluted_2 rfl rfl rfl (Nat.le_of_ble_eq_true rfl) rfl ?_
  dsimp only [List.cons_append, List.nil_append, List.set_cons_succ, List.set_cons_zero, vput]
  refine rh_aload_n hX dX8_diluted_5 rfl ?_
  refine rh_uV hX lk_X8_293 mvX8_readsRound (fun l => c_X8_readsRound l E _ _ _ _ _ _ _ _ _ _ _ _ _ _ _ _ _ _ _ _ _ _ _ _ _ _ _ _ _ _ _ _ _ _ _ _ _ _ hty hbt) ⟨rfl, rfl⟩ ⟨Nat.le_of_ble_eq_true rfl, Nat.le_of_ble_eq_true rfl⟩ [0, 1, 2, 3, 4, 5, 6, 7, 8, 9, 10, 11, 12] rfl rfl 0 rfl dX8_diluted_6 rfl rfl (Nat.le_of_ble_eq_true rfl) rfl ?_
  dsimp only [List.cons_append, List.nil_append, List.set_cons_succ, List.set_cons_zero, vput]
  have hrd0 := rdI_z (rd_rel hbt hty (0, -1, vl, tp, lt, ra, pf, pt, pl)) (w := (0, 0, (tS tx ty (0, -1, vl, tp, lt, ra, pf, pt, pl)).2.2)) rfl
  generalize hRD : mRd tx ty (tS tx ty (0, -1, vl, tp, lt, ra, pf, pt, pl)) = RD9 at hrd0 ⊢
  generalize hTS : (tS tx ty (0, -1, vl, tp, lt, ra, pf, pt, pl)).2.2 = TS9 at hrd0 ⊢
  obtain ⟨he1, wr1, mn1, pd1⟩ := RD9
  obtain ⟨vl1, tp1, lt1, ra1, pf1, pt1, pl1⟩ := TS9
  dsimp only at hrd0 ⊢
  have hrd : rdI (rrF (sC tx) ty) (he1, wr1, mn1, pd1) (0, 0, vl1, tp1, lt1, ra1, pf1, pt1, pl1) := hrd0
  clear hrd0 hRD hTS
  refine rh_aload_n hX dX8_diluted_9 rfl ?_
  refine rh_get hX gl_X8_105 0 dX8_diluted_10 rfl rfl ?_
  refine rh_iconst hX dX8_diluted_13 ki_m1 ?_
  refine rh_icmp_eq (tgt := 25) hX dX8_diluted_14 (by decide) (fun h14 => ?_) (fun h14 => ?_)
  · skip
    obtain ⟨hx0, hF, hmn, hpd⟩ := rd_ok hCs hCl hrd h14
    have hmn : mnOk mn1 (tRound C).2.2.2.2.2.2.1 pd1 := hmn
    have hpd : pd1 = (tRound C).2.2.2.2.2.2.2 := hpd
    have hxl := rt_0 hx0
    refine rh_iload_n hX dX8_diluted_25 rfl ?_
    refine rh_pS hX lk_X8_140 msX8_isHolder (fun l => c_X8_isHolderH l E _) ⟨rfl, rfl⟩ ⟨Nat.le_of_ble_eq_true rfl, Nat.le_of_ble_eq_true rfl⟩ [] rfl rfl dX8_diluted_26 rfl rfl (Nat.le_of_ble_eq_true rfl) ?_
    refine rh_if_ne (tgt := 34) hX dX8_diluted_29 (by decide) (fun h29 => ?_) (fun h29 => ?_)
    · skip
      obtain ⟨hd, rfl, hdl⟩ := xH_1 h29
      refine rh_aload_n hX dX8_diluted_34 rfl ?_
      refine rh_iload_n hX dX8_diluted_35 rfl ?_
      refine rh_pV hX lk_X8_149 mvX8_stakeOf (fun l => c_X8_stakeOf l E _ _ _ _ _ _ _ _ _ _ _ _ _ _ _ _ _ _ _ _ _ _ _ _ _ _ _ _ _ _ _ _ _ _ _ _ _ _ hd T hM (by omega)) ⟨rfl, rfl⟩ ⟨Nat.le_of_ble_eq_true rfl, Nat.le_of_ble_eq_true rfl⟩ [0, 1, 2, 3, 4, 5, 6, 7, 8, 9, 10, 11, 12] rfl rfl 0 rfl dX8_diluted_36 rfl rfl (Nat.le_of_ble_eq_true rfl) ?_
      refine rh_aload_n hX dX8_diluted_39 rfl ?_
      refine rh_pV hX lk_X8_143 mvX8_fullNow (fun l => c_X8_fullNow l E _ _ _ _ _ _ _ _ _ _ _ _ _ _ _ _ _ _ _ _ _ _ _ _ _ _ _ _ _ _ _ _ _ _ _ _ _ _ T hM) ⟨rfl, rfl⟩ ⟨Nat.le_of_ble_eq_true rfl, Nat.le_of_ble_eq_true rfl⟩ [0, 1, 2, 3, 4, 5, 6, 7, 8, 9, 10, 11, 12] rfl rfl 0 rfl dX8_diluted_40 rfl rfl (Nat.le_of_ble_eq_true rfl) ?_
      refine rh_pS hX lk_X8_305 msX8_thousandths (fun l => c_X8_thousandths l E _ _) ⟨rfl, rfl⟩ ⟨Nat.le_of_ble_eq_true rfl, Nat.le_of_ble_eq_true rfl⟩ [] rfl rfl dX8_diluted_43 rfl rfl (Nat.le_of_ble_eq_true rfl) ?_
      rw [mThou _ _ hI.size0]
      refine rh_lstn2 hX dX8_diluted_46 (by decide) rfl ?_
      refine rh_aload_n hX dX8_diluted_47 rfl ?_
      refine rh_uV hX lk_X8_68 mvX8_lays (fun l => c_X8_lays l E _ _ _ _ _ _ _ _ _ _ _ _ _ _ _ _ _ _ _ _ _ _ _ _ _ _ _ _ _ _ _ _ _ _ _ _ _ _ ) ⟨rfl, rfl⟩ ⟨Nat.le_of_ble_eq_true rfl, Nat.le_of_ble_eq_true rfl⟩ [0, 1, 2, 3, 4, 5, 6, 7, 8, 9, 10, 11, 12] rfl rfl 0 rfl dX8_diluted_48 rfl rfl (Nat.le_of_ble_eq_true rfl) rfl ?_
      dsimp only [List.cons_append, List.nil_append, List.set_cons_succ, List.set_cons_zero, vput]
      refine rh_aload_n hX dX8_diluted_51 rfl ?_
      refine rh_callV hX lk_X8_296 mvX8_reckons (fun l => c_X8_reckons l E _ _ _ _ _ _ _ _ _ _ _ _ _ _ _ _ _ _ _ _ _ _ _ _ _ _ _ _ _ _ _ _ _ _ _ _ _ _ T hM (pT_dv hI hmn) (hc8_of hI) (rdF_tp hF)) ⟨rfl, rfl⟩ ⟨Nat.le_of_ble_eq_true rfl, Nat.le_of_ble_eq_true rfl⟩ [0, 1, 2, 3, 4, 5, 6, 7, 8, 9, 10, 11, 12] rfl rfl 0 rfl dX8_diluted_52 rfl rfl (Nat.le_of_ble_eq_true rfl) (fun r w hp hf => ?_)
      obtain ⟨u1, prc1, ns1, tu1, ba1, na1, ca1, tr1, tH1, rfl, hgood, ⟨T9, hT9⟩, rfl⟩ := hp
      dsimp only [vput, List.set_cons_succ, List.set_cons_zero, Option.toList, List.cons_append, List.nil_append]
      have hrk : rkR T mn1 ra1 pf1 pt1 pl1 vl1 pd1 (mRk u T vl1 tp1 lt1 mn1 pd1 ca tr) (xDS C.1 T (tRound C).2.2) := by rw [hCu]; exact rk_rel hI hmn hpd hF
      refine rh_ist4 hX dX8_diluted_55 (by decide) rfl ?_
      refine rh_aload_n hX dX8_diluted_57 rfl ?_
      refine rh_iload_n hX dX8_diluted_58 rfl ?_
      refine rh_pV hX lk_X8_149 mvX8_stakeOf (fun l => c_X8_stakeOf l E _ _ _ _ _ _ _ _ _ _ _ _ _ _ _ _ _ _ _ _ _ _ _ _ _ _ _ _ _ _ _ _ _ _ _ _ _ _ hd T9 hT9 (by omega)) ⟨rfl, rfl⟩ ⟨Nat.le_of_ble_eq_true rfl, Nat.le_of_ble_eq_true rfl⟩ [0, 1, 2, 3, 4, 5, 6, 7, 8, 9, 10, 11, 12] rfl rfl 0 rfl dX8_diluted_59 rfl rfl (Nat.le_of_ble_eq_true rfl) ?_
      refine rh_lst5 hX dX8_diluted_62 (by decide) rfl ?_
      refine rh_lload hX dX8_diluted_64 rfl ?_
      refine rh_aload_n hX dX8_diluted_66 rfl ?_
      refine rh_pV hX lk_X8_143 mvX8_fullNow (fun l => c_X8_fullNow l E _ _ _ _ _ _ _ _ _ _ _ _ _ _ _ _ _ _ _ _ _ _ _ _ _ _ _ _ _ _ _ _ _ _ _ _ _ _ T9 hT9) ⟨rfl, rfl⟩ ⟨Nat.le_of_ble_eq_true rfl, Nat.le_of_ble_eq_true rfl⟩ [0, 1, 2, 3, 4, 5, 6, 7, 8, 9, 10, 11, 12] rfl rfl 0 rfl dX8_diluted_67 rfl rfl (Nat.le_of_ble_eq_true rfl) ?_
      refine rh_pS hX lk_X8_305 msX8_thousandths (fun l => c_X8_thousandths l E _ _) ⟨rfl, rfl⟩ ⟨Nat.le_of_ble_eq_true rfl, Nat.le_of_ble_eq_true rfl⟩ [] rfl rfl dX8_diluted_70 rfl rfl (Nat.le_of_ble_eq_true rfl) ?_
      refine rh_lst7 hX dX8_diluted_73 (by decide) rfl ?_
      refine rh_aload_n hX dX8_diluted_75 rfl ?_
      refine rh_uV hX lk_X8_146 mvX8_puts (fun l => c_X8_puts l E _ _ _ _ _ _ _ _ _ _ _ _ _ _ _ _ _ _ _ _ _ _ _ _ _ _ _ _ _ _ _ _ _ _ _ _ _ _ ) ⟨rfl, rfl⟩ ⟨Nat.le_of_ble_eq_true rfl, Nat.le_of_ble_eq_true rfl⟩ [0, 1, 2, 3, 4, 5, 6, 7, 8, 9, 10, 11, 12] rfl rfl 0 rfl dX8_diluted_76 rfl rfl (Nat.le_of_ble_eq_true rfl) rfl ?_
      dsimp only [List.cons_append, List.nil_append, List.set_cons_succ, List.set_cons_zero, vput]
      refine rh_iload hX dX8_diluted_79 rfl ?_
      refine rh_if_ge (tgt := 87) hX dX8_diluted_81 (by decide) (fun h81 => ?_) (fun h81 => ?_)
      · skip
        obtain ⟨p9, fd9, hp9, hT5, htu9, hpr9, hX9, hfd9, hmI9⟩ := hrk.resolve_left (fun z => z.2.1 h81)
        obtain ⟨rfl, rfl, rfl, rfl, htu2, hmk9⟩ := hgood p9 hp9
        obtain rfl : T9 = T + 1 := mOk_T hT9 hmk9
        have hcs := (cSize_ext (T := T + 1) (by omega) (fun x hx => (hfd9 x (by omega)).symm) (fun x a b => (hfd9 x (by omega)).symm) (fun t w ht hw => (hfd9 _ (by omega)).symm) (hfd9 170 (by omega)).symm)
        refine rh_aload_n hX dX8_diluted_87 rfl ?_
        refine rh_iconst hX dX8_diluted_88 ki_0 ?_
        refine rh_put hX gl_X8_52 0 dX8_diluted_89 rfl rfl rfl (Nat.le_of_ble_eq_true rfl) rfl ?_
        dsimp only [List.cons_append, List.nil_append, List.set_cons_succ, List.set_cons_zero, vput]
        refine rh_aload_n hX dX8_diluted_92 rfl ?_
        refine rh_lload_n hX dX8_diluted_93 rfl ?_
        refine rh_uV hX lk_X8_299 mvX8_tell (fun l => c_X8_tell l E _ _ _ _ _ _ _ _ _ _ 0 _ _ _ _ _ _ _ _ _ _ _ _ _ _ _ _ _ _ _ _ _ _ _ _ _ _ _ _ (by omega)) ⟨rfl, rfl⟩ ⟨Nat.le_of_ble_eq_true rfl, Nat.le_of_ble_eq_true rfl⟩ [0, 1, 2, 3, 4, 5, 6, 7, 8, 9, 10, 11, 12] rfl rfl 0 rfl dX8_diluted_94 rfl rfl (Nat.le_of_ble_eq_true rfl) rfl ?_
        dsimp only [List.cons_append, List.nil_append, List.set_cons_succ, List.set_cons_zero, vput]
        refine rh_aload_n hX dX8_diluted_97 rfl ?_
        refine rh_lload hX dX8_diluted_98 rfl ?_
        refine rh_uV hX lk_X8_299 mvX8_tell (fun l => c_X8_tell l E _ _ _ _ _ _ _ _ _ _ (0 + 1) _ _ _ _ _ _ _ _ _ _ _ _ _ _ _ _ _ _ _ _ _ _ _ _ _ _ _ _ (by omega)) ⟨rfl, rfl⟩ ⟨Nat.le_of_ble_eq_true rfl, Nat.le_of_ble_eq_true rfl⟩ [0, 1, 2, 3, 4, 5, 6, 7, 8, 9, 10, 11, 12] rfl rfl 0 rfl dX8_diluted_100 rfl rfl (Nat.le_of_ble_eq_true rfl) rfl ?_
        dsimp only [List.cons_append, List.nil_append, List.set_cons_succ, List.set_cons_zero, vput]
        refine rh_lload hX dX8_diluted_103 rfl ?_
        refine rh_l2i hX dX8_diluted_105 ?_
        exact rh_iret hX hR dX8_diluted_106 (by simp only [List.map_cons, List.map_nil, List.cons_append, List.nil_append]) (by rw [mThou _ _ hmI9.size0]; refine ⟨_, _, _, _, _, _, _, _, _, _, _, _, _, _, _, _, _, _, _, _, (va_up (va_up rw 0 _) (0 + 1) _), (0 + 1 + 1), ?ga, ?gb, ?gc, rfl⟩; (case ga => rw [x_diluted, if_pos hxl, if_neg h29, nI_clamp (show hd < 2 ^ 31 by omega), hX9, x_dilutedG_s, ← hcs.2.2 hd hdl]); (case gb => rw [x_diluted, if_pos hxl, if_neg h29, nI_clamp (show hd < 2 ^ 31 by omega), hX9, x_dilutedG_s, ← hcs.2.2 hd hdl, hCu]; exact ⟨rowOk2 _ _ _, rfl⟩); (case gc => rw [x_diluted, if_pos hxl, if_neg h29, nI_clamp (show hd < 2 ^ 31 by omega), hX9, x_dilutedG_s]))
      · skip
        have hX9 := rk_no hrk h81
        refine rh_iload hX dX8_diluted_84 rfl ?_
        exact rh_iret hX hR dX8_diluted_86 (by simp only [List.map_cons, List.map_nil, List.cons_append, List.nil_append]) (by first | exact ⟨_, _, _, _, _, _, _, _, _, _, _, _, _, _, _, _, _, _, _, _, rw, rm, by rw [x_diluted, if_pos hxl, if_neg h29, hX9, x_dilutedG_n] <;> rfl, by rw [x_diluted, if_pos hxl, if_neg h29, hX9, x_dilutedG_n]; exact ⟨rfl, rfl⟩, by rw [x_diluted, if_pos hxl, if_neg h29, hX9, x_dilutedG_n], rfl⟩)
    · skip
      refine rh_iconst hX dX8_diluted_32 ki_m1 ?_
      exact rh_iret hX hR dX8_diluted_33 (by simp only [List.map_cons, List.map_nil, List.cons_append, List.nil_append]) (by first | exact ⟨_, _, _, _, _, _, _, _, _, _, _, _, _, _, _, _, _, _, _, _, rw, rm, by rw [x_diluted, if_pos hxl, if_pos h29] <;> rfl, by rw [x_diluted, if_pos hxl, if_pos h29]; exact ⟨rfl, rfl⟩, by rw [x_diluted, if_pos hxl, if_pos h29], rfl⟩)
  · skip
    obtain ⟨hxb, hxn⟩ := rd_bad hCs hCl hrd h14
    refine rh_bipush hX dX8_diluted_17 kb_m21 ?_
    refine rh_aload_n hX dX8_diluted_19 rfl ?_
    refine rh_get hX gl_X8_105 0 dX8_diluted_20 rfl rfl ?_
    refine rh_isub hX dX8_diluted_23 ?_
    exact rh_iret hX hR dX8_diluted_24 (by simp only [List.map_cons, List.map_nil, List.cons_append, List.nil_append]) (by first | exact ⟨_, _, _, _, _, _, _, _, _, _, _, _, _, _, _, _, _, _, _, _, rw, rm, by rw [x_diluted, if_neg hxn, hxb] <;> rfl, by rw [x_diluted, if_neg hxn, hxb]; exact ⟨rfl, rfl⟩, by rw [x_diluted, if_neg hxn, hxb], rfl⟩)

set_option maxRecDepth 100000 in
set_option maxHeartbeats 4000000 in
theorem c_X8_threatens (l : Launch) (E : rhE) (B : Nat → Nat) (u : Nat → Int32) (kp : Nat → Int32) (ik : Int32) (ps : Nat → Int32) (pm : Nat) (dd : Int32) (tx : Nat → Int32) (ty : Nat) (rw : Nat → Int64) (rm : Nat) (th : Int32) (sz : Nat) (he : Nat) (wr : Int32) (mn : Nat → Int32) (vl : Int32) (tp : Int32) (lt : Int32) (ra : Int32) (pf : Int32) (pt : Int32) (pl : Int32) (pd : Int64) (prc : Int64) (ns : Int64) (tu : Nat) (ba : Int64) (na : Int64) (ca : Nat → Int64) (bo : Nat → Int32) (tr : Nat → Int64) (tH : Int32) (asd : Nat → Int32) (pa : Nat → Int64) (tg : Nat → Int64) (sd : Int64) (sr : Int64) (C : CT) (hCu : C.1 = fm u) (hCs : C.2.2.2.2.2.2.2.1 = sC tx) (hCl : C.2.2.2.2.2.2.2.2.1 = ty) (T : Nat) (hI : mI u T) (hty : ty ≤ 200) (hbt : byteOk tx ty)  : Ctr l E yX8_threatens cX8_threatens 2 (some .int) (rmL 8) [.ref (B 0)] (wM E B u kp ik ps pm dd tx ty rw rm th sz he wr mn vl tp lt ra pf pt pl pd prc ns tu ba na ca bo tr tH asd pa tg sd sr) (fun r w => ∃ he1 wr1 mn1 vl1 tp1 lt1 ra1 pf1 pt1 pl1 pd1 prc1 ns1 tu1 ba1 na1 ca1 tr1 tH1 asd1 rw1 rm1, r = some (Value.int (x_threatens C T).1) ∧ mTold rw rm rw1 rm1 (x_threatens C T).2.2 ∧ (x_threatens C T).2.1 = clT C ∧ w = (wM E B u kp ik ps pm dd tx 0 rw1 rm1 0 ty he1 wr1 mn1 vl1 tp1 lt1 ra1 pf1 pt1 pl1 pd1 prc1 ns1 tu1 ba1 na1 ca1 bo tr1 tH1 asd1 pa tg sd sr)) := by
  refine Ctr.of (by decide) (Nat.le_of_ble_eq_true rfl) rfl rfl 1 ?_
  intro X hX hR
  have hM := hI.ok
  obtain ⟨hT, hT1, hT6, hcv⟩ := id hM
  refine rh_aload_n hX dX8_threatens_0 rfl ?_
  refine rh_iconst hX dX8_threatens_1 ki_0 ?_
  refine rh_put hX gl_X8_48 0 dX8_threatens_2 rfl rfl rfl (Nat.le_of_ble_eq_true rfl) rfl ?_
  dsimp only [List.cons_append, List.nil_append, List.set_cons_succ, List.set_cons_zero, vput]
  refine rh_aload_n hX dX8_threatens_5 rfl ?_
  refine rh_uV hX lk_X8_293 mvX8_readsRound (fun l => c_X8_readsRound l E _ _ _ _ _ _ _ _ _ _ _ _ _ _ _ _ _ _ _ _ _ _ _ _ _ _ _ _ _ _ _ _ _ _ _ _ _ _ hty hbt) ⟨rfl, rfl⟩ ⟨Nat.le_of_ble_eq_true rfl, Nat.le_of_ble_eq_true rfl⟩ [0, 1, 2, 3, 4, 5, 6, 7, 8, 9, 10, 11, 12] rfl rfl 0 rfl dX8_threatens_6 rfl rfl (Nat.le_of_ble_eq_true rfl) rfl ?_
  dsimp only [List.cons_append, List.nil_append, List.set_cons_succ, List.set_cons_zero, vput]
  have hrd0 := rdI_z (rd_rel hbt hty (0, -1, vl, tp, lt, ra, pf, pt, pl)) (w := (0, 0, (tS tx ty (0, -1, vl, tp, lt, ra, pf, pt, pl)).2.2)) rfl
  generalize hRD : mRd tx ty (tS tx ty (0, -1, vl, tp, lt, ra, pf, pt, pl)) = RD9 at hrd0 ⊢
  generalize hTS : (tS tx ty (0, -1, vl, tp, lt, ra, pf, pt, pl)).2.2 = TS9 at hrd0 ⊢
  obtain ⟨he1, wr1, mn1, pd1⟩ := RD9
  obtain ⟨vl1, tp1, lt1, ra1, pf1, pt1, pl1⟩ := TS9
  dsimp only at hrd0 ⊢
  have hrd : rdI (rrF (sC tx) ty) (he1, wr1, mn1, pd1) (0, 0, vl1, tp1, lt1, ra1, pf1, pt1, pl1) := hrd0
  clear hrd0 hRD hTS
  refine rh_aload_n hX dX8_threatens_9 rfl ?_
  refine rh_get hX gl_X8_105 0 dX8_threatens_10 rfl rfl ?_
  refine rh_iconst hX dX8_threatens_13 ki_m1 ?_
  refine rh_icmp_eq (tgt := 25) hX dX8_threatens_14 (by decide) (fun h14 => ?_) (fun h14 => ?_)
  · skip
    obtain ⟨hx0, hF, hmn, hpd⟩ := rd_ok hCs hCl hrd h14
    have hmn : mnOk mn1 (tRound C).2.2.2.2.2.2.1 pd1 := hmn
    have hpd : pd1 = (tRound C).2.2.2.2.2.2.2 := hpd
    have hxl := rt_0 hx0
    refine rh_aload_n hX dX8_threatens_25 rfl ?_
    refine rh_iconst hX dX8_threatens_26 ki_0 ?_
    refine rh_uV hX lk_X8_283 mvX8_plays (fun l => c_X8_plays l E _ _ _ _ _ _ _ _ _ _ _ _ _ _ _ _ _ _ _ _ _ _ _ _ _ _ _ _ _ _ _ _ _ _ _ _ _ _ 0 T hM (pT_dv0 hI)) ⟨rfl, rfl⟩ ⟨Nat.le_of_ble_eq_true rfl, Nat.le_of_ble_eq_true rfl⟩ [0, 1, 2, 3, 4, 5, 6, 7, 8, 9, 10, 11, 12] rfl rfl 0 rfl dX8_threatens_27 rfl rfl (Nat.le_of_ble_eq_true rfl) rfl ?_
    dsimp only [List.cons_append, List.nil_append, List.set_cons_succ, List.set_cons_zero, vput]
    rw [pT_dn0, pT_01 T hT6]
    have hpr := pT_rel (tr := tr) (lst := fun _ => 0) hI hmn T (Nat.le_refl T)
    have hB1 : ∀ c, 1 ≤ c → c < T → (xBg C.1 T (tRound C).2.2).2.1 c = (pT mn1 pd1 1 (u, tr, 0) T).2.1 c := fun c c1 c2 => by unfold xBg; rw [hCu, ← hpd]; exact hpr.2.1 c c1 c2
    have hB2 : (xBg C.1 T (tRound C).2.2).2.2 = (pT mn1 pd1 1 (u, tr, 0) T).2.2 := by unfold xBg; rw [hCu, ← hpd]; exact hpr.2.2.1
    refine rh_aload_n hX dX8_threatens_30 rfl ?_
    refine rh_iconst hX dX8_threatens_31 ki_0 ?_
    refine rh_put hX gl_X8_52 0 dX8_threatens_32 rfl rfl rfl (Nat.le_of_ble_eq_true rfl) rfl ?_
    dsimp only [List.cons_append, List.nil_append, List.set_cons_succ, List.set_cons_zero, vput]
    refine rh_iconst hX dX8_threatens_35 ki_1 ?_
    refine rh_istn1 hX dX8_threatens_36 (by decide) rfl ?_
    refine (rh_loop (P := fun c => ∀ g1, rowOk g1 ((List.range (c - 1)).map (fun k => (xBg C.1 T (tRound C).2.2).2.1 (k + 1))) → G X 37 [some (.ref (B 0)), some (.int (nI c))] [] (wM E B u kp ik ps pm dd tx 0 g1 (c - 1) 0 ty he1 wr1 mn1 vl1 tp1 lt1 ra1 pf1 pt1 pl1 pd1 prc ns tu ba na ca bo (pT mn1 pd1 1 (u, tr, 0) T).2.1 (pT mn1 pd1 1 (u, tr, 0) T).2.2 asd pa tg sd sr)) (1) (T) (by omega) ?_ ?_) _ (rowOk_nil _)
    · intro g1 hg
      refine rh_iload_n hX dX8_threatens_37 rfl ?_
      refine rh_aload_n hX dX8_threatens_38 rfl ?_
      refine rh_get hX gl_X8_7 0 dX8_threatens_39 rfl rfl ?_
      refine rh_bipush hX dX8_threatens_42 kb_57 ?_
      refine rh_iaload hX 1 _ dX8_threatens_44 rfl rn_c57 (by omega) (by decide) ?_
      refine rh_icmp_ge_t (tgt := 64) hX dX8_threatens_45 (by decide) (by rw [hT]; exact nI_le (Nat.le_refl T) (by omega)) ?_
      refine rh_aload_n hX dX8_threatens_64 rfl ?_
      refine rh_get hX gl_X8_245 0 dX8_threatens_65 rfl rfl ?_
      exact rh_iret hX hR dX8_threatens_68 (by simp only [List.map_cons, List.map_nil, List.cons_append, List.nil_append]) ⟨_, _, _, _, _, _, _, _, _, _, _, _, _, _, _, _, _, _, _, _, g1, T - 1, by rw [x_threatens, if_pos hxl, hB2], by rw [x_threatens, if_pos hxl]; exact ⟨hg, by rw [List.length_map, List.length_range]⟩, by rw [x_threatens, if_pos hxl], rfl⟩
    · intro c hc0 hc ihc g1 hg
      obtain ⟨e, rfl⟩ : ∃ e, c = e + 1 := ⟨c - 1, by omega⟩
      refine rh_iload_n hX dX8_threatens_37 rfl ?_
      refine rh_aload_n hX dX8_threatens_38 rfl ?_
      refine rh_get hX gl_X8_7 0 dX8_threatens_39 rfl rfl ?_
      refine rh_bipush hX dX8_threatens_42 kb_57 ?_
      refine rh_iaload hX 1 _ dX8_threatens_44 rfl rn_c57 (by omega) (by decide) ?_
      refine rh_icmp_ge_f (tgt := 64) hX dX8_threatens_45 (by decide) (by rw [hT]; exact nI_ge hc (by omega)) ?_
      refine rh_aload_n hX dX8_threatens_48 rfl ?_
      refine rh_aload_n hX dX8_threatens_49 rfl ?_
      refine rh_get hX gl_X8_36 0 dX8_threatens_50 rfl rfl ?_
      refine rh_iload_n hX dX8_threatens_53 rfl ?_
      refine rh_laload hX 9 (e + 1) dX8_threatens_54 rfl rfl (by omega) (by decide) ?_
      rw [← hB1 (e + 1) (by omega) (by omega)]
      refine rh_uV hX lk_X8_299 mvX8_tell (fun l => c_X8_tell l E _ _ _ _ _ _ _ _ _ _ e _ _ _ _ _ _ _ _ _ _ _ _ _ _ _ _ _ _ _ _ _ _ _ _ _ _ _ _ (by omega)) ⟨rfl, rfl⟩ ⟨Nat.le_of_ble_eq_true rfl, Nat.le_of_ble_eq_true rfl⟩ [0, 1, 2, 3, 4, 5, 6, 7, 8, 9, 10, 11, 12] rfl rfl 0 rfl dX8_threatens_55 rfl rfl (Nat.le_of_ble_eq_true rfl) rfl ?_
      dsimp only [List.cons_append, List.nil_append, List.set_cons_succ, List.set_cons_zero, vput]
      refine rh_inc1 hX dX8_threatens_58 (by decide) rfl (rn_i1 _) ?_
      refine rh_goto (tgt := 37) hX dX8_threatens_61 (by decide) ?_
      exact ihc _ (by rw [show e + 1 + 1 - 1 = e + 1 by omega, range_push]; exact rowOk_push _ hg (by rw [List.length_map, List.length_range] <;> rfl))
  · skip
    obtain ⟨hxb, hxn⟩ := rd_bad hCs hCl hrd h14
    refine rh_bipush hX dX8_threatens_17 kb_m21 ?_
    refine rh_aload_n hX dX8_threatens_19 rfl ?_
    refine rh_get hX gl_X8_105 0 dX8_threatens_20 rfl rfl ?_
    refine rh_isub hX dX8_threatens_23 ?_
    exact rh_iret hX hR dX8_threatens_24 (by simp only [List.map_cons, List.map_nil, List.cons_append, List.nil_append]) (by first | exact ⟨_, _, _, _, _, _, _, _, _, _, _, _, _, _, _, _, _, _, _, _, rw, rm, by rw [x_threatens, if_neg hxn, hxb] <;> rfl, by rw [x_threatens, if_neg hxn, hxb]; exact ⟨rfl, rfl⟩, by rw [x_threatens, if_neg hxn, hxb], rfl⟩)
