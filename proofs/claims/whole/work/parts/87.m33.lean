theorem rdI_z {c : Bool × Nat × TS} {R : Nat × Int32 × (Nat → Int32) × Int64} {z w : MS} (h : rdI c R z) (e : z.2.2 = w.2.2) : rdI c R w := by
  refine ⟨fun x => ?_, h.2⟩
  obtain ⟨a, b, d⟩ := h.1 x
  refine ⟨a, ?_, d⟩
  unfold rdF at *
  rw [← e]
  exact b
/-- what a good text gives -/
theorem rd_ok {C : CT} {tx : Nat → Int32} {n : Nat} (hs : C.2.2.2.2.2.2.2.1 = sC tx) (hl : C.2.2.2.2.2.2.2.2.1 = n) {R : Nat × Int32 × (Nat → Int32) × Int64} {z : MS} (h : rdI (rrF (sC tx) n) R z) (hw : R.2.1 = -1) : x_rt C = 0 ∧ rdF (tRound C).2.2 z ∧ mnOk R.2.2.1 (tRound C).2.2.2.2.2.2.1 R.2.2.2 ∧ R.2.2.2 = (tRound C).2.2.2.2.2.2.2 := by
  have hN : tRound C = rrF (sC tx) n := by unfold tRound; rw [hs, hl]
  unfold x_rt
  rw [hN]
  generalize rrF (sC tx) n = c at h ⊢
  have g : c.1 = true := by
    cases q : c.1 with
    | true => rfl
    | false =>
      obtain ⟨a, b⟩ := h.2 q
      rw [hw] at a
      exact absurd a.symm (nI_ne1 (by omega))
  obtain ⟨a, b, d, e, f, k⟩ := h.1 g
  exact ⟨if_pos g, b, ⟨d, f, k⟩, e⟩
theorem rd_bad {C : CT} {tx : Nat → Int32} {n : Nat} (hs : C.2.2.2.2.2.2.2.1 = sC tx) (hl : C.2.2.2.2.2.2.2.2.1 = n) {R : Nat × Int32 × (Nat → Int32) × Int64} {z : MS} (h : rdI (rrF (sC tx) n) R z) (hw : ¬ R.2.1 = -1) : x_rt C = -21 - R.2.1 ∧ ¬ 0 ≤ x_rt C := by
  have hN : tRound C = rrF (sC tx) n := by unfold tRound; rw [hs, hl]
  have e : x_rt C = -21 - R.2.1 ∧ ∃ p : Nat, R.2.1 = nI p ∧ p ≤ 400 := by
    unfold x_rt
    rw [hN]
    generalize rrF (sC tx) n = c at h ⊢
    have g : ¬ c.1 = true := fun q => hw (h.1 q).1
    obtain ⟨a, b⟩ := h.2 (by cases q : c.1 with
      | true => exact absurd q g
      | false => rfl)
    rw [if_neg g, a]
    exact ⟨rfl, _, rfl, b⟩
  obtain ⟨e1, p, e2, e3⟩ := e
  refine ⟨e1, fun q => ?_⟩
  rw [e1, e2, z_le32, z_sub32 (show (-21 : Int32).toInt = -21 by decide) (nI_toInt (by omega)) (by omega) (by omega), show (0 : Int32).toInt = 0 by decide] at q
  omega
theorem rk_no {u : Nat → Int32} {T : Nat} {vl tp lt ra pf pt pl : Int32} {mn : Nat → Int32} {pd : Int64} {ca tr : Nat → Int64} {X : Int32 × Option ((Nat → Int64) × Int64 × Nat × Int64)} (h : rkR T mn ra pf pt pl vl pd (mRk u T vl tp lt mn pd ca tr) X) (hl : ¬ 0 ≤ (mRk u T vl tp lt mn pd ca tr).1) : X = ((mRk u T vl tp lt mn pd ca tr).1, none) := by
  rcases h with ⟨a, b, c⟩ | ⟨p, fd, a, b⟩
  · exact c
  · rcases mRk_neg u T vl tp lt mn pd ca tr with z | ⟨q, z1, z2⟩
    · rw [a] at z; cases z.1
    · rw [z2] at hl; exact absurd (by decide) hl
theorem x_roundG_s {C : CT} {T : Nat} {p : Int32} {fd : Nat → Int64} {a c : Int64} {b : Nat} (h : ¬ 1000000000 < cSize fd (T + 1)) : x_roundG C T (p, some (fd, a, b, c)) = (p, accC (clT C) fd, some [a, (nI b).toInt64, c]) := if_neg h
theorem rt_0 {C : CT} (h : x_rt C = 0) : 0 ≤ x_rt C := by rw [h]; decide
theorem rdF_tp {q : TS} {a : Nat} {b vl tp lt ra pf pt pl : Int32} (h : rdF q (a, b, vl, tp, lt, ra, pf, pt, pl)) : 0 ≤ tp.toInt ∧ tp.toInt ≤ 500 := h.2.2.2.2.2.2.2.1

set_option maxRecDepth 100000 in
set_option maxHeartbeats 4000000 in
theorem c_X8_round (l : Launch) (E : rhE) (B : Nat → Nat) (u : Nat → Int32) (kp : Nat → Int32) (ik : Int32) (ps : Nat → Int32) (pm : Nat) (dd : Int32) (tx : Nat → Int32) (ty : Nat) (rw : Nat → Int64) (rm : Nat) (th : Int32) (sz : Nat) (he : Nat) (wr : Int32) (mn : Nat → Int32) (vl : Int32) (tp : Int32) (lt : Int32) (ra : Int32) (pf : Int32) (pt : Int32) (pl : Int32) (pd : Int64) (prc : Int64) (ns : Int64) (tu : Nat) (ba : Int64) (na : Int64) (ca : Nat → Int64) (bo : Nat → Int32) (tr : Nat → Int64) (tH : Int32) (asd : Nat → Int32) (pa : Nat → Int64) (tg : Nat → Int64) (sd : Int64) (sr : Int64) (C : CT) (hCu : C.1 = fm u) (hCs : C.2.2.2.2.2.2.2.1 = sC tx) (hCl : C.2.2.2.2.2.2.2.2.1 = ty) (T : Nat) (hI : mI u T) (hty : ty ≤ 200) (hbt : byteOk tx ty) (hpm : pm ≤ 8)  : Ctr l E yX8_round cX8_round 2 (some .int) (rmL 8) [.ref (B 0)] (wM E B u kp ik ps pm dd tx ty rw rm th sz he wr mn vl tp lt ra pf pt pl pd prc ns tu ba na ca bo tr tH asd pa tg sd sr) (fun r w => ∃ he1 wr1 mn1 vl1 tp1 lt1 ra1 pf1 pt1 pl1 pd1 prc1 ns1 tu1 ba1 na1 ca1 tr1 tH1 asd1 rw1 rm1, r = some (Value.int (x_round C T).1) ∧ mTold rw rm rw1 rm1 (x_round C T).2.2 ∧ (((x_round C T).2.1 = clT C ∧ w = (wM E B u kp ik ps pm dd tx 0 rw1 rm1 0 ty he1 wr1 mn1 vl1 tp1 lt1 ra1 pf1 pt1 pl1 pd1 prc1 ns1 tu1 ba1 na1 ca1 bo tr1 tH1 asd1 pa tg sd sr)) ∨ ∃ u1 fd, (x_round C T).2.1 = accC (clT C) fd ∧ (∀ x, x < 172 → fd x = fm u1 x) ∧ mI u1 (T + 1) ∧ w = (wM E B u1 kp ik (psDid ps pm u) (pmDid pm) (dd + 1) tx 0 rw1 rm1 0 ty he1 wr1 mn1 vl1 tp1 lt1 ra1 pf1 pt1 pl1 pd1 prc1 ns1 tu1 ba1 na1 ca1 bo tr1 tH1 asd1 pa tg sd sr))) := by
  refine Ctr.of (by decide) (Nat.le_of_ble_eq_true rfl) rfl rfl 1 ?_
  intro X hX hR
  have hM := hI.ok
  obtain ⟨hT, hT1, hT6, hcv⟩ := id hM
  refine rh_aload_n hX dX8_round_0 rfl ?_
  refine rh_iconst hX dX8_round_1 ki_0 ?_
  refine rh_put hX gl_X8_48 0 dX8_round_2 rfl rfl rfl (Nat.le_of_ble_eq_true rfl) rfl ?_
  dsimp only [List.cons_append, List.nil_append, List.set_cons_succ, List.set_cons_zero, vput]
  refine rh_aload_n hX dX8_round_5 rfl ?_
  refine rh_uV hX lk_X8_293 mvX8_readsRound (fun l => c_X8_readsRound l E _ _ _ _ _ _ _ _ _ _ _ _ _ _ _ _ _ _ _ _ _ _ _ _ _ _ _ _ _ _ _ _ _ _ _ _ _ _ hty hbt) ⟨rfl, rfl⟩ ⟨Nat.le_of_ble_eq_true rfl, Nat.le_of_ble_eq_true rfl⟩ [0, 1, 2, 3, 4, 5, 6, 7, 8, 9, 10, 11, 12] rfl rfl 0 rfl dX8_round_6 rfl rfl (Nat.le_of_ble_eq_true rfl) rfl ?_
  dsimp only [List.cons_append, List.nil_append, List.set_cons_succ, List.set_cons_zero, vput]
  have hrd0 := rdI_z (rd_rel hbt hty (0, -1, vl, tp, lt, ra, pf, pt, pl)) (w := (0, 0, (tS tx ty (0, -1, vl, tp, lt, ra, pf, pt, pl)).2.2)) rfl
  generalize hRD : mRd tx ty (tS tx ty (0, -1, vl, tp, lt, ra, pf, pt, pl)) = RD9 at hrd0 ⊢
  generalize hTS : (tS tx ty (0, -1, vl, tp, lt, ra, pf, pt, pl)).2.2 = TS9 at hrd0 ⊢
  obtain ⟨he1, wr1, mn1, pd1⟩ := RD9
  obtain ⟨vl1, tp1, lt1, ra1, pf1, pt1, pl1⟩ := TS9
  dsimp only at hrd0 ⊢
  have hrd : rdI (rrF (sC tx) ty) (he1, wr1, mn1, pd1) (0, 0, vl1, tp1, lt1, ra1, pf1, pt1, pl1) := hrd0
  clear hrd0 hRD hTS
  refine rh_aload_n hX dX8_round_9 rfl ?_
  refine rh_get hX gl_X8_105 0 dX8_round_10 rfl rfl ?_
  refine rh_iconst hX dX8_round_13 ki_m1 ?_
  refine rh_icmp_eq (tgt := 25) hX dX8_round_14 (by decide) (fun h14 => ?_) (fun h14 => ?_)
  · skip
    obtain ⟨hx0, hF, hmn, hpd⟩ := rd_ok hCs hCl hrd h14
    have hmn : mnOk mn1 (tRound C).2.2.2.2.2.2.1 pd1 := hmn
    have hpd : pd1 = (tRound C).2.2.2.2.2.2.2 := hpd
    have hxl := rt_0 hx0
    refine rh_aload_n hX dX8_round_25 rfl ?_
    refine rh_uV hX lk_X8_68 mvX8_lays (fun l => c_X8_lays l E _ _ _ _ _ _ _ _ _ _ _ _ _ _ _ _ _ _ _ _ _ _ _ _ _ _ _ _ _ _ _ _ _ _ _ _ _ _ ) ⟨rfl, rfl⟩ ⟨Nat.le_of_ble_eq_true rfl, Nat.le_of_ble_eq_true rfl⟩ [0, 1, 2, 3, 4, 5, 6, 7, 8, 9, 10, 11, 12] rfl rfl 0 rfl dX8_round_26 rfl rfl (Nat.le_of_ble_eq_true rfl) rfl ?_
    dsimp only [List.cons_append, List.nil_append, List.set_cons_succ, List.set_cons_zero, vput]
    refine rh_aload_n hX dX8_round_29 rfl ?_
    refine rh_callV hX lk_X8_296 mvX8_reckons (fun l => c_X8_reckons l E _ _ _ _ _ _ _ _ _ _ _ _ _ _ _ _ _ _ _ _ _ _ _ _ _ _ _ _ _ _ _ _ _ _ _ _ _ _ T hM (pT_dv hI hmn) (hc8_of hI) (rdF_tp hF)) ⟨rfl, rfl⟩ ⟨Nat.le_of_ble_eq_true rfl, Nat.le_of_ble_eq_true rfl⟩ [0, 1, 2, 3, 4, 5, 6, 7, 8, 9, 10, 11, 12] rfl rfl 0 rfl dX8_round_30 rfl rfl (Nat.le_of_ble_eq_true rfl) (fun r w hp hf => ?_)
    obtain ⟨u1, prc1, ns1, tu1, ba1, na1, ca1, tr1, tH1, rfl, hgood, ⟨T9, hT9⟩, rfl⟩ := hp
    dsimp only [vput, List.set_cons_succ, List.set_cons_zero, Option.toList, List.cons_append, List.nil_append]
    have hrk : rkR T mn1 ra1 pf1 pt1 pl1 vl1 pd1 (mRk u T vl1 tp1 lt1 mn1 pd1 ca tr) (xDS C.1 T (tRound C).2.2) := by rw [hCu]; exact rk_rel hI hmn hpd hF
    refine rh_istn1 hX dX8_round_33 (by decide) rfl ?_
    refine rh_iload_n hX dX8_round_34 rfl ?_
    refine rh_if_ge (tgt := 44) hX dX8_round_35 (by decide) (fun h35 => ?_) (fun h35 => ?_)
    · skip
      obtain ⟨p9, fd9, hp9, hT5, htu9, hpr9, hX9, hfd9, hmI9⟩ := hrk.resolve_left (fun z => z.2.1 h35)
      obtain ⟨rfl, rfl, rfl, rfl, htu2, hmk9⟩ := hgood p9 hp9
      have hcs := (cSize_ext (T := T + 1) (by omega) (fun x hx => (hfd9 x (by omega)).symm) (fun x a b => (hfd9 x (by omega)).symm) (fun t w ht hw => (hfd9 _ (by omega)).symm) (hfd9 170 (by omega)).symm)
      have hnm : ¬ 1000000000 < cSize fd9 (T + 1) := by rw [← hcs.1, much_z hmI9.b]; have := hmI9.2.2.2.2.2; omega
      refine rh_aload_n hX dX8_round_44 rfl ?_
      refine rh_uV hX lk_X8_71 mvX8_did (fun l => c_X8_did l E _ _ _ _ _ _ _ _ _ _ _ _ _ _ _ _ _ _ _ _ _ _ _ _ _ _ _ _ _ _ _ _ _ _ _ _ _ _ (by omega)) ⟨rfl, rfl⟩ ⟨Nat.le_of_ble_eq_true rfl, Nat.le_of_ble_eq_true rfl⟩ [0, 1, 2, 3, 4, 5, 6, 7, 8, 9, 10, 11, 12] rfl rfl 0 rfl dX8_round_45 rfl rfl (Nat.le_of_ble_eq_true rfl) rfl ?_
      dsimp only [List.cons_append, List.nil_append, List.set_cons_succ, List.set_cons_zero, vput]
      refine rh_aload_n hX dX8_round_48 rfl ?_
      refine rh_iconst hX dX8_round_49 ki_0 ?_
      refine rh_put hX gl_X8_52 0 dX8_round_50 rfl rfl rfl (Nat.le_of_ble_eq_true rfl) rfl ?_
      dsimp only [List.cons_append, List.nil_append, List.set_cons_succ, List.set_cons_zero, vput]
      refine rh_aload_n hX dX8_round_53 rfl ?_
      refine rh_aload_n hX dX8_round_54 rfl ?_
      refine rh_get hX gl_X8_272 0 dX8_round_55 rfl rfl ?_
      refine rh_uV hX lk_X8_299 mvX8_tell (fun l => c_X8_tell l E _ _ _ _ _ _ _ _ _ _ 0 _ _ _ _ _ _ _ _ _ _ _ _ _ _ _ _ _ _ _ _ _ _ _ _ _ _ _ _ (by omega)) ⟨rfl, rfl⟩ ⟨Nat.le_of_ble_eq_true rfl, Nat.le_of_ble_eq_true rfl⟩ [0, 1, 2, 3, 4, 5, 6, 7, 8, 9, 10, 11, 12] rfl rfl 0 rfl dX8_round_58 rfl rfl (Nat.le_of_ble_eq_true rfl) rfl ?_
      dsimp only [List.cons_append, List.nil_append, List.set_cons_succ, List.set_cons_zero, vput]
      refine rh_aload_n hX dX8_round_61 rfl ?_
      refine rh_aload_n hX dX8_round_62 rfl ?_
      refine rh_get hX gl_X8_287 0 dX8_round_63 rfl rfl ?_
      refine rh_i2l hX dX8_round_66 ?_
      refine rh_uV hX lk_X8_299 mvX8_tell (fun l => c_X8_tell l E _ _ _ _ _ _ _ _ _ _ (0 + 1) _ _ _ _ _ _ _ _ _ _ _ _ _ _ _ _ _ _ _ _ _ _ _ _ _ _ _ _ (by omega)) ⟨rfl, rfl⟩ ⟨Nat.le_of_ble_eq_true rfl, Nat.le_of_ble_eq_true rfl⟩ [0, 1, 2, 3, 4, 5, 6, 7, 8, 9, 10, 11, 12] rfl rfl 0 rfl dX8_round_67 rfl rfl (Nat.le_of_ble_eq_true rfl) rfl ?_
      dsimp only [List.cons_append, List.nil_append, List.set_cons_succ, List.set_cons_zero, vput]
      refine rh_aload_n hX dX8_round_70 rfl ?_
      refine rh_aload_n hX dX8_round_71 rfl ?_
      refine rh_pV hX lk_X8_143 mvX8_fullNow (fun l => c_X8_fullNow l E _ _ _ _ _ _ _ _ _ _ _ _ _ _ _ _ _ _ _ _ _ _ _ _ _ _ _ _ _ _ _ _ _ _ _ _ _ _ (T + 1) hmI9.ok) ⟨rfl, rfl⟩ ⟨Nat.le_of_ble_eq_true rfl, Nat.le_of_ble_eq_true rfl⟩ [0, 1, 2, 3, 4, 5, 6, 7, 8, 9, 10, 11, 12] rfl rfl 0 rfl dX8_round_72 rfl rfl (Nat.le_of_ble_eq_true rfl) ?_
      refine rh_uV hX lk_X8_299 mvX8_tell (fun l => c_X8_tell l E _ _ _ _ _ _ _ _ _ _ (0 + 1 + 1) _ _ _ _ _ _ _ _ _ _ _ _ _ _ _ _ _ _ _ _ _ _ _ _ _ _ _ _ (by omega)) ⟨rfl, rfl⟩ ⟨Nat.le_of_ble_eq_true rfl, Nat.le_of_ble_eq_true rfl⟩ [0, 1, 2, 3, 4, 5, 6, 7, 8, 9, 10, 11, 12] rfl rfl 0 rfl dX8_round_75 rfl rfl (Nat.le_of_ble_eq_true rfl) rfl ?_
      dsimp only [List.cons_append, List.nil_append, List.set_cons_succ, List.set_cons_zero, vput]
      refine rh_aload_n hX dX8_round_78 rfl ?_
      refine rh_get hX gl_X8_269 0 dX8_round_79 rfl rfl ?_
      refine rh_l2i hX dX8_round_82 ?_
      exact rh_iret hX hR dX8_round_83 (by simp only [List.map_cons, List.map_nil, List.cons_append, List.nil_append]) (by refine ⟨_, _, _, _, _, _, _, _, _, _, _, _, _, _, _, _, _, _, _, _, (va_up (va_up (va_up rw 0 _) (0 + 1) _) (0 + 1 + 1) _), (0 + 1 + 1 + 1), ?ga, ?gb, Or.inr ⟨(aM3 (aMq T mn1 ra1 pf1 pt1 pl1 vl1 pd1 p9) T), fd9, ?gc, hfd9, hmI9, rfl⟩⟩; (case ga => rw [x_round, if_pos hxl, hX9, x_roundG_s hnm]); (case gb => rw [x_round, if_pos hxl, hX9, x_roundG_s hnm]; exact ⟨rowOk3 _ _ _ _, rfl⟩); (case gc => rw [x_round, if_pos hxl, hX9, x_roundG_s hnm]))
    · skip
      have hX9 := rk_no hrk h35
      refine rh_aload_n hX dX8_round_38 rfl ?_
      refine rh_uV hX lk_X8_146 mvX8_puts (fun l => c_X8_puts l E _ _ _ _ _ _ _ _ _ _ _ _ _ _ _ _ _ _ _ _ _ _ _ _ _ _ _ _ _ _ _ _ _ _ _ _ _ _ ) ⟨rfl, rfl⟩ ⟨Nat.le_of_ble_eq_true rfl, Nat.le_of_ble_eq_true rfl⟩ [0, 1, 2, 3, 4, 5, 6, 7, 8, 9, 10, 11, 12] rfl rfl 0 rfl dX8_round_39 rfl rfl (Nat.le_of_ble_eq_true rfl) rfl ?_
      dsimp only [List.cons_append, List.nil_append, List.set_cons_succ, List.set_cons_zero, vput]
      refine rh_iload_n hX dX8_round_42 rfl ?_
      exact rh_iret hX hR dX8_round_43 (by simp only [List.map_cons, List.map_nil, List.cons_append, List.nil_append]) ⟨_, _, _, _, _, _, _, _, _, _, _, _, _, _, _, _, _, _, _, _, rw, rm, by rw [x_round, if_pos hxl, hX9]; rfl, by rw [x_round, if_pos hxl, hX9]; exact ⟨rfl, rfl⟩, Or.inl ⟨by rw [x_round, if_pos hxl, hX9]; rfl, rfl⟩⟩
  · skip
    obtain ⟨hxb, hxn⟩ := rd_bad hCs hCl hrd h14
    refine rh_bipush hX dX8_round_17 kb_m21 ?_
    refine rh_aload_n hX dX8_round_19 rfl ?_
    refine rh_get hX gl_X8_105 0 dX8_round_20 rfl rfl ?_
    refine rh_isub hX dX8_round_23 ?_
    exact rh_iret hX hR dX8_round_24 (by simp only [List.map_cons, List.map_nil, List.cons_append, List.nil_append]) ⟨_, _, _, _, _, _, _, _, _, _, _, _, _, _, _, _, _, _, _, _, rw, rm, by rw [x_round, if_neg hxn, hxb], by rw [x_round, if_neg hxn]; exact ⟨rfl, rfl⟩, Or.inl ⟨by rw [x_round, if_neg hxn], rfl⟩⟩
