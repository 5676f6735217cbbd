def cnP (P : Nat → Int32) : Nat → Nat
  | 0 => 0
  | i + 1 => if P i ≤ 0 then cnP P i else cnP P i + 1
termination_by i => i
theorem cnP_0 (P : Nat → Int32) : cnP P 0 = 0 := by rw [cnP]
theorem cnP_t {P : Nat → Int32} {i : Nat} (h : P i ≤ 0) : cnP P (i + 1) = cnP P i := by rw [cnP, if_pos h]
theorem cnP_f {P : Nat → Int32} {i : Nat} (h : ¬ P i ≤ 0) : cnP P (i + 1) = cnP P i + 1 := by rw [cnP, if_neg h]
def swP (C : CT) (T : Nat) (d : Int32) (i : Nat) : Int32 := (xDS C.1 T ((tRound C).2.2.1 + (nI i).toInt64 * d.toInt64, (tRound C).2.2.2)).1
def x_sweep (C : CT) (T : Nat) (d : Int32) : XR := if 0 ≤ x_rt C then (if xUp d 100000000 = 0 then (-1, clT C, none) else (nI (cnP (swP C T d) 8), clT C, some ((List.range 8).map (fun i => (swP C T d i).toInt64)))) else (x_rt C, clT C, none)
/-- the price with all RATCHETs of one kind -/
def rtP (C : CT) (T : Nat) (k : Nat) : Int32 := (dSettle (srF (xBg C.1 T (tRound C).2.2).1 (nI k).toInt64 T) T (tRound C).2.2.1 (tRound C).2.2.2.1 (tRound C).2.2.2.2.1 (tRound C).2.2.2.2.2.1 (tRound C).2.2.2.2.2.2.1 (tRound C).2.2.2.2.2.2.2).1
def unN (P : Nat → Int32) : Nat → Nat
  | 0 => 0
  | i + 1 => if P i ≤ 0 then unN P i else if cHas (fun k => (P k).toInt64) (P i).toInt64 i = true then unN P i else unN P i + 1
termination_by i => i
theorem unN_0 (P : Nat → Int32) : unN P 0 = 0 := by rw [unN]
theorem unN_a {P : Nat → Int32} {i : Nat} (h : P i ≤ 0) : unN P (i + 1) = unN P i := by rw [unN, if_pos h]
theorem unN_b {P : Nat → Int32} {i : Nat} (h : ¬ P i ≤ 0) (q : cHas (fun k => (P k).toInt64) (P i).toInt64 i = true) : unN P (i + 1) = unN P i := by rw [unN, if_neg h, if_pos q]
theorem unN_c {P : Nat → Int32} {i : Nat} (h : ¬ P i ≤ 0) (q : ¬ cHas (fun k => (P k).toInt64) (P i).toInt64 i = true) : unN P (i + 1) = unN P i + 1 := by rw [unN, if_neg h, if_neg q]
theorem cHas_ext {g h : Nat → Int64} {v : Int64} : ∀ n, (∀ i, i < n → g i = h i) → cHas g v n = cHas h v n
  | 0, _ => rfl
  | n + 1, q => by rw [cHas, cHas, cHas_ext n (fun i hi => q i (by omega)), q n (by omega)]
theorem rowOk_at {g F : Nat → Int64} {n : Nat} (h : rowOk g ((List.range n).map F)) (i : Nat) (hi : i < n) : g i = F i := h i (F i) (by rw [List.getElem?_map, List.getElem?_range hi]; rfl)
def x_ratchets (C : CT) (T : Nat) : XR := if 0 ≤ x_rt C then (nI (unN (rtP C T) 4), clT C, some ((List.range 4).map (fun i => (rtP C T i).toInt64))) else (x_rt C, clT C, none)
def x_ratchet (C : CT) (T : Nat) (t p n m : Int32) : Int32 := if xSe T t = 0 then -1 else if xUp p 100000000 = 0 then -1 else if xUp n 100000000 = 0 then -1 else if xUp m 800000000 = 0 then -1 else (cRatch (cFact C.1 t.toNatClampNeg 1) (cFact C.1 t.toNatClampNeg 2) p.toInt64 n.toInt64 m.toInt64 (if cFact C.1 t.toNatClampNeg 2 = 3 then cAllVotes C.1 T else cSize C.1 T)).toInt32

set_option maxRecDepth 100000 in
set_option maxHeartbeats 4000000 in
theorem c_X7_sweep (l : Launch) (E : rhE) (A : Nat → Nat) (C : CT) (Z : ZT) (d : Int32) (T : Nat) (hC : cOk C T) (hz : zOk Z) : Ctr l E yX7_sweep cX7_sweep 8 (some .int) (rmL 9) [.ref (A 0), .int d] (wC E A C Z) (fun r w => ∃ Z1 C1, r = some (Value.int (x_sweep C T d).1) ∧ zOk Z1 ∧ rowTold (x_sweep C T d).2.1 C1 (x_sweep C T d).2.2 ∧ w = wC E A C1 Z1) := by
  refine Ctr.of (by decide) (Nat.le_of_ble_eq_true rfl) rfl rfl 6 ?_
  intro X hX hR
  obtain ⟨hT, hT1, hT6, hnx, hud, hn, hrn⟩ := id hC
  have hC2 := clT_ok hC
  refine rh_aload_n hX dX7_sweep_0 rfl ?_
  refine rh_wV hX lk_X7_161 mvX7_readTerms (fun l => c_X7_readTerms l E _ _ _ T hC) ⟨rfl, rfl⟩ ⟨Nat.le_of_ble_eq_true rfl, Nat.le_of_ble_eq_true rfl⟩ [0, 1, 2, 3, 4, 5, 6, 7, 8, 9, 10, 11, 12, 13, 14, 15, 16, 17, 18, 19, 20, 21, 22, 23, 24, 25, 26, 27, 28, 29, 30, 31, 32, 33, 34, 35] rfl rfl 0 rfl dX7_sweep_1 rfl rfl (Nat.le_of_ble_eq_true rfl) rfl ?_
  dsimp only [List.cons_append, List.nil_append, List.set_cons_succ, List.set_cons_zero, vput]
  refine rh_istn2 hX dX7_sweep_4 (by decide) rfl ?_
  refine rh_iload_n hX dX7_sweep_5 rfl ?_
  refine rh_if_ge (tgt := 11) hX dX7_sweep_6 (by decide) (fun h6 => ?_) (fun h6 => ?_)
  · skip
    refine rh_iload_n hX dX7_sweep_11 rfl ?_
    refine rh_ldc2 hX dX7_sweep_12 kl_X7_206 ?_
    refine rh_pS hX lk_X7_208 msX7_isUpTo (fun l => c_X7_isUpTo l E _ _) ⟨rfl, rfl⟩ ⟨Nat.le_of_ble_eq_true rfl, Nat.le_of_ble_eq_true rfl⟩ [] rfl rfl dX7_sweep_15 rfl rfl (Nat.le_of_ble_eq_true rfl) ?_
    refine rh_if_ne (tgt := 23) hX dX7_sweep_18 (by decide) (fun h18 => ?_) (fun h18 => ?_)
    · skip
      refine rh_aload_n hX dX7_sweep_23 rfl ?_
      refine rh_get hX gl_X7_47 0 dX7_sweep_24 rfl rfl ?_
      refine rh_get hX gl_X7_212 20 dX7_sweep_27 rfl rfl ?_
      refine rh_lstn3 hX dX7_sweep_30 (by decide) rfl ?_
      refine rh_iconst hX dX7_sweep_31 ki_0 ?_
      refine rh_ist5 hX dX7_sweep_32 (by decide) rfl ?_
      refine rh_aload_n hX dX7_sweep_34 rfl ?_
      refine rh_get hX gl_X7_40 0 dX7_sweep_35 rfl rfl ?_
      refine rh_uV hX lk_X7_184 mvX3_clear (fun l => c_X3_clear l E _ _ _ _) ⟨rfl, rfl⟩ ⟨Nat.le_of_ble_eq_true rfl, Nat.le_of_ble_eq_true rfl⟩ [18, 19] rfl rfl 18 rfl dX7_sweep_38 rfl rfl (Nat.le_of_ble_eq_true rfl) rfl ?_
      dsimp only [List.cons_append, List.nil_append, List.set_cons_succ, List.set_cons_zero, vput]
      refine rh_iconst hX dX7_sweep_41 ki_0 ?_
      refine rh_ist6 hX dX7_sweep_42 (by decide) rfl ?_
      suffices hP0 : G X 44 [some (.ref (A 0)), some (.int d), some (.int (x_rt C)), some (.long (tRound C).2.2.1), none, some (.int (nI (cnP (swP C T d) 0))), some (.int 0), none] [] (wC E A (setRow (C.1, C.2.1, C.2.2.1, C.2.2.2.1, C.2.2.2.2.1, C.2.2.2.2.2.1, C.2.2.2.2.2.2.1, C.2.2.2.2.2.2.2.1, 0, C.2.2.2.2.2.2.2.2.2) C.2.2.2.2.2.2.2.2.2.1 0) (Z.1, (tRound C).2.1, ((tRound C).2.2.1, (tRound C).2.2.2), Z.2.2.2.1, Z.2.2.2.2.1, Z.2.2.2.2.2.1, Z.2.2.2.2.2.2)) by rw [cnP_0] at hP0; exact hP0
      refine (rh_loop (P := fun i => ∀ (g1 : Nat → Int64) (v1 : Int64) (d1 : DT), rowOk g1 ((List.range i).map (fun i => (swP C T d i).toInt64)) → G X 44 [some (.ref (A 0)), some (.int d), some (.int (x_rt C)), some (.long (tRound C).2.2.1), none, some (.int (nI (cnP (swP C T d) i))), some (.int (nI i)), none] [] (wC E A (setRow (C.1, C.2.1, C.2.2.1, C.2.2.2.1, C.2.2.2.2.1, C.2.2.2.2.2.1, C.2.2.2.2.2.2.1, C.2.2.2.2.2.2.2.1, 0, C.2.2.2.2.2.2.2.2.2) g1 i) (Z.1, (tRound C).2.1, (v1, (tRound C).2.2.2), d1, Z.2.2.2.2.1, Z.2.2.2.2.2.1, Z.2.2.2.2.2.2))) (0) (8) (by omega) ?_ ?_) _ _ Z.2.2.2.1 (rowOk_nil _)
      · intro g1 v1 d1 hg
        refine rh_iload hX dX7_sweep_44 rfl ?_
        refine rh_bipush hX dX7_sweep_46 kb_8 ?_
        refine rh_icmp_ge_t (tgt := 107) hX dX7_sweep_48 (by decide) (nI_le (a := 8) (b := 8) (Nat.le_refl 8) (by decide)) ?_
        refine rh_iload hX dX7_sweep_107 rfl ?_
        exact rh_iret hX hR dX7_sweep_109 (by simp only [List.map_cons, List.map_nil, List.cons_append, List.nil_append]) ⟨(Z.1, (tRound C).2.1, (v1, (tRound C).2.2.2), d1, Z.2.2.2.2.1, Z.2.2.2.2.2.1, Z.2.2.2.2.2.2), (setRow (C.1, C.2.1, C.2.2.1, C.2.2.2.1, C.2.2.2.2.1, C.2.2.2.2.2.1, C.2.2.2.2.2.2.1, C.2.2.2.2.2.2.2.1, 0, C.2.2.2.2.2.2.2.2.2) g1 8), by rw [x_sweep, if_pos h6, if_neg h18], hz, by rw [x_sweep, if_pos h6, if_neg h18]; exact ⟨_, hg, by rw [List.length_map, List.length_range] <;> rfl⟩, rfl⟩
      · intro i hi0 hi ih g1 v1 d1 hg
        refine rh_iload hX dX7_sweep_44 rfl ?_
        refine rh_bipush hX dX7_sweep_46 kb_8 ?_
        refine rh_icmp_ge_f (tgt := 107) hX dX7_sweep_48 (by decide) (nI_ge (b := 8) hi (by decide)) ?_
        refine rh_aload_n hX dX7_sweep_51 rfl ?_
        refine rh_get hX gl_X7_47 0 dX7_sweep_52 rfl rfl ?_
        refine rh_lload_n hX dX7_sweep_55 rfl ?_
        refine rh_iload hX dX7_sweep_56 rfl ?_
        refine rh_i2l hX dX7_sweep_58 ?_
        refine rh_iload_n hX dX7_sweep_59 rfl ?_
        refine rh_i2l hX dX7_sweep_60 ?_
        refine rh_lmul hX dX7_sweep_61 ?_
        refine rh_ladd hX dX7_sweep_62 ?_
        refine rh_put hX gl_X7_212 20 dX7_sweep_63 rfl rfl rfl (Nat.le_of_ble_eq_true rfl) rfl ?_
        dsimp only [List.cons_append, List.nil_append, List.set_cons_succ, List.set_cons_zero, vput]
        refine rh_aload_n hX dX7_sweep_66 rfl ?_
        refine rh_get hX gl_X7_54 0 dX7_sweep_67 rfl rfl ?_
        refine rh_aload_n hX dX7_sweep_70 rfl ?_
        refine rh_get hX gl_X7_12 0 dX7_sweep_71 rfl rfl ?_
        refine rh_aload_n hX dX7_sweep_74 rfl ?_
        refine rh_get hX gl_X7_47 0 dX7_sweep_75 rfl rfl ?_
        refine rh_callV hX lk_X7_164 mvX0_works (fun l => c_X0_works l E _ _ _ _ _ _ _ _ _ _ _ _ _ _ _ _ _ _ _ _ _ _ _ _ _ _ _ _ _ _ T hT hT6 hT1) ⟨rfl, rfl⟩ ⟨Nat.le_of_ble_eq_true rfl, Nat.le_of_ble_eq_true rfl⟩ [23, 24, 25, 26, 27, 28, 20, 21, 22, 1, 2] rfl rfl 23 rfl dX7_sweep_78 rfl rfl (Nat.le_of_ble_eq_true rfl) (fun r w hp hf => ?_)
        obtain ⟨f1, cvs1, nws1, pA1, bA1, nA1, pr1, is1, tn1, fl1, rfl, hok, rfl⟩ := hp
        have hB := (bg_ext (tRound C).2.2.2.2.2.2.1 (tRound C).2.2.2.2.2.2.2 C.1 d1.2.2.1 (fun _ => 0) T).1
        dsimp only [vput, List.set_cons_succ, List.set_cons_zero, Option.toList, List.cons_append, List.nil_append]
        rw [hB]
        refine rh_ist7 hX dX7_sweep_81 (by decide) rfl ?_
        refine rh_aload_n hX dX7_sweep_83 rfl ?_
        refine rh_get hX gl_X7_40 0 dX7_sweep_84 rfl rfl ?_
        refine rh_iload hX dX7_sweep_87 rfl ?_
        refine rh_i2l hX dX7_sweep_89 ?_
        refine rh_uV hX lk_X7_181 mvX3_tell (fun l => c_X3_tell l E _ _ _ i _ (by omega)) ⟨rfl, rfl⟩ ⟨Nat.le_of_ble_eq_true rfl, Nat.le_of_ble_eq_true rfl⟩ [18, 19] rfl rfl 18 rfl dX7_sweep_90 rfl rfl (Nat.le_of_ble_eq_true rfl) rfl ?_
        dsimp only [List.cons_append, List.nil_append, List.set_cons_succ, List.set_cons_zero, vput]
        refine rh_iload hX dX7_sweep_93 rfl ?_
        refine rh_if_le (tgt := 101) hX dX7_sweep_95 (by decide) (fun h95 => ?_) (fun h95 => ?_)
        · skip
          have h95 : swP C T d i ≤ 0 := h95
          refine rh_inc6 hX dX7_sweep_101 (by decide) rfl (rn_i1 _) ?_
          refine rh_goto (tgt := 44) hX dX7_sweep_104 (by decide) ?_
          first | (rw [cnP_t h95] at ih; exact rh_wk (by exact ⟨rfl, rfl, rfl, rfl, rfl, rfl, trivial⟩) (ih _ _ (_, _, _, _, _, _, _, _, _, _, _, _) (by rw [range_push]; exact rowOk_push _ hg (by rw [List.length_map, List.length_range])))) | (rw [cnP_f h95] at ih; exact rh_wk (by exact ⟨rfl, rfl, rfl, rfl, rfl, rfl, trivial⟩) (ih _ _ (_, _, _, _, _, _, _, _, _, _, _, _) (by rw [range_push]; exact rowOk_push _ hg (by rw [List.length_map, List.length_range]))))
        · skip
          have h95 : ¬ swP C T d i ≤ 0 := h95
          refine rh_inc5 hX dX7_sweep_98 (by decide) rfl (rn_i1 _) ?_
          refine rh_inc6 hX dX7_sweep_101 (by decide) rfl (rn_i1 _) ?_
          refine rh_goto (tgt := 44) hX dX7_sweep_104 (by decide) ?_
          first | (rw [cnP_t h95] at ih; exact rh_wk (by exact ⟨rfl, rfl, rfl, rfl, rfl, rfl, trivial⟩) (ih _ _ (_, _, _, _, _, _, _, _, _, _, _, _) (by rw [range_push]; exact rowOk_push _ hg (by rw [List.length_map, List.length_range])))) | (rw [cnP_f h95] at ih; exact rh_wk (by exact ⟨rfl, rfl, rfl, rfl, rfl, rfl, trivial⟩) (ih _ _ (_, _, _, _, _, _, _, _, _, _, _, _) (by rw [range_push]; exact rowOk_push _ hg (by rw [List.length_map, List.length_range]))))
    · skip
      refine rh_iconst hX dX7_sweep_21 ki_m1 ?_
      exact rh_iret hX hR dX7_sweep_22 (by simp only [List.map_cons, List.map_nil, List.cons_append, List.nil_append]) ⟨(Z.1, (tRound C).2.1, (tRound C).2.2, Z.2.2.2), (C.1, C.2.1, C.2.2.1, C.2.2.2.1, C.2.2.2.2.1, C.2.2.2.2.2.1, C.2.2.2.2.2.2.1, C.2.2.2.2.2.2.2.1, 0, C.2.2.2.2.2.2.2.2.2), by rw [x_sweep, if_pos h6, if_pos h18], hz, by rw [x_sweep, if_pos h6, if_pos h18]; rfl, rfl⟩
  · skip
    refine rh_iload_n hX dX7_sweep_9 rfl ?_
    exact rh_iret hX hR dX7_sweep_10 (by simp only [List.map_cons, List.map_nil, List.cons_append, List.nil_append]) ⟨(Z.1, (tRound C).2.1, (tRound C).2.2, Z.2.2.2), (C.1, C.2.1, C.2.2.1, C.2.2.2.1, C.2.2.2.2.1, C.2.2.2.2.2.1, C.2.2.2.2.2.2.1, C.2.2.2.2.2.2.2.1, 0, C.2.2.2.2.2.2.2.2.2), by rw [x_sweep, if_neg h6], hz, by rw [x_sweep, if_neg h6]; rfl, rfl⟩

set_option maxRecDepth 100000 in
set_option maxHeartbeats 4000000 in
theorem c_X7_ratchets (l : Launch) (E : rhE) (A : Nat → Nat) (C : CT) (Z : ZT)  (T : Nat) (hC : cOk C T) (hz : zOk Z) : Ctr l E yX7_ratchets cX7_ratchets 5 (some .int) (rmL 9) [.ref (A 0)] (wC E A C Z) (fun r w => ∃ Z1 C1, r = some (Value.int (x_ratchets C T).1) ∧ zOk Z1 ∧ rowTold (x_ratchets C T).2.1 C1 (x_ratchets C T).2.2 ∧ w = wC E A C1 Z1) := by
  refine Ctr.of (by decide) (Nat.le_of_ble_eq_true rfl) rfl rfl 4 ?_
  intro X hX hR
  obtain ⟨hT, hT1, hT6, hnx, hud, hn, hrn⟩ := id hC
  have hC2 := clT_ok hC
  refine rh_aload_n hX dX7_ratchets_0 rfl ?_
  refine rh_wV hX lk_X7_161 mvX7_readTerms (fun l => c_X7_readTerms l E _ _ _ T hC) ⟨rfl, rfl⟩ ⟨Nat.le_of_ble_eq_true rfl, Nat.le_of_ble_eq_true rfl⟩ [0, 1, 2, 3, 4, 5, 6, 7, 8, 9, 10, 11, 12, 13, 14, 15, 16, 17, 18, 19, 20, 21, 22, 23, 24, 25, 26, 27, 28, 29, 30, 31, 32, 33, 34, 35] rfl rfl 0 rfl dX7_ratchets_1 rfl rfl (Nat.le_of_ble_eq_true rfl) rfl ?_
  dsimp only [List.cons_append, List.nil_append, List.set_cons_succ, List.set_cons_zero, vput]
  refine rh_istn1 hX dX7_ratchets_4 (by decide) rfl ?_
  refine rh_iload_n hX dX7_ratchets_5 rfl ?_
  refine rh_if_ge (tgt := 11) hX dX7_ratchets_6 (by decide) (fun h6 => ?_) (fun h6 => ?_)
  · skip
    refine rh_iconst hX dX7_ratchets_11 ki_0 ?_
    refine rh_istn2 hX dX7_ratchets_12 (by decide) rfl ?_
    refine rh_aload_n hX dX7_ratchets_13 rfl ?_
    refine rh_get hX gl_X7_40 0 dX7_ratchets_14 rfl rfl ?_
    refine rh_uV hX lk_X7_184 mvX3_clear (fun l => c_X3_clear l E _ _ _ _) ⟨rfl, rfl⟩ ⟨Nat.le_of_ble_eq_true rfl, Nat.le_of_ble_eq_true rfl⟩ [18, 19] rfl rfl 18 rfl dX7_ratchets_17 rfl rfl (Nat.le_of_ble_eq_true rfl) rfl ?_
    dsimp only [List.cons_append, List.nil_append, List.set_cons_succ, List.set_cons_zero, vput]
    refine rh_iconst hX dX7_ratchets_20 ki_0 ?_
    refine rh_istn3 hX dX7_ratchets_21 (by decide) rfl ?_
    suffices hP0 : G X 22 [some (.ref (A 0)), some (.int (x_rt C)), some (.int (nI (unN (rtP C T) 0))), some (.int 0), none] [] (wC E A (setRow (C.1, C.2.1, C.2.2.1, C.2.2.2.1, C.2.2.2.2.1, C.2.2.2.2.2.1, C.2.2.2.2.2.2.1, C.2.2.2.2.2.2.2.1, 0, C.2.2.2.2.2.2.2.2.2) C.2.2.2.2.2.2.2.2.2.1 0) (Z.1, (tRound C).2.1, (tRound C).2.2, Z.2.2.2.1, Z.2.2.2.2.1, Z.2.2.2.2.2.1, Z.2.2.2.2.2.2)) by rw [unN_0] at hP0; exact hP0
    refine (rh_loop (P := fun i => ∀ (g1 : Nat → Int64) (d1 : DT), rowOk g1 ((List.range i).map (fun i => (rtP C T i).toInt64)) → G X 22 [some (.ref (A 0)), some (.int (x_rt C)), some (.int (nI (unN (rtP C T) i))), some (.int (nI i)), none] [] (wC E A (setRow (C.1, C.2.1, C.2.2.1, C.2.2.2.1, C.2.2.2.2.1, C.2.2.2.2.2.1, C.2.2.2.2.2.2.1, C.2.2.2.2.2.2.2.1, 0, C.2.2.2.2.2.2.2.2.2) g1 i) (Z.1, (tRound C).2.1, (tRound C).2.2, d1, Z.2.2.2.2.1, Z.2.2.2.2.2.1, Z.2.2.2.2.2.2))) (0) (4) (by omega) ?_ ?_) _ Z.2.2.2.1 (rowOk_nil _)
    · intro g1 d1 hg
      refine rh_iload_n hX dX7_ratchets_22 rfl ?_
      refine rh_iconst hX dX7_ratchets_23 ki_3 ?_
      refine rh_icmp_gt_t (tgt := 100) hX dX7_ratchets_24 (by decide) (by decide) ?_
      refine rh_iload_n hX dX7_ratchets_100 rfl ?_
      exact rh_iret hX hR dX7_ratchets_101 (by simp only [List.map_cons, List.map_nil, List.cons_append, List.nil_append]) ⟨(Z.1, (tRound C).2.1, (tRound C).2.2, d1, Z.2.2.2.2.1, Z.2.2.2.2.2.1, Z.2.2.2.2.2.2), (setRow (C.1, C.2.1, C.2.2.1, C.2.2.2.1, C.2.2.2.2.1, C.2.2.2.2.2.1, C.2.2.2.2.2.2.1, C.2.2.2.2.2.2.2.1, 0, C.2.2.2.2.2.2.2.2.2) g1 4), by rw [x_ratchets, if_pos h6], hz, by rw [x_ratchets, if_pos h6]; exact ⟨_, hg, by rw [List.length_map, List.length_range] <;> rfl⟩, rfl⟩
    · intro i hi0 hi ih g1 d1 hg
      have hB := (bg_ext (tRound C).2.2.2.2.2.2.1 (tRound C).2.2.2.2.2.2.2 C.1 d1.2.2.1 (fun _ => 0) T).1
      have hT2 : ((xBg C.1 T (tRound C).2.2).1 171).toInt32 = nI T := by rw [bg_big _ _ _ 171 (by decide) T hT6]; exact hT
      have hT3 : (srF (xBg C.1 T (tRound C).2.2).1 (nI i).toInt64 T 171).toInt32 = nI T := by rw [srF_at _ _ _ hT6]; exact hT2
      refine rh_iload_n hX dX7_ratchets_22 rfl ?_
      refine rh_iconst hX dX7_ratchets_23 ki_3 ?_
      refine rh_icmp_gt_f (tgt := 100) hX dX7_ratchets_24 (by decide) (Int32.not_lt.mpr (nI_le (show i ≤ 3 by omega) (by decide))) ?_
      refine rh_aload_n hX dX7_ratchets_27 rfl ?_
      refine rh_get hX gl_X7_54 0 dX7_ratchets_28 rfl rfl ?_
      refine rh_aload_n hX dX7_ratchets_31 rfl ?_
      refine rh_get hX gl_X7_12 0 dX7_ratchets_32 rfl rfl ?_
      refine rh_aload_n hX dX7_ratchets_35 rfl ?_
      refine rh_get hX gl_X7_47 0 dX7_ratchets_36 rfl rfl ?_
      refine rh_uV hX lk_X7_195 mvX0_begin (fun l => c_X0_begin l E _ _ _ _ _ _ _ _ _ _ _ _ _ _ _ _ _ _ _ _ _ _ _ _ _ _ _ _ _ _ T hT hT6 hT1) ⟨rfl, rfl⟩ ⟨Nat.le_of_ble_eq_true rfl, Nat.le_of_ble_eq_true rfl⟩ [23, 24, 25, 26, 27, 28, 20, 21, 22, 1, 2] rfl rfl 23 rfl dX7_ratchets_39 rfl rfl (Nat.le_of_ble_eq_true rfl) rfl ?_
      dsimp only [List.cons_append, List.nil_append, List.set_cons_succ, List.set_cons_zero, vput]
      rw [hB]
      refine rh_aload_n hX dX7_ratchets_42 rfl ?_
      refine rh_get hX gl_X7_54 0 dX7_ratchets_43 rfl rfl ?_
      refine rh_iload_n hX dX7_ratchets_46 rfl ?_
      refine rh_uV hX lk_X7_215 mvX0_setRatchets (fun l => c_X0_setRatchets l E _ _ _ _ _ _ _ _ _ _ _ _ _ _ _ _ _ _ _ T hT2 hT6 hT1) ⟨rfl, rfl⟩ ⟨Nat.le_of_ble_eq_true rfl, Nat.le_of_ble_eq_true rfl⟩ [23, 24, 25, 26, 27, 28] rfl rfl 23 rfl dX7_ratchets_47 rfl rfl (Nat.le_of_ble_eq_true rfl) rfl ?_
      dsimp only [List.cons_append, List.nil_append, List.set_cons_succ, List.set_cons_zero, vput]
      refine rh_aload_n hX dX7_ratchets_50 rfl ?_
      refine rh_get hX gl_X7_54 0 dX7_ratchets_51 rfl rfl ?_
      refine rh_aload_n hX dX7_ratchets_54 rfl ?_
      refine rh_get hX gl_X7_47 0 dX7_ratchets_55 rfl rfl ?_
      refine rh_callV hX lk_X7_218 mvX0_settles (fun l => c_X0_settles l E _ _ _ _ _ _ _ _ _ _ _ _ _ _ _ _ _ _ _ _ _ _ _ _ _ _ _ T hT3 hT6 hT1) ⟨rfl, rfl⟩ ⟨Nat.le_of_ble_eq_true rfl, Nat.le_of_ble_eq_true rfl⟩ [23, 24, 25, 26, 27, 28, 20, 21, 22] rfl rfl 23 rfl dX7_ratchets_58 rfl rfl (Nat.le_of_ble_eq_true rfl) (fun r w hp hf => ?_)
      obtain ⟨f1, cvs1, nws1, pA1, bA1, nA1, pr1, is1, tn1, fl1, rfl, hok, rfl⟩ := hp
      dsimp only [vput, List.set_cons_succ, List.set_cons_zero, Option.toList, List.cons_append, List.nil_append]
      refine rh_ist4 hX dX7_ratchets_61 (by decide) rfl ?_
      refine rh_iload hX dX7_ratchets_63 rfl ?_
      refine rh_if_le (tgt := 84) hX dX7_ratchets_65 (by decide) (fun h65 => ?_) (fun h65 => ?_)
      · skip
        have h65 : rtP C T i ≤ 0 := h65
        refine rh_aload_n hX dX7_ratchets_84 rfl ?_
        refine rh_get hX gl_X7_40 0 dX7_ratchets_85 rfl rfl ?_
        refine rh_iload hX dX7_ratchets_88 rfl ?_
        refine rh_i2l hX dX7_ratchets_90 ?_
        refine rh_uV hX lk_X7_181 mvX3_tell (fun l => c_X3_tell l E _ _ _ i _ (by omega)) ⟨rfl, rfl⟩ ⟨Nat.le_of_ble_eq_true rfl, Nat.le_of_ble_eq_true rfl⟩ [18, 19] rfl rfl 18 rfl dX7_ratchets_91 rfl rfl (Nat.le_of_ble_eq_true rfl) rfl ?_
        dsimp only [List.cons_append, List.nil_append, List.set_cons_succ, List.set_cons_zero, vput]
        refine rh_inc3 hX dX7_ratchets_94 (by decide) rfl (rn_i1 _) ?_
        refine rh_goto (tgt := 22) hX dX7_ratchets_97 (by decide) ?_
        first | (rw [unN_a h65] at ih; exact rh_wk (by exact ⟨rfl, rfl, rfl, rfl, trivial⟩) (ih _ (_, _, _, _, _, _, _, _, _, _, _, _) (by rw [range_push]; exact rowOk_push _ hg (by rw [List.length_map, List.length_range])))) | (rw [unN_b h65 h78] at ih; exact rh_wk (by exact ⟨rfl, rfl, rfl, rfl, trivial⟩) (ih _ (_, _, _, _, _, _, _, _, _, _, _, _) (by rw [range_push]; exact rowOk_push _ hg (by rw [List.length_map, List.length_range])))) | (rw [unN_c h65 h78] at ih; exact rh_wk (by exact ⟨rfl, rfl, rfl, rfl, trivial⟩) (ih _ (_, _, _, _, _, _, _, _, _, _, _, _) (by rw [range_push]; exact rowOk_push _ hg (by rw [List.length_map, List.length_range]))))
      · skip
        have h65 : ¬ rtP C T i ≤ 0 := h65
        refine rh_aload_n hX dX7_ratchets_68 rfl ?_
        refine rh_get hX gl_X7_40 0 dX7_ratchets_69 rfl rfl ?_
        refine rh_iload hX dX7_ratchets_72 rfl ?_
        refine rh_i2l hX dX7_ratchets_74 ?_
        refine rh_pV hX lk_X7_222 mvX3_has (fun l => c_X3_has l E _ _ g1 i _ (by omega)) ⟨rfl, rfl⟩ ⟨Nat.le_of_ble_eq_true rfl, Nat.le_of_ble_eq_true rfl⟩ [18, 19] rfl rfl 18 rfl dX7_ratchets_75 rfl rfl (Nat.le_of_ble_eq_true rfl) ?_
        refine rh_if_ne (tgt := 84) hX dX7_ratchets_78 (by decide) (fun h78 => ?_) (fun h78 => ?_)
        · skip
          have h78 : cHas (fun i => (rtP C T i).toInt64) (rtP C T i).toInt64 i = true := by rw [← cHas_ext i (rowOk_at hg)]; exact Classical.not_not.mp (fun q => h78 (if_neg q))
          refine rh_aload_n hX dX7_ratchets_84 rfl ?_
          refine rh_get hX gl_X7_40 0 dX7_ratchets_85 rfl rfl ?_
          refine rh_iload hX dX7_ratchets_88 rfl ?_
          refine rh_i2l hX dX7_ratchets_90 ?_
          refine rh_uV hX lk_X7_181 mvX3_tell (fun l => c_X3_tell l E _ _ _ i _ (by omega)) ⟨rfl, rfl⟩ ⟨Nat.le_of_ble_eq_true rfl, Nat.le_of_ble_eq_true rfl⟩ [18, 19] rfl rfl 18 rfl dX7_ratchets_91 rfl rfl (Nat.le_of_ble_eq_true rfl) rfl ?_
          dsimp only [List.cons_append, List.nil_append, List.set_cons_succ, List.set_cons_zero, vput]
          refine rh_inc3 hX dX7_ratchets_94 (by decide) rfl (rn_i1 _) ?_
          refine rh_goto (tgt := 22) hX dX7_ratchets_97 (by decide) ?_
          first | (rw [unN_a h65] at ih; exact rh_wk (by exact ⟨rfl, rfl, rfl, rfl, trivial⟩) (ih _ (_, _, _, _, _, _, _, _, _, _, _, _) (by rw [range_push]; exact rowOk_push _ hg (by rw [List.length_map, List.length_range])))) | (rw [unN_b h65 h78] at ih; exact rh_wk (by exact ⟨rfl, rfl, rfl, rfl, trivial⟩) (ih _ (_, _, _, _, _, _, _, _, _, _, _, _) (by rw [range_push]; exact rowOk_push _ hg (by rw [List.length_map, List.length_range])))) | (rw [unN_c h65 h78] at ih; exact rh_wk (by exact ⟨rfl, rfl, rfl, rfl, trivial⟩) (ih _ (_, _, _, _, _, _, _, _, _, _, _, _) (by rw [range_push]; exact rowOk_push _ hg (by rw [List.length_map, List.length_range]))))
        · skip
          have h78 : ¬ cHas (fun i => (rtP C T i).toInt64) (rtP C T i).toInt64 i = true := by rw [← cHas_ext i (rowOk_at hg)]; exact fun q => absurd h78 (by first | (rw [if_pos q]; decide) | (rw [show (if cHas g1 (rtP C T i).toInt64 i = true then (1 : Int32) else 0) = 1 from if_pos q]; decide) | exact fun z => absurd (z.symm.trans (if_pos q)) (by decide))
          refine rh_inc2 hX dX7_ratchets_81 (by decide) rfl (rn_i1 _) ?_
          refine rh_aload_n hX dX7_ratchets_84 rfl ?_
          refine rh_get hX gl_X7_40 0 dX7_ratchets_85 rfl rfl ?_
          refine rh_iload hX dX7_ratchets_88 rfl ?_
          refine rh_i2l hX dX7_ratchets_90 ?_
          refine rh_uV hX lk_X7_181 mvX3_tell (fun l => c_X3_tell l E _ _ _ i _ (by omega)) ⟨rfl, rfl⟩ ⟨Nat.le_of_ble_eq_true rfl, Nat.le_of_ble_eq_true rfl⟩ [18, 19] rfl rfl 18 rfl dX7_ratchets_91 rfl rfl (Nat.le_of_ble_eq_true rfl) rfl ?_
          dsimp only [List.cons_append, List.nil_append, List.set_cons_succ, List.set_cons_zero, vput]
          refine rh_inc3 hX dX7_ratchets_94 (by decide) rfl (rn_i1 _) ?_
          refine rh_goto (tgt := 22) hX dX7_ratchets_97 (by decide) ?_
          first | (rw [unN_a h65] at ih; exact rh_wk (by exact ⟨rfl, rfl, rfl, rfl, trivial⟩) (ih _ (_, _, _, _, _, _, _, _, _, _, _, _) (by rw [range_push]; exact rowOk_push _ hg (by rw [List.length_map, List.length_range])))) | (rw [unN_b h65 h78] at ih; exact rh_wk (by exact ⟨rfl, rfl, rfl, rfl, trivial⟩) (ih _ (_, _, _, _, _, _, _, _, _, _, _, _) (by rw [range_push]; exact rowOk_push _ hg (by rw [List.length_map, List.length_range])))) | (rw [unN_c h65 h78] at ih; exact rh_wk (by exact ⟨rfl, rfl, rfl, rfl, trivial⟩) (ih _ (_, _, _, _, _, _, _, _, _, _, _, _) (by rw [range_push]; exact rowOk_push _ hg (by rw [List.length_map, List.length_range]))))
  · skip
    refine rh_iload_n hX dX7_ratchets_9 rfl ?_
    exact rh_iret hX hR dX7_ratchets_10 (by simp only [List.map_cons, List.map_nil, List.cons_append, List.nil_append]) ⟨(Z.1, (tRound C).2.1, (tRound C).2.2, Z.2.2.2), (C.1, C.2.1, C.2.2.1, C.2.2.2.1, C.2.2.2.2.1, C.2.2.2.2.2.1, C.2.2.2.2.2.2.1, C.2.2.2.2.2.2.2.1, 0, C.2.2.2.2.2.2.2.2.2), by rw [x_ratchets, if_neg h6], hz, by rw [x_ratchets, if_neg h6]; rfl, rfl⟩

set_option maxRecDepth 100000 in
set_option maxHeartbeats 4000000 in
theorem c_X7_ratchet (l : Launch) (E : rhE) (A : Nat → Nat) (C : CT) (Z : ZT) (t p n mm : Int32) (T : Nat) (hC : cOk C T)  : Ctr l E yX7_ratchet cX7_ratchet 9 (some .int) (rmL 4) [.ref (A 0), .int t, .int p, .int n, .int mm] (wC E A C Z) (One (some (.int (x_ratchet C T t p n mm))) (wC E A C Z)) := by
  refine Ctr.of (by decide) (Nat.le_of_ble_eq_true rfl) rfl rfl 4 ?_
  intro X hX hR
  obtain ⟨hT, hT1, hT6, hnx, hud, hn, hrn⟩ := id hC
  refine rh_aload_n hX dX7_ratchet_0 rfl ?_
  refine rh_iload_n hX dX7_ratchet_1 rfl ?_
  refine rh_aP hX lk_X7_145 mvX7_isSeries (fun l => c_X7_isSeries l E A C Z _ T hC) ⟨rfl, rfl⟩ ⟨Nat.le_of_ble_eq_true rfl, Nat.le_of_ble_eq_true rfl⟩ 0 rfl dX7_ratchet_2 rfl rfl (Nat.le_of_ble_eq_true rfl) ?_
  refine rh_if_eq (tgt := 39) hX dX7_ratchet_5 (by decide) (fun h5 => ?_) (fun h5 => ?_)
  · skip
    refine rh_iconst hX dX7_ratchet_39 ki_m1 ?_
    exact rh_iret hX hR dX7_ratchet_40 (by simp only [List.map_cons, List.map_nil, List.cons_append, List.nil_append]) ⟨by first | (rw [x_ratchet, if_pos h5] <;> rfl) | (rw [x_ratchet, if_neg h5, if_pos h15] <;> rfl) | (rw [x_ratchet, if_neg h5, if_neg h15, if_pos h25] <;> rfl) | (rw [x_ratchet, if_neg h5, if_neg h15, if_neg h25, if_pos h36] <;> rfl), rfl⟩
  · skip
    obtain ⟨td, rfl, htd1, htd⟩ := xSe_1 hT6 h5
    refine rh_iload_n hX dX7_ratchet_8 rfl ?_
    refine rh_ldc2 hX dX7_ratchet_9 kl_X7_206 ?_
    refine rh_pS hX lk_X7_208 msX7_isUpTo (fun l => c_X7_isUpTo l E _ _) ⟨rfl, rfl⟩ ⟨Nat.le_of_ble_eq_true rfl, Nat.le_of_ble_eq_true rfl⟩ [] rfl rfl dX7_ratchet_12 rfl rfl (Nat.le_of_ble_eq_true rfl) ?_
    refine rh_if_eq (tgt := 39) hX dX7_ratchet_15 (by decide) (fun h15 => ?_) (fun h15 => ?_)
    · skip
      refine rh_iconst hX dX7_ratchet_39 ki_m1 ?_
      exact rh_iret hX hR dX7_ratchet_40 (by simp only [List.map_cons, List.map_nil, List.cons_append, List.nil_append]) ⟨by first | (rw [x_ratchet, if_pos h5] <;> rfl) | (rw [x_ratchet, if_neg h5, if_pos h15] <;> rfl) | (rw [x_ratchet, if_neg h5, if_neg h15, if_pos h25] <;> rfl) | (rw [x_ratchet, if_neg h5, if_neg h15, if_neg h25, if_pos h36] <;> rfl), rfl⟩
    · skip
      refine rh_iload_n hX dX7_ratchet_18 rfl ?_
      refine rh_ldc2 hX dX7_ratchet_19 kl_X7_206 ?_
      refine rh_pS hX lk_X7_208 msX7_isUpTo (fun l => c_X7_isUpTo l E _ _) ⟨rfl, rfl⟩ ⟨Nat.le_of_ble_eq_true rfl, Nat.le_of_ble_eq_true rfl⟩ [] rfl rfl dX7_ratchet_22 rfl rfl (Nat.le_of_ble_eq_true rfl) ?_
      refine rh_if_eq (tgt := 39) hX dX7_ratchet_25 (by decide) (fun h25 => ?_) (fun h25 => ?_)
      · skip
        refine rh_iconst hX dX7_ratchet_39 ki_m1 ?_
        exact rh_iret hX hR dX7_ratchet_40 (by simp only [List.map_cons, List.map_nil, List.cons_append, List.nil_append]) ⟨by first | (rw [x_ratchet, if_pos h5] <;> rfl) | (rw [x_ratchet, if_neg h5, if_pos h15] <;> rfl) | (rw [x_ratchet, if_neg h5, if_neg h15, if_pos h25] <;> rfl) | (rw [x_ratchet, if_neg h5, if_neg h15, if_neg h25, if_pos h36] <;> rfl), rfl⟩
      · skip
        refine rh_iload hX dX7_ratchet_28 rfl ?_
        refine rh_ldc2 hX dX7_ratchet_30 kl_X7_226 ?_
        refine rh_pS hX lk_X7_208 msX7_isUpTo (fun l => c_X7_isUpTo l E _ _) ⟨rfl, rfl⟩ ⟨Nat.le_of_ble_eq_true rfl, Nat.le_of_ble_eq_true rfl⟩ [] rfl rfl dX7_ratchet_33 rfl rfl (Nat.le_of_ble_eq_true rfl) ?_
        refine rh_if_ne (tgt := 41) hX dX7_ratchet_36 (by decide) (fun h36 => ?_) (fun h36 => ?_)
        · skip
          refine rh_aload_n hX dX7_ratchet_41 rfl ?_
          refine rh_get hX gl_X7_12 0 dX7_ratchet_42 rfl rfl ?_
          refine rh_iload_n hX dX7_ratchet_45 rfl ?_
          refine rh_iconst hX dX7_ratchet_46 ki_2 ?_
          refine rh_pV hX lk_X7_155 mvX1_fact (fun l => c_X1_fact l E _ _ _ td 2 (by omega) (by omega)) ⟨rfl, rfl⟩ ⟨Nat.le_of_ble_eq_true rfl, Nat.le_of_ble_eq_true rfl⟩ [1, 2] rfl rfl 1 rfl dX7_ratchet_47 rfl rfl (Nat.le_of_ble_eq_true rfl) ?_
          refine rh_lst5 hX dX7_ratchet_50 (by decide) rfl ?_
          refine rh_lload hX dX7_ratchet_52 rfl ?_
          refine rh_ldc2 hX dX7_ratchet_54 kl_X7_228 ?_
          refine rh_lne (tgt := 71) hX dX7_ratchet_57 dX7_ratchet_58 (by decide) (fun h58 => ?_) (fun h58 => ?_)
          · skip
            refine rh_aload_n hX dX7_ratchet_71 rfl ?_
            refine rh_get hX gl_X7_12 0 dX7_ratchet_72 rfl rfl ?_
            refine rh_pV hX lk_X7_100 mvX1_size (fun l => c_X1_size l E _ _ _ T hT hT6) ⟨rfl, rfl⟩ ⟨Nat.le_of_ble_eq_true rfl, Nat.le_of_ble_eq_true rfl⟩ [1, 2] rfl rfl 1 rfl dX7_ratchet_75 rfl rfl (Nat.le_of_ble_eq_true rfl) ?_
            refine rh_lst7 hX dX7_ratchet_78 (by decide) rfl ?_
            refine rh_aload_n hX dX7_ratchet_80 rfl ?_
            refine rh_get hX gl_X7_12 0 dX7_ratchet_81 rfl rfl ?_
            refine rh_iload_n hX dX7_ratchet_84 rfl ?_
            refine rh_iconst hX dX7_ratchet_85 ki_1 ?_
            refine rh_pV hX lk_X7_155 mvX1_fact (fun l => c_X1_fact l E _ _ _ td 1 (by omega) (by omega)) ⟨rfl, rfl⟩ ⟨Nat.le_of_ble_eq_true rfl, Nat.le_of_ble_eq_true rfl⟩ [1, 2] rfl rfl 1 rfl dX7_ratchet_86 rfl rfl (Nat.le_of_ble_eq_true rfl) ?_
            refine rh_lload hX dX7_ratchet_89 rfl ?_
            refine rh_iload_n hX dX7_ratchet_91 rfl ?_
            refine rh_i2l hX dX7_ratchet_92 ?_
            refine rh_iload_n hX dX7_ratchet_93 rfl ?_
            refine rh_i2l hX dX7_ratchet_94 ?_
            refine rh_iload hX dX7_ratchet_95 rfl ?_
            refine rh_i2l hX dX7_ratchet_97 ?_
            refine rh_lload hX dX7_ratchet_98 rfl ?_
            refine rh_pS hX lk_X7_233 msX7_ratcheted (fun l => c_X7_ratcheted l E _ _ _ _ _ _) ⟨rfl, rfl⟩ ⟨Nat.le_of_ble_eq_true rfl, Nat.le_of_ble_eq_true rfl⟩ [] rfl rfl dX7_ratchet_100 rfl rfl (Nat.le_of_ble_eq_true rfl) ?_
            refine rh_l2i hX dX7_ratchet_103 ?_
            exact rh_iret hX hR dX7_ratchet_104 (by simp only [List.map_cons, List.map_nil, List.cons_append, List.nil_append]) ⟨by first | (rw [x_ratchet, if_neg h5, if_neg h15, if_neg h25, if_neg h36, nI_clamp (show td < 2 ^ 31 by omega), if_pos h58] <;> rfl) | (rw [x_ratchet, if_neg h5, if_neg h15, if_neg h25, if_neg h36, nI_clamp (show td < 2 ^ 31 by omega), if_neg h58] <;> rfl), rfl⟩
          · skip
            refine rh_aload_n hX dX7_ratchet_61 rfl ?_
            refine rh_get hX gl_X7_12 0 dX7_ratchet_62 rfl rfl ?_
            refine rh_pV hX lk_X7_230 mvX1_allVotes (fun l => c_X1_allVotes l E _ _ _ T hT hT6) ⟨rfl, rfl⟩ ⟨Nat.le_of_ble_eq_true rfl, Nat.le_of_ble_eq_true rfl⟩ [1, 2] rfl rfl 1 rfl dX7_ratchet_65 rfl rfl (Nat.le_of_ble_eq_true rfl) ?_
            refine rh_goto (tgt := 78) hX dX7_ratchet_68 (by decide) ?_
            refine rh_lst7 hX dX7_ratchet_78 (by decide) rfl ?_
            refine rh_aload_n hX dX7_ratchet_80 rfl ?_
            refine rh_get hX gl_X7_12 0 dX7_ratchet_81 rfl rfl ?_
            refine rh_iload_n hX dX7_ratchet_84 rfl ?_
            refine rh_iconst hX dX7_ratchet_85 ki_1 ?_
            refine rh_pV hX lk_X7_155 mvX1_fact (fun l => c_X1_fact l E _ _ _ td 1 (by omega) (by omega)) ⟨rfl, rfl⟩ ⟨Nat.le_of_ble_eq_true rfl, Nat.le_of_ble_eq_true rfl⟩ [1, 2] rfl rfl 1 rfl dX7_ratchet_86 rfl rfl (Nat.le_of_ble_eq_true rfl) ?_
            refine rh_lload hX dX7_ratchet_89 rfl ?_
            refine rh_iload_n hX dX7_ratchet_91 rfl ?_
            refine rh_i2l hX dX7_ratchet_92 ?_
            refine rh_iload_n hX dX7_ratchet_93 rfl ?_
            refine rh_i2l hX dX7_ratchet_94 ?_
            refine rh_iload hX dX7_ratchet_95 rfl ?_
            refine rh_i2l hX dX7_ratchet_97 ?_
            refine rh_lload hX dX7_ratchet_98 rfl ?_
            refine rh_pS hX lk_X7_233 msX7_ratcheted (fun l => c_X7_ratcheted l E _ _ _ _ _ _) ⟨rfl, rfl⟩ ⟨Nat.le_of_ble_eq_true rfl, Nat.le_of_ble_eq_true rfl⟩ [] rfl rfl dX7_ratchet_100 rfl rfl (Nat.le_of_ble_eq_true rfl) ?_
            refine rh_l2i hX dX7_ratchet_103 ?_
            exact rh_iret hX hR dX7_ratchet_104 (by simp only [List.map_cons, List.map_nil, List.cons_append, List.nil_append]) ⟨by first | (rw [x_ratchet, if_neg h5, if_neg h15, if_neg h25, if_neg h36, nI_clamp (show td < 2 ^ 31 by omega), if_pos h58] <;> rfl) | (rw [x_ratchet, if_neg h5, if_neg h15, if_neg h25, if_neg h36, nI_clamp (show td < 2 ^ 31 by omega), if_neg h58] <;> rfl), rfl⟩
        · skip
          refine rh_iconst hX dX7_ratchet_39 ki_m1 ?_
          exact rh_iret hX hR dX7_ratchet_40 (by simp only [List.map_cons, List.map_nil, List.cons_append, List.nil_append]) ⟨by first | (rw [x_ratchet, if_pos h5] <;> rfl) | (rw [x_ratchet, if_neg h5, if_pos h15] <;> rfl) | (rw [x_ratchet, if_neg h5, if_neg h15, if_pos h25] <;> rfl) | (rw [x_ratchet, if_neg h5, if_neg h15, if_neg h25, if_pos h36] <;> rfl), rfl⟩

set_option maxRecDepth 100000 in
set_option maxHeartbeats 4000000 in
theorem c_X7_count_0 (l : Launch) (E : rhE) (A : Nat → Nat) (C : CT) (Z : ZT) (T : Nat) (hC : cOk C T)  : Ctr l E yX7_count cX7_count 2 (some .int) (rmL 5) [.ref (A 0), .int (nI 0)] (wC E A C Z) (One (some (.int (x_count C T (nI 0)))) (wC E A C Z)) := by
  refine Ctr.of (by decide) (Nat.le_of_ble_eq_true rfl) rfl rfl 0 ?_
  intro X hX hR
  obtain ⟨hT, hT1, hT6, hnx, hud, hn, hrn⟩ := id hC
  refine rh_iload_n hX dX7_count_0 rfl ?_
  refine rh_tabIn (tgt := 60) (off := 59) hX dX7_count_1 (by decide) (by decide) (by decide) (by decide) ?_
  refine rh_aload_n hX dX7_count_60 rfl ?_
  refine rh_get hX gl_X7_12 0 dX7_count_61 rfl rfl ?_
  refine rh_pV hX lk_X7_135 mvX1_types (fun l => c_X1_types l E _ _ _ T hT hT6) ⟨rfl, rfl⟩ ⟨Nat.le_of_ble_eq_true rfl, Nat.le_of_ble_eq_true rfl⟩ [1, 2] rfl rfl 1 rfl dX7_count_64 rfl rfl (Nat.le_of_ble_eq_true rfl) ?_
  exact rh_iret hX hR dX7_count_67 (by simp only [List.map_cons, List.map_nil, List.cons_append, List.nil_append]) ⟨rfl, rfl⟩

set_option maxRecDepth 100000 in
set_option maxHeartbeats 4000000 in
theorem c_X7_count_1 (l : Launch) (E : rhE) (A : Nat → Nat) (C : CT) (Z : ZT) (T : Nat) (hC : cOk C T)  : Ctr l E yX7_count cX7_count 2 (some .int) (rmL 5) [.ref (A 0), .int (nI 1)] (wC E A C Z) (One (some (.int (x_count C T (nI 1)))) (wC E A C Z)) := by
  refine Ctr.of (by decide) (Nat.le_of_ble_eq_true rfl) rfl rfl 0 ?_
  intro X hX hR
  obtain ⟨hT, hT1, hT6, hnx, hud, hn, hrn⟩ := id hC
  refine rh_iload_n hX dX7_count_0 rfl ?_
  refine rh_tabIn (tgt := 68) (off := 67) hX dX7_count_1 (by decide) (by decide) (by decide) (by decide) ?_
  refine rh_aload_n hX dX7_count_68 rfl ?_
  refine rh_get hX gl_X7_12 0 dX7_count_69 rfl rfl ?_
  refine rh_pV hX lk_X7_117 mvX1_spare (fun l => c_X1_spare l E _ _ _) ⟨rfl, rfl⟩ ⟨Nat.le_of_ble_eq_true rfl, Nat.le_of_ble_eq_true rfl⟩ [1, 2] rfl rfl 1 rfl dX7_count_72 rfl rfl (Nat.le_of_ble_eq_true rfl) ?_
  refine rh_l2i hX dX7_count_75 ?_
  exact rh_iret hX hR dX7_count_76 (by simp only [List.map_cons, List.map_nil, List.cons_append, List.nil_append]) ⟨rfl, rfl⟩

set_option maxRecDepth 100000 in
set_option maxHeartbeats 4000000 in
theorem c_X7_count_2 (l : Launch) (E : rhE) (A : Nat → Nat) (C : CT) (Z : ZT) (T : Nat) (hC : cOk C T)  : Ctr l E yX7_count cX7_count 2 (some .int) (rmL 5) [.ref (A 0), .int (nI 2)] (wC E A C Z) (One (some (.int (x_count C T (nI 2)))) (wC E A C Z)) := by
  refine Ctr.of (by decide) (Nat.le_of_ble_eq_true rfl) rfl rfl 0 ?_
  intro X hX hR
  obtain ⟨hT, hT1, hT6, hnx, hud, hn, hrn⟩ := id hC
  refine rh_iload_n hX dX7_count_0 rfl ?_
  refine rh_tabIn (tgt := 77) (off := 76) hX dX7_count_1 (by decide) (by decide) (by decide) (by decide) ?_
  refine rh_aload_n hX dX7_count_77 rfl ?_
  refine rh_get hX gl_X7_12 0 dX7_count_78 rfl rfl ?_
  refine rh_pV hX lk_X7_243 mvX1_allGranted (fun l => c_X1_allGranted l E _ _ _) ⟨rfl, rfl⟩ ⟨Nat.le_of_ble_eq_true rfl, Nat.le_of_ble_eq_true rfl⟩ [1, 2] rfl rfl 1 rfl dX7_count_81 rfl rfl (Nat.le_of_ble_eq_true rfl) ?_
  refine rh_l2i hX dX7_count_84 ?_
  exact rh_iret hX hR dX7_count_85 (by simp only [List.map_cons, List.map_nil, List.cons_append, List.nil_append]) ⟨rfl, rfl⟩

set_option maxRecDepth 100000 in
set_option maxHeartbeats 4000000 in
theorem c_X7_count_3 (l : Launch) (E : rhE) (A : Nat → Nat) (C : CT) (Z : ZT) (T : Nat) (hC : cOk C T)  : Ctr l E yX7_count cX7_count 2 (some .int) (rmL 5) [.ref (A 0), .int (nI 3)] (wC E A C Z) (One (some (.int (x_count C T (nI 3)))) (wC E A C Z)) := by
  refine Ctr.of (by decide) (Nat.le_of_ble_eq_true rfl) rfl rfl 0 ?_
  intro X hX hR
  obtain ⟨hT, hT1, hT6, hnx, hud, hn, hrn⟩ := id hC
  refine rh_iload_n hX dX7_count_0 rfl ?_
  refine rh_tabIn (tgt := 86) (off := 85) hX dX7_count_1 (by decide) (by decide) (by decide) (by decide) ?_
  refine rh_aload_n hX dX7_count_86 rfl ?_
  refine rh_get hX gl_X7_26 0 dX7_count_87 rfl rfl ?_
  refine rh_get hX gl_X7_341 6 dX7_count_90 rfl rfl ?_
  exact rh_iret hX hR dX7_count_93 (by simp only [List.map_cons, List.map_nil, List.cons_append, List.nil_append]) ⟨rfl, rfl⟩

set_option maxRecDepth 100000 in
set_option maxHeartbeats 4000000 in
theorem c_X7_count_4 (l : Launch) (E : rhE) (A : Nat → Nat) (C : CT) (Z : ZT) (T : Nat) (hC : cOk C T)  : Ctr l E yX7_count cX7_count 2 (some .int) (rmL 5) [.ref (A 0), .int (nI 4)] (wC E A C Z) (One (some (.int (x_count C T (nI 4)))) (wC E A C Z)) := by
  refine Ctr.of (by decide) (Nat.le_of_ble_eq_true rfl) rfl rfl 0 ?_
  intro X hX hR
  obtain ⟨hT, hT1, hT6, hnx, hud, hn, hrn⟩ := id hC
  refine rh_iload_n hX dX7_count_0 rfl ?_
  refine rh_tabIn (tgt := 94) (off := 93) hX dX7_count_1 (by decide) (by decide) (by decide) (by decide) ?_
  refine rh_aload_n hX dX7_count_94 rfl ?_
  refine rh_get hX gl_X7_26 0 dX7_count_95 rfl rfl ?_
  refine rh_get hX gl_X7_344 6 dX7_count_98 rfl rfl ?_
  exact rh_iret hX hR dX7_count_101 (by simp only [List.map_cons, List.map_nil, List.cons_append, List.nil_append]) ⟨rfl, rfl⟩

set_option maxRecDepth 100000 in
set_option maxHeartbeats 4000000 in
theorem c_X7_count_5 (l : Launch) (E : rhE) (A : Nat → Nat) (C : CT) (Z : ZT) (T : Nat) (hC : cOk C T)  : Ctr l E yX7_count cX7_count 2 (some .int) (rmL 5) [.ref (A 0), .int (nI 5)] (wC E A C Z) (One (some (.int (x_count C T (nI 5)))) (wC E A C Z)) := by
  refine Ctr.of (by decide) (Nat.le_of_ble_eq_true rfl) rfl rfl 0 ?_
  intro X hX hR
  obtain ⟨hT, hT1, hT6, hnx, hud, hn, hrn⟩ := id hC
  refine rh_iload_n hX dX7_count_0 rfl ?_
  refine rh_tabIn (tgt := 102) (off := 101) hX dX7_count_1 (by decide) (by decide) (by decide) (by decide) ?_
  refine rh_aload_n hX dX7_count_102 rfl ?_
  refine rh_get hX gl_X7_40 0 dX7_count_103 rfl rfl ?_
  refine rh_get hX gl_X7_347 18 dX7_count_106 rfl rfl ?_
  exact rh_iret hX hR dX7_count_109 (by simp only [List.map_cons, List.map_nil, List.cons_append, List.nil_append]) ⟨rfl, rfl⟩

set_option maxRecDepth 100000 in
set_option maxHeartbeats 4000000 in
theorem c_X7_count_6 (l : Launch) (E : rhE) (A : Nat → Nat) (C : CT) (Z : ZT) (T : Nat) (hC : cOk C T)  : Ctr l E yX7_count cX7_count 2 (some .int) (rmL 5) [.ref (A 0), .int (nI 6)] (wC E A C Z) (One (some (.int (x_count C T (nI 6)))) (wC E A C Z)) := by
  refine Ctr.of (by decide) (Nat.le_of_ble_eq_true rfl) rfl rfl 0 ?_
  intro X hX hR
  obtain ⟨hT, hT1, hT6, hnx, hud, hn, hrn⟩ := id hC
  refine rh_iload_n hX dX7_count_0 rfl ?_
  refine rh_tabIn (tgt := 110) (off := 109) hX dX7_count_1 (by decide) (by decide) (by decide) (by decide) ?_
  refine rh_aload_n hX dX7_count_110 rfl ?_
  refine rh_get hX gl_X7_33 0 dX7_count_111 rfl rfl ?_
  refine rh_get hX gl_X7_349 16 dX7_count_114 rfl rfl ?_
  exact rh_iret hX hR dX7_count_117 (by simp only [List.map_cons, List.map_nil, List.cons_append, List.nil_append]) ⟨rfl, rfl⟩

set_option maxRecDepth 100000 in
set_option maxHeartbeats 4000000 in
theorem c_X7_count_7 (l : Launch) (E : rhE) (A : Nat → Nat) (C : CT) (Z : ZT) (T : Nat) (hC : cOk C T)  : Ctr l E yX7_count cX7_count 2 (some .int) (rmL 5) [.ref (A 0), .int (nI 7)] (wC E A C Z) (One (some (.int (x_count C T (nI 7)))) (wC E A C Z)) := by
  refine Ctr.of (by decide) (Nat.le_of_ble_eq_true rfl) rfl rfl 0 ?_
  intro X hX hR
  obtain ⟨hT, hT1, hT6, hnx, hud, hn, hrn⟩ := id hC
  refine rh_iload_n hX dX7_count_0 rfl ?_
  refine rh_tabIn (tgt := 118) (off := 117) hX dX7_count_1 (by decide) (by decide) (by decide) (by decide) ?_
  refine rh_aload_n hX dX7_count_118 rfl ?_
  refine rh_get hX gl_X7_12 0 dX7_count_119 rfl rfl ?_
  refine rh_pV hX lk_X7_352 mvX1_claimants (fun l => c_X1_claimants l E _ _ _ T hT hT6) ⟨rfl, rfl⟩ ⟨Nat.le_of_ble_eq_true rfl, Nat.le_of_ble_eq_true rfl⟩ [1, 2] rfl rfl 1 rfl dX7_count_122 rfl rfl (Nat.le_of_ble_eq_true rfl) ?_
  exact rh_iret hX hR dX7_count_125 (by simp only [List.map_cons, List.map_nil, List.cons_append, List.nil_append]) ⟨rfl, rfl⟩

set_option maxRecDepth 100000 in
set_option maxHeartbeats 4000000 in
theorem c_X7_count_8 (l : Launch) (E : rhE) (A : Nat → Nat) (C : CT) (Z : ZT) (T : Nat) (hC : cOk C T)  : Ctr l E yX7_count cX7_count 2 (some .int) (rmL 5) [.ref (A 0), .int (nI 8)] (wC E A C Z) (One (some (.int (x_count C T (nI 8)))) (wC E A C Z)) := by
  refine Ctr.of (by decide) (Nat.le_of_ble_eq_true rfl) rfl rfl 0 ?_
  intro X hX hR
  obtain ⟨hT, hT1, hT6, hnx, hud, hn, hrn⟩ := id hC
  refine rh_iload_n hX dX7_count_0 rfl ?_
  refine rh_tabIn (tgt := 126) (off := 125) hX dX7_count_1 (by decide) (by decide) (by decide) (by decide) ?_
  refine rh_aload_n hX dX7_count_126 rfl ?_
  refine rh_get hX gl_X7_12 0 dX7_count_127 rfl rfl ?_
  refine rh_pV hX lk_X7_355 mvX1_grantees (fun l => c_X1_grantees l E _ _ _) ⟨rfl, rfl⟩ ⟨Nat.le_of_ble_eq_true rfl, Nat.le_of_ble_eq_true rfl⟩ [1, 2] rfl rfl 1 rfl dX7_count_130 rfl rfl (Nat.le_of_ble_eq_true rfl) ?_
  exact rh_iret hX hR dX7_count_133 (by simp only [List.map_cons, List.map_nil, List.cons_append, List.nil_append]) ⟨rfl, rfl⟩

set_option maxRecDepth 100000 in
set_option maxHeartbeats 4000000 in
theorem c_X7_count_9 (l : Launch) (E : rhE) (A : Nat → Nat) (C : CT) (Z : ZT) (T : Nat) (hC : cOk C T)  : Ctr l E yX7_count cX7_count 2 (some .int) (rmL 5) [.ref (A 0), .int (nI 9)] (wC E A C Z) (One (some (.int (x_count C T (nI 9)))) (wC E A C Z)) := by
  refine Ctr.of (by decide) (Nat.le_of_ble_eq_true rfl) rfl rfl 0 ?_
  intro X hX hR
  obtain ⟨hT, hT1, hT6, hnx, hud, hn, hrn⟩ := id hC
  refine rh_iload_n hX dX7_count_0 rfl ?_
  refine rh_tabIn (tgt := 134) (off := 133) hX dX7_count_1 (by decide) (by decide) (by decide) (by decide) ?_
  refine rh_aload_n hX dX7_count_134 rfl ?_
  refine rh_get hX gl_X7_12 0 dX7_count_135 rfl rfl ?_
  refine rh_iconst hX dX7_count_138 ki_2 ?_
  refine rh_pV hX lk_X7_358 mvX1_typesWith (fun l => c_X1_typesWith l E _ _ _ 2 T hT hT6 (by omega) hT1) ⟨rfl, rfl⟩ ⟨Nat.le_of_ble_eq_true rfl, Nat.le_of_ble_eq_true rfl⟩ [1, 2] rfl rfl 1 rfl dX7_count_139 rfl rfl (Nat.le_of_ble_eq_true rfl) ?_
  exact rh_iret hX hR dX7_count_142 (by simp only [List.map_cons, List.map_nil, List.cons_append, List.nil_append]) ⟨rfl, rfl⟩

set_option maxRecDepth 100000 in
set_option maxHeartbeats 4000000 in
theorem c_X7_count_10 (l : Launch) (E : rhE) (A : Nat → Nat) (C : CT) (Z : ZT) (T : Nat) (hC : cOk C T)  : Ctr l E yX7_count cX7_count 2 (some .int) (rmL 5) [.ref (A 0), .int (nI 10)] (wC E A C Z) (One (some (.int (x_count C T (nI 10)))) (wC E A C Z)) := by
  refine Ctr.of (by decide) (Nat.le_of_ble_eq_true rfl) rfl rfl 0 ?_
  intro X hX hR
  obtain ⟨hT, hT1, hT6, hnx, hud, hn, hrn⟩ := id hC
  refine rh_iload_n hX dX7_count_0 rfl ?_
  refine rh_tabIn (tgt := 143) (off := 142) hX dX7_count_1 (by decide) (by decide) (by decide) (by decide) ?_
  refine rh_aload_n hX dX7_count_143 rfl ?_
  refine rh_get hX gl_X7_12 0 dX7_count_144 rfl rfl ?_
  refine rh_iconst hX dX7_count_147 ki_5 ?_
  refine rh_pV hX lk_X7_358 mvX1_typesWith (fun l => c_X1_typesWith l E _ _ _ 5 T hT hT6 (by omega) hT1) ⟨rfl, rfl⟩ ⟨Nat.le_of_ble_eq_true rfl, Nat.le_of_ble_eq_true rfl⟩ [1, 2] rfl rfl 1 rfl dX7_count_148 rfl rfl (Nat.le_of_ble_eq_true rfl) ?_
  exact rh_iret hX hR dX7_count_151 (by simp only [List.map_cons, List.map_nil, List.cons_append, List.nil_append]) ⟨rfl, rfl⟩

set_option maxRecDepth 100000 in
set_option maxHeartbeats 4000000 in
theorem c_X7_count_o (l : Launch) (E : rhE) (A : Nat → Nat) (C : CT) (Z : ZT) (wh : Int32) (hw : wh.toInt < 0 ∨ 10 < wh.toInt) (T : Nat) (hC : cOk C T)  : Ctr l E yX7_count cX7_count 2 (some .int) (rmL 5) [.ref (A 0), .int wh] (wC E A C Z) (One (some (.int (x_count C T wh))) (wC E A C Z)) := by
  refine Ctr.of (by decide) (Nat.le_of_ble_eq_true rfl) rfl rfl 0 ?_
  intro X hX hR
  obtain ⟨hT, hT1, hT6, hnx, hud, hn, hrn⟩ := id hC
  refine rh_iload_n hX dX7_count_0 rfl ?_
  refine rh_tabOut (tgt := 152) hX dX7_count_1 hw (by decide) ?_
  refine rh_iconst hX dX7_count_152 ki_m1 ?_
  exact rh_iret hX hR dX7_count_153 (by simp only [List.map_cons, List.map_nil, List.cons_append, List.nil_append]) ⟨by rw [x_count, if_neg (fun q => by rw [q] at hw; revert hw; decide), if_neg (fun q => by rw [q] at hw; revert hw; decide), if_neg (fun q => by rw [q] at hw; revert hw; decide), if_neg (fun q => by rw [q] at hw; revert hw; decide), if_neg (fun q => by rw [q] at hw; revert hw; decide), if_neg (fun q => by rw [q] at hw; revert hw; decide), if_neg (fun q => by rw [q] at hw; revert hw; decide), if_neg (fun q => by rw [q] at hw; revert hw; decide), if_neg (fun q => by rw [q] at hw; revert hw; decide), if_neg (fun q => by rw [q] at hw; revert hw; decide), if_neg (fun q => by rw [q] at hw; revert hw; decide)], rfl⟩

theorem c_X7_count (l : Launch) (E : rhE) (A : Nat → Nat) (C : CT) (Z : ZT) (wh : Int32) (T : Nat) (hC : cOk C T) : Ctr l E yX7_count cX7_count 2 (some .int) (rmL 5) [.ref (A 0), .int wh] (wC E A C Z) (One (some (.int (x_count C T wh))) (wC E A C Z)) := by
  by_cases h0 : wh < 0
  · exact c_X7_count_o l E A C Z wh (Or.inl (by rw [Int32.lt_iff_toInt_lt] at h0; exact h0)) T hC
  by_cases h1 : wh ≤ 10
  · obtain ⟨d, rfl, hd⟩ := i32_to (b := 10) h0 h1 (by decide)
    match d, hd with
    | 0, _ => exact c_X7_count_0 l E A C Z T hC
    | 1, _ => exact c_X7_count_1 l E A C Z T hC
    | 2, _ => exact c_X7_count_2 l E A C Z T hC
    | 3, _ => exact c_X7_count_3 l E A C Z T hC
    | 4, _ => exact c_X7_count_4 l E A C Z T hC
    | 5, _ => exact c_X7_count_5 l E A C Z T hC
    | 6, _ => exact c_X7_count_6 l E A C Z T hC
    | 7, _ => exact c_X7_count_7 l E A C Z T hC
    | 8, _ => exact c_X7_count_8 l E A C Z T hC
    | 9, _ => exact c_X7_count_9 l E A C Z T hC
    | 10, _ => exact c_X7_count_10 l E A C Z T hC
  · exact c_X7_count_o l E A C Z wh (Or.inr (by rw [Int32.le_iff_toInt_le] at h1; exact Int.not_le.mp h1)) T hC
