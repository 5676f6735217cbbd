set_option maxRecDepth 100000 in
set_option maxHeartbeats 4000000 in
theorem c_X7_thought (l : Launch) (E : rhE) (A : Nat → Nat) (C : CT) (Z : ZT)  (T : Nat) (hC : cOk C T) (hz : zOk Z) : Ctr l E yX7_thought cX7_thought 4 (some .int) (rmL 9) [.ref (A 0)] (wC E A C Z) (fun r w => ∃ Z1 C1, r = some (Value.int (x_thought C T).1) ∧ zOk Z1 ∧ rowTold (x_thought C T).2.1 C1 (x_thought C T).2.2 ∧ w = wC E A C1 Z1) := by
  refine Ctr.of (by decide) (Nat.le_of_ble_eq_true rfl) rfl rfl 3 ?_
  intro X hX hR
  obtain ⟨hT, hT1, hT6, hnx, hud, hn, hrn⟩ := id hC
  have hC2 := clT_ok hC
  refine rh_aload_n hX dX7_thought_0 rfl ?_
  refine rh_wV hX lk_X7_161 mvX7_readTerms (fun l => c_X7_readTerms l E _ _ _ T hC) ⟨rfl, rfl⟩ ⟨Nat.le_of_ble_eq_true rfl, Nat.le_of_ble_eq_true rfl⟩ [0, 1, 2, 3, 4, 5, 6, 7, 8, 9, 10, 11, 12, 13, 14, 15, 16, 17, 18, 19, 20, 21, 22, 23, 24, 25, 26, 27, 28, 29, 30, 31, 32, 33, 34, 35] rfl rfl 0 rfl dX7_thought_1 rfl rfl (Nat.le_of_ble_eq_true rfl) rfl ?_
  dsimp only [List.cons_append, List.nil_append, List.set_cons_succ, List.set_cons_zero, vput]
  refine rh_istn1 hX dX7_thought_4 (by decide) rfl ?_
  refine rh_iload_n hX dX7_thought_5 rfl ?_
  refine rh_if_ge (tgt := 11) hX dX7_thought_6 (by decide) (fun h6 => ?_) (fun h6 => ?_)
  · skip
    refine rh_aload_n hX dX7_thought_11 rfl ?_
    refine rh_get hX gl_X7_54 0 dX7_thought_12 rfl rfl ?_
    refine rh_aload_n hX dX7_thought_15 rfl ?_
    refine rh_get hX gl_X7_12 0 dX7_thought_16 rfl rfl ?_
    refine rh_aload_n hX dX7_thought_19 rfl ?_
    refine rh_get hX gl_X7_47 0 dX7_thought_20 rfl rfl ?_
    refine rh_callV hX lk_X7_164 mvX0_works (fun l => c_X0_works l E _ _ _ _ _ _ _ _ _ _ _ _ _ _ _ _ _ _ _ _ _ _ _ _ _ _ _ _ _ _ T hT hT6 hT1) ⟨rfl, rfl⟩ ⟨Nat.le_of_ble_eq_true rfl, Nat.le_of_ble_eq_true rfl⟩ [23, 24, 25, 26, 27, 28, 20, 21, 22, 1, 2] rfl rfl 23 rfl dX7_thought_23 rfl rfl (Nat.le_of_ble_eq_true rfl) (fun r w hp hf => ?_)
    obtain ⟨f1, cvs1, nws1, pA1, bA1, nA1, pr1, is1, tn1, fl1, rfl, hok, rfl⟩ := hp
    have hB := (bg_ext (tRound C).2.2.2.2.2.2.1 (tRound C).2.2.2.2.2.2.2 C.1 Z.2.2.2.1.2.2.1 (fun _ => 0) T).1
    dsimp only [vput, List.set_cons_succ, List.set_cons_zero, Option.toList, List.cons_append, List.nil_append]
    rw [hB] at hok ⊢
    refine rh_istn2 hX dX7_thought_26 (by decide) rfl ?_
    refine rh_iload_n hX dX7_thought_27 rfl ?_
    refine rh_if_ge (tgt := 33) hX dX7_thought_28 (by decide) (fun h28 => ?_) (fun h28 => ?_)
    · skip
      obtain ⟨q, hq, hqT, hT5⟩ := dS_some hT6 h28
      obtain ⟨rfl, rfl, rfl, rfl⟩ := hok q hq
      refine rh_aload_n hX dX7_thought_33 rfl ?_
      refine rh_uV hX lk_X7_178 mvX7_tellDeal (fun l => c_X7_tellDeal l E A (C.1, C.2.1, C.2.2.1, C.2.2.2.1, C.2.2.2.2.1, C.2.2.2.2.2.1, C.2.2.2.2.2.2.1, C.2.2.2.2.2.2.2.1, 0, C.2.2.2.2.2.2.2.2.2) (Z.1, (tRound C).2.1, (tRound C).2.2, (q.1, cvs1, (bg (tRound C).2.2.2.2.2.2.1 (tRound C).2.2.2.2.2.2.2 (C.1, Z.2.2.2.1.2.2.1, 0) T).2.1, nws1, (bg (tRound C).2.2.2.2.2.2.1 (tRound C).2.2.2.2.2.2.2 (C.1, Z.2.2.2.1.2.2.1, 0) T).2.2, pA1, bA1, nA1, pr1, q.2.1, (nI q.2.2.1), q.2.2.2), Z.2.2.2.2.1, Z.2.2.2.2.2.1, Z.2.2.2.2.2.2)) ⟨rfl, rfl⟩ ⟨Nat.le_of_ble_eq_true rfl, Nat.le_of_ble_eq_true rfl⟩ [0, 1, 2, 3, 4, 5, 6, 7, 8, 9, 10, 11, 12, 13, 14, 15, 16, 17, 18, 19, 20, 21, 22, 23, 24, 25, 26, 27, 28, 29, 30, 31, 32, 33, 34, 35] rfl rfl 0 rfl dX7_thought_34 rfl rfl (Nat.le_of_ble_eq_true rfl) rfl ?_
      dsimp only [List.cons_append, List.nil_append, List.set_cons_succ, List.set_cons_zero, vput]
      refine rh_aload_n hX dX7_thought_37 rfl ?_
      refine rh_get hX gl_X7_40 0 dX7_thought_38 rfl rfl ?_
      refine rh_aload_n hX dX7_thought_41 rfl ?_
      refine rh_get hX gl_X7_54 0 dX7_thought_42 rfl rfl ?_
      refine rh_get hX gl_X7_168 23 dX7_thought_45 rfl rfl ?_
      refine rh_pV hX lk_X7_117 mvX1_spare (fun l => c_X1_spare l E _ _ _) ⟨rfl, rfl⟩ ⟨Nat.le_of_ble_eq_true rfl, Nat.le_of_ble_eq_true rfl⟩ [24, 25] rfl rfl 24 rfl dX7_thought_48 rfl rfl (Nat.le_of_ble_eq_true rfl) ?_
      refine rh_uV hX lk_X7_181 mvX3_tell (fun l => c_X3_tell l E _ _ _ (0 + 1 + 1 + 1) _ (by omega)) ⟨rfl, rfl⟩ ⟨Nat.le_of_ble_eq_true rfl, Nat.le_of_ble_eq_true rfl⟩ [18, 19] rfl rfl 18 rfl dX7_thought_51 rfl rfl (Nat.le_of_ble_eq_true rfl) rfl ?_
      dsimp only [List.cons_append, List.nil_append, List.set_cons_succ, List.set_cons_zero, vput]
      refine rh_iconst hX dX7_thought_54 ki_1 ?_
      refine rh_istn3 hX dX7_thought_55 (by decide) rfl ?_
      refine (rh_loop (P := fun k => ∀ g1, rowOk g1 ([q.2.1, (nI q.2.2.1).toInt64, q.2.2.2, q.1 170] ++ (List.range k).map (fun c => cFact q.1 (c + 1) 1)) → G X 56 [some (.ref (A 0)), some (.int (x_rt C)), some (.int (xDS C.1 T (tRound C).2.2).1), some (.int (nI (k + 1)))] [] (wC E A (setRow (C.1, C.2.1, C.2.2.1, C.2.2.2.1, C.2.2.2.2.1, C.2.2.2.2.2.1, C.2.2.2.2.2.2.1, C.2.2.2.2.2.2.2.1, 0, C.2.2.2.2.2.2.2.2.2) g1 (k + 4)) (Z.1, (tRound C).2.1, (tRound C).2.2, (q.1, cvs1, (bg (tRound C).2.2.2.2.2.2.1 (tRound C).2.2.2.2.2.2.2 (C.1, Z.2.2.2.1.2.2.1, 0) T).2.1, nws1, (bg (tRound C).2.2.2.2.2.2.1 (tRound C).2.2.2.2.2.2.2 (C.1, Z.2.2.2.1.2.2.1, 0) T).2.2, pA1, bA1, nA1, pr1, q.2.1, (nI q.2.2.1), q.2.2.2), Z.2.2.2.2.1, Z.2.2.2.2.2.1, Z.2.2.2.2.2.2))) (0) (T) (by omega) ?_ ?_) (va_up (va_up (va_up (va_up C.2.2.2.2.2.2.2.2.2.1 0 q.2.1) (0 + 1) (nI q.2.2.1).toInt64) (0 + 1 + 1) q.2.2.2) (0 + 1 + 1 + 1) (q.1 170)) (rowOk_push _ (rowOk3 _ _ _ _) rfl)
      · intro g1 hg
        refine rh_iload_n hX dX7_thought_56 rfl ?_
        refine rh_aload_n hX dX7_thought_57 rfl ?_
        refine rh_get hX gl_X7_54 0 dX7_thought_58 rfl rfl ?_
        refine rh_get hX gl_X7_168 23 dX7_thought_61 rfl rfl ?_
        refine rh_pV hX lk_X7_135 mvX1_types (fun l => c_X1_types l E _ _ _ (T + 1) hqT (by omega)) ⟨rfl, rfl⟩ ⟨Nat.le_of_ble_eq_true rfl, Nat.le_of_ble_eq_true rfl⟩ [24, 25] rfl rfl 24 rfl dX7_thought_64 rfl rfl (Nat.le_of_ble_eq_true rfl) ?_
        refine rh_icmp_ge_t (tgt := 95) hX dX7_thought_67 (by decide) (nI_le (Nat.le_refl (T + 1)) (by omega)) ?_
        refine rh_iload_n hX dX7_thought_95 rfl ?_
        exact rh_iret hX hR dX7_thought_96 (by simp only [List.map_cons, List.map_nil, List.cons_append, List.nil_append]) ⟨(Z.1, (tRound C).2.1, (tRound C).2.2, (q.1, cvs1, (bg (tRound C).2.2.2.2.2.2.1 (tRound C).2.2.2.2.2.2.2 (C.1, Z.2.2.2.1.2.2.1, 0) T).2.1, nws1, (bg (tRound C).2.2.2.2.2.2.1 (tRound C).2.2.2.2.2.2.2 (C.1, Z.2.2.2.1.2.2.1, 0) T).2.2, pA1, bA1, nA1, pr1, q.2.1, (nI q.2.2.1), q.2.2.2), Z.2.2.2.2.1, Z.2.2.2.2.2.1, Z.2.2.2.2.2.2), (setRow (C.1, C.2.1, C.2.2.1, C.2.2.2.1, C.2.2.2.2.1, C.2.2.2.2.2.1, C.2.2.2.2.2.2.1, C.2.2.2.2.2.2.2.1, 0, C.2.2.2.2.2.2.2.2.2) g1 (T + 4)), by rw [x_thought, if_pos h6, (pair_eq hq : xDS C.1 T (tRound C).2.2 = _)] <;> rfl, hz, by rw [x_thought, if_pos h6, (pair_eq hq : xDS C.1 T (tRound C).2.2 = _), x_thoughtG]; exact ⟨_, hg, by rw [List.length_append, List.length_map, List.length_range]; show setRow _ _ _ = setRow _ _ (4 + T); rw [Nat.add_comm 4 T]; rfl⟩, rfl⟩
      · intro k hk0 hk ihk g1 hg
        refine rh_iload_n hX dX7_thought_56 rfl ?_
        refine rh_aload_n hX dX7_thought_57 rfl ?_
        refine rh_get hX gl_X7_54 0 dX7_thought_58 rfl rfl ?_
        refine rh_get hX gl_X7_168 23 dX7_thought_61 rfl rfl ?_
        refine rh_pV hX lk_X7_135 mvX1_types (fun l => c_X1_types l E _ _ _ (T + 1) hqT (by omega)) ⟨rfl, rfl⟩ ⟨Nat.le_of_ble_eq_true rfl, Nat.le_of_ble_eq_true rfl⟩ [24, 25] rfl rfl 24 rfl dX7_thought_64 rfl rfl (Nat.le_of_ble_eq_true rfl) ?_
        refine rh_icmp_ge_f (tgt := 95) hX dX7_thought_67 (by decide) (nI_ge (show k + 1 < T + 1 by omega) (by omega)) ?_
        refine rh_aload_n hX dX7_thought_70 rfl ?_
        refine rh_get hX gl_X7_40 0 dX7_thought_71 rfl rfl ?_
        refine rh_aload_n hX dX7_thought_74 rfl ?_
        refine rh_get hX gl_X7_54 0 dX7_thought_75 rfl rfl ?_
        refine rh_get hX gl_X7_168 23 dX7_thought_78 rfl rfl ?_
        refine rh_iload_n hX dX7_thought_81 rfl ?_
        refine rh_iconst hX dX7_thought_82 ki_1 ?_
        refine rh_pV hX lk_X7_155 mvX1_fact (fun l => c_X1_fact l E _ _ _ (k + 1) 1 (by omega) (by omega)) ⟨rfl, rfl⟩ ⟨Nat.le_of_ble_eq_true rfl, Nat.le_of_ble_eq_true rfl⟩ [24, 25] rfl rfl 24 rfl dX7_thought_83 rfl rfl (Nat.le_of_ble_eq_true rfl) ?_
        refine rh_uV hX lk_X7_181 mvX3_tell (fun l => c_X3_tell l E _ _ _ (k + 4) _ (by omega)) ⟨rfl, rfl⟩ ⟨Nat.le_of_ble_eq_true rfl, Nat.le_of_ble_eq_true rfl⟩ [18, 19] rfl rfl 18 rfl dX7_thought_86 rfl rfl (Nat.le_of_ble_eq_true rfl) rfl ?_
        dsimp only [List.cons_append, List.nil_append, List.set_cons_succ, List.set_cons_zero, vput]
        refine rh_inc3 hX dX7_thought_89 (by decide) rfl (rn_i1 _) ?_
        refine rh_goto (tgt := 56) hX dX7_thought_92 (by decide) ?_
        exact ihk _ (by rw [range_push, ← List.append_assoc]; exact rowOk_push _ hg (by rw [List.length_append, List.length_map, List.length_range]; show 4 + k = k + 4; omega))
    · skip
      have hn0 := dS_none hT6 h28
      refine rh_iload_n hX dX7_thought_31 rfl ?_
      exact rh_iret hX hR dX7_thought_32 (by simp only [List.map_cons, List.map_nil, List.cons_append, List.nil_append]) ⟨(Z.1, (tRound C).2.1, (tRound C).2.2, (f1, cvs1, (bg (tRound C).2.2.2.2.2.2.1 (tRound C).2.2.2.2.2.2.2 (C.1, Z.2.2.2.1.2.2.1, 0) T).2.1, nws1, (bg (tRound C).2.2.2.2.2.2.1 (tRound C).2.2.2.2.2.2.2 (C.1, Z.2.2.2.1.2.2.1, 0) T).2.2, pA1, bA1, nA1, pr1, is1, tn1, fl1), Z.2.2.2.2.1, Z.2.2.2.2.2.1, Z.2.2.2.2.2.2), (C.1, C.2.1, C.2.2.1, C.2.2.2.1, C.2.2.2.2.1, C.2.2.2.2.2.1, C.2.2.2.2.2.2.1, C.2.2.2.2.2.2.2.1, 0, C.2.2.2.2.2.2.2.2.2), by rw [x_thought, if_pos h6, (pair_eq hn0 : xDS C.1 T (tRound C).2.2 = _)] <;> rfl, hz, by rw [x_thought, if_pos h6, (pair_eq hn0 : xDS C.1 T (tRound C).2.2 = _)] <;> rfl, rfl⟩
  · skip
    refine rh_iload_n hX dX7_thought_9 rfl ?_
    exact rh_iret hX hR dX7_thought_10 (by simp only [List.map_cons, List.map_nil, List.cons_append, List.nil_append]) ⟨(Z.1, (tRound C).2.1, (tRound C).2.2, Z.2.2.2), (C.1, C.2.1, C.2.2.1, C.2.2.2.1, C.2.2.2.2.1, C.2.2.2.2.2.1, C.2.2.2.2.2.2.1, C.2.2.2.2.2.2.2.1, 0, C.2.2.2.2.2.2.2.2.2), by rw [x_thought, if_neg h6], hz, by rw [x_thought, if_neg h6]; rfl, rfl⟩

set_option maxRecDepth 100000 in
set_option maxHeartbeats 4000000 in
theorem c_X7_diluted (l : Launch) (E : rhE) (A : Nat → Nat) (C : CT) (Z : ZT) (h : Int32) (T : Nat) (hC : cOk C T) (hz : zOk Z) : Ctr l E yX7_diluted cX7_diluted 6 (some .int) (rmL 9) [.ref (A 0), .int h] (wC E A C Z) (fun r w => ∃ Z1 C1, r = some (Value.int (x_diluted C T h).1) ∧ zOk Z1 ∧ rowTold (x_diluted C T h).2.1 C1 (x_diluted C T h).2.2 ∧ w = wC E A C1 Z1) := by
  refine Ctr.of (by decide) (Nat.le_of_ble_eq_true rfl) rfl rfl 4 ?_
  intro X hX hR
  obtain ⟨hT, hT1, hT6, hnx, hud, hn, hrn⟩ := id hC
  have hC2 := clT_ok hC
  refine rh_aload_n hX dX7_diluted_0 rfl ?_
  refine rh_wV hX lk_X7_161 mvX7_readTerms (fun l => c_X7_readTerms l E _ _ _ T hC) ⟨rfl, rfl⟩ ⟨Nat.le_of_ble_eq_true rfl, Nat.le_of_ble_eq_true rfl⟩ [0, 1, 2, 3, 4, 5, 6, 7, 8, 9, 10, 11, 12, 13, 14, 15, 16, 17, 18, 19, 20, 21, 22, 23, 24, 25, 26, 27, 28, 29, 30, 31, 32, 33, 34, 35] rfl rfl 0 rfl dX7_diluted_1 rfl rfl (Nat.le_of_ble_eq_true rfl) rfl ?_
  dsimp only [List.cons_append, List.nil_append, List.set_cons_succ, List.set_cons_zero, vput]
  refine rh_istn2 hX dX7_diluted_4 (by decide) rfl ?_
  refine rh_iload_n hX dX7_diluted_5 rfl ?_
  refine rh_if_ge (tgt := 11) hX dX7_diluted_6 (by decide) (fun h6 => ?_) (fun h6 => ?_)
  · skip
    refine rh_iload_n hX dX7_diluted_11 rfl ?_
    refine rh_pS hX lk_X7_104 msX7_isHolder (fun l => c_X7_isHolder l E _) ⟨rfl, rfl⟩ ⟨Nat.le_of_ble_eq_true rfl, Nat.le_of_ble_eq_true rfl⟩ [] rfl rfl dX7_diluted_12 rfl rfl (Nat.le_of_ble_eq_true rfl) ?_
    refine rh_if_ne (tgt := 20) hX dX7_diluted_15 (by decide) (fun h15 => ?_) (fun h15 => ?_)
    · skip
      obtain ⟨hd, rfl, hdl⟩ := xH_1 h15
      refine rh_aload_n hX dX7_diluted_20 rfl ?_
      refine rh_get hX gl_X7_54 0 dX7_diluted_21 rfl rfl ?_
      refine rh_aload_n hX dX7_diluted_24 rfl ?_
      refine rh_get hX gl_X7_12 0 dX7_diluted_25 rfl rfl ?_
      refine rh_aload_n hX dX7_diluted_28 rfl ?_
      refine rh_get hX gl_X7_47 0 dX7_diluted_29 rfl rfl ?_
      refine rh_callV hX lk_X7_164 mvX0_works (fun l => c_X0_works l E _ _ _ _ _ _ _ _ _ _ _ _ _ _ _ _ _ _ _ _ _ _ _ _ _ _ _ _ _ _ T hT hT6 hT1) ⟨rfl, rfl⟩ ⟨Nat.le_of_ble_eq_true rfl, Nat.le_of_ble_eq_true rfl⟩ [23, 24, 25, 26, 27, 28, 20, 21, 22, 1, 2] rfl rfl 23 rfl dX7_diluted_32 rfl rfl (Nat.le_of_ble_eq_true rfl) (fun r w hp hf => ?_)
      obtain ⟨f1, cvs1, nws1, pA1, bA1, nA1, pr1, is1, tn1, fl1, rfl, hok, rfl⟩ := hp
      have hB := (bg_ext (tRound C).2.2.2.2.2.2.1 (tRound C).2.2.2.2.2.2.2 C.1 Z.2.2.2.1.2.2.1 (fun _ => 0) T).1
      dsimp only [vput, List.set_cons_succ, List.set_cons_zero, Option.toList, List.cons_append, List.nil_append]
      rw [hB] at hok ⊢
      refine rh_istn3 hX dX7_diluted_35 (by decide) rfl ?_
      refine rh_iload_n hX dX7_diluted_36 rfl ?_
      refine rh_if_ge (tgt := 42) hX dX7_diluted_37 (by decide) (fun h28 => ?_) (fun h28 => ?_)
      · skip
        obtain ⟨q, hq, hqT, hT5⟩ := dS_some hT6 h28
        obtain ⟨rfl, rfl, rfl, rfl⟩ := hok q hq
        refine rh_aload_n hX dX7_diluted_42 rfl ?_
        refine rh_get hX gl_X7_54 0 dX7_diluted_43 rfl rfl ?_
        refine rh_get hX gl_X7_168 23 dX7_diluted_46 rfl rfl ?_
        refine rh_iload_n hX dX7_diluted_49 rfl ?_
        refine rh_pV hX lk_X7_138 mvX1_claim (fun l => c_X1_claim l E _ _ _ hd (T + 1) hqT (by omega) (by omega)) ⟨rfl, rfl⟩ ⟨Nat.le_of_ble_eq_true rfl, Nat.le_of_ble_eq_true rfl⟩ [24, 25] rfl rfl 24 rfl dX7_diluted_50 rfl rfl (Nat.le_of_ble_eq_true rfl) ?_
        refine rh_lst4 hX dX7_diluted_53 (by decide) rfl ?_
        refine rh_aload_n hX dX7_diluted_55 rfl ?_
        refine rh_get hX gl_X7_40 0 dX7_diluted_56 rfl rfl ?_
        refine rh_uV hX lk_X7_184 mvX3_clear (fun l => c_X3_clear l E _ _ _ _) ⟨rfl, rfl⟩ ⟨Nat.le_of_ble_eq_true rfl, Nat.le_of_ble_eq_true rfl⟩ [18, 19] rfl rfl 18 rfl dX7_diluted_59 rfl rfl (Nat.le_of_ble_eq_true rfl) rfl ?_
        dsimp only [List.cons_append, List.nil_append, List.set_cons_succ, List.set_cons_zero, vput]
        refine rh_aload_n hX dX7_diluted_62 rfl ?_
        refine rh_get hX gl_X7_40 0 dX7_diluted_63 rfl rfl ?_
        refine rh_ldc2 hX dX7_diluted_66 kl_X7_185 ?_
        refine rh_aload_n hX dX7_diluted_69 rfl ?_
        refine rh_get hX gl_X7_12 0 dX7_diluted_70 rfl rfl ?_
        refine rh_iload_n hX dX7_diluted_73 rfl ?_
        refine rh_pV hX lk_X7_138 mvX1_claim (fun l => c_X1_claim l E _ _ _ hd T hT hT6 (by omega)) ⟨rfl, rfl⟩ ⟨Nat.le_of_ble_eq_true rfl, Nat.le_of_ble_eq_true rfl⟩ [1, 2] rfl rfl 1 rfl dX7_diluted_74 rfl rfl (Nat.le_of_ble_eq_true rfl) ?_
        refine rh_lmul hX dX7_diluted_77 ?_
        refine rh_aload_n hX dX7_diluted_78 rfl ?_
        refine rh_get hX gl_X7_12 0 dX7_diluted_79 rfl rfl ?_
        refine rh_pV hX lk_X7_100 mvX1_size (fun l => c_X1_size l E _ _ _ T hT hT6) ⟨rfl, rfl⟩ ⟨Nat.le_of_ble_eq_true rfl, Nat.le_of_ble_eq_true rfl⟩ [1, 2] rfl rfl 1 rfl dX7_diluted_82 rfl rfl (Nat.le_of_ble_eq_true rfl) ?_
        refine rh_pS hX lk_X7_187 msX7_quotient (fun l => c_X7_quotient l E _ _) ⟨rfl, rfl⟩ ⟨Nat.le_of_ble_eq_true rfl, Nat.le_of_ble_eq_true rfl⟩ [] rfl rfl dX7_diluted_85 rfl rfl (Nat.le_of_ble_eq_true rfl) ?_
        refine rh_uV hX lk_X7_181 mvX3_tell (fun l => c_X3_tell l E _ _ _ 0 _ (by omega)) ⟨rfl, rfl⟩ ⟨Nat.le_of_ble_eq_true rfl, Nat.le_of_ble_eq_true rfl⟩ [18, 19] rfl rfl 18 rfl dX7_diluted_88 rfl rfl (Nat.le_of_ble_eq_true rfl) rfl ?_
        dsimp only [List.cons_append, List.nil_append, List.set_cons_succ, List.set_cons_zero, vput]
        refine rh_aload_n hX dX7_diluted_91 rfl ?_
        refine rh_get hX gl_X7_40 0 dX7_diluted_92 rfl rfl ?_
        refine rh_lload hX dX7_diluted_95 rfl ?_
        refine rh_uV hX lk_X7_181 mvX3_tell (fun l => c_X3_tell l E _ _ _ (0 + 1) _ (by omega)) ⟨rfl, rfl⟩ ⟨Nat.le_of_ble_eq_true rfl, Nat.le_of_ble_eq_true rfl⟩ [18, 19] rfl rfl 18 rfl dX7_diluted_97 rfl rfl (Nat.le_of_ble_eq_true rfl) rfl ?_
        dsimp only [List.cons_append, List.nil_append, List.set_cons_succ, List.set_cons_zero, vput]
        refine rh_ldc2 hX dX7_diluted_100 kl_X7_185 ?_
        refine rh_lload hX dX7_diluted_103 rfl ?_
        refine rh_lmul hX dX7_diluted_105 ?_
        refine rh_aload_n hX dX7_diluted_106 rfl ?_
        refine rh_get hX gl_X7_54 0 dX7_diluted_107 rfl rfl ?_
        refine rh_get hX gl_X7_191 23 dX7_diluted_110 rfl rfl ?_
        refine rh_pS hX lk_X7_187 msX7_quotient (fun l => c_X7_quotient l E _ _) ⟨rfl, rfl⟩ ⟨Nat.le_of_ble_eq_true rfl, Nat.le_of_ble_eq_true rfl⟩ [] rfl rfl dX7_diluted_113 rfl rfl (Nat.le_of_ble_eq_true rfl) ?_
        refine rh_l2i hX dX7_diluted_116 ?_
        exact rh_iret hX hR dX7_diluted_117 (by simp only [List.map_cons, List.map_nil, List.cons_append, List.nil_append]) ⟨(Z.1, (tRound C).2.1, (tRound C).2.2, (q.1, cvs1, (bg (tRound C).2.2.2.2.2.2.1 (tRound C).2.2.2.2.2.2.2 (C.1, Z.2.2.2.1.2.2.1, 0) T).2.1, nws1, (bg (tRound C).2.2.2.2.2.2.1 (tRound C).2.2.2.2.2.2.2 (C.1, Z.2.2.2.1.2.2.1, 0) T).2.2, pA1, bA1, nA1, pr1, q.2.1, (nI q.2.2.1), q.2.2.2), Z.2.2.2.2.1, Z.2.2.2.2.2.1, Z.2.2.2.2.2.2), (setRow (C.1, C.2.1, C.2.2.1, C.2.2.2.1, C.2.2.2.2.1, C.2.2.2.2.2.1, C.2.2.2.2.2.2.1, C.2.2.2.2.2.2.2.1, 0, C.2.2.2.2.2.2.2.2.2) (va_up (va_up C.2.2.2.2.2.2.2.2.2.1 0 _) (0 + 1) _) (0 + 1 + 1)), by rw [x_diluted, if_pos h6, if_neg h15, nI_clamp (show hd < 2 ^ 31 by omega), (pair_eq hq : xDS C.1 T (tRound C).2.2 = _)] <;> rfl, hz, by rw [x_diluted, if_pos h6, if_neg h15, nI_clamp (show hd < 2 ^ 31 by omega), (pair_eq hq : xDS C.1 T (tRound C).2.2 = _)]; exact ⟨_, rowOk2 _ _ _, rfl⟩, rfl⟩
      · skip
        have hn0 := dS_none hT6 h28
        refine rh_iload_n hX dX7_diluted_40 rfl ?_
        exact rh_iret hX hR dX7_diluted_41 (by simp only [List.map_cons, List.map_nil, List.cons_append, List.nil_append]) ⟨(Z.1, (tRound C).2.1, (tRound C).2.2, (f1, cvs1, (bg (tRound C).2.2.2.2.2.2.1 (tRound C).2.2.2.2.2.2.2 (C.1, Z.2.2.2.1.2.2.1, 0) T).2.1, nws1, (bg (tRound C).2.2.2.2.2.2.1 (tRound C).2.2.2.2.2.2.2 (C.1, Z.2.2.2.1.2.2.1, 0) T).2.2, pA1, bA1, nA1, pr1, is1, tn1, fl1), Z.2.2.2.2.1, Z.2.2.2.2.2.1, Z.2.2.2.2.2.2), (C.1, C.2.1, C.2.2.1, C.2.2.2.1, C.2.2.2.2.1, C.2.2.2.2.2.1, C.2.2.2.2.2.2.1, C.2.2.2.2.2.2.2.1, 0, C.2.2.2.2.2.2.2.2.2), by rw [x_diluted, if_pos h6, if_neg h15, nI_clamp (show hd < 2 ^ 31 by omega), (pair_eq hn0 : xDS C.1 T (tRound C).2.2 = _)] <;> rfl, hz, by rw [x_diluted, if_pos h6, if_neg h15, nI_clamp (show hd < 2 ^ 31 by omega), (pair_eq hn0 : xDS C.1 T (tRound C).2.2 = _)] <;> rfl, rfl⟩
    · skip
      refine rh_iconst hX dX7_diluted_18 ki_m1 ?_
      exact rh_iret hX hR dX7_diluted_19 (by simp only [List.map_cons, List.map_nil, List.cons_append, List.nil_append]) ⟨(Z.1, (tRound C).2.1, (tRound C).2.2, Z.2.2.2), (C.1, C.2.1, C.2.2.1, C.2.2.2.1, C.2.2.2.2.1, C.2.2.2.2.2.1, C.2.2.2.2.2.2.1, C.2.2.2.2.2.2.2.1, 0, C.2.2.2.2.2.2.2.2.2), by rw [x_diluted, if_pos h6, if_pos h15], hz, by rw [x_diluted, if_pos h6, if_pos h15]; rfl, rfl⟩
  · skip
    refine rh_iload_n hX dX7_diluted_9 rfl ?_
    exact rh_iret hX hR dX7_diluted_10 (by simp only [List.map_cons, List.map_nil, List.cons_append, List.nil_append]) ⟨(Z.1, (tRound C).2.1, (tRound C).2.2, Z.2.2.2), (C.1, C.2.1, C.2.2.1, C.2.2.2.1, C.2.2.2.2.1, C.2.2.2.2.2.1, C.2.2.2.2.2.2.1, C.2.2.2.2.2.2.2.1, 0, C.2.2.2.2.2.2.2.2.2), by rw [x_diluted, if_neg h6], hz, by rw [x_diluted, if_neg h6]; rfl, rfl⟩

set_option maxRecDepth 100000 in
set_option maxHeartbeats 4000000 in
theorem c_X7_threatens (l : Launch) (E : rhE) (A : Nat → Nat) (C : CT) (Z : ZT)  (T : Nat) (hC : cOk C T) (hz : zOk Z) : Ctr l E yX7_threatens cX7_threatens 3 (some .int) (rmL 9) [.ref (A 0)] (wC E A C Z) (fun r w => ∃ Z1 C1, r = some (Value.int (x_threatens C T).1) ∧ zOk Z1 ∧ rowTold (x_threatens C T).2.1 C1 (x_threatens C T).2.2 ∧ w = wC E A C1 Z1) := by
  refine Ctr.of (by decide) (Nat.le_of_ble_eq_true rfl) rfl rfl 2 ?_
  intro X hX hR
  obtain ⟨hT, hT1, hT6, hnx, hud, hn, hrn⟩ := id hC
  have hC2 := clT_ok hC
  refine rh_aload_n hX dX7_threatens_0 rfl ?_
  refine rh_wV hX lk_X7_161 mvX7_readTerms (fun l => c_X7_readTerms l E _ _ _ T hC) ⟨rfl, rfl⟩ ⟨Nat.le_of_ble_eq_true rfl, Nat.le_of_ble_eq_true rfl⟩ [0, 1, 2, 3, 4, 5, 6, 7, 8, 9, 10, 11, 12, 13, 14, 15, 16, 17, 18, 19, 20, 21, 22, 23, 24, 25, 26, 27, 28, 29, 30, 31, 32, 33, 34, 35] rfl rfl 0 rfl dX7_threatens_1 rfl rfl (Nat.le_of_ble_eq_true rfl) rfl ?_
  dsimp only [List.cons_append, List.nil_append, List.set_cons_succ, List.set_cons_zero, vput]
  refine rh_istn1 hX dX7_threatens_4 (by decide) rfl ?_
  refine rh_iload_n hX dX7_threatens_5 rfl ?_
  refine rh_if_ge (tgt := 11) hX dX7_threatens_6 (by decide) (fun h6 => ?_) (fun h6 => ?_)
  · skip
    refine rh_aload_n hX dX7_threatens_11 rfl ?_
    refine rh_get hX gl_X7_54 0 dX7_threatens_12 rfl rfl ?_
    refine rh_aload_n hX dX7_threatens_15 rfl ?_
    refine rh_get hX gl_X7_12 0 dX7_threatens_16 rfl rfl ?_
    refine rh_aload_n hX dX7_threatens_19 rfl ?_
    refine rh_get hX gl_X7_47 0 dX7_threatens_20 rfl rfl ?_
    refine rh_uV hX lk_X7_195 mvX0_begin (fun l => c_X0_begin l E _ _ _ _ _ _ _ _ _ _ _ _ _ _ _ _ _ _ _ _ _ _ _ _ _ _ _ _ _ _ T hT hT6 hT1) ⟨rfl, rfl⟩ ⟨Nat.le_of_ble_eq_true rfl, Nat.le_of_ble_eq_true rfl⟩ [23, 24, 25, 26, 27, 28, 20, 21, 22, 1, 2] rfl rfl 23 rfl dX7_threatens_23 rfl rfl (Nat.le_of_ble_eq_true rfl) rfl ?_
    dsimp only [List.cons_append, List.nil_append, List.set_cons_succ, List.set_cons_zero, vput]
    have hB := bg_ext (tRound C).2.2.2.2.2.2.1 (tRound C).2.2.2.2.2.2.2 C.1 Z.2.2.2.1.2.2.1 (fun _ => 0) T
    refine rh_aload_n hX dX7_threatens_26 rfl ?_
    refine rh_get hX gl_X7_40 0 dX7_threatens_27 rfl rfl ?_
    refine rh_uV hX lk_X7_184 mvX3_clear (fun l => c_X3_clear l E _ _ _ _) ⟨rfl, rfl⟩ ⟨Nat.le_of_ble_eq_true rfl, Nat.le_of_ble_eq_true rfl⟩ [18, 19] rfl rfl 18 rfl dX7_threatens_30 rfl rfl (Nat.le_of_ble_eq_true rfl) rfl ?_
    dsimp only [List.cons_append, List.nil_append, List.set_cons_succ, List.set_cons_zero, vput]
    refine rh_iconst hX dX7_threatens_33 ki_1 ?_
    refine rh_istn2 hX dX7_threatens_34 (by decide) rfl ?_
    refine (rh_loop (P := fun c => ∀ g1, rowOk g1 ((List.range (c - 1)).map (fun c => (xBg C.1 T (tRound C).2.2).2.1 (c + 1))) → G X 35 [some (.ref (A 0)), some (.int (x_rt C)), some (.int (nI c))] [] (wC E A (setRow (C.1, C.2.1, C.2.2.1, C.2.2.2.1, C.2.2.2.2.1, C.2.2.2.2.2.1, C.2.2.2.2.2.2.1, C.2.2.2.2.2.2.2.1, 0, C.2.2.2.2.2.2.2.2.2) g1 (c - 1)) (Z.1, (tRound C).2.1, (tRound C).2.2, ((bg (tRound C).2.2.2.2.2.2.1 (tRound C).2.2.2.2.2.2.2 (C.1, Z.2.2.2.1.2.2.1, 0) T).1, Z.2.2.2.1.2.1, (bg (tRound C).2.2.2.2.2.2.1 (tRound C).2.2.2.2.2.2.2 (C.1, Z.2.2.2.1.2.2.1, 0) T).2.1, Z.2.2.2.1.2.2.2.1, (bg (tRound C).2.2.2.2.2.2.1 (tRound C).2.2.2.2.2.2.2 (C.1, Z.2.2.2.1.2.2.1, 0) T).2.2, Z.2.2.2.1.2.2.2.2.2), Z.2.2.2.2.1, Z.2.2.2.2.2.1, Z.2.2.2.2.2.2))) (1) (T) (by omega) ?_ ?_) _ (rowOk_nil _)
    · intro g1 hg
      refine rh_iload_n hX dX7_threatens_35 rfl ?_
      refine rh_aload_n hX dX7_threatens_36 rfl ?_
      refine rh_get hX gl_X7_12 0 dX7_threatens_37 rfl rfl ?_
      refine rh_pV hX lk_X7_135 mvX1_types (fun l => c_X1_types l E _ _ _ T hT hT6) ⟨rfl, rfl⟩ ⟨Nat.le_of_ble_eq_true rfl, Nat.le_of_ble_eq_true rfl⟩ [1, 2] rfl rfl 1 rfl dX7_threatens_40 rfl rfl (Nat.le_of_ble_eq_true rfl) ?_
      refine rh_icmp_ge_t (tgt := 68) hX dX7_threatens_43 (by decide) (nI_le (Nat.le_refl T) (by omega)) ?_
      refine rh_aload_n hX dX7_threatens_68 rfl ?_
      refine rh_get hX gl_X7_54 0 dX7_threatens_69 rfl rfl ?_
      refine rh_get hX gl_X7_202 23 dX7_threatens_72 rfl rfl ?_
      exact rh_iret hX hR dX7_threatens_75 (by simp only [List.map_cons, List.map_nil, List.cons_append, List.nil_append]) ⟨(Z.1, (tRound C).2.1, (tRound C).2.2, ((bg (tRound C).2.2.2.2.2.2.1 (tRound C).2.2.2.2.2.2.2 (C.1, Z.2.2.2.1.2.2.1, 0) T).1, Z.2.2.2.1.2.1, (bg (tRound C).2.2.2.2.2.2.1 (tRound C).2.2.2.2.2.2.2 (C.1, Z.2.2.2.1.2.2.1, 0) T).2.1, Z.2.2.2.1.2.2.2.1, (bg (tRound C).2.2.2.2.2.2.1 (tRound C).2.2.2.2.2.2.2 (C.1, Z.2.2.2.1.2.2.1, 0) T).2.2, Z.2.2.2.1.2.2.2.2.2), Z.2.2.2.2.1, Z.2.2.2.2.2.1, Z.2.2.2.2.2.2), (setRow (C.1, C.2.1, C.2.2.1, C.2.2.2.1, C.2.2.2.2.1, C.2.2.2.2.2.1, C.2.2.2.2.2.2.1, C.2.2.2.2.2.2.2.1, 0, C.2.2.2.2.2.2.2.2.2) g1 (T - 1)), by rw [x_threatens, if_pos h6]; exact congrArg (fun z => some (Value.int z)) hB.2.1, hz, by rw [x_threatens, if_pos h6]; exact ⟨_, hg, by rw [List.length_map, List.length_range] <;> rfl⟩, rfl⟩
    · intro c hc0 hc ihc g1 hg
      obtain ⟨e, rfl⟩ : ∃ e, c = e + 1 := ⟨c - 1, by omega⟩
      refine rh_iload_n hX dX7_threatens_35 rfl ?_
      refine rh_aload_n hX dX7_threatens_36 rfl ?_
      refine rh_get hX gl_X7_12 0 dX7_threatens_37 rfl rfl ?_
      refine rh_pV hX lk_X7_135 mvX1_types (fun l => c_X1_types l E _ _ _ T hT hT6) ⟨rfl, rfl⟩ ⟨Nat.le_of_ble_eq_true rfl, Nat.le_of_ble_eq_true rfl⟩ [1, 2] rfl rfl 1 rfl dX7_threatens_40 rfl rfl (Nat.le_of_ble_eq_true rfl) ?_
      refine rh_icmp_ge_f (tgt := 68) hX dX7_threatens_43 (by decide) (nI_ge hc (by omega)) ?_
      refine rh_aload_n hX dX7_threatens_46 rfl ?_
      refine rh_get hX gl_X7_40 0 dX7_threatens_47 rfl rfl ?_
      refine rh_aload_n hX dX7_threatens_50 rfl ?_
      refine rh_get hX gl_X7_54 0 dX7_threatens_51 rfl rfl ?_
      refine rh_get hX gl_X7_199 23 dX7_threatens_54 rfl rfl ?_
      refine rh_iload_n hX dX7_threatens_57 rfl ?_
      refine rh_laload hX 27 _ dX7_threatens_58 rfl rfl (by omega) (by decide) ?_
      rw [show ((Z.1, (tRound C).2.1, (tRound C).2.2, ((bg (tRound C).2.2.2.2.2.2.1 (tRound C).2.2.2.2.2.2.2 (C.1, Z.2.2.2.1.2.2.1, 0) T).1, Z.2.2.2.1.2.1, (bg (tRound C).2.2.2.2.2.2.1 (tRound C).2.2.2.2.2.2.2 (C.1, Z.2.2.2.1.2.2.1, 0) T).2.1, Z.2.2.2.1.2.2.2.1, (bg (tRound C).2.2.2.2.2.2.1 (tRound C).2.2.2.2.2.2.2 (C.1, Z.2.2.2.1.2.2.1, 0) T).2.2, Z.2.2.2.1.2.2.2.2.2), Z.2.2.2.2.1, Z.2.2.2.2.2.1, Z.2.2.2.2.2.2) : ZT).2.2.2.1.2.2.1 (e + 1) = (xBg C.1 T (tRound C).2.2).2.1 (e + 1) from hB.2.2 (e + 1) (by omega) (by omega)]
      refine rh_uV hX lk_X7_181 mvX3_tell (fun l => c_X3_tell l E _ _ _ e _ (by omega)) ⟨rfl, rfl⟩ ⟨Nat.le_of_ble_eq_true rfl, Nat.le_of_ble_eq_true rfl⟩ [18, 19] rfl rfl 18 rfl dX7_threatens_59 rfl rfl (Nat.le_of_ble_eq_true rfl) rfl ?_
      dsimp only [List.cons_append, List.nil_append, List.set_cons_succ, List.set_cons_zero, vput]
      refine rh_inc2 hX dX7_threatens_62 (by decide) rfl (rn_i1 _) ?_
      refine rh_goto (tgt := 35) hX dX7_threatens_65 (by decide) ?_
      exact ihc _ (by rw [show e + 1 + 1 - 1 = e + 1 by omega, range_push]; exact rowOk_push _ hg (by rw [List.length_map, List.length_range] <;> rfl))
  · skip
    refine rh_iload_n hX dX7_threatens_9 rfl ?_
    exact rh_iret hX hR dX7_threatens_10 (by simp only [List.map_cons, List.map_nil, List.cons_append, List.nil_append]) ⟨(Z.1, (tRound C).2.1, (tRound C).2.2, Z.2.2.2), (C.1, C.2.1, C.2.2.1, C.2.2.2.1, C.2.2.2.2.1, C.2.2.2.2.2.1, C.2.2.2.2.2.2.1, C.2.2.2.2.2.2.2.1, 0, C.2.2.2.2.2.2.2.2.2), by rw [x_threatens, if_neg h6], hz, by rw [x_threatens, if_neg h6]; rfl, rfl⟩
