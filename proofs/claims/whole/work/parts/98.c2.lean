
set_option maxRecDepth 100000 in
set_option maxHeartbeats 4000000 in
theorem c_X2_init (l : Launch) (E : rhE) (h0 : Nat) : CtrN l E yX2_init cX2_init 1 (rmN 1 9 1384) [.ref h0] [(h0, .inr (2, [.null, .int 0, .int 0, .int 0]))] (fun w => ∃ q1 b, w = wP E h0 q1 b (fun _ _ => 0) 0 0 0) := by
  refine CtrN.of (by decide) rfl (Nat.le_of_ble_eq_true rfl) 0 ?_
  intro X hX hR
  show G X 0 [some (.ref h0)] [] [(h0, .inr (2, [.null, .int 0, .int 0, .int 0]))]
  refine rh_aload_n hX dX2_init_0 rfl ?_
  refine rn_obj hX (rhT_in 126 (by decide +kernel) rfl) (rhT_in 106 (by decide +kernel) rfl) (rhT_in 107 (by decide +kernel) rfl) dX2_init_1 (Nat.le_of_ble_eq_true rfl) (Nat.le_of_ble_eq_true rfl) ?_
  refine rh_aload_n hX dX2_init_4 rfl ?_
  refine rh_bipush (v := 8) hX dX2_init_5 (by decide) ?_
  refine rh_sipush (v := 172) hX dX2_init_7 (by decide) ?_
  refine rn_mna hX hR (rhT_in 127 (by decide +kernel) rfl) (rhT_in 120 (by decide +kernel) rfl) dX2_init_10 (by decide) (by decide) (fun Y9 q1 b9 hX hR => ?_)
  dsimp only [List.cons_append, List.nil_append]
  refine rn_put (kf := 0) (ci := 2) hX hR rfl (by decide) inX2 tyX2_ok nmX2 rfl rfl (rhT_in 129 (by decide +kernel) rfl) 0 dX2_init_14 rfl rfl rfl (Nat.le_of_ble_eq_true rfl) rfl ?_
  dsimp only [List.set_cons_zero, List.set_cons_succ]
  exact rn_ret hX hR dX2_init_17 ⟨_, _, rfl⟩
abbrev C0c : CT := (va_up (fun _ => 0) 171 1, (fun _ => 0), 0, (fun _ _ => 0), 0, 0, 0, (fun _ => 0), 0, (fun _ => 0), 0)
abbrev Z0c : ZT := (va_up (fun _ => 0) 171 1, 0, (0, 0, 0, (fun _ => 0), (fun _ => 0), 0), (va_up (fun _ => 0) 171 1, (fun _ => 0), (fun _ => 0), (fun _ => 0), 0, 0, 0, 0, 0, 0, 0, 0), ((fun _ => 0), (fun _ => 0), (fun _ => 0), (fun _ => 0), 0, 0, 0, 0, 0, 0), (fun _ => 0), (fun _ => 0))

set_option maxRecDepth 100000 in
set_option maxHeartbeats 4000000 in
theorem c_X7_init (l : Launch) (E : rhE) (h0 : Nat) : CtrN l E yX7_init cX7_init 1 (rmN 3 35 2403) [.ref h0] [(h0, .inr (7, [.null, .null, .null, .int 0, .null, .null, .null, .null, .null, .null, .null, .null]))] (fun w => ∃ A : Nat → Nat, A 0 = h0 ∧ w = wC E A C0c Z0c) := by
  refine CtrN.of (by decide) rfl (Nat.le_of_ble_eq_true rfl) 0 ?_
  intro X hX hR
  show G X 0 [some (.ref h0)] [] [(h0, .inr (7, [.null, .null, .null, .int 0, .null, .null, .null, .null, .null, .null, .null, .null]))]
  refine rh_aload_n hX dX7_init_0 rfl ?_
  refine rn_obj hX (rhT_in 105 (by decide +kernel) rfl) (rhT_in 106 (by decide +kernel) rfl) (rhT_in 107 (by decide +kernel) rfl) dX7_init_1 (Nat.le_of_ble_eq_true rfl) (Nat.le_of_ble_eq_true rfl) ?_
  refine rh_aload_n hX dX7_init_4 rfl ?_
  refine rn_new hX hR tyX1 (ci := 1) (fs := [.null]) rfl inX1 tyX1_ok (rhT_in 108 (by decide +kernel) rfl) (rhT_in 109 (by decide +kernel) rfl) (rhT_in 82 (by decide +kernel) rfl) (fun j hj => match j, hj with | 0, _ => rfl | n + 1, h => absurd h (by omega)) dX7_init_5 (by decide) (by decide) (fun Y9 q1 hX hR => ?_)
  dsimp only [List.cons_append, List.nil_append]
  refine rh_dup hX dX7_init_8 rfl ?_
  refine rn_callE (pos := 1) hX hR (Or.inl (rhT_in 110 (by decide +kernel) rfl)) (show rhMd yX1_init cX1_init 1 none 0 from ⟨(rhT_in 82 (by decide +kernel) rfl), (rhT_in 112 (by decide +kernel) rfl), by decide +kernel, by decide +kernel⟩) ⟨rfl, (rhT_in 111 (by decide +kernel) rfl)⟩ (fun l => c_X1_init l E q1) ⟨Nat.le_of_ble_eq_true rfl, Nat.le_of_ble_eq_true rfl⟩ [1] [0] rfl rfl rfl rfl (by decide) dX7_init_9 rfl rfl (Nat.le_of_ble_eq_true rfl) (by decide) (by decide) (fun Y9 w9 hp hX hR => ?_)
  obtain ⟨q2, rfl⟩ := hp
  dsimp only [List.take_succ_cons, List.take_zero, List.cons_append, List.nil_append]
  refine rn_put (kf := 0) (ci := 7) hX hR rfl (by decide) inX7 tyX7_ok nmX7 rfl rfl (rhT_in 301 (by decide +kernel) rfl) 0 dX7_init_12 rfl rfl rfl (Nat.le_of_ble_eq_true rfl) rfl ?_
  dsimp only [List.set_cons_zero, List.set_cons_succ]
  refine rh_aload_n hX dX7_init_15 rfl ?_
  refine rn_new hX hR tyX1 (ci := 1) (fs := [.null]) rfl inX1 tyX1_ok (rhT_in 108 (by decide +kernel) rfl) (rhT_in 109 (by decide +kernel) rfl) (rhT_in 82 (by decide +kernel) rfl) (fun j hj => match j, hj with | 0, _ => rfl | n + 1, h => absurd h (by omega)) dX7_init_16 (by decide) (by decide) (fun Y9 q3 hX hR => ?_)
  dsimp only [List.cons_append, List.nil_append]
  refine rh_dup hX dX7_init_19 rfl ?_
  refine rn_callE (pos := 3) hX hR (Or.inl (rhT_in 110 (by decide +kernel) rfl)) (show rhMd yX1_init cX1_init 1 none 0 from ⟨(rhT_in 82 (by decide +kernel) rfl), (rhT_in 112 (by decide +kernel) rfl), by decide +kernel, by decide +kernel⟩) ⟨rfl, (rhT_in 111 (by decide +kernel) rfl)⟩ (fun l => c_X1_init l E q3) ⟨Nat.le_of_ble_eq_true rfl, Nat.le_of_ble_eq_true rfl⟩ [3] [0, 1, 2] rfl rfl rfl rfl (by decide) dX7_init_20 rfl rfl (Nat.le_of_ble_eq_true rfl) (by decide) (by decide) (fun Y9 w9 hp hX hR => ?_)
  obtain ⟨q4, rfl⟩ := hp
  dsimp only [List.take_succ_cons, List.take_zero, List.cons_append, List.nil_append]
  refine rn_put (kf := 1) (ci := 7) hX hR rfl (by decide) inX7 tyX7_ok nmX7 rfl rfl (rhT_in 302 (by decide +kernel) rfl) 0 dX7_init_23 rfl rfl rfl (Nat.le_of_ble_eq_true rfl) rfl ?_
  dsimp only [List.set_cons_zero, List.set_cons_succ]
  refine rh_aload_n hX dX7_init_26 rfl ?_
  refine rh_sipush (v := 172) hX dX7_init_27 (by decide) ?_
  refine rn_newa hX hR (ty := .long) rfl (rhT_in 120 (by decide +kernel) rfl) 1 rfl (N' := 172) (a0 := (172, .inr (.inl (fun _ => 0)))) (fun _ => rfl) (by decide) (by decide) (by decide) dX7_init_30 (by decide) (by decide) (fun Y9 q5 hX hR => ?_)
  dsimp only [List.cons_append, List.nil_append]
  refine rn_put (kf := 2) (ci := 7) hX hR rfl (by decide) inX7 tyX7_ok nmX7 rfl rfl (rhT_in 303 (by decide +kernel) rfl) 0 dX7_init_32 rfl rfl rfl (Nat.le_of_ble_eq_true rfl) rfl ?_
  dsimp only [List.set_cons_zero, List.set_cons_succ]
  refine rh_aload_n hX dX7_init_35 rfl ?_
  refine rn_new hX hR tyX2 (ci := 2) (fs := [.null, .int 0, .int 0, .int 0]) rfl inX2 tyX2_ok (rhT_in 121 (by decide +kernel) rfl) (rhT_in 122 (by decide +kernel) rfl) (rhT_in 83 (by decide +kernel) rfl) (fun j hj => match j, hj with | 0, _ => rfl | 1, _ => rfl | 2, _ => rfl | 3, _ => rfl | n + 4, h => absurd h (by omega)) dX7_init_36 (by decide) (by decide) (fun Y9 q6 hX hR => ?_)
  dsimp only [List.cons_append, List.nil_append]
  refine rh_dup hX dX7_init_39 rfl ?_
  refine rn_callE (pos := 6) hX hR lk_X7_25 (show rhMd yX2_init cX2_init 1 none 0 from ⟨(rhT_in 83 (by decide +kernel) rfl), (rhT_in 125 (by decide +kernel) rfl), by decide +kernel, by decide +kernel⟩) ⟨rfl, (rhT_in 124 (by decide +kernel) rfl)⟩ (fun l => c_X2_init l E q6) ⟨Nat.le_of_ble_eq_true rfl, Nat.le_of_ble_eq_true rfl⟩ [6] [0, 1, 2, 3, 4, 5] rfl rfl rfl rfl (by decide) dX7_init_40 rfl rfl (Nat.le_of_ble_eq_true rfl) (by decide) (by decide) (fun Y9 w9 hp hX hR => ?_)
  obtain ⟨q7, b9, rfl⟩ := hp
  dsimp only [List.take_succ_cons, List.take_zero, List.cons_append, List.nil_append]
  refine rn_put (kf := 4) (ci := 7) hX hR rfl (by decide) inX7 tyX7_ok nmX7 rfl rfl (rhT_in 305 (by decide +kernel) rfl) 0 dX7_init_43 rfl rfl rfl (Nat.le_of_ble_eq_true rfl) rfl ?_
  dsimp only [List.set_cons_zero, List.set_cons_succ]
  refine rh_aload_n hX dX7_init_46 rfl ?_
  refine rn_new hX hR tyX6 (ci := 6) (fs := [.null, .int 0, .int 0]) rfl inX6 tyX6_ok (rhT_in 144 (by decide +kernel) rfl) (rhT_in 145 (by decide +kernel) rfl) (rhT_in 84 (by decide +kernel) rfl) (fun j hj => match j, hj with | 0, _ => rfl | 1, _ => rfl | 2, _ => rfl | n + 3, h => absurd h (by omega)) dX7_init_47 (by decide) (by decide) (fun Y9 q8 hX hR => ?_)
  dsimp only [List.cons_append, List.nil_append]
  refine rh_dup hX dX7_init_50 rfl ?_
  refine rn_callE (pos := 16) hX hR lk_X7_32 (show rhMd yX6_init cX6_init 1 none 0 from ⟨(rhT_in 84 (by decide +kernel) rfl), (rhT_in 148 (by decide +kernel) rfl), by decide +kernel, by decide +kernel⟩) ⟨rfl, (rhT_in 147 (by decide +kernel) rfl)⟩ (fun l => c_X6_init l E q8) ⟨Nat.le_of_ble_eq_true rfl, Nat.le_of_ble_eq_true rfl⟩ [16] [0, 1, 2, 3, 4, 5, 6, 7, 8, 9, 10, 11, 12, 13, 14, 15] rfl rfl rfl rfl (by decide) dX7_init_51 rfl rfl (Nat.le_of_ble_eq_true rfl) (by decide) (by decide) (fun Y9 w9 hp hX hR => ?_)
  obtain ⟨q9, rfl⟩ := hp
  dsimp only [List.take_succ_cons, List.take_zero, List.cons_append, List.nil_append]
  refine rn_put (kf := 5) (ci := 7) hX hR rfl (by decide) inX7 tyX7_ok nmX7 rfl rfl (rhT_in 306 (by decide +kernel) rfl) 0 dX7_init_54 rfl rfl rfl (Nat.le_of_ble_eq_true rfl) rfl ?_
  dsimp only [List.set_cons_zero, List.set_cons_succ]
  refine rh_aload_n hX dX7_init_57 rfl ?_
  refine rn_new hX hR tyX3 (ci := 3) (fs := [.null, .int 0]) rfl inX3 tyX3_ok (rhT_in 162 (by decide +kernel) rfl) (rhT_in 163 (by decide +kernel) rfl) (rhT_in 85 (by decide +kernel) rfl) (fun j hj => match j, hj with | 0, _ => rfl | 1, _ => rfl | n + 2, h => absurd h (by omega)) dX7_init_58 (by decide) (by decide) (fun Y9 q10 hX hR => ?_)
  dsimp only [List.cons_append, List.nil_append]
  refine rh_dup hX dX7_init_61 rfl ?_
  refine rn_callE (pos := 18) hX hR lk_X7_39 (show rhMd yX3_init cX3_init 1 none 0 from ⟨(rhT_in 85 (by decide +kernel) rfl), (rhT_in 166 (by decide +kernel) rfl), by decide +kernel, by decide +kernel⟩) ⟨rfl, (rhT_in 165 (by decide +kernel) rfl)⟩ (fun l => c_X3_init l E q10) ⟨Nat.le_of_ble_eq_true rfl, Nat.le_of_ble_eq_true rfl⟩ [18] [0, 1, 2, 3, 4, 5, 6, 7, 8, 9, 10, 11, 12, 13, 14, 15, 16, 17] rfl rfl rfl rfl (by decide) dX7_init_62 rfl rfl (Nat.le_of_ble_eq_true rfl) (by decide) (by decide) (fun Y9 w9 hp hX hR => ?_)
  obtain ⟨q11, rfl⟩ := hp
  dsimp only [List.take_succ_cons, List.take_zero, List.cons_append, List.nil_append]
  refine rn_put (kf := 6) (ci := 7) hX hR rfl (by decide) inX7 tyX7_ok nmX7 rfl rfl (rhT_in 307 (by decide +kernel) rfl) 0 dX7_init_65 rfl rfl rfl (Nat.le_of_ble_eq_true rfl) rfl ?_
  dsimp only [List.set_cons_zero, List.set_cons_succ]
  refine rh_aload_n hX dX7_init_68 rfl ?_
  refine rn_new hX hR tyX5 (ci := 5) (fs := [.long 0, .long 0, .int 0, .null, .null, .long 0]) rfl inX5 tyX5_ok (rhT_in 176 (by decide +kernel) rfl) (rhT_in 177 (by decide +kernel) rfl) (rhT_in 86 (by decide +kernel) rfl) (fun j hj => match j, hj with | 0, _ => rfl | 1, _ => rfl | 2, _ => rfl | 3, _ => rfl | 4, _ => rfl | 5, _ => rfl | n + 6, h => absurd h (by omega)) dX7_init_69 (by decide) (by decide) (fun Y9 q12 hX hR => ?_)
  dsimp only [List.cons_append, List.nil_append]
  refine rh_dup hX dX7_init_72 rfl ?_
  refine rn_callE (pos := 20) hX hR lk_X7_46 (show rhMd yX5_init cX5_init 1 none 0 from ⟨(rhT_in 86 (by decide +kernel) rfl), (rhT_in 180 (by decide +kernel) rfl), by decide +kernel, by decide +kernel⟩) ⟨rfl, (rhT_in 179 (by decide +kernel) rfl)⟩ (fun l => c_X5_init l E q12) ⟨Nat.le_of_ble_eq_true rfl, Nat.le_of_ble_eq_true rfl⟩ [20] [0, 1, 2, 3, 4, 5, 6, 7, 8, 9, 10, 11, 12, 13, 14, 15, 16, 17, 18, 19] rfl rfl rfl rfl (by decide) dX7_init_73 rfl rfl (Nat.le_of_ble_eq_true rfl) (by decide) (by decide) (fun Y9 w9 hp hX hR => ?_)
  obtain ⟨q13, q14, rfl⟩ := hp
  dsimp only [List.take_succ_cons, List.take_zero, List.cons_append, List.nil_append]
  refine rn_put (kf := 7) (ci := 7) hX hR rfl (by decide) inX7 tyX7_ok nmX7 rfl rfl (rhT_in 308 (by decide +kernel) rfl) 0 dX7_init_76 rfl rfl rfl (Nat.le_of_ble_eq_true rfl) rfl ?_
  dsimp only [List.set_cons_zero, List.set_cons_succ]
  refine rh_aload_n hX dX7_init_79 rfl ?_
  refine rn_new hX hR tyX0 (ci := 0) (fs := [.null, .null, .null, .null, .int 0, .long 0, .long 0, .long 0, .long 0, .long 0, .int 0, .long 0]) rfl inX0 tyX0_ok (rhT_in 212 (by decide +kernel) rfl) (rhT_in 213 (by decide +kernel) rfl) (rhT_in 87 (by decide +kernel) rfl) (fun j hj => match j, hj with | 0, _ => rfl | 1, _ => rfl | 2, _ => rfl | 3, _ => rfl | 4, _ => rfl | 5, _ => rfl | 6, _ => rfl | 7, _ => rfl | 8, _ => rfl | 9, _ => rfl | 10, _ => rfl | 11, _ => rfl | n + 12, h => absurd h (by omega)) dX7_init_80 (by decide) (by decide) (fun Y9 q15 hX hR => ?_)
  dsimp only [List.cons_append, List.nil_append]
  refine rh_dup hX dX7_init_83 rfl ?_
  refine rn_callE (pos := 23) hX hR lk_X7_53 (show rhMd yX0_init cX0_init 1 none 0 from ⟨(rhT_in 87 (by decide +kernel) rfl), (rhT_in 216 (by decide +kernel) rfl), by decide +kernel, by decide +kernel⟩) ⟨rfl, (rhT_in 215 (by decide +kernel) rfl)⟩ (fun l => c_X0_init l E q15) ⟨Nat.le_of_ble_eq_true rfl, Nat.le_of_ble_eq_true rfl⟩ [23] [0, 1, 2, 3, 4, 5, 6, 7, 8, 9, 10, 11, 12, 13, 14, 15, 16, 17, 18, 19, 20, 21, 22] rfl rfl rfl rfl (by decide) dX7_init_84 rfl rfl (Nat.le_of_ble_eq_true rfl) (by decide) (by decide) (fun Y9 w9 hp hX hR => ?_)
  obtain ⟨q16, q17, q18, q19, q20, rfl⟩ := hp
  dsimp only [List.take_succ_cons, List.take_zero, List.cons_append, List.nil_append]
  refine rn_put (kf := 8) (ci := 7) hX hR rfl (by decide) inX7 tyX7_ok nmX7 rfl rfl (rhT_in 309 (by decide +kernel) rfl) 0 dX7_init_87 rfl rfl rfl (Nat.le_of_ble_eq_true rfl) rfl ?_
  dsimp only [List.set_cons_zero, List.set_cons_succ]
  refine rh_aload_n hX dX7_init_90 rfl ?_
  refine rn_new hX hR tyX4 (ci := 4) (fs := [.null, .null, .null, .null, .long 0, .int 0, .int 0, .int 0, .long 0, .long 0]) rfl inX4 tyX4_ok (rhT_in 263 (by decide +kernel) rfl) (rhT_in 264 (by decide +kernel) rfl) (rhT_in 88 (by decide +kernel) rfl) (fun j hj => match j, hj with | 0, _ => rfl | 1, _ => rfl | 2, _ => rfl | 3, _ => rfl | 4, _ => rfl | 5, _ => rfl | 6, _ => rfl | 7, _ => rfl | 8, _ => rfl | 9, _ => rfl | n + 10, h => absurd h (by omega)) dX7_init_91 (by decide) (by decide) (fun Y9 q21 hX hR => ?_)
  dsimp only [List.cons_append, List.nil_append]
  refine rh_dup hX dX7_init_94 rfl ?_
  refine rn_callE (pos := 29) hX hR lk_X7_60 (show rhMd yX4_init cX4_init 1 none 0 from ⟨(rhT_in 88 (by decide +kernel) rfl), (rhT_in 267 (by decide +kernel) rfl), by decide +kernel, by decide +kernel⟩) ⟨rfl, (rhT_in 266 (by decide +kernel) rfl)⟩ (fun l => c_X4_init l E q21) ⟨Nat.le_of_ble_eq_true rfl, Nat.le_of_ble_eq_true rfl⟩ [29] [0, 1, 2, 3, 4, 5, 6, 7, 8, 9, 10, 11, 12, 13, 14, 15, 16, 17, 18, 19, 20, 21, 22, 23, 24, 25, 26, 27, 28] rfl rfl rfl rfl (by decide) dX7_init_95 rfl rfl (Nat.le_of_ble_eq_true rfl) (by decide) (by decide) (fun Y9 w9 hp hX hR => ?_)
  obtain ⟨q22, q23, q24, q25, rfl⟩ := hp
  dsimp only [List.take_succ_cons, List.take_zero, List.cons_append, List.nil_append]
  refine rn_put (kf := 9) (ci := 7) hX hR rfl (by decide) inX7 tyX7_ok nmX7 rfl rfl (rhT_in 310 (by decide +kernel) rfl) 0 dX7_init_98 rfl rfl rfl (Nat.le_of_ble_eq_true rfl) rfl ?_
  dsimp only [List.set_cons_zero, List.set_cons_succ]
  refine rh_aload_n hX dX7_init_101 rfl ?_
  refine rh_bipush (v := 8) hX dX7_init_102 (by decide) ?_
  refine rn_newa hX hR (ty := .long) rfl (rhT_in 120 (by decide +kernel) rfl) 1 rfl (N' := 8) (a0 := (8, .inr (.inl (fun _ => 0)))) (fun _ => rfl) (by decide) (by decide) (by decide) dX7_init_104 (by decide) (by decide) (fun Y9 q26 hX hR => ?_)
  dsimp only [List.cons_append, List.nil_append]
  refine rn_put (kf := 10) (ci := 7) hX hR rfl (by decide) inX7 tyX7_ok nmX7 rfl rfl (rhT_in 311 (by decide +kernel) rfl) 0 dX7_init_106 rfl rfl rfl (Nat.le_of_ble_eq_true rfl) rfl ?_
  dsimp only [List.set_cons_zero, List.set_cons_succ]
  refine rh_aload_n hX dX7_init_109 rfl ?_
  refine rh_bipush (v := 8) hX dX7_init_110 (by decide) ?_
  refine rn_newa hX hR (ty := .int) rfl (rhT_in 338 (by decide +kernel) rfl) 0 rfl (N' := 8) (a0 := (8, .inl (fun _ => 0))) (fun _ => rfl) (by decide) (by decide) (by decide) dX7_init_112 (by decide) (by decide) (fun Y9 q27 hX hR => ?_)
  dsimp only [List.cons_append, List.nil_append]
  refine rn_put (kf := 11) (ci := 7) hX hR rfl (by decide) inX7 tyX7_ok nmX7 rfl rfl (rhT_in 312 (by decide +kernel) rfl) 0 dX7_init_114 rfl rfl rfl (Nat.le_of_ble_eq_true rfl) rfl ?_
  dsimp only [List.set_cons_zero, List.set_cons_succ]
  refine rh_extQ (q := 7) (f := fun j => some (b9 j)) (g := fun j => some ((fun i => match i with | 0 => h0 | 1 => q1 | 2 => q2 | 3 => q3 | 4 => q4 | 5 => q5 | 6 => q6 | 7 => q7 | 8 => (b9 0) | 9 => (b9 1) | 10 => (b9 2) | 11 => (b9 3) | 12 => (b9 4) | 13 => (b9 5) | 14 => (b9 6) | 15 => (b9 7) | 16 => q8 | 17 => q9 | 18 => q10 | 19 => q11 | 20 => q12 | 21 => q13 | 22 => q14 | 23 => q15 | 24 => q16 | 25 => q17 | 26 => q18 | 27 => q19 | 28 => q20 | 29 => q21 | 30 => q22 | 31 => q23 | 32 => q24 | 33 => q25 | 34 => q26 | 35 => q27 | _ => 0) (8 + j))) rfl (fun j hj => match j, hj with | 0, _ => rfl | 1, _ => rfl | 2, _ => rfl | 3, _ => rfl | 4, _ => rfl | 5, _ => rfl | 6, _ => rfl | 7, _ => rfl | n + 8, h => absurd h (by omega)) rfl ?_
  exact rn_ret hX hR dX7_init_117 ⟨(fun i => match i with | 0 => h0 | 1 => q1 | 2 => q2 | 3 => q3 | 4 => q4 | 5 => q5 | 6 => q6 | 7 => q7 | 8 => (b9 0) | 9 => (b9 1) | 10 => (b9 2) | 11 => (b9 3) | 12 => (b9 4) | 13 => (b9 5) | 14 => (b9 6) | 15 => (b9 7) | 16 => q8 | 17 => q9 | 18 => q10 | 19 => q11 | 20 => q12 | 21 => q13 | 22 => q14 | 23 => q15 | 24 => q16 | 25 => q17 | 26 => q18 | 27 => q19 | 28 => q20 | 29 => q21 | 30 => q22 | 31 => q23 | 32 => q24 | 33 => q25 | 34 => q26 | 35 => q27 | _ => 0), rfl, rfl⟩