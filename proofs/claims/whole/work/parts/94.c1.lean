def rmN (d c s : Nat) : Room := { frames := d, cells := c, slots := s, locals := 38 * d }
theorem rn_put {X : rhX} {E : rhE} {own : String} {cc : ByteArray} {R : Room} {nL pc : Nat} {lv : List (Option Value)} {st : List Value} {ws w0 : va_W} {a b a1 b1 : Nat} {Post : va_W → Prop} (hX : Ok X E own cc R nL) (hR : RtN X w0 a b a1 b1 Post) {idx ci kf : Nat} {C : String} {T : u_T} {N : Nat} {ty0 : Nat → FieldType} (f1 : vwCl[ci]? = some (C, T, N)) (f2 : kf < N) (f3 : ∀ w ∈ u_ws C T N, w ∈ rhT) (f4 : ∀ k, k < N → parseFieldDescriptor (T k).2.2.1 = some (ty0 k)) (f5 : ∀ a, a < N → ∀ b, b < N → a ≠ b → (T a).2.1 ≠ (T b).2.1) (f6 : (T kf).2.2.2 = true) (f7 : (T kf).1 = own) (f8 : Cond.fieldLink own idx (T kf).1 (T kf).2.1 (T kf).2.2.1 ∈ rhT) {v : Value} {x : Nat} {fs : List Value} {ws' : va_W} (q0 : Nat) (d : decode cc pc = .ok (.putfield idx, 3)) (he : ws[q0]? = some (x, .inr (ci, fs))) (hn : narrow (ty0 kf) v = v) (hf : fits (ty0 kf) v = true) (hlen : kf < fs.length) (hw : ws.set q0 (x, .inr (ci, fs.set kf v)) = ws') (k : G X (pc + 3) lv st ws') : G X pc lv (v :: .ref x :: st) ws := by
  obtain ⟨p, l, e, R0, s, m, args, below, meth, c, E0, A, Q, kc, ns, nL0⟩ := X
  obtain ⟨hx, hb, hml, ho, ht, hK, hA, hAz, hlk, hkn, rfl, rfl, rfl⟩ := hX
  obtain ⟨-, -, -, hnm, -, -, -⟩ := hR
  subst hw
  intro H locs ls hP hD hS hl
  exact va_putF (D := E0.1) (tys := rhTy E0.2.1) hx hb ht f3 ty0 f4 f5 ho hK.1 hP hD hS q0 he f1 kf f2 (ht _ f8) (fun _ h => h) f6 hnm f7 (f4 kf f2) hn hf hlen d (fun H1 locs1 hP1 hD1 hS1 => k H1 locs1 ls hP1 hD1 hS1 hl)

theorem rn_callE {pos : Nat} {X : rhX} {E : rhE} {own : String} {cc : ByteArray} {R : Room} {nL pc : Nat} {lv : List (Option Value)} {st : List Value} {ws w0 : va_W} {a b a1 b1 : Nat} {Post : va_W → Prop} (hX : Ok X E own cc R nL) (hR : RtN X w0 a b a1 b1 Post) {idx n mL : Nat} {y : MethodName} {bytes : ByteArray} {rm : Room} {v : Nat} {As rest : List Value} {wc : va_W} {PostC : va_W → Prop} (hlk0 : rhLk own idx y) (hw : rhMd y bytes mL none n) (hin : y.name = "<init>" ∧ Cond.instanceMethod y ∈ rhT) (hM : ∀ l, CtrN l E y bytes mL rm (.ref v :: As) wc PostC) (hroom : rm.frames + 1 ≤ R.frames ∧ 8 + (mL + 11) + rm.locals ≤ R.locals) (isC isR : List Nat) (hC : isC.map (fun i => ws[i]?) = wc.map some) (hnC : va_nd isC = true) (hRs : isR.map (fun i => ws[i]?) = (List.take pos ws).map some) (hnR : va_nd isR = true) (hdis : ∀ i ∈ isR, i ∉ isC) (d : decode cc pc = .ok (.invokespecial idx, 3)) (hn : As.length = n) (hst : st = As.reverse ++ .ref v :: rest) (hcat : (rest.map fun v => v.category).sum ≤ 8) (h1 : a + rm.cells ≤ R.cells) (h2 : b + rm.slots ≤ R.slots)
    (k : ∀ (Y : rhX) (w : va_W), PostC w → Ok Y E own cc R nL → RtN Y w0 (a + rm.cells) (b + rm.slots) a1 b1 Post → G Y (pc + 3) lv rest (List.take pos ws ++ w)) : G X pc lv st ws := rn_call hX hR hlk0 hw hin hM hroom isC isR hC hnC hRs hnR hdis d hn hst hcat h1 h2 k


set_option maxRecDepth 100000 in
set_option maxHeartbeats 4000000 in
theorem c_X1_init (l : Launch) (E : rhE) (h0 : Nat) : CtrN l E yX1_init cX1_init 1 (rmN 1 1 172) [.ref h0] [(h0, .inr (1, [.null]))] (fun w => ∃ q1, w = wH E h0 q1 (va_up (fun _ => 0) 171 1)) := by
  refine CtrN.of (by decide) rfl (Nat.le_of_ble_eq_true rfl) 0 ?_
  intro X hX hR
  show G X 0 [some (.ref h0)] [] [(h0, .inr (1, [.null]))]
  refine rh_aload_n hX dX1_init_0 rfl ?_
  refine rn_obj hX (rhT_in 113 (by decide +kernel) rfl) (rhT_in 106 (by decide +kernel) rfl) (rhT_in 107 (by decide +kernel) rfl) dX1_init_1 (Nat.le_of_ble_eq_true rfl) (Nat.le_of_ble_eq_true rfl) ?_
  refine rh_aload_n hX dX1_init_4 rfl ?_
  refine rh_sipush (v := 172) hX dX1_init_5 (by decide) ?_
  refine rn_newa hX hR (ty := .long) rfl (rhT_in 120 (by decide +kernel) rfl) 1 rfl (N' := 172) (a0 := (172, .inr (.inl (fun _ => 0)))) (fun _ => rfl) (by decide) (by decide) (by decide) dX1_init_8 (by decide) (by decide) (fun Y9 q1 hX hR => ?_)
  dsimp only [List.cons_append, List.nil_append]
  refine rn_put (kf := 0) (ci := 1) hX hR rfl (by decide) inX1 tyX1_ok nmX1 rfl rfl (rhT_in 114 (by decide +kernel) rfl) 0 dX1_init_10 rfl rfl rfl (Nat.le_of_ble_eq_true rfl) rfl ?_
  dsimp only [List.set_cons_zero, List.set_cons_succ]
  refine rh_aload_n hX dX1_init_13 rfl ?_
  refine rh_get hX gl_X1_9 0 dX1_init_14 rfl rfl ?_
  refine rh_sipush (v := 171) hX dX1_init_17 (by decide) ?_
  refine rh_lconst (v := 1) hX dX1_init_20 (by decide) ?_
  refine rh_lastore hX 1 171 dX1_init_21 rfl rfl (by decide) (by decide) rfl ?_
  dsimp only [List.set_cons_zero, List.set_cons_succ]
  exact rn_ret hX hR dX1_init_22 ⟨_, rfl⟩

set_option maxRecDepth 100000 in
set_option maxHeartbeats 4000000 in
theorem c_X3_init (l : Launch) (E : rhE) (h0 : Nat) : CtrN l E yX3_init cX3_init 1 (rmN 1 1 12) [.ref h0] [(h0, .inr (3, [.null, .int 0]))] (fun w => ∃ q1, w = wR E h0 q1 (fun _ => 0) 0) := by
  refine CtrN.of (by decide) rfl (Nat.le_of_ble_eq_true rfl) 0 ?_
  intro X hX hR
  show G X 0 [some (.ref h0)] [] [(h0, .inr (3, [.null, .int 0]))]
  refine rh_aload_n hX dX3_init_0 rfl ?_
  refine rn_obj hX (rhT_in 167 (by decide +kernel) rfl) (rhT_in 106 (by decide +kernel) rfl) (rhT_in 107 (by decide +kernel) rfl) dX3_init_1 (Nat.le_of_ble_eq_true rfl) (Nat.le_of_ble_eq_true rfl) ?_
  refine rh_aload_n hX dX3_init_4 rfl ?_
  refine rh_bipush (v := 12) hX dX3_init_5 (by decide) ?_
  refine rn_newa hX hR (ty := .long) rfl (rhT_in 120 (by decide +kernel) rfl) 1 rfl (N' := 12) (a0 := (12, .inr (.inl (fun _ => 0)))) (fun _ => rfl) (by decide) (by decide) (by decide) dX3_init_7 (by decide) (by decide) (fun Y9 q1 hX hR => ?_)
  dsimp only [List.cons_append, List.nil_append]
  refine rn_put (kf := 0) (ci := 3) hX hR rfl (by decide) inX3 tyX3_ok nmX3 rfl rfl (rhT_in 168 (by decide +kernel) rfl) 0 dX3_init_9 rfl rfl rfl (Nat.le_of_ble_eq_true rfl) rfl ?_
  dsimp only [List.set_cons_zero, List.set_cons_succ]
  exact rn_ret hX hR dX3_init_12 ⟨_, rfl⟩

set_option maxRecDepth 100000 in
set_option maxHeartbeats 4000000 in
theorem c_X5_init (l : Launch) (E : rhE) (h0 : Nat) : CtrN l E yX5_init cX5_init 1 (rmN 1 2 19) [.ref h0] [(h0, .inr (5, [.long 0, .long 0, .int 0, .null, .null, .long 0]))] (fun w => ∃ q1 q2, w = wTs E h0 q1 q2 (0, 0, 0, (fun _ => 0), (fun _ => 0), 0)) := by
  refine CtrN.of (by decide) rfl (Nat.le_of_ble_eq_true rfl) 0 ?_
  intro X hX hR
  show G X 0 [some (.ref h0)] [] [(h0, .inr (5, [.long 0, .long 0, .int 0, .null, .null, .long 0]))]
  refine rh_aload_n hX dX5_init_0 rfl ?_
  refine rn_obj hX (rhT_in 181 (by decide +kernel) rfl) (rhT_in 106 (by decide +kernel) rfl) (rhT_in 107 (by decide +kernel) rfl) dX5_init_1 (Nat.le_of_ble_eq_true rfl) (Nat.le_of_ble_eq_true rfl) ?_
  refine rh_aload_n hX dX5_init_4 rfl ?_
  refine rh_bipush (v := 11) hX dX5_init_5 (by decide) ?_
  refine rn_newa hX hR (ty := .long) rfl (rhT_in 120 (by decide +kernel) rfl) 1 rfl (N' := 11) (a0 := (11, .inr (.inl (fun _ => 0)))) (fun _ => rfl) (by decide) (by decide) (by decide) dX5_init_7 (by decide) (by decide) (fun Y9 q1 hX hR => ?_)
  dsimp only [List.cons_append, List.nil_append]
  refine rn_put (kf := 3) (ci := 5) hX hR rfl (by decide) inX5 tyX5_ok nmX5 rfl rfl (rhT_in 192 (by decide +kernel) rfl) 0 dX5_init_9 rfl rfl rfl (Nat.le_of_ble_eq_true rfl) rfl ?_
  dsimp only [List.set_cons_zero, List.set_cons_succ]
  refine rh_aload_n hX dX5_init_12 rfl ?_
  refine rh_bipush (v := 8) hX dX5_init_13 (by decide) ?_
  refine rn_newa hX hR (ty := .long) rfl (rhT_in 120 (by decide +kernel) rfl) 1 rfl (N' := 8) (a0 := (8, .inr (.inl (fun _ => 0)))) (fun _ => rfl) (by decide) (by decide) (by decide) dX5_init_15 (by decide) (by decide) (fun Y9 q2 hX hR => ?_)
  dsimp only [List.cons_append, List.nil_append]
  refine rn_put (kf := 4) (ci := 5) hX hR rfl (by decide) inX5 tyX5_ok nmX5 rfl rfl (rhT_in 195 (by decide +kernel) rfl) 0 dX5_init_17 rfl rfl rfl (Nat.le_of_ble_eq_true rfl) rfl ?_
  dsimp only [List.set_cons_zero, List.set_cons_succ]
  exact rn_ret hX hR dX5_init_20 ⟨_, _, rfl⟩

set_option maxRecDepth 100000 in
set_option maxHeartbeats 4000000 in
theorem c_X6_init (l : Launch) (E : rhE) (h0 : Nat) : CtrN l E yX6_init cX6_init 1 (rmN 1 1 200) [.ref h0] [(h0, .inr (6, [.null, .int 0, .int 0]))] (fun w => ∃ q1, w = wX E h0 q1 (fun _ => 0) 0 0) := by
  refine CtrN.of (by decide) rfl (Nat.le_of_ble_eq_true rfl) 0 ?_
  intro X hX hR
  show G X 0 [some (.ref h0)] [] [(h0, .inr (6, [.null, .int 0, .int 0]))]
  refine rh_aload_n hX dX6_init_0 rfl ?_
  refine rn_obj hX (rhT_in 149 (by decide +kernel) rfl) (rhT_in 106 (by decide +kernel) rfl) (rhT_in 107 (by decide +kernel) rfl) dX6_init_1 (Nat.le_of_ble_eq_true rfl) (Nat.le_of_ble_eq_true rfl) ?_
  refine rh_aload_n hX dX6_init_4 rfl ?_
  refine rh_sipush (v := 200) hX dX6_init_5 (by decide) ?_
  refine rn_newa hX hR (ty := .char) rfl (rhT_in 161 (by decide +kernel) rfl) 3 rfl (N' := 200) (a0 := (200, .inl (fun _ => 0))) (fun _ => rfl) (by decide) (by decide) (by decide) dX6_init_8 (by decide) (by decide) (fun Y9 q1 hX hR => ?_)
  dsimp only [List.cons_append, List.nil_append]
  refine rn_put (kf := 0) (ci := 6) hX hR rfl (by decide) inX6 tyX6_ok nmX6 rfl rfl (rhT_in 150 (by decide +kernel) rfl) 0 dX6_init_10 rfl rfl rfl (Nat.le_of_ble_eq_true rfl) rfl ?_
  dsimp only [List.set_cons_zero, List.set_cons_succ]
  exact rn_ret hX hR dX6_init_13 ⟨_, rfl⟩

set_option maxRecDepth 100000 in
set_option maxHeartbeats 4000000 in
theorem c_X4_init (l : Launch) (E : rhE) (h0 : Nat) : CtrN l E yX4_init cX4_init 1 (rmN 1 4 24) [.ref h0] [(h0, .inr (4, [.null, .null, .null, .null, .long 0, .int 0, .int 0, .int 0, .long 0, .long 0]))] (fun w => ∃ q1 q2 q3 q4, w = wSt E h0 q1 q2 q3 q4 ((fun _ => 0), (fun _ => 0), (fun _ => 0), (fun _ => 0), 0, 0, 0, 0, 0, 0)) := by
  refine CtrN.of (by decide) rfl (Nat.le_of_ble_eq_true rfl) 0 ?_
  intro X hX hR
  show G X 0 [some (.ref h0)] [] [(h0, .inr (4, [.null, .null, .null, .null, .long 0, .int 0, .int 0, .int 0, .long 0, .long 0]))]
  refine rh_aload_n hX dX4_init_0 rfl ?_
  refine rn_obj hX (rhT_in 268 (by decide +kernel) rfl) (rhT_in 106 (by decide +kernel) rfl) (rhT_in 107 (by decide +kernel) rfl) dX4_init_1 (Nat.le_of_ble_eq_true rfl) (Nat.le_of_ble_eq_true rfl) ?_
  refine rh_aload_n hX dX4_init_4 rfl ?_
  refine rh_bipush (v := 6) hX dX4_init_5 (by decide) ?_
  refine rn_newa hX hR (ty := .long) rfl (rhT_in 120 (by decide +kernel) rfl) 1 rfl (N' := 6) (a0 := (6, .inr (.inl (fun _ => 0)))) (fun _ => rfl) (by decide) (by decide) (by decide) dX4_init_7 (by decide) (by decide) (fun Y9 q1 hX hR => ?_)
  dsimp only [List.cons_append, List.nil_append]
  refine rn_put (kf := 0) (ci := 4) hX hR rfl (by decide) inX4 tyX4_ok nmX4 rfl rfl (rhT_in 269 (by decide +kernel) rfl) 0 dX4_init_9 rfl rfl rfl (Nat.le_of_ble_eq_true rfl) rfl ?_
  dsimp only [List.set_cons_zero, List.set_cons_succ]
  refine rh_aload_n hX dX4_init_12 rfl ?_
  refine rh_bipush (v := 6) hX dX4_init_13 (by decide) ?_
  refine rn_newa hX hR (ty := .long) rfl (rhT_in 120 (by decide +kernel) rfl) 1 rfl (N' := 6) (a0 := (6, .inr (.inl (fun _ => 0)))) (fun _ => rfl) (by decide) (by decide) (by decide) dX4_init_15 (by decide) (by decide) (fun Y9 q2 hX hR => ?_)
  dsimp only [List.cons_append, List.nil_append]
  refine rn_put (kf := 1) (ci := 4) hX hR rfl (by decide) inX4 tyX4_ok nmX4 rfl rfl (rhT_in 270 (by decide +kernel) rfl) 0 dX4_init_17 rfl rfl rfl (Nat.le_of_ble_eq_true rfl) rfl ?_
  dsimp only [List.set_cons_zero, List.set_cons_succ]
  refine rh_aload_n hX dX4_init_20 rfl ?_
  refine rh_bipush (v := 6) hX dX4_init_21 (by decide) ?_
  refine rn_newa hX hR (ty := .long) rfl (rhT_in 120 (by decide +kernel) rfl) 1 rfl (N' := 6) (a0 := (6, .inr (.inl (fun _ => 0)))) (fun _ => rfl) (by decide) (by decide) (by decide) dX4_init_23 (by decide) (by decide) (fun Y9 q3 hX hR => ?_)
  dsimp only [List.cons_append, List.nil_append]
  refine rn_put (kf := 2) (ci := 4) hX hR rfl (by decide) inX4 tyX4_ok nmX4 rfl rfl (rhT_in 271 (by decide +kernel) rfl) 0 dX4_init_25 rfl rfl rfl (Nat.le_of_ble_eq_true rfl) rfl ?_
  dsimp only [List.set_cons_zero, List.set_cons_succ]
  refine rh_aload_n hX dX4_init_28 rfl ?_
  refine rh_bipush (v := 6) hX dX4_init_29 (by decide) ?_
  refine rn_newa hX hR (ty := .long) rfl (rhT_in 120 (by decide +kernel) rfl) 1 rfl (N' := 6) (a0 := (6, .inr (.inl (fun _ => 0)))) (fun _ => rfl) (by decide) (by decide) (by decide) dX4_init_31 (by decide) (by decide) (fun Y9 q4 hX hR => ?_)
  dsimp only [List.cons_append, List.nil_append]
  refine rn_put (kf := 3) (ci := 4) hX hR rfl (by decide) inX4 tyX4_ok nmX4 rfl rfl (rhT_in 272 (by decide +kernel) rfl) 0 dX4_init_33 rfl rfl rfl (Nat.le_of_ble_eq_true rfl) rfl ?_
  dsimp only [List.set_cons_zero, List.set_cons_succ]
  exact rn_ret hX hR dX4_init_36 ⟨_, _, _, _, rfl⟩

set_option maxRecDepth 100000 in
set_option maxHeartbeats 4000000 in
theorem c_X0_init (l : Launch) (E : rhE) (h0 : Nat) : CtrN l E yX0_init cX0_init 1 (rmN 2 5 193) [.ref h0] [(h0, .inr (0, [.null, .null, .null, .null, .int 0, .long 0, .long 0, .long 0, .long 0, .long 0, .int 0, .long 0]))] (fun w => ∃ q1 q2 q3 q4 q5, w = wDt E h0 q1 q2 q3 q4 q5 (va_up (fun _ => 0) 171 1, (fun _ => 0), (fun _ => 0), (fun _ => 0), 0, 0, 0, 0, 0, 0, 0, 0)) := by
  refine CtrN.of (by decide) rfl (Nat.le_of_ble_eq_true rfl) 0 ?_
  intro X hX hR
  show G X 0 [some (.ref h0)] [] [(h0, .inr (0, [.null, .null, .null, .null, .int 0, .long 0, .long 0, .long 0, .long 0, .long 0, .int 0, .long 0]))]
  refine rh_aload_n hX dX0_init_0 rfl ?_
  refine rn_obj hX (rhT_in 217 (by decide +kernel) rfl) (rhT_in 106 (by decide +kernel) rfl) (rhT_in 107 (by decide +kernel) rfl) dX0_init_1 (Nat.le_of_ble_eq_true rfl) (Nat.le_of_ble_eq_true rfl) ?_
  refine rh_aload_n hX dX0_init_4 rfl ?_
  refine rn_new hX hR tyX1 (ci := 1) (fs := [.null]) rfl inX1 tyX1_ok (rhT_in 218 (by decide +kernel) rfl) (rhT_in 109 (by decide +kernel) rfl) (rhT_in 82 (by decide +kernel) rfl) (fun j hj => match j, hj with | 0, _ => rfl | n + 1, h => absurd h (by omega)) dX0_init_5 (by decide) (by decide) (fun Y9 q1 hX hR => ?_)
  dsimp only [List.cons_append, List.nil_append]
  refine rh_dup hX dX0_init_8 rfl ?_
  refine rn_callE (pos := 1) hX hR (Or.inl (rhT_in 219 (by decide +kernel) rfl)) (show rhMd yX1_init cX1_init 1 none 0 from ⟨(rhT_in 82 (by decide +kernel) rfl), (rhT_in 112 (by decide +kernel) rfl), by decide +kernel, by decide +kernel⟩) ⟨rfl, (rhT_in 111 (by decide +kernel) rfl)⟩ (fun l => c_X1_init l E q1) ⟨Nat.le_of_ble_eq_true rfl, Nat.le_of_ble_eq_true rfl⟩ [1] [0] rfl rfl rfl rfl (by decide) dX0_init_9 rfl rfl (Nat.le_of_ble_eq_true rfl) (by decide) (by decide) (fun Y9 w9 hp hX hR => ?_)
  obtain ⟨q2, rfl⟩ := hp
  dsimp only [List.take_succ_cons, List.take_zero, List.cons_append, List.nil_append]
  refine rn_put (kf := 0) (ci := 0) hX hR rfl (by decide) inX0 tyX0_ok nmX0 rfl rfl (rhT_in 220 (by decide +kernel) rfl) 0 dX0_init_12 rfl rfl rfl (Nat.le_of_ble_eq_true rfl) rfl ?_
  dsimp only [List.set_cons_zero, List.set_cons_succ]
  refine rh_aload_n hX dX0_init_15 rfl ?_
  refine rh_bipush (v := 6) hX dX0_init_16 (by decide) ?_
  refine rn_newa hX hR (ty := .long) rfl (rhT_in 120 (by decide +kernel) rfl) 1 rfl (N' := 6) (a0 := (6, .inr (.inl (fun _ => 0)))) (fun _ => rfl) (by decide) (by decide) (by decide) dX0_init_18 (by decide) (by decide) (fun Y9 q3 hX hR => ?_)
  dsimp only [List.cons_append, List.nil_append]
  refine rn_put (kf := 1) (ci := 0) hX hR rfl (by decide) inX0 tyX0_ok nmX0 rfl rfl (rhT_in 222 (by decide +kernel) rfl) 0 dX0_init_20 rfl rfl rfl (Nat.le_of_ble_eq_true rfl) rfl ?_
  dsimp only [List.set_cons_zero, List.set_cons_succ]
  refine rh_aload_n hX dX0_init_23 rfl ?_
  refine rh_bipush (v := 6) hX dX0_init_24 (by decide) ?_
  refine rn_newa hX hR (ty := .long) rfl (rhT_in 120 (by decide +kernel) rfl) 1 rfl (N' := 6) (a0 := (6, .inr (.inl (fun _ => 0)))) (fun _ => rfl) (by decide) (by decide) (by decide) dX0_init_26 (by decide) (by decide) (fun Y9 q4 hX hR => ?_)
  dsimp only [List.cons_append, List.nil_append]
  refine rn_put (kf := 2) (ci := 0) hX hR rfl (by decide) inX0 tyX0_ok nmX0 rfl rfl (rhT_in 223 (by decide +kernel) rfl) 0 dX0_init_28 rfl rfl rfl (Nat.le_of_ble_eq_true rfl) rfl ?_
  dsimp only [List.set_cons_zero, List.set_cons_succ]
  refine rh_aload_n hX dX0_init_31 rfl ?_
  refine rh_bipush (v := 8) hX dX0_init_32 (by decide) ?_
  refine rn_newa hX hR (ty := .long) rfl (rhT_in 120 (by decide +kernel) rfl) 1 rfl (N' := 8) (a0 := (8, .inr (.inl (fun _ => 0)))) (fun _ => rfl) (by decide) (by decide) (by decide) dX0_init_34 (by decide) (by decide) (fun Y9 q5 hX hR => ?_)
  dsimp only [List.cons_append, List.nil_append]
  refine rn_put (kf := 3) (ci := 0) hX hR rfl (by decide) inX0 tyX0_ok nmX0 rfl rfl (rhT_in 225 (by decide +kernel) rfl) 0 dX0_init_36 rfl rfl rfl (Nat.le_of_ble_eq_true rfl) rfl ?_
  dsimp only [List.set_cons_zero, List.set_cons_succ]
  exact rn_ret hX hR dX0_init_39 ⟨_, _, _, _, _, rfl⟩

set_option maxRecDepth 100000 in
set_option maxHeartbeats 4000000 in
theorem c_X8_init (l : Launch) (E : rhE) (h0 : Nat) : CtrN l E yX8_init cX8_init 1 (rmN 1 12 2164) [.ref h0] [(h0, .inr (8, [.null, .null, .int 0, .null, .int 0, .int 0, .null, .int 0, .null, .int 0, .int 0, .int 0, .int 0, .int 0, .null, .int 0, .int 0, .int 0, .int 0, .int 0, .int 0, .int 0, .long 0, .long 0, .long 0, .int 0, .long 0, .long 0, .null, .null, .null, .int 0, .null, .null, .null, .long 0, .long 0]))] (fun w => ∃ B : Nat → Nat, B 0 = h0 ∧ w = wM E B (va_up (fun _ => 0) 57 1) (fun _ => 0) 0 (fun _ => 0) 0 0 (fun _ => 0) 0 (fun _ => 0) 0 0 0 0 0 (fun _ => 0) 0 0 0 0 0 0 0 0 0 0 0 0 0 (fun _ => 0) (fun _ => 0) (fun _ => 0) 0 (fun _ => 0) (fun _ => 0) (fun _ => 0) 0 0) := by
  refine CtrN.of (by decide) rfl (Nat.le_of_ble_eq_true rfl) 0 ?_
  intro X hX hR
  show G X 0 [some (.ref h0)] [] [(h0, .inr (8, [.null, .null, .int 0, .null, .int 0, .int 0, .null, .int 0, .null, .int 0, .int 0, .int 0, .int 0, .int 0, .null, .int 0, .int 0, .int 0, .int 0, .int 0, .int 0, .int 0, .long 0, .long 0, .long 0, .int 0, .long 0, .long 0, .null, .null, .null, .int 0, .null, .null, .null, .long 0, .long 0]))]
  refine rh_aload_n hX dX8_init_0 rfl ?_
  refine rn_obj hX (rhT_in 1132 (by decide +kernel) rfl) (rhT_in 106 (by decide +kernel) rfl) (rhT_in 107 (by decide +kernel) rfl) dX8_init_1 (Nat.le_of_ble_eq_true rfl) (Nat.le_of_ble_eq_true rfl) ?_
  refine rh_aload_n hX dX8_init_4 rfl ?_
  refine rh_sipush (v := 172) hX dX8_init_5 (by decide) ?_
  refine rn_newa hX hR (ty := .int) rfl (rhT_in 338 (by decide +kernel) rfl) 0 rfl (N' := 172) (a0 := (172, .inl (fun _ => 0))) (fun _ => rfl) (by decide) (by decide) (by decide) dX8_init_8 (by decide) (by decide) (fun Y9 q1 hX hR => ?_)
  dsimp only [List.cons_append, List.nil_append]
  refine rn_put (kf := 0) (ci := 8) hX hR rfl (by decide) inX8 tyX8_ok nmX8 rfl rfl (rhT_in 1133 (by decide +kernel) rfl) 0 dX8_init_10 rfl rfl rfl (Nat.le_of_ble_eq_true rfl) rfl ?_
  dsimp only [List.set_cons_zero, List.set_cons_succ]
  refine rh_aload_n hX dX8_init_13 rfl ?_
  refine rh_sipush (v := 172) hX dX8_init_14 (by decide) ?_
  refine rn_newa hX hR (ty := .int) rfl (rhT_in 338 (by decide +kernel) rfl) 0 rfl (N' := 172) (a0 := (172, .inl (fun _ => 0))) (fun _ => rfl) (by decide) (by decide) (by decide) dX8_init_17 (by decide) (by decide) (fun Y9 q2 hX hR => ?_)
  dsimp only [List.cons_append, List.nil_append]
  refine rn_put (kf := 1) (ci := 8) hX hR rfl (by decide) inX8 tyX8_ok nmX8 rfl rfl (rhT_in 1134 (by decide +kernel) rfl) 0 dX8_init_19 rfl rfl rfl (Nat.le_of_ble_eq_true rfl) rfl ?_
  dsimp only [List.set_cons_zero, List.set_cons_succ]
  refine rh_aload_n hX dX8_init_22 rfl ?_
  refine rh_sipush (v := 1376) hX dX8_init_23 (by decide) ?_
  refine rn_newa hX hR (ty := .int) rfl (rhT_in 338 (by decide +kernel) rfl) 0 rfl (N' := 1376) (a0 := (1376, .inl (fun _ => 0))) (fun _ => rfl) (by decide) (by decide) (by decide) dX8_init_26 (by decide) (by decide) (fun Y9 q3 hX hR => ?_)
  dsimp only [List.cons_append, List.nil_append]
  refine rn_put (kf := 3) (ci := 8) hX hR rfl (by decide) inX8 tyX8_ok nmX8 rfl rfl (rhT_in 1136 (by decide +kernel) rfl) 0 dX8_init_28 rfl rfl rfl (Nat.le_of_ble_eq_true rfl) rfl ?_
  dsimp only [List.set_cons_zero, List.set_cons_succ]
  refine rh_aload_n hX dX8_init_31 rfl ?_
  refine rh_sipush (v := 200) hX dX8_init_32 (by decide) ?_
  refine rn_newa hX hR (ty := .byte) rfl (rhT_in 752 (by decide +kernel) rfl) 2 rfl (N' := 200) (a0 := (200, .inl (fun _ => 0))) (fun _ => rfl) (by decide) (by decide) (by decide) dX8_init_35 (by decide) (by decide) (fun Y9 q4 hX hR => ?_)
  dsimp only [List.cons_append, List.nil_append]
  refine rn_put (kf := 6) (ci := 8) hX hR rfl (by decide) inX8 tyX8_ok nmX8 rfl rfl (rhT_in 1139 (by decide +kernel) rfl) 0 dX8_init_37 rfl rfl rfl (Nat.le_of_ble_eq_true rfl) rfl ?_
  dsimp only [List.set_cons_zero, List.set_cons_succ]
  refine rh_aload_n hX dX8_init_40 rfl ?_
  refine rh_bipush (v := 32) hX dX8_init_41 (by decide) ?_
  refine rn_newa hX hR (ty := .long) rfl (rhT_in 120 (by decide +kernel) rfl) 1 rfl (N' := 32) (a0 := (32, .inr (.inl (fun _ => 0)))) (fun _ => rfl) (by decide) (by decide) (by decide) dX8_init_43 (by decide) (by decide) (fun Y9 q5 hX hR => ?_)
  dsimp only [List.cons_append, List.nil_append]
  refine rn_put (kf := 8) (ci := 8) hX hR rfl (by decide) inX8 tyX8_ok nmX8 rfl rfl (rhT_in 1141 (by decide +kernel) rfl) 0 dX8_init_45 rfl rfl rfl (Nat.le_of_ble_eq_true rfl) rfl ?_
  dsimp only [List.set_cons_zero, List.set_cons_succ]
  refine rh_aload_n hX dX8_init_48 rfl ?_
  refine rh_bipush (v := 8) hX dX8_init_49 (by decide) ?_
  refine rn_newa hX hR (ty := .int) rfl (rhT_in 338 (by decide +kernel) rfl) 0 rfl (N' := 8) (a0 := (8, .inl (fun _ => 0))) (fun _ => rfl) (by decide) (by decide) (by decide) dX8_init_51 (by decide) (by decide) (fun Y9 q6 hX hR => ?_)
  dsimp only [List.cons_append, List.nil_append]
  refine rn_put (kf := 14) (ci := 8) hX hR rfl (by decide) inX8 tyX8_ok nmX8 rfl rfl (rhT_in 1147 (by decide +kernel) rfl) 0 dX8_init_53 rfl rfl rfl (Nat.le_of_ble_eq_true rfl) rfl ?_
  dsimp only [List.set_cons_zero, List.set_cons_succ]
  refine rh_aload_n hX dX8_init_56 rfl ?_
  refine rh_bipush (v := 6) hX dX8_init_57 (by decide) ?_
  refine rn_newa hX hR (ty := .long) rfl (rhT_in 120 (by decide +kernel) rfl) 1 rfl (N' := 6) (a0 := (6, .inr (.inl (fun _ => 0)))) (fun _ => rfl) (by decide) (by decide) (by decide) dX8_init_59 (by decide) (by decide) (fun Y9 q7 hX hR => ?_)
  dsimp only [List.cons_append, List.nil_append]
  refine rn_put (kf := 28) (ci := 8) hX hR rfl (by decide) inX8 tyX8_ok nmX8 rfl rfl (rhT_in 1161 (by decide +kernel) rfl) 0 dX8_init_61 rfl rfl rfl (Nat.le_of_ble_eq_true rfl) rfl ?_
  dsimp only [List.set_cons_zero, List.set_cons_succ]
  refine rh_aload_n hX dX8_init_64 rfl ?_
  refine rh_bipush (v := 8) hX dX8_init_65 (by decide) ?_
  refine rn_newa hX hR (ty := .int) rfl (rhT_in 338 (by decide +kernel) rfl) 0 rfl (N' := 8) (a0 := (8, .inl (fun _ => 0))) (fun _ => rfl) (by decide) (by decide) (by decide) dX8_init_67 (by decide) (by decide) (fun Y9 q8 hX hR => ?_)
  dsimp only [List.cons_append, List.nil_append]
  refine rn_put (kf := 29) (ci := 8) hX hR rfl (by decide) inX8 tyX8_ok nmX8 rfl rfl (rhT_in 1162 (by decide +kernel) rfl) 0 dX8_init_69 rfl rfl rfl (Nat.le_of_ble_eq_true rfl) rfl ?_
  dsimp only [List.set_cons_zero, List.set_cons_succ]
  refine rh_aload_n hX dX8_init_72 rfl ?_
  refine rh_bipush (v := 6) hX dX8_init_73 (by decide) ?_
  refine rn_newa hX hR (ty := .long) rfl (rhT_in 120 (by decide +kernel) rfl) 1 rfl (N' := 6) (a0 := (6, .inr (.inl (fun _ => 0)))) (fun _ => rfl) (by decide) (by decide) (by decide) dX8_init_75 (by decide) (by decide) (fun Y9 q9 hX hR => ?_)
  dsimp only [List.cons_append, List.nil_append]
  refine rn_put (kf := 30) (ci := 8) hX hR rfl (by decide) inX8 tyX8_ok nmX8 rfl rfl (rhT_in 1163 (by decide +kernel) rfl) 0 dX8_init_77 rfl rfl rfl (Nat.le_of_ble_eq_true rfl) rfl ?_
  dsimp only [List.set_cons_zero, List.set_cons_succ]
  refine rh_aload_n hX dX8_init_80 rfl ?_
  refine rh_sipush (v := 172) hX dX8_init_81 (by decide) ?_
  refine rn_newa hX hR (ty := .int) rfl (rhT_in 338 (by decide +kernel) rfl) 0 rfl (N' := 172) (a0 := (172, .inl (fun _ => 0))) (fun _ => rfl) (by decide) (by decide) (by decide) dX8_init_84 (by decide) (by decide) (fun Y9 q10 hX hR => ?_)
  dsimp only [List.cons_append, List.nil_append]
  refine rn_put (kf := 32) (ci := 8) hX hR rfl (by decide) inX8 tyX8_ok nmX8 rfl rfl (rhT_in 1165 (by decide +kernel) rfl) 0 dX8_init_86 rfl rfl rfl (Nat.le_of_ble_eq_true rfl) rfl ?_
  dsimp only [List.set_cons_zero, List.set_cons_succ]
  refine rh_aload_n hX dX8_init_89 rfl ?_
  refine rh_bipush (v := 6) hX dX8_init_90 (by decide) ?_
  refine rn_newa hX hR (ty := .long) rfl (rhT_in 120 (by decide +kernel) rfl) 1 rfl (N' := 6) (a0 := (6, .inr (.inl (fun _ => 0)))) (fun _ => rfl) (by decide) (by decide) (by decide) dX8_init_92 (by decide) (by decide) (fun Y9 q11 hX hR => ?_)
  dsimp only [List.cons_append, List.nil_append]
  refine rn_put (kf := 33) (ci := 8) hX hR rfl (by decide) inX8 tyX8_ok nmX8 rfl rfl (rhT_in 1166 (by decide +kernel) rfl) 0 dX8_init_94 rfl rfl rfl (Nat.le_of_ble_eq_true rfl) rfl ?_
  dsimp only [List.set_cons_zero, List.set_cons_succ]
  refine rh_aload_n hX dX8_init_97 rfl ?_
  refine rh_bipush (v := 6) hX dX8_init_98 (by decide) ?_
  refine rn_newa hX hR (ty := .long) rfl (rhT_in 120 (by decide +kernel) rfl) 1 rfl (N' := 6) (a0 := (6, .inr (.inl (fun _ => 0)))) (fun _ => rfl) (by decide) (by decide) (by decide) dX8_init_100 (by decide) (by decide) (fun Y9 q12 hX hR => ?_)
  dsimp only [List.cons_append, List.nil_append]
  refine rn_put (kf := 34) (ci := 8) hX hR rfl (by decide) inX8 tyX8_ok nmX8 rfl rfl (rhT_in 1167 (by decide +kernel) rfl) 0 dX8_init_102 rfl rfl rfl (Nat.le_of_ble_eq_true rfl) rfl ?_
  dsimp only [List.set_cons_zero, List.set_cons_succ]
  refine rh_aload_n hX dX8_init_105 rfl ?_
  refine rh_get hX gl_X8_7 0 dX8_init_106 rfl rfl ?_
  refine rh_bipush (v := 57) hX dX8_init_109 (by decide) ?_
  refine rh_iconst (v := 1) hX dX8_init_111 (by decide) ?_
  refine rh_iastore hX 1 57 dX8_init_112 rfl rfl (by decide) (by decide) rfl ?_
  dsimp only [List.set_cons_zero, List.set_cons_succ]
  exact rn_ret hX hR dX8_init_113 ⟨(fun i => match i with | 0 => h0 | 1 => q1 | 2 => q2 | 3 => q3 | 4 => q4 | 5 => q5 | 6 => q6 | 7 => q7 | 8 => q8 | 9 => q9 | 10 => q10 | 11 => q11 | 12 => q12 | _ => 0), rfl, rfl⟩