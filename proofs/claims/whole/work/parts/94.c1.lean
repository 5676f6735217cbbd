def rmN (d c s : Nat) : Room := { frames := d, cells := c, slots := s, locals := 38 * d }
theorem rn_put {X : rhX} {E : rhE} {own : String} {cc : ByteArray} {R : Room} {nL pc : Nat} {lv : List (Option Value)} {st : List Value} {ws w0 : va_W} {a b a1 b1 : Nat} {Post : va_W → Prop} (hX : Ok X E own cc R nL) (hR : RtN X w0 a b a1 b1 Post) {idx ci kf : Nat} {C : String} {T : u_T} {N : Nat} {ty0 : Nat → FieldType} (f1 : vwCl[ci]? = some (C, T, N)) (f2 : kf < N) (f3 : ∀ w ∈ u_ws C T N, w ∈ rhT) (f4 : ∀ k, k < N → parseFieldDescriptor (T k).2.2.1 = some (ty0 k)) (f5 : ∀ a, a < N → ∀ b, b < N → a ≠ b → (T a).2.1 ≠ (T b).2.1) (f6 : (T kf).2.2.2 = true) (f7 : (T kf).1 = own) (f8 : Cond.fieldLink own idx (T kf).1 (T kf).2.1 (T kf).2.2.1 ∈ rhT) {v : Value} {x : Nat} {fs : List Value} {ws' : va_W} (q0 : Nat) (d : decode cc pc = .ok (.putfield idx, 3)) (he : ws[q0]? = some (x, .inr (ci, fs))) (hn : narrow (ty0 kf) v = v) (hf : fits (ty0 kf) v = true) (hlen : kf < fs.length) (hw : ws.set q0 (x, .inr (ci, fs.set kf v)) = ws') (k : G X (pc + 3) lv st ws') : G X pc lv (v :: .ref x :: st) ws := by
  obtain ⟨p, l, e, R0, s, m, args, below, meth, c, E0, A, Q, kc, ns, nL0⟩ := X
  obtain ⟨hx, hb, hml, ho, ht, hK, hA, hAz, hlk, hkn, rfl, rfl, rfl⟩ := hX
  obtain ⟨-, -, -, hnm, -, -⟩ := hR
  subst hw
  intro H locs ls hP hD hS hl
  exact va_putF (D := E0.1) (tys := rhTy E0.2.1) hx hb ht f3 ty0 f4 f5 ho hK.1 hP hD hS q0 he f1 kf f2 (ht _ f8) (fun _ h => h) f6 hnm f7 (f4 kf f2) hn hf hlen d (fun H1 locs1 hP1 hD1 hS1 => k H1 locs1 ls hP1 hD1 hS1 hl)


set_option maxRecDepth 100000 in
set_option maxHeartbeats 4000000 in
theorem c_X1_init (l : Launch) (E : rhE) (h0 : Nat) : CtrN l E yX1_init cX1_init 1 (rmN 1 1 172) [.ref h0] [(h0, .inr (1, [.null]))] (fun w => ∃ q1, w = wH E h0 q1 (va_up (fun _ => 0) 171 1)) := by
  refine CtrN.of (by decide) rfl (Nat.le_of_ble_eq_true rfl) 0 ?_
  intro X hX hR
  show G X 0 [some (.ref h0)] [] [(h0, .inr (1, [.null]))]
  refine rh_aload_n hX dX1_init_0 rfl ?_
  refine rn_obj hX (rhT_in 113 (by decide +kernel) rfl) (rhT_in 106 (by decide +kernel) rfl) (rhT_in 107 (by decide +kernel) rfl) dX1_init_1 (Nat.le_of_ble_eq_true rfl) (Nat.le_of_ble_eq_true rfl) ?_
  refine rh_aload_n hX dX1_init_4 rfl ?_
  refine rh_sipush (v := 172) hX dX1_init_5 (by decide) ?_
  refine rn_newa hX hR (ty := .long) rfl (rhT_in 120 (by decide +kernel) rfl) 1 rfl (N' := 172) (a0 := (172, .inr (.inl (fun _ => 0)))) (fun _ => rfl) (by decide) (by decide) (by decide) dX1_init_8 (by decide) (by decide) (fun Y9 q1 hX hR => ?_)
  dsimp only [List.cons_append, List.nil_append]
  refine rn_put (kf := 0) (ci := 1) hX hR rfl (by decide) inX1 tyX1_ok nmX1 rfl rfl (rhT_in 114 (by decide +kernel) rfl) 0 dX1_init_10 rfl rfl rfl (by decide) rfl ?_
  dsimp only [List.set_cons_zero, List.set_cons_succ]
  refine rh_aload_n hX dX1_init_13 rfl ?_
  refine rh_get hX gl_X1_9 0 dX1_init_14 rfl rfl ?_
  refine rh_sipush (v := 171) hX dX1_init_17 (by decide) ?_
  refine rh_lconst (v := 1) hX dX1_init_20 (by decide) ?_
  refine rh_lastore hX 1 171 dX1_init_21 rfl rfl (by decide) (by decide) rfl ?_
  dsimp only [List.set_cons_zero, List.set_cons_succ]
  exact rn_ret hX hR dX1_init_22 ⟨_, rfl⟩

set_option maxRecDepth 100000 in
set_option maxHeartbeats 4000000 in
theorem c_X3_init (l : Launch) (E : rhE) (h0 : Nat) : CtrN l E yX3_init cX3_init 1 (rmN 1 1 12) [.ref h0] [(h0, .inr (3, [.null, .int 0]))] (fun w => ∃ q1, w = wR E h0 q1 (fun _ => 0) 0) := by
  refine CtrN.of (by decide) rfl (Nat.le_of_ble_eq_true rfl) 0 ?_
  intro X hX hR
  show G X 0 [some (.ref h0)] [] [(h0, .inr (3, [.null, .int 0]))]
  refine rh_aload_n hX dX3_init_0 rfl ?_
  refine rn_obj hX (rhT_in 167 (by decide +kernel) rfl) (rhT_in 106 (by decide +kernel) rfl) (rhT_in 107 (by decide +kernel) rfl) dX3_init_1 (Nat.le_of_ble_eq_true rfl) (Nat.le_of_ble_eq_true rfl) ?_
  refine rh_aload_n hX dX3_init_4 rfl ?_
  refine rh_bipush (v := 12) hX dX3_init_5 (by decide) ?_
  refine rn_newa hX hR (ty := .long) rfl (rhT_in 120 (by decide +kernel) rfl) 1 rfl (N' := 12) (a0 := (12, .inr (.inl (fun _ => 0)))) (fun _ => rfl) (by decide) (by decide) (by decide) dX3_init_7 (by decide) (by decide) (fun Y9 q1 hX hR => ?_)
  dsimp only [List.cons_append, List.nil_append]
  refine rn_put (kf := 0) (ci := 3) hX hR rfl (by decide) inX3 tyX3_ok nmX3 rfl rfl (rhT_in 168 (by decide +kernel) rfl) 0 dX3_init_9 rfl rfl rfl (by decide) rfl ?_
  dsimp only [List.set_cons_zero, List.set_cons_succ]
  exact rn_ret hX hR dX3_init_12 ⟨_, rfl⟩