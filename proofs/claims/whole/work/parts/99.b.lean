def R_law : String := "RoundHouseLaw"
def lw_P (b : Addr) (xs : List Int32) (args : Array Value) (s : State) : Prop := args = #[.ref b] ∧ s.IntsAt b xs ∧ xs.length ≤ 2560 ∧ (Jvm.Cond.and given_1 narrow_1).before args s = true
def lw_Q (_ : Array Value) (s : State) (o : Outcome) (t : State) : Prop := o = .returned (some (.int 1)) ∧ Framed s o t [] 601024 7293034
def lw_Z (below : List Frame) (a : Array Value) (s : State) : State → Prop := fun t => ∃ o, t.status = .running ∧ Ended t below o ∧ lw_Q a s o t
/-- the law's own end, with 1 on the stack, nothing written that was there before, its room as the claim has it -/
theorem lw_ret {p : Program} {l : Launch} {e : Env} {s : State} {m : MethodId} {below : List Frame} {meth : Method} {c : Code} {b : Nat} (hx : p.tables.exec = Jvm.exec) (hb : c.code = code) (hr : meth.sig.returnType = ret) (hlocks : meth.locks = false) {pc : Nat} {H : Heap} {ls : Array Slot} (hdg : decode code pc = .ok (.ireturn, 1)) : W p l e room_1 s m #[Value.ref b] below meth c H [] 601024 7293034 (lw_Z below #[Value.ref b] s) (F0 m pc ls [.int 1]) := by
  intro T hT X
  obtain ⟨fs, hret, hrun, hended, hW, hframe⟩ := X.leave (v := some (.int 1)) (hlocks := hlocks) (fun h => by rw [hr] at h; cases h)
  have hmeth' : T.vm.method? m = some meth := X.method'
  refine ⟨T.setFrames fs, ?_, .returned (some (.int 1)), hrun, hended, rfl, ⟨_, rfl⟩, hW, hframe⟩
  jvm_step X.here [X.here.top, hx, hb, hdg, hmeth', hr, ret, narrow_b1]
  (try refine ⟨rfl, ?_⟩); (try refine ⟨rfl, ?_⟩)
  first | (intro acts; rw [hret _ acts rfl rfl rfl]) | rw [hret _ _ rfl rfl rfl]
  exact Steps.refl _
/-- what holds at the law's entry: the machine, the code, the tables' words (any of lw_tbl by 'hts w (by decide +kernel)'), the script of L ints xs at the cell b, what the Statement gives of the start (any of its parts by flat_of_before) -/
def lw_At (p : Program) (s : State) (m : MethodId) (meth : Method) (c : Code) (b L : Nat) (xs : Nat → Int32) : Prop :=
  p.tables.exec = Jvm.exec ∧ c.code = code ∧ meth.sig.returnType = ret ∧ c.maxLocals = 8 ∧ s.vm.findClass R_law = some m.cls ∧ (∀ w ∈ lw_tbl, w.before #[Value.ref b] s = true) ∧ va_X b L xs s s.heap ∧ b < s.heap.size ∧ meth.locks = false ∧ (Jvm.Cond.and given_1 narrow_1).before #[Value.ref b] s = true

section RQ
def RtL : rhX → Nat → Nat → (Nat → Int32) → Nat → Nat → Prop
  | (p, l, e, R, s, m, args, below, meth, c, E, A, Q, kc, ns, nL), b0, L, xs, a, b => kc = a ∧ ns = b ∧ meth.sig.returnType = ret ∧ (l.stackTraces = false ∧ args = #[Value.ref b0] ∧ rhV E s ∧ R = room_1 ∧ va_X b0 L xs s s.heap ∧ b0 < s.heap.size) ∧ A = (fun q => s.heap.size ≤ q) ∧ Q = lw_Z below #[Value.ref b0] s ∧ va_AOA .long s
variable {X : rhX} {E : rhE} {own : String} {cc : ByteArray} {R : Room} {nL pc : Nat} {lv : List (Option Value)} {st : List Value} {ws : va_W} {a b b0 L : Nat} {xs : Nat → Int32}
theorem rq_new (hX : Ok X E own cc R nL) (hR : RtL X b0 L xs a b) {C : String} {T : u_T} {N ci idx : Nat} (ty : Nat → FieldType) (hc : vwCl[ci]? = some (C, T, N)) (hin : ∀ w ∈ u_ws C T N, w ∈ rhT) (hty : ∀ k, k < N → parseFieldDescriptor (T k).2.2.1 = some (ty k)) (hcl : Cond.classLink own idx C ∈ rhT) (hinst : Cond.instantiable C N ∈ rhT) (hini : Cond.initialized C ∈ rhT) {fs : List Value} (hfs : ∀ j, j < N → defaultValue (ty j) = vp_V fs j) (d : decode cc pc = .ok (.new idx, 3)) (h1 : a + 1 ≤ R.cells) (h2 : b + N ≤ R.slots)
    (k : ∀ (Y : rhX) (q : Nat), Ok Y E own cc R nL → RtL Y b0 L xs (a + 1) (b + N) → G Y (pc + 3) lv (.ref q :: st) (ws ++ [(q, .inr (ci, fs))])) : G X pc lv st ws := by
  obtain ⟨p, l, e, R0, s, m, args, below, meth, c, E0, A, Q, kc, ns, nL0⟩ := X
  obtain ⟨hx, hb, hml, ho, ht, hK, hA, hAz, hlk, hkn, rfl, rfl, rfl⟩ := hX
  obtain ⟨rfl, rfl, hr, hnm, rfl, rfl, hO⟩ := hR
  intro H locs ls hP hD hS hl
  exact va_new hx hb ht hin ty hty ho (ht _ hcl) (ht _ hinst) (ht _ hini) hK.1 hP hD hS hA hc hfs h1 h2 d (fun q H1 hP1 hD1 hS1 => k (p, l, e, R0, s, m, args, below, meth, c, E0, _, _, kc + 1, ns + N, nL0) q ⟨hx, hb, hml, ho, ht, hK, hA, hAz, hlk, ⟨h1, h2⟩, rfl, rfl, rfl⟩ ⟨rfl, rfl, hr, hnm, rfl, rfl, hO⟩ H1 locs ls hP1 hD1 hS1 hl)
theorem rq_newa (hX : Ok X E own cc R nL) (hR : RtL X b0 L xs a b) {atype : ArrayType} {ty : FieldType} (hty : newarray.typeOf atype = ty) (harr : Cond.arrayClass ty ∈ rhT) (ki : Nat) (hki : (rhTy E.2.1)[ki]? = some (E.2.1 ki, ty)) {n : Int32} {N' : Nat} {a0 : vp_A} (ha : ∀ cA : ClassId, vp_cell cA a0 = arrV cA N' (fun _ => defaultValue ty)) (hn : ¬ n < 0) (hN : n.toNatClampNeg = N') (hbytes : N' * componentBytes ty ≤ 536870912) (d : decode cc pc = .ok (.newarray atype, 2)) (h1 : a + 1 ≤ R.cells) (h2 : b + N' ≤ R.slots)
    (k : ∀ (Y : rhX) (q : Nat), Ok Y E own cc R nL → RtL Y b0 L xs (a + 1) (b + N') → G Y (pc + 2) lv (.ref q :: st) (ws ++ [(q, .inl (E.2.1 ki, a0))])) : G X pc lv (.int n :: st) ws := by
  obtain ⟨p, l, e, R0, s, m, args, below, meth, c, E0, A, Q, kc, ns, nL0⟩ := X
  obtain ⟨hx, hb, hml, ho, ht, hK, hA, hAz, hlk, hkn, rfl, rfl, rfl⟩ := hX
  obtain ⟨rfl, rfl, hr, hnm, rfl, rfl, hO⟩ := hR
  intro H locs ls hP hD hS hl
  subst hty
  refine va_newa hx hb (ht _ harr) rfl hK.1 hP hD hS hA ha hn hN hbytes h1 h2 d (fun q cA H1 hK1 hP1 hD1 hS1 => ?_)
  have e1 := (hK1.2 (rhTy E0.2.1).length (cA, newarray.typeOf atype) (by rw [List.getElem?_append_right (Nat.le_refl _), Nat.sub_self]; rfl))
  have e2 := (hK.1.2 ki _ hki)
  have e3 : cA = E0.2.1 ki := by cases atype <;> exact Option.some.inj (e1.2.symm.trans e2.2)
  subst e3
  exact k (p, l, e, R0, s, m, args, below, meth, c, E0, _, _, kc + 1, ns + N', nL0) q ⟨hx, hb, hml, ho, ht, hK, hA, hAz, hlk, ⟨h1, h2⟩, rfl, rfl, rfl⟩ ⟨rfl, rfl, hr, hnm, rfl, rfl, hO⟩ H1 locs ls hP1 hD1 hS1 hl
theorem rq_call (hX : Ok X E own cc R nL) (hR : RtL X b0 L xs a b) {idx n mL : Nat} {y : MethodName} {bytes : ByteArray} {rm : Room} {v : Nat} {As rest : List Value} {wc wr : va_W} {PostC : va_W → Prop} (hlk0 : rhLk own idx y) (hw : rhMd y bytes mL none n) (hin : y.name = "<init>" ∧ Cond.instanceMethod y ∈ rhT) (hM : ∀ l, CtrN l E y bytes mL rm (.ref v :: As) wc PostC) (hroom : rm.frames + 1 ≤ R.frames ∧ 8 + (mL + 11) + rm.locals ≤ R.locals) (isC isR : List Nat) (hC : isC.map (fun i => ws[i]?) = wc.map some) (hnC : va_nd isC = true) (hRs : isR.map (fun i => ws[i]?) = wr.map some) (hnR : va_nd isR = true) (hdis : ∀ i ∈ isR, i ∉ isC) (d : decode cc pc = .ok (.invokespecial idx, 3)) (hn : As.length = n) (hst : st = As.reverse ++ .ref v :: rest) (hcat : (rest.map fun v => v.category).sum ≤ 8) (h1 : a + rm.cells ≤ R.cells) (h2 : b + rm.slots ≤ R.slots)
    (k : ∀ (Y : rhX) (w : va_W), PostC w → Ok Y E own cc R nL → RtL Y b0 L xs (a + rm.cells) (b + rm.slots) → G Y (pc + 3) lv rest (wr ++ w)) : G X pc lv st ws := by
  obtain ⟨p, l, e, R0, s, m, args, below, meth, c, E0, A, Q, kc, ns, nL0⟩ := X
  obtain ⟨hx, hb, hml, ho, ht, hK, hA, hAz, hlk, hkn, rfl, rfl, rfl⟩ := hX
  obtain ⟨rfl, rfl, hr, hnm, rfl, rfl, hO⟩ := hR
  obtain ⟨w2, w3, w4, w5⟩ := hw
  subst hst
  intro H locs ls hP hD hS hl
  have hFc := va_free (wc := wc) hD hS hA isC hC
  have hpre : PreS s H (va_Pc (.ref v :: As) (fun U => U.heap.size = H.size ∧ va_P E0.1 vwCl wc U.heap ∧ rhK E0 U ∧ va_D (fun q => E0.2.2.1 ≤ q) wc ∧ va_AOA .long U)) (.ref v :: As) := by
    refine ⟨rn_blind, fun U hU hW => ⟨rfl, by rw [hU], ?_, hK.warm hAz hS hU hW, ?_, va_AOA.moved hW.alike hO⟩⟩
    · rw [hU]
      intro j q hq
      obtain ⟨i, -, hi⟩ := rh_pick hC j q hq
      exact hP i q hi
    · refine ⟨fun i j p q hi hj hpq => ?_, fun j q hq => ?_⟩
      · exact (hD.sub isC hnC hC).1 i j p q hi hj hpq
      · obtain ⟨i, -, hi⟩ := rh_pick hC j q hq
        exact hAz _ (hD.2 i q hi)
  have hgood : ∀ w ∈ (Cond.code y bytes mL none :: rhT), ∀ (a' : Array Value) (U : State), s.WarmedH U.vm → w.before a' U = true := pay_in (big := rhT) ht (fun w hw => ⟨by rcases List.mem_cons.mp hw with h | h; rw [h]; exact w3; exact h, by rcases List.mem_cons.mp hw with h | h; rw [h]; exact good_of_word rfl; exact (rhT_good (fun _ h => h) w h).2⟩)
  have hM1 := hM l H.size
  have hrun : va_Run p l e R0 s m args below meth c H locs kc ns rm.cells rm.slots (F0 m pc ls (As.reverse ++ .ref v :: rest)) rest (rhQN E0 wc H.size PostC (.ref v :: As).toArray) (va_A wc H.size) := by
    rcases hlk0 with w1 | ⟨host, w1⟩
    · exact va_runI (S := ⟨hx, hb, hml, ho, ht⟩) hM1 (cw := ⟨⟨rfl, rfl, hroom.1, hroom.2, hgood, List.mem_cons_self, ht _ w3, ht _ w2, w4, rh_par w5, ht _ w1⟩, hin.1, ht _ hin.2⟩) hpre rfl hn hl.1 rfl (lv_room hcat) d ⟨h1, h2⟩
    · exact va_runIN (S := ⟨hx, hb, hml, ho, ht⟩) hM1 (cw := ⟨⟨⟨rfl, rfl, hroom.1, hroom.2, hgood, List.mem_cons_self⟩, ht _ w3, ht _ w2, w4, rh_par w5, va_Nw.use rfl (hK.2.1 _ w1)⟩, hin.1, ht _ hin.2⟩) hpre rfl hn hl.1 rfl (lv_room hcat) d ⟨h1, h2⟩
  intro T hT X0
  obtain ⟨v, st₀, t, T', L, h0, X', hL, e1, e2, ⟨⟨w, hv, hp, hPw, hDw⟩, hz, hk⟩, stp⟩ := hrun T hT X0
  cases hv
  rw [h0] at hz hk
  obtain ⟨g1, g2⟩ := va_join (H1 := t.heap) hP hD isC isR hC hRs hnR hdis (fun q h1 h2 => hk q h1 h2) hFc hPw hDw
  obtain ⟨t2, a1, b1⟩ := k (p, l, e, R0, s, m, args, below, meth, c, E0, _, _, kc + rm.cells, ns + rm.slots, nL0) w hp ⟨hx, hb, hml, ho, ht, hK, hA, hAz, hlk, ⟨h1, h2⟩, rfl, rfl, rfl⟩ ⟨rfl, rfl, hr, hnm, rfl, rfl, hO⟩ T'.heap (locs ++ L) ls (by rw [e1]; exact g1) g2 ⟨Nat.le_trans hS.1 (by rw [e1]; exact hz), fun q h1 h2 => by rw [e1, hk q (Nat.lt_of_lt_of_le h1 hS.1) (fun z => h2 (hFc q z))]; exact hS.2.1 q h1 h2, fun q hq => by
      rcases List.mem_append.mp hq with h | h
      · exact hS.2.2 q h
      · exact hFc _ (hL q h)⟩ hl T' rfl X'
  exact ⟨t2, stp t2 a1, b1⟩
theorem rq_callE {pos : Nat} {X : rhX} {E : rhE} {own : String} {cc : ByteArray} {R : Room} {nL pc : Nat} {lv : List (Option Value)} {st : List Value} {ws : va_W} {a b : Nat} (hX : Ok X E own cc R nL) (hR : RtL X b0 L xs a b) {idx n mL : Nat} {y : MethodName} {bytes : ByteArray} {rm : Room} {v : Nat} {As rest : List Value} {wc : va_W} {PostC : va_W → Prop} (hlk0 : rhLk own idx y) (hw : rhMd y bytes mL none n) (hin : y.name = "<init>" ∧ Cond.instanceMethod y ∈ rhT) (hM : ∀ l, CtrN l E y bytes mL rm (.ref v :: As) wc PostC) (hroom : rm.frames + 1 ≤ R.frames ∧ 8 + (mL + 11) + rm.locals ≤ R.locals) (isC isR : List Nat) (hC : isC.map (fun i => ws[i]?) = wc.map some) (hnC : va_nd isC = true) (hRs : isR.map (fun i => ws[i]?) = (List.take pos ws).map some) (hnR : va_nd isR = true) (hdis : ∀ i ∈ isR, i ∉ isC) (d : decode cc pc = .ok (.invokespecial idx, 3)) (hn : As.length = n) (hst : st = As.reverse ++ .ref v :: rest) (hcat : (rest.map fun v => v.category).sum ≤ 8) (h1 : a + rm.cells ≤ R.cells) (h2 : b + rm.slots ≤ R.slots)
    (k : ∀ (Y : rhX) (w : va_W), PostC w → Ok Y E own cc R nL → RtL Y b0 L xs (a + rm.cells) (b + rm.slots) → G Y (pc + 3) lv rest (List.take pos ws ++ w)) : G X pc lv st ws := rq_call hX hR hlk0 hw hin hM hroom isC isR hC hnC hRs hnR hdis d hn hst hcat h1 h2 k

theorem rq_ret1 (hX : Ok X E own code R nL) (hR : RtL X b0 L xs a b) (h1 : a ≤ 601024) (h2 : b ≤ 7293034) (d : decode code pc = .ok (.ireturn, 1)) : G X pc lv [.int 1] ws := by
  obtain ⟨p, l, e, R0, s, m, args, below, meth, c, E0, A, Q, kc, ns, nL0⟩ := X
  obtain ⟨hx, hb, hml, ho, ht, hK, hA, hAz, hlk, hkn, rfl, rfl, rfl⟩ := hX
  obtain ⟨rfl, rfl, hr, ⟨hlt, rfl, hV, rfl, hXs, hbl⟩, rfl, rfl, hO⟩ := hR
  intro H locs ls hP hD hS hl
  exact va_forget (fun q hq => hS.2.2 q hq) (W.widen h1 h2 (lw_ret hx hb hr hlk d))
theorem rq_sld (hX : Ok X E own cc R nL) (hR : RtL X b0 L xs a b) {i : Int32} (j : Nat) (d : decode cc pc = .ok (.iaload, 1)) (hi : i = nI j) (hj : j < L) (hL : L < 2 ^ 31) (k : G X (pc + 1) lv (.int (xs j) :: st) ws) : G X pc lv (.int i :: .ref b0 :: st) ws := by
  obtain ⟨p, l, e, R0, s, m, args, below, meth, c, E0, A, Q, kc, ns, nL0⟩ := X
  obtain ⟨hx, hb, hml, ho, ht, hK, hA, hAz, hlk, hkn, rfl, rfl, rfl⟩ := hX
  obtain ⟨rfl, rfl, hr, ⟨hlt, rfl, hV, rfl, hXs, hbl⟩, rfl, rfl, hO⟩ := hR
  intro H locs ls hP hD hS hl
  refine va_sld hx hb hXs hbl (Nat.not_le.mpr hbl) hS (rh_in hi hj hL) d ?_
  rw [rh_cl hi hj hL]
  exact (k H locs ls hP hD hS hl)
theorem rq_slen (hX : Ok X E own cc R nL) (hR : RtL X b0 L xs a b) (d : decode cc pc = .ok (.arraylength, 1)) (k : G X (pc + 1) lv (.int (nI L) :: st) ws) : G X pc lv (.ref b0 :: st) ws := by
  obtain ⟨p, l, e, R0, s, m, args, below, meth, c, E0, A, Q, kc, ns, nL0⟩ := X
  obtain ⟨hx, hb, hml, ho, ht, hK, hA, hAz, hlk, hkn, rfl, rfl, rfl⟩ := hX
  obtain ⟨rfl, rfl, hr, ⟨hlt, rfl, hV, rfl, hXs, hbl⟩, rfl, rfl, hO⟩ := hR
  intro H locs ls hP hD hS hl
  exact va_slen hx hb hXs hbl (Nat.not_le.mpr hbl) hS d (k H locs ls hP hD hS hl)
theorem rq_widen (hX : Ok X E own cc R nL) (hR : RtL X b0 L xs a b) (a2 b2 : Nat) (h1 : a ≤ a2) (h2 : b ≤ b2) (h3 : a2 ≤ R.cells) (h4 : b2 ≤ R.slots) (k : ∀ Y : rhX, Ok Y E own cc R nL → RtL Y b0 L xs a2 b2 → G Y pc lv st ws) : G X pc lv st ws := by
  obtain ⟨p, l, e, R0, s, m, args, below, meth, c, E0, A, Q, kc, ns, nL0⟩ := X
  obtain ⟨hx, hb, hml, ho, ht, hK, hA, hAz, hlk, hkn, rfl, rfl, rfl⟩ := hX
  obtain ⟨rfl, rfl, hr, hnm, rfl, rfl, hO⟩ := hR
  intro H locs ls hP hD hS hl
  exact W.widen h1 h2 (k (p, l, e, R0, s, m, args, below, meth, c, E0, _, _, a2, b2, nL0) ⟨hx, hb, hml, ho, ht, hK, hA, hAz, hlk, ⟨h3, h4⟩, rfl, rfl, rfl⟩ ⟨rfl, rfl, hr, hnm, rfl, rfl, hO⟩ H locs ls hP hD hS hl)
theorem rh_swap {w1 w2 w3 : va_W} (k : G X pc lv st (w1 ++ (w3 ++ w2))) : G X pc lv st (w1 ++ (w2 ++ w3)) := by
  obtain ⟨p, l, e, R0, s, m, args, below, meth, c, E0, A, Q, kc, ns, nL0⟩ := X
  intro H locs ls hP hD hS hl
  have hP1 := va_P.swap (a := w1) (b := w2) (c := w3) (by rw [List.append_assoc]; exact hP)
  have hD1 := va_D.swap (a := w1) (b := w2) (c := w3) (by rw [List.append_assoc]; exact hD)
  rw [List.append_assoc] at hP1 hD1
  exact k H locs ls hP1 hD1 hS hl
theorem RtL.tr (hR : RtL X b0 L xs a b) : X.2.1.stackTraces = false := by
  obtain ⟨p, l, e, R0, s, m, args, below, meth, c, E0, A, Q, kc, ns, nL0⟩ := X
  exact hR.2.2.2.1.1
/-- the law's call of its own row -/
theorem rq_callW (hX : Ok X E own cc R nL) (hR : RtL X b0 L xs a b) {idx n mL : Nat} {y : MethodName} {bytes : ByteArray} {ret1 : Option FieldType} {hh : List (Nat × Nat × Nat × Nat)} {rm : Room} {As rest : List Value} {wc wr : va_W} {PostC : Option Value → va_W → Prop} (hlk0 : Cond.methodLink own idx y ∈ rhT) (w2 : Cond.initialized y.cls ∈ rhT) (w1 : Cond.static y ∈ rhT) (w3 : Cond.codeWith y bytes mL ret1 hh ∈ rhT) (w4 : y.cls ≠ "java/lang/invoke/MethodHandle" ∧ y.cls ≠ "java/lang/invoke/VarHandle") (w5 : (parseMethodDescriptor y.desc).map (fun d => d.parameters.length) = some n) (hM : CtrW X.2.1 E y bytes mL ret1 hh rm As wc PostC) (hroom : rm.frames + 1 ≤ R.frames ∧ 8 + (mL + 11) + rm.locals ≤ R.locals) (d : decode cc pc = .ok (.invokestatic idx, 3)) (hn : As.length = n) (hst : st = As.reverse ++ rest) (hcat : (rest.map fun v => v.category).sum ≤ 8) (h1 : a + rm.cells ≤ R.cells) (h2 : b + rm.slots ≤ R.slots)
    (k : ∀ (Y : rhX) (r : Option Value) (w : va_W), PostC r w → Ok Y E own cc R nL → RtL Y b0 L xs (a + rm.cells) (b + rm.slots) → G Y (pc + 3) lv (r.toList ++ rest) (w ++ wr)) : G X pc lv st (wc ++ wr) := by
  obtain ⟨p, l, e, R0, s, m, args, below, meth, c, E0, A, Q, kc, ns, nL0⟩ := X
  obtain ⟨hx, hb, hml, ho, ht, hK, hA, hAz, hlk, hkn, rfl, rfl, rfl⟩ := hX
  obtain ⟨rfl, rfl, hr, hnm, rfl, rfl, hO⟩ := hR
  have hV := hnm.2.2.1
  subst hst
  intro H locs ls hP hD hS hl
  have hC := vmid_get wc [] wr
  have hnd := vmid_nd wc.length 0
  have hFc := va_free (wc := wc) hD hS hA (List.range' 0 wc.length) hC
  have hpre : PreS s H (rhPV E0 As wc H.size) As := by
    refine ⟨rx_blind, fun U hU hW => ⟨rfl, by rw [hU], ?_, hK.warm hAz hS hU hW, ?_, hV.warm hAz hS hU hW⟩⟩
    · rw [hU]
      intro j q hq
      obtain ⟨i, -, hi⟩ := rh_pick hC j q hq
      exact hP i q hi
    · refine ⟨fun i j p q hi hj hpq => ?_, fun j q hq => ?_⟩
      · exact (hD.sub (List.range' 0 wc.length) hnd hC).1 i j p q hi hj hpq
      · obtain ⟨i, -, hi⟩ := rh_pick hC j q hq
        exact hAz _ (hD.2 i q hi)
  have hgood : ∀ w ∈ (Cond.codeWith y bytes mL ret1 hh :: rhT), ∀ (a' : Array Value) (U : State), s.WarmedH U.vm → w.before a' U = true := pay_in (big := rhT) ht (fun w hw => ⟨by rcases List.mem_cons.mp hw with h | h; rw [h]; exact w3; exact h, by rcases List.mem_cons.mp hw with h | h; rw [h]; exact (rhT_good (fun _ h => h) _ w3).2; exact (rhT_good (fun _ h => h) w h).2⟩)
  have hM1 := hM H.size
  have hrun : va_Run p l e R0 s m args below meth c H locs kc ns rm.cells rm.slots (F0 m pc ls (As.reverse ++ rest)) rest (rhQ E0 wc H.size PostC As.toArray) (va_A wc H.size) :=
    vx_runSW (S := ⟨hx, hb, hml, ho, ht⟩) hM1 (cw := ⟨⟨rfl, rfl, hroom.1, hroom.2, hgood, List.mem_cons_self⟩, ht _ w3, ht _ w2, w4, rh_par w5, ht _ hlk0, ht _ w1⟩) hpre rfl hn hl.1 rfl (lv_room hcat) d ⟨h1, h2⟩
  intro T hT X0
  obtain ⟨r, st₀, t, T', L0, h0, X', hL, e1, e2, ⟨⟨r9, w, hv, hp, hf, hPw⟩, hz, hk⟩, stp⟩ := hrun T hT X0
  cases hv
  rw [h0] at hz hk
  obtain ⟨g1, g2⟩ := rh_put_P (H1 := t.heap) hP hD hC hf (fun q h1 h2 => hk q h1 h2) hPw
  have ev : vput (wc ++ wr) (List.range' ([] : va_W).length wc.length) w = w ++ wr := vmid_put wc w [] wr (map_fst_len hf)
  rw [ev] at g1 g2
  obtain ⟨t2, a1, b1⟩ := k (p, l, e, R0, s, m, args, below, meth, c, E0, _, _, kc + rm.cells, ns + rm.slots, nL0) r w hp ⟨hx, hb, hml, ho, ht, hK, hA, hAz, hlk, ⟨h1, h2⟩, rfl, rfl, rfl⟩ ⟨rfl, rfl, hr, hnm, rfl, rfl, hO⟩ T'.heap (locs ++ L0) ls (by rw [e1]; exact g1) g2 ⟨Nat.le_trans hS.1 (by rw [e1]; exact hz), fun q h1 h2 => by rw [e1, hk q (Nat.lt_of_lt_of_le h1 hS.1) (fun z => h2 (hFc q z))]; exact hS.2.1 q h1 h2, fun q hq => by
      rcases List.mem_append.mp hq with h | h
      · exact hS.2.2 q h
      · exact hFc _ (hL q h)⟩ hl T' rfl X'
  exact ⟨t2, stp t2 a1, b1⟩
end RQ
