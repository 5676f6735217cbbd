section RHN
/-! ===== methods that make cells: the constructors ===== -/
def rhQN (E : rhE) (ws : va_W) (sz : Nat) (Post : va_W → Prop) : Array Value → State → Outcome → State → Prop := fun _ st oc t => (∃ w : va_W, oc = .returned none ∧ Post w ∧ va_P E.1 vwCl w t.heap ∧ va_D (va_A ws sz) w) ∧ va_F (va_A ws sz) st t
def CtrN (l : Launch) (E : rhE) (y : MethodName) (cc : ByteArray) (nL : Nat) (rm : Room) (vargs : List Value) (ws : va_W) (Post : va_W → Prop) : Prop :=
  ∀ sz : Nat, Met l y (Cond.code y cc nL none :: rhT) rm (va_Pc vargs (fun U => U.heap.size = sz ∧ va_P E.1 vwCl ws U.heap ∧ rhK E U ∧ va_D (fun q => E.2.2.1 ≤ q) ws ∧ va_AOA .long U)) (rhQN E ws sz Post) rm.cells rm.slots (va_A ws sz)
/-- how far the method is: cells and slots made, and what is owed -/
def RtN : rhX → va_W → Nat → Nat → Nat → Nat → (va_W → Prop) → Prop
  | (p, l, e, R, s, m, args, below, meth, c, E, A, Q, kc, ns, nL), w0, a, b, a1, b1, Post => kc = a ∧ ns = b ∧ meth.sig.returnType = none ∧ meth.name = "<init>" ∧ A = va_A w0 s.heap.size ∧ Q = MQ below (rhQN E w0 s.heap.size Post) args s a1 b1 (va_A w0 s.heap.size) ∧ va_AOA .long s
variable {X : rhX} {E : rhE} {own : String} {cc : ByteArray} {R : Room} {nL pc : Nat} {lv : List (Option Value)} {st : List Value} {ws w0 : va_W} {a b a1 b1 : Nat} {Post : va_W → Prop}
theorem CtrN.of {l : Launch} {y : MethodName} {rm : Room} {vargs : List Value} (hy : plainName y.cls = true) (hnm : y.name = "<init>") (hn : (lg_sl vargs).length ≤ nL) (pad : Nat)
    (body : ∀ X : rhX, Ok X E y.cls cc rm nL → RtN X ws 0 0 rm.cells rm.slots Post → G X 0 (rhArgs vargs ++ List.replicate pad none) [] ws) : CtrN l E y cc nL rm vargs ws Post := by
  intro sz
  refine Met.ofW (cc := cc) (maxL := nL) (ret := none) hy rfl ?_
  intro p e s m args below meth c s₁ B hml hv
  obtain ⟨rfl, hsz, hP, hK, hD0, hO⟩ := hv
  have hts := atoms_spec (ws := Cond.code y cc nL none :: rhT) B.pre
  have hown : s.vm.findClass y.cls = some m.cls := findClass_of_methodNamed B.named
  have hin : meth.name = "<init>" := (name_of_methodNamed B.named B.method).1.trans hnm
  subst hsz
  have hl := lv_entry vargs (n := nL) hn
  rw [lg_entry_eq]
  generalize (lg_sl vargs ++ List.replicate (nL - (lg_sl vargs).length) Slot.unset).toArray = ls at hl ⊢
  have hA2 : ∀ q, va_A ws s.heap.size q → E.2.2.1 ≤ q := by
    intro q hq
    rcases hq with ⟨k, e0, h⟩ | h
    · exact hD0.2 k _ h
    · exact Nat.le_trans hK.2.2.2.2.1 h
  have hX : Ok (p, l, e, rm, s, m, vargs.toArray, below, meth, c, E, va_A ws s.heap.size, MQ below (rhQN E ws s.heap.size Post) vargs.toArray s rm.cells rm.slots (va_A ws s.heap.size), 0, 0, nL) E y.cls cc rm nL :=
    ⟨B.exec, B.bytes, hml, hown, fun w hw => hts w (List.mem_cons_of_mem _ hw), hK, fun q h => Or.inr h, hA2, B.notSynchronized, ⟨Nat.zero_le _, Nat.zero_le _⟩, rfl, rfl, rfl⟩
  have hG := body _ hX ⟨rfl, rfl, B.returns, hin, rfl, rfl, hO⟩
  exact hG s.heap [] ls hP hD0.self va_S.rf ⟨hl.1, hl.2.1, fun i v h => hl.2.2 (i, v) (by have := rhArgs_in vargs 0 i v (rhPad h); rwa [Nat.zero_add] at this)⟩
theorem rn_ret (hX : Ok X E own cc R nL) (hR : RtN X w0 a1 b1 a1 b1 Post) (d : decode cc pc = .ok (.return_, 1)) (h : Post ws) : G X pc lv [] ws := by
  obtain ⟨p, l, e, R0, s, m, args, below, meth, c, E0, A, Q, kc, ns, nL0⟩ := X
  obtain ⟨hx, hb, hml, ho, ht, hK, hA, hAz, hlk, hkn, rfl, rfl, rfl⟩ := hX
  obtain ⟨rfl, rfl, hr, -, rfl, rfl, -⟩ := hR
  exact fun H locs ls hP hD hS hl => W.vret hx hb hr (fun t e2 hW => ⟨⟨ws, rfl, h, by rw [e2]; exact hP, hD⟩, hS.F e2⟩) hS.2.2 d hlk
/-- a new object -/
theorem rn_new (hX : Ok X E own cc R nL) (hR : RtN X w0 a b a1 b1 Post) {C : String} {T : u_T} {N ci idx : Nat} (ty : Nat → FieldType) (hc : vwCl[ci]? = some (C, T, N)) (hin : ∀ w ∈ u_ws C T N, w ∈ rhT) (hty : ∀ k, k < N → parseFieldDescriptor (T k).2.2.1 = some (ty k)) (hcl : Cond.classLink own idx C ∈ rhT) (hinst : Cond.instantiable C N ∈ rhT) (hini : Cond.initialized C ∈ rhT) {fs : List Value} (hfs : ∀ j, j < N → defaultValue (ty j) = vp_V fs j) (d : decode cc pc = .ok (.new idx, 3)) (h1 : a + 1 ≤ R.cells) (h2 : b + N ≤ R.slots)
    (k : ∀ (Y : rhX) (q : Nat), Ok Y E own cc R nL → RtN Y w0 (a + 1) (b + N) a1 b1 Post → G Y (pc + 3) lv (.ref q :: st) (ws ++ [(q, .inr (ci, fs))])) : G X pc lv st ws := by
  obtain ⟨p, l, e, R0, s, m, args, below, meth, c, E0, A, Q, kc, ns, nL0⟩ := X
  obtain ⟨hx, hb, hml, ho, ht, hK, hA, hAz, hlk, hkn, rfl, rfl, rfl⟩ := hX
  obtain ⟨rfl, rfl, hr, hnm, rfl, rfl, hO⟩ := hR
  intro H locs ls hP hD hS hl
  exact va_new hx hb ht hin ty hty ho (ht _ hcl) (ht _ hinst) (ht _ hini) hK.1 hP hD hS hA hc hfs h1 h2 d (fun q H1 hP1 hD1 hS1 => k (p, l, e, R0, s, m, args, below, meth, c, E0, _, _, kc + 1, ns + N, nL0) q ⟨hx, hb, hml, ho, ht, hK, hA, hAz, hlk, ⟨h1, h2⟩, rfl, rfl, rfl⟩ ⟨rfl, rfl, hr, hnm, rfl, rfl, hO⟩ H1 locs ls hP1 hD1 hS1 hl)
/-- a new array of numbers -/
theorem rn_newa (hX : Ok X E own cc R nL) (hR : RtN X w0 a b a1 b1 Post) {atype : ArrayType} {ty : FieldType} (hty : newarray.typeOf atype = ty) (harr : Cond.arrayClass ty ∈ rhT) (ki : Nat) (hki : (rhTy E.2.1)[ki]? = some (E.2.1 ki, ty)) {n : Int32} {N' : Nat} {a0 : vp_A} (ha : ∀ cA : ClassId, vp_cell cA a0 = arrV cA N' (fun _ => defaultValue ty)) (hn : ¬ n < 0) (hN : n.toNatClampNeg = N') (hbytes : N' * componentBytes ty ≤ 536870912) (d : decode cc pc = .ok (.newarray atype, 2)) (h1 : a + 1 ≤ R.cells) (h2 : b + N' ≤ R.slots)
    (k : ∀ (Y : rhX) (q : Nat), Ok Y E own cc R nL → RtN Y w0 (a + 1) (b + N') a1 b1 Post → G Y (pc + 2) lv (.ref q :: st) (ws ++ [(q, .inl (E.2.1 ki, a0))])) : G X pc lv (.int n :: st) ws := by
  obtain ⟨p, l, e, R0, s, m, args, below, meth, c, E0, A, Q, kc, ns, nL0⟩ := X
  obtain ⟨hx, hb, hml, ho, ht, hK, hA, hAz, hlk, hkn, rfl, rfl, rfl⟩ := hX
  obtain ⟨rfl, rfl, hr, hnm, rfl, rfl, hO⟩ := hR
  intro H locs ls hP hD hS hl
  subst hty
  refine va_newa hx hb (ht _ harr) rfl hK.1 hP hD hS hA ha hn hN hbytes h1 h2 d (fun q cA H1 hK1 hP1 hD1 hS1 => ?_)
  have e1 := (hK1.2 (rhTy E0.2.1).length (cA, newarray.typeOf atype) (by rw [List.getElem?_append_right (Nat.le_refl _), Nat.sub_self]; rfl))
  have e2 := (hK.1.2 ki _ hki)
  have e3 : cA = E0.2.1 ki := by cases atype <;> exact Option.some.inj (e1.2.symm.trans e2.2)
  subst e3
  exact k (p, l, e, R0, s, m, args, below, meth, c, E0, _, _, kc + 1, ns + N', nL0) q ⟨hx, hb, hml, ho, ht, hK, hA, hAz, hlk, ⟨h1, h2⟩, rfl, rfl, rfl⟩ ⟨rfl, rfl, hr, hnm, rfl, rfl, hO⟩ H1 locs ls hP1 hD1 hS1 hl
/-- Object's own -/
theorem rn_obj (hX : Ok X E own cc R nL) {idx x : Nat} (h1 : Cond.methodLink own idx objectInit ∈ rhT) (h2 : Cond.instanceMethod objectInit ∈ rhT) (h3 : Cond.code objectInit ⟨#[0xb1]⟩ 1 none ∈ rhT) (d : decode cc pc = .ok (.invokespecial idx, 3)) (hf : 1 ≤ R.frames) (hl0 : 38 ≤ R.locals) (k : G X (pc + 3) lv [] ws) : G X pc lv [.ref x] ws := by
  obtain ⟨p, l, e, R0, s, m, args, below, meth, c, E0, A, Q, kc, ns, nL0⟩ := X
  obtain ⟨hx, hb, hml, ho, ht, hK, hA, hAz, hlk, hkn, rfl, rfl, rfl⟩ := hX
  intro H locs ls hP hD hS hl
  refine W.objInit hx hb ho (ht _ h1) (ht _ h2) (ht _ h3) rfl (by rw [hml]; exact hl.1) rfl d (by first | exact hf | omega) (by first | exact hl0 | (simp; omega)) ?_
  exact k H locs ls hP hD hS hl
theorem rn_blind {E : rhE} {vargs : List Value} {wc : va_W} {sz : Nat} : FrameBlind (va_Pc vargs (fun U => U.heap.size = sz ∧ va_P E.1 vwCl wc U.heap ∧ rhK E U ∧ va_D (fun q => E.2.2.1 ≤ q) wc ∧ va_AOA .long U)) := by
  intro a U g mk q
  obtain ⟨q0, q1, qP, qK, qD, qO⟩ := q
  exact ⟨q0, q1, qP, qK.call, qD, va_AOA.moved (u := U) (U := U.calling g mk a) (Vm.Alike.refl U.vm) qO⟩
/-- a constructor's call -/
theorem rn_call (hX : Ok X E own cc R nL) (hR : RtN X w0 a b a1 b1 Post) {idx n mL : Nat} {y : MethodName} {bytes : ByteArray} {rm : Room} {v : Nat} {As rest : List Value} {wc wr : va_W} {PostC : va_W → Prop} (hlk0 : rhLk own idx y) (hw : rhMd y bytes mL none n) (hin : y.name = "<init>" ∧ Cond.instanceMethod y ∈ rhT) (hM : ∀ l, CtrN l E y bytes mL rm (.ref v :: As) wc PostC) (hroom : rm.frames + 1 ≤ R.frames ∧ 8 + (mL + 11) + rm.locals ≤ R.locals) (isC isR : List Nat) (hC : isC.map (fun i => ws[i]?) = wc.map some) (hnC : va_nd isC = true) (hRs : isR.map (fun i => ws[i]?) = wr.map some) (hnR : va_nd isR = true) (hdis : ∀ i ∈ isR, i ∉ isC) (d : decode cc pc = .ok (.invokespecial idx, 3)) (hn : As.length = n) (hst : st = As.reverse ++ .ref v :: rest) (hcat : (rest.map fun v => v.category).sum ≤ 8) (h1 : a + rm.cells ≤ R.cells) (h2 : b + rm.slots ≤ R.slots)
    (k : ∀ (Y : rhX) (w : va_W), PostC w → Ok Y E own cc R nL → RtN Y w0 (a + rm.cells) (b + rm.slots) a1 b1 Post → G Y (pc + 3) lv rest (wr ++ w)) : G X pc lv st ws := by
  obtain ⟨p, l, e, R0, s, m, args, below, meth, c, E0, A, Q, kc, ns, nL0⟩ := X
  obtain ⟨hx, hb, hml, ho, ht, hK, hA, hAz, hlk, hkn, rfl, rfl, rfl⟩ := hX
  obtain ⟨rfl, rfl, hr, hnm, rfl, rfl, hO⟩ := hR
  obtain ⟨w2, w3, w4, w5⟩ := hw
  subst hst
  intro H locs ls hP hD hS hl
  have hFc := va_free (wc := wc) hD hS hA isC hC
  have hpre : PreS s H (va_Pc (.ref v :: As) (fun U => U.heap.size = H.size ∧ va_P E0.1 vwCl wc U.heap ∧ rhK E0 U ∧ va_D (fun q => E0.2.2.1 ≤ q) wc ∧ va_AOA .long U)) (.ref v :: As) := by
    refine ⟨rn_blind, fun U hU hW => ⟨rfl, by rw [hU], ?_, hK.warm hAz hS hU hW, ?_, va_AOA.moved hW.alike hO⟩⟩
    · rw [hU]
      intro j q hq
      obtain ⟨i, -, hi⟩ := rh_pick hC j q hq
      exact hP i q hi
    · refine ⟨fun i j p q hi hj hpq => ?_, fun j q hq => ?_⟩
      · exact (hD.sub isC hnC hC).1 i j p q hi hj hpq
      · obtain ⟨i, -, hi⟩ := rh_pick hC j q hq
        exact hAz _ (hD.2 i q hi)
  have hgood : ∀ w ∈ (Cond.code y bytes mL none :: rhT), ∀ (a' : Array Value) (U : State), s.WarmedH U.vm → w.before a' U = true := pay_in (big := rhT) ht (fun w hw => ⟨by rcases List.mem_cons.mp hw with h | h; rw [h]; exact w3; exact h, by rcases List.mem_cons.mp hw with h | h; rw [h]; exact good_of_word rfl; exact (rhT_good (fun _ h => h) w h).2⟩)
  have hM1 := hM l H.size
  have hrun : va_Run p l e R0 s m args below meth c H locs kc ns rm.cells rm.slots (F0 m pc ls (As.reverse ++ .ref v :: rest)) rest (rhQN E0 wc H.size PostC (.ref v :: As).toArray) (va_A wc H.size) := by
    rcases hlk0 with w1 | ⟨host, w1⟩
    · exact va_runI (S := ⟨hx, hb, hml, ho, ht⟩) hM1 (cw := ⟨⟨rfl, rfl, hroom.1, hroom.2, hgood, List.mem_cons_self, ht _ w3, ht _ w2, w4, rh_par w5, ht _ w1⟩, hin.1, ht _ hin.2⟩) hpre rfl hn hl.1 rfl (lv_room hcat) d ⟨h1, h2⟩
    · exact va_runIN (S := ⟨hx, hb, hml, ho, ht⟩) hM1 (cw := ⟨⟨⟨rfl, rfl, hroom.1, hroom.2, hgood, List.mem_cons_self⟩, ht _ w3, ht _ w2, w4, rh_par w5, va_Nw.use rfl (hK.2.1 _ w1)⟩, hin.1, ht _ hin.2⟩) hpre rfl hn hl.1 rfl (lv_room hcat) d ⟨h1, h2⟩
  intro T hT X0
  obtain ⟨v, st₀, t, T', L, h0, X', hL, e1, e2, ⟨⟨w, hv, hp, hPw, hDw⟩, hz, hk⟩, stp⟩ := hrun T hT X0
  cases hv
  rw [h0] at hz hk
  obtain ⟨g1, g2⟩ := va_join (H1 := t.heap) hP hD isC isR hC hRs hnR hdis (fun q h1 h2 => hk q h1 h2) hFc hPw hDw
  obtain ⟨t2, a1, b1⟩ := k (p, l, e, R0, s, m, args, below, meth, c, E0, _, _, kc + rm.cells, ns + rm.slots, nL0) w hp ⟨hx, hb, hml, ho, ht, hK, hA, hAz, hlk, ⟨h1, h2⟩, rfl, rfl, rfl⟩ ⟨rfl, rfl, hr, hnm, rfl, rfl, hO⟩ T'.heap (locs ++ L) ls (by rw [e1]; exact g1) g2 ⟨Nat.le_trans hS.1 (by rw [e1]; exact hz), fun q h1 h2 => by rw [e1, hk q (Nat.lt_of_lt_of_le h1 hS.1) (fun z => h2 (hFc q z))]; exact hS.2.1 q h1 h2, fun q hq => by
      rcases List.mem_append.mp hq with h | h
      · exact hS.2.2 q h
      · exact hFc _ (hL q h)⟩ hl T' rfl X'
  exact ⟨t2, stp t2 a1, b1⟩
end RHN
