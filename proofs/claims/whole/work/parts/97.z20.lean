section RHX
def rhDb : Cond → Bool
  | .castable .. => true
  | .declares _ => true
  | _ => false
def rhDt : List Cond := lw_tbl.filter rhDb
theorem rhDb_on {w : Cond} (h : rhDb w = true) : w.onTables = true := by
  cases w <;> first | rfl | (exact absurd h (by simp [rhDb]))
theorem rhD_warm {s U : State} (hW : s.WarmedH U.vm) (h : ∀ w ∈ rhDt, va_Nw w s) : ∀ w ∈ rhDt, va_Nw w U := by
  intro w hw
  have h1 := h w hw
  have h2 := (List.mem_filter.mp hw).2
  cases w <;> first | exact va_Nw.warmC hW h1 | exact va_Nw.warmD hW h1 | (exact absurd h2 (by simp [rhDb]))
theorem rhD_same {u U : State} (hv : u.vm = U.vm) (h : ∀ w ∈ rhDt, va_Nw w u) : ∀ w ∈ rhDt, va_Nw w U := by
  intro w hw
  have h1 := h w hw
  have h2 := (List.mem_filter.mp hw).2
  cases w <;> first | exact va_Nw.same rfl hv h1 | (exact absurd h2 (by simp [rhDb]))
theorem rh_at0 : (rxAt.filter vx_no).all (fun w => goodWord w || rhDb w) = true := by decide +kernel
theorem rh_at1 : ∀ w ∈ rxAt.filter vx_no, w ∈ lw_tbl := by decide +kernel
def rhV (E : rhE) (U : State) : Prop := (∀ w ∈ rhDt, va_Nw w U) ∧ vx_L Bundle.tN "UNASSIGNED_STACK" Bundle.steD (fun q => E.2.2.1 ≤ q) U U.heap ∧ vx_L Bundle.tN "SUPPRESSED_SENTINEL" Bundle.listD (fun q => E.2.2.1 ≤ q) U U.heap
theorem rhV.call {E : rhE} {U : State} {g : JFrame} {mk : MethodId} {a : Array Value} (h : rhV E U) : rhV E (U.calling g mk a) := ⟨rhD_same (u := U) (U := U.calling g mk a) rfl h.1, vx_L.moved (u := U) (U := U.calling g mk a) (Vm.Alike.refl U.vm) h.2.1, vx_L.moved (u := U) (U := U.calling g mk a) (Vm.Alike.refl U.vm) h.2.2⟩
theorem rhV.warm {E : rhE} {A : Nat → Prop} {s U : State} {H : Heap} {locs : List Loc} (h : rhV E s) (hA : ∀ q, A q → E.2.2.1 ≤ q) (hS : va_S A s.heap H locs) (hU : U.heap = H) (hW : s.WarmedH U.vm) : rhV E U := by
  have hq : ∀ a : Nat, a < s.heap.size → ¬ E.2.2.1 ≤ a → H[a]? = s.heap[a]? := fun a ha hn => hS.2.1 a ha (fun q => hn (hA a q))
  unfold rhV
  rw [hU]
  exact ⟨rhD_warm hW h.1, vx_L.moved hW.alike (vx_L.kept h.2.1 hq), vx_L.moved hW.alike (vx_L.kept h.2.2 hq)⟩
def rhPV (E : rhE) (vargs : List Value) (ws : va_W) (sz : Nat) : Array Value → State → Prop := va_Pc vargs (fun U => U.heap.size = sz ∧ va_P E.1 vwCl ws U.heap ∧ rhK E U ∧ va_D (fun q => E.2.2.1 ≤ q) ws ∧ rhV E U)
theorem rx_blind {E : rhE} {vargs : List Value} {wc : va_W} {sz : Nat} : FrameBlind (rhPV E vargs wc sz) := by
  intro a U g mk q
  obtain ⟨q0, q1, qP, qK, qD, qV⟩ := q
  exact ⟨q0, q1, qP, qK.call, qD, qV.call⟩
def rhXC (E : rhE) (ws : va_W) (sz : Nat) (PX : Prop) : String → State → State → Prop := fun N st t => N = rhNS ∧ PX ∧ va_P E.1 vwCl ws t.heap ∧ va_F (va_A ws sz) st t
/-- a method that returns or throws -/
def CtrX (l : Launch) (E : rhE) (y : MethodName) (cc : ByteArray) (nL : Nat) (ret : Option FieldType) (rm : Room) (vargs : List Value) (ws : va_W) (Post : Option Value → va_W → Prop) (PX : Prop) : Prop :=
  ∀ sz : Nat, vx_Met l y (Cond.code y cc nL ret :: rhT) rm (rhPV E vargs ws sz) (rhQ E ws sz Post) (rhXC E ws sz PX) rm.cells rm.slots (va_A ws sz)
def RtX : rhX → Option FieldType → va_W → (Option Value → va_W → Prop) → Prop → Nat → Nat → Prop
  | (p, l, e, R, s, m, args, below, meth, c, E, A, Q, kc, ns, nL), ret, ws, Post, PX, mc, ms => kc = 0 ∧ ns = 0 ∧ l.stackTraces = false ∧ meth.sig.returnType = ret ∧ A = va_A ws s.heap.size ∧ Q = vx_MQ below (rhQ E ws s.heap.size Post) (rhXC E ws s.heap.size PX) args s mc ms (va_A ws s.heap.size) ∧ (∀ x ∈ c.exceptionTable.toList, False) ∧ rhV E s
/-- a method with a table, that returns -/
def CtrW (l : Launch) (E : rhE) (y : MethodName) (cc : ByteArray) (nL : Nat) (ret : Option FieldType) (hh : List (Nat × Nat × Nat × Nat)) (rm : Room) (vargs : List Value) (ws : va_W) (Post : Option Value → va_W → Prop) : Prop :=
  ∀ sz : Nat, Met l y (Cond.codeWith y cc nL ret hh :: rhT) rm (rhPV E vargs ws sz) (rhQ E ws sz Post) rm.cells rm.slots (va_A ws sz)
def RtW : rhX → Nat → Nat → Option FieldType → va_W → List (Nat × Nat × Nat × Nat) → (Option Value → va_W → Prop) → Nat → Nat → Prop
  | (p, l, e, R, s, m, args, below, meth, c, E, A, Q, kc, ns, nL), a, b, ret, ws, hh, Post, mc, ms => kc = a ∧ ns = b ∧ l.stackTraces = false ∧ meth.sig.returnType = ret ∧ A = va_A ws s.heap.size ∧ Q = MQ below (rhQ E ws s.heap.size Post) args s mc ms (va_A ws s.heap.size) ∧ c.exceptionTable.toList = tableOf hh ∧ rhV E s
variable {X : rhX} {E : rhE} {own : String} {cc : ByteArray} {R : Room} {nL pc : Nat} {lv : List (Option Value)} {st : List Value} {ws w0 : va_W} {a b a1 b1 mc ms : Nat} {Post : Option Value → va_W → Prop} {PX : Prop} {ret : Option FieldType} {hh : List (Nat × Nat × Nat × Nat)}
theorem CtrX.of {l : Launch} {y : MethodName} {rm : Room} {vargs : List Value} (hlt : l.stackTraces = false) (hy : plainName y.cls = true) (hn : (lg_sl vargs).length ≤ nL) (pad : Nat)
    (body : ∀ X : rhX, Ok X E y.cls cc rm nL → RtX X ret ws Post PX rm.cells rm.slots → G X 0 (rhArgs vargs ++ List.replicate pad none) [] ws) : CtrX l E y cc nL ret rm vargs ws Post PX := by
  intro sz
  refine vx_ofW (cc := cc) (maxL := nL) (ret := ret) hy rfl ?_
  intro p e s m args below meth c s₁ B hml hno hv
  obtain ⟨rfl, hsz, hP, hK, hD0, hV⟩ := hv
  have hts := atoms_spec (ws := Cond.code y cc nL ret :: rhT) B.pre
  have hown : s.vm.findClass y.cls = some m.cls := findClass_of_methodNamed B.named
  subst hsz
  have hl := lv_entry vargs (n := nL) hn
  rw [lg_entry_eq]
  generalize (lg_sl vargs ++ List.replicate (nL - (lg_sl vargs).length) Slot.unset).toArray = ls at hl ⊢
  have hA2 : ∀ q, va_A ws s.heap.size q → E.2.2.1 ≤ q := by
    intro q hq
    rcases hq with ⟨k, e0, h⟩ | h
    · exact hD0.2 k _ h
    · exact Nat.le_trans hK.2.2.2.2.1 h
  have hX : Ok (p, l, e, rm, s, m, vargs.toArray, below, meth, c, E, va_A ws s.heap.size, vx_MQ below (rhQ E ws s.heap.size Post) (rhXC E ws s.heap.size PX) vargs.toArray s rm.cells rm.slots (va_A ws s.heap.size), 0, 0, nL) E y.cls cc rm nL :=
    ⟨B.exec, B.bytes, hml, hown, fun w hw => hts w (List.mem_cons_of_mem _ hw), hK, fun q h => Or.inr h, hA2, B.notSynchronized, ⟨Nat.zero_le _, Nat.zero_le _⟩, rfl, rfl, rfl⟩
  have hG := body _ hX ⟨rfl, rfl, hlt, B.returns, rfl, rfl, hno, hV⟩
  exact hG s.heap [] ls hP hD0.self va_S.rf ⟨hl.1, hl.2.1, fun i v h => hl.2.2 (i, v) (by have := rhArgs_in vargs 0 i v (rhPad h); rwa [Nat.zero_add] at this)⟩
theorem met_ofWH {l : Launch} {y : MethodName} {ws ws' : List Cond} {rm : Room} {Pc : Array Value → State → Prop} {Qc : Array Value → State → Outcome → State → Prop} {mc ms : Nat} {free : Addr → Prop} {cc : ByteArray} {maxL : Nat} {ret : Option FieldType} {hh : List (Nat × Nat × Nat × Nat)}
    (hy : plainName y.cls = true) (hw : ws = Cond.codeWith y cc maxL ret hh :: ws')
    (body : ∀ p e s m args below meth c s₁, BodyLoose p l y (headSpec ws rm) cc maxL ret e s m args below meth c s₁ → c.maxLocals = maxL → Pc args s →
      W p l e (headSpec ws rm).room s m args below meth c s.heap [] 0 0 (MQ below Qc args s mc ms free) (entryFrame m args maxL)) : Met l y ws rm Pc Qc mc ms free := by
  refine MetFree.of_bodyS (code := cc) (maxLocals := maxL) (ret := ret) hy ?_ ?_
  · intro args s m h hn
    obtain ⟨m9, meth, c, hn9, h1, h2, h3, h4, -, h5, h6, -⟩ := Cond.codeWith_spec (atoms_spec (ws := ws) h _ (by rw [hw]; exact List.mem_cons_self))
    cases hn.symm.trans hn9
    exact ⟨meth, c, h1, h2, h3, h4, h5, h6⟩
  · intro p e s m args below meth c s₁ B hml hP _
    have hh0 : s₁.heap = s.heap := by rw [B.state]; rfl
    obtain ⟨t, a1, o, b1, b2, b3⟩ := body p e s m args below meth c s₁ B hml hP s₁ hh0 (Stand.of_body B)
    exact ⟨t, o, a1, b1, b2, ⟨b3.1, b3.2⟩⟩
theorem CtrW.of {l : Launch} {y : MethodName} {rm : Room} {vargs : List Value} (hlt : l.stackTraces = false) (hy : plainName y.cls = true) (hn : (lg_sl vargs).length ≤ nL) (pad : Nat)
    (body : ∀ X : rhX, X.2.1 = l → Ok X E y.cls cc rm nL → RtW X 0 0 ret ws hh Post rm.cells rm.slots → G X 0 (rhArgs vargs ++ List.replicate pad none) [] ws) : CtrW l E y cc nL ret hh rm vargs ws Post := by
  intro sz
  refine met_ofWH (cc := cc) (maxL := nL) (ret := ret) (hh := hh) hy rfl ?_
  intro p e s m args below meth c s₁ B hml hv
  obtain ⟨rfl, hsz, hP, hK, hD0, hV⟩ := hv
  have hts := atoms_spec (ws := Cond.codeWith y cc nL ret hh :: rhT) B.pre
  have hown : s.vm.findClass y.cls = some m.cls := findClass_of_methodNamed B.named
  have htab : c.exceptionTable.toList = tableOf hh := vx_table (x := y) B (hts _ List.mem_cons_self)
  subst hsz
  have hl := lv_entry vargs (n := nL) hn
  rw [lg_entry_eq]
  generalize (lg_sl vargs ++ List.replicate (nL - (lg_sl vargs).length) Slot.unset).toArray = ls at hl ⊢
  have hA2 : ∀ q, va_A ws s.heap.size q → E.2.2.1 ≤ q := by
    intro q hq
    rcases hq with ⟨k, e0, h⟩ | h
    · exact hD0.2 k _ h
    · exact Nat.le_trans hK.2.2.2.2.1 h
  have hX : Ok (p, l, e, rm, s, m, vargs.toArray, below, meth, c, E, va_A ws s.heap.size, MQ below (rhQ E ws s.heap.size Post) vargs.toArray s rm.cells rm.slots (va_A ws s.heap.size), 0, 0, nL) E y.cls cc rm nL :=
    ⟨B.exec, B.bytes, hml, hown, fun w hw => hts w (List.mem_cons_of_mem _ hw), hK, fun q h => Or.inr h, hA2, B.notSynchronized, ⟨Nat.zero_le _, Nat.zero_le _⟩, rfl, rfl, rfl⟩
  have hG := body _ rfl hX ⟨rfl, rfl, hlt, B.returns, rfl, rfl, htab, hV⟩
  exact hG s.heap [] ls hP hD0.self va_S.rf ⟨hl.1, hl.2.1, fun i v h => hl.2.2 (i, v) (by have := rhArgs_in vargs 0 i v (rhPad h); rwa [Nat.zero_add] at this)⟩
theorem rx_lret (hX : Ok X E own cc R nL) {v : Int64} (hR : RtX X (some .long) w0 Post PX mc ms) (d : decode cc pc = .ok (.lreturn, 1)) (ha : ws.map Prod.fst = w0.map Prod.fst) (h : Post (some (.long v)) ws) : G X pc lv [.long v] ws := by
  obtain ⟨p, l, e, R0, s, m, args, below, meth, c, E0, A, Q, kc, ns, nL0⟩ := X
  obtain ⟨hx, hb, hml, ho, ht, hK, hA, hAz, hlk, hkn, rfl, rfl, rfl⟩ := hX
  obtain ⟨rfl, rfl, -, hr, rfl, rfl, -, -⟩ := hR
  exact fun H locs ls hP hD hS hl => vx_ret (W.widen (Nat.zero_le _) (Nat.zero_le _) (W.lret hx hb hr (fun t e2 hW => ⟨⟨_, ws, rfl, h, ha, by rw [e2]; exact hP⟩, hS.F e2⟩) hS.2.2 d hlk))
theorem rw_iret (hX : Ok X E own cc R nL) {v : Int32} (hR : RtW X a b (some .int) w0 hh Post mc ms) (h1 : a ≤ mc) (h2 : b ≤ ms) (d : decode cc pc = .ok (.ireturn, 1)) (ha : ws.map Prod.fst = w0.map Prod.fst) (h : Post (some (.int v)) ws) : G X pc lv [.int v] ws := by
  obtain ⟨p, l, e, R0, s, m, args, below, meth, c, E0, A, Q, kc, ns, nL0⟩ := X
  obtain ⟨hx, hb, hml, ho, ht, hK, hA, hAz, hlk, hkn, rfl, rfl, rfl⟩ := hX
  obtain ⟨rfl, rfl, -, hr, rfl, rfl, -, -⟩ := hR
  exact fun H locs ls hP hD hS hl => W.widen h1 h2 (W.iret hx hb hr (fun t e2 hW => ⟨⟨_, ws, rfl, h, ha, by rw [e2]; exact hP⟩, hS.F e2⟩) hS.2.2 d hlk)
/-- throw new NoSuchElementException("the row has no such number") -/
theorem rx_throw (hX : Ok X E RX7 cX7_row R nL) (hR : RtX X ret ws Post PX mc ms) (hp : PX) (hf : 6 ≤ R.frames) (hlo : 90 ≤ R.locals) (h1 : 1 ≤ R.cells) (h2 : 6 ≤ R.slots) (h3 : 1 ≤ mc) (h4 : 6 ≤ ms) : G X 15 lv [] ws := by
  obtain ⟨p, l, e, R0, s, m, args, below, meth, c, E0, A, Q, kc, ns, nL0⟩ := X
  obtain ⟨hx, hb, hml, ho, ht, hK, hA, hAz, hlk, hkn, rfl, rfl, rfl⟩ := hX
  obtain ⟨rfl, rfl, hlt, hr, rfl, rfl, hno, hV⟩ := hR
  intro H locs ls hP hD hS hl
  have hat : ∀ w ∈ rxAt.filter vx_no, w.before args s = true := fun w hw => by
    have h1 := List.all_eq_true.mp rh_at0 w hw
    rcases Bool.or_eq_true_iff.mp h1 with h | h
    · exact ht _ (List.mem_filter.mpr ⟨rh_at1 w hw, h⟩)
    · exact va_Nw.use (rhDb_on h) (hV.1 w (List.mem_filter.mpr ⟨rh_at1 w hw, h⟩))
  have hgood : ∀ w ∈ rxAt.filter vx_no, vx_ot w = true := fun w hw => by
    have h1 := List.all_eq_true.mp rh_at0 w hw
    unfold vx_ot
    rcases Bool.or_eq_true_iff.mp h1 with h | h
    · rw [h, Bool.or_true]
    · rw [rhDb_on h, Bool.true_or]
  have hlo2 : (([] : List Value).map fun v => v.category).sum + (13 * 3 + 43) ≤ R0.locals := by
    show 0 + (13 * 3 + 43) ≤ _
    omega
  refine rx_throwSW hx hb hlt (sa := E0.2.2.2.1 9) ho (ht _ (rhT_in 1058 (by decide +kernel) rfl)) (ht _ (rhT_in 99 (by decide +kernel) rfl)) (hK.2.2.1 _ (List.mem_of_getElem? (i := 9) rfl)) hat (fun w hw => ?_) (vx_Zq.narrow ⟨hK.2.2.2.2.2.2.2.1, hV.2.1⟩ hAz) (vx_Zq.narrow ⟨hK.2.2.2.2.2.2.2.2, hV.2.2⟩ hAz) hS (hl.1.trans hml.symm) dX7_row_15 dX7_row_18 dX7_row_19 dX7_row_22 dX7_row_25 (fun x hx9 => (hno x hx9).elim) hf hlo2 (by omega) (by omega) hlk (fun t hal hsz hsame => ⟨rfl, hp, hP.kept (fun k9 x hx9 => hsame x.1 ((hP k9 x hx9).lt)), Nat.le_trans hS.1 hsz, fun q g1 g2 => (hsame q (Nat.lt_of_lt_of_le g1 hS.1)).trans (hS.2.1 q g1 g2)⟩) hS.2.2 (by omega) (by omega)
  rcases List.mem_cons.mp hw with h | hw
  · subst h; rfl
  · rcases List.mem_cons.mp hw with h | hw
    · subst h; rfl
    · exact hgood w hw
/-- a call of what may throw, and the throw is caught here -/
theorem rw_callX (hX : Ok X E own cc R nL) (hR : RtW X a b ret w0 hh Post mc ms) {idx ci n mL : Nat} {y : MethodName} {bytes : ByteArray} {ret1 : Option FieldType} {rm : Room} {v : Nat} {As rest : List Value} {wc wr : va_W} {PostC : Option Value → va_W → Prop} (hlk0 : Cond.methodLink own idx y ∈ rhT) (hw : rhMv y bytes mL ret1 n ci) (hM : CtrX X.2.1 E y bytes mL ret1 rm (.ref v :: As) wc PostC PX) (hroom : rm.frames + 1 ≤ R.frames ∧ 8 + (mL + 11) + rm.locals ≤ R.locals) {fs : List Value} {wd : va_W} (he : wc = (v, .inr (ci, fs)) :: wd) (d : decode cc pc = .ok (.invokevirtual idx, 3)) (hn : As.length = n) (hst : st = As.reverse ++ .ref v :: rest) (hcat : (rest.map fun v => v.category).sum ≤ 8) (h1 : a + rm.cells ≤ R.cells) (h2 : b + rm.slots ≤ R.slots) {q1 q2 q3 q4 : Nat} (htb : hh = [(q1, q2, q3, q4)]) (hcov : q1 ≤ pc ∧ pc < q2) (hq4 : q4 ≠ 0) (hlk4 : Cond.classLink own q4 rhNS ∈ rhT) (hcast : Cond.castable rhNS rhNS ∈ rhDt)
    (kx : PX → ∀ (Y : rhX) (q : Nat), Ok Y E own cc R nL → RtW Y (a + rm.cells) (b + rm.slots) ret w0 hh Post mc ms → G Y q3 lv [.ref q] (wc ++ wr))
    (k : ∀ (Y : rhX) (r : Option Value) (w : va_W), PostC r w → Ok Y E own cc R nL → RtW Y (a + rm.cells) (b + rm.slots) ret w0 hh Post mc ms → G Y (pc + 3) lv (r.toList ++ rest) (w ++ wr)) : G X pc lv st (wc ++ wr) := by
  obtain ⟨p, l, e, R0, s, m, args, below, meth, c, E0, A, Q, kc, ns, nL0⟩ := X
  obtain ⟨hx, hb, hml, ho, ht, hK, hA, hAz, hlk, hkn, rfl, rfl, rfl⟩ := hX
  obtain ⟨rfl, rfl, hlt, hr, rfl, rfl, htab, hV⟩ := hR
  obtain ⟨⟨w2, w3, w4, w5⟩, w6, w7, T0, N0, w8⟩ := hw
  subst hst
  intro H locs ls hP hD hS hl
  have hC := vmid_get wc [] wr
  have hnd := vmid_nd wc.length 0
  have he0 : (wc ++ wr)[0]? = some (v, .inr (ci, fs)) := by rw [he]; rfl
  have hFc := va_free (wc := wc) hD hS hA (List.range' 0 wc.length) hC
  have hpre : PreV s H y.cls v (rhPV E0 (.ref v :: As) wc H.size) As := by
    refine ⟨rx_blind, va_recv hK.1 hP w8 he0, fun U hU hW => ⟨rfl, by rw [hU], ?_, hK.warm hAz hS hU hW, ?_, hV.warm hAz hS hU hW⟩⟩
    · rw [hU]
      intro j q hq
      obtain ⟨i, -, hi⟩ := rh_pick hC j q hq
      exact hP i q hi
    · refine ⟨fun i j p q hi hj hpq => ?_, fun j q hq => ?_⟩
      · exact (hD.sub (List.range' 0 wc.length) hnd hC).1 i j p q hi hj hpq
      · obtain ⟨i, -, hi⟩ := rh_pick hC j q hq
        exact hAz _ (hD.2 i q hi)
  have hgood : ∀ w ∈ (Cond.code y bytes mL ret1 :: rhT), ∀ (a' : Array Value) (U : State), s.WarmedH U.vm → w.before a' U = true := pay_in (big := rhT) ht (fun w hw => ⟨by rcases List.mem_cons.mp hw with h | h; rw [h]; exact w3; exact h, by rcases List.mem_cons.mp hw with h | h; rw [h]; exact good_of_word rfl; exact (rhT_good (fun _ h => h) w h).2⟩)
  have hM1 := hM H.size
  have hrun : vx_Run p l e R0 s m args below meth c H locs kc ns rm.cells rm.slots (F0 m pc ls (As.reverse ++ .ref v :: rest)) rest (rhQ E0 wc H.size PostC (.ref v :: As).toArray) (rhXC E0 wc H.size PX) (va_A wc H.size) :=
    vx_runV (S := ⟨hx, hb, hml, ho, ht⟩) hM1 (cw := ⟨⟨rfl, rfl, hroom.1, hroom.2, hgood, List.mem_cons_self, ht _ w3, ht _ w2, w4, rh_par w5, ht _ hlk0⟩, ht _ w6, ht _ w7⟩) hpre rfl hn hl.1 rfl (lv_room hcat) d ⟨h1, h2⟩
  intro T hT X0
  rcases hrun T hT X0 with ⟨r, st₀, t, T', L, h0, X', hL, e1, e2, ⟨⟨r9, w, hv, hp, hf, hPw⟩, hz, hk⟩, stp⟩ | ⟨q, st₀, t, T', L, N9, ce, h0, X', hL, e1, e2, ⟨hN9, hpx, hPw, hz, hk⟩, hce, hcv, hcl, stp⟩
  · cases hv
    rw [h0] at hz hk
    obtain ⟨g1, g2⟩ := rh_put_P (H1 := t.heap) hP hD hC hf (fun q h1 h2 => hk q h1 h2) hPw
    have ev := vmid_put wc w [] wr (map_fst_len hf)
    have ev : vput (wc ++ wr) (List.range' ([] : va_W).length wc.length) w = w ++ wr := ev
    rw [ev] at g1 g2
    obtain ⟨t2, a1, b1⟩ := k (p, l, e, R0, s, m, args, below, meth, c, E0, _, _, kc + rm.cells, ns + rm.slots, nL0) r w hp ⟨hx, hb, hml, ho, ht, hK, hA, hAz, hlk, ⟨h1, h2⟩, rfl, rfl, rfl⟩ ⟨rfl, rfl, hlt, hr, rfl, rfl, htab, hV⟩ T'.heap (locs ++ L) ls (by rw [e1]; exact g1) g2 ⟨Nat.le_trans hS.1 (by rw [e1]; exact hz), fun q h1 h2 => by rw [e1, hk q (Nat.lt_of_lt_of_le h1 hS.1) (fun z => h2 (hFc q z))]; exact hS.2.1 q h1 h2, fun q hq => by
      rcases List.mem_append.mp hq with h | h
      · exact hS.2.2 q h
      · exact hFc _ (hL q h)⟩ hl T' rfl X'
    exact ⟨t2, stp t2 a1, b1⟩
  · rw [h0] at hz hk
    subst hN9
    subst htb
    obtain ⟨g1, g2⟩ := rh_put_P (H1 := t.heap) hP hD hC rfl (fun q h1 h2 => hk q h1 h2) hPw
    have ev : vput (wc ++ wr) (List.range' ([] : va_W).length wc.length) wc = wc ++ wr := vmid_put wc wc [] wr rfl
    rw [ev] at g1 g2
    have hS2 : va_S (va_A w0 s.heap.size) s.heap T'.heap (locs ++ L) := ⟨Nat.le_trans hS.1 (by rw [e1]; exact hz), fun q h1 h2 => by rw [e1, hk q (Nat.lt_of_lt_of_le h1 hS.1) (fun z => h2 (hFc q z))]; exact hS.2.1 q h1 h2, fun q hq => by
      rcases List.mem_append.mp hq with h | h
      · exact hS.2.2 q h
      · exact hFc _ (hL q h)⟩
    have hkk := kx hpx (p, l, e, R0, s, m, args, below, meth, c, E0, _, _, kc + rm.cells, ns + rm.slots, nL0) q ⟨hx, hb, hml, ho, ht, hK, hA, hAz, hlk, ⟨h1, h2⟩, rfl, rfl, rfl⟩ ⟨rfl, rfl, hlt, hr, rfl, rfl, htab, hV⟩ T'.heap (locs ++ L) ls (by rw [e1]; exact g1) g2 hS2 hl
    have hcc := vx_catch (pc := pc) (ls := ls) (rest := rest) (E := rhNS) (name := rhNS) (ce := ce) (q := q) ho [] ⟨q1, q2, q3, q4⟩ [] htab (fun z hz => nomatch hz) (by unfold covers; simp [hcov.1, hcov.2]) hq4 (ht _ hlk4) (va_Nw.use rfl (hV.1 _ hcast)) (by rw [e1]; exact hce) hcv hcl hkk
    obtain ⟨t2, a1, b1⟩ := hcc T' rfl X'
    exact ⟨t2, stp.trans a1, b1⟩
end RHX
