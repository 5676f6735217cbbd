section RH5
variable {X : rhX} {E : rhE} {own : String} {cc : ByteArray} {R : Room} {nL pc : Nat} {lv : List (Option Value)} {st : List Value} {ws : va_W}
/-- a call that has the whole world -/
theorem rh_aR (hX : Ok X E own cc R nL) {idx ci n mL : Nat} {y : MethodName} {bytes : ByteArray} {ret : Option FieldType} {rm : Room} {b : Nat} {As rest : List Value} {Post : Option Value → va_W → Prop} (hlk0 : rhLk own idx y) (hw : rhMv y bytes mL ret n ci) (hM : ∀ l, Ctr l E y bytes mL ret rm (.ref b :: As) ws Post) (hc0 : rm.cells = 0 ∧ rm.slots = 0) (hroom : rm.frames + 1 ≤ R.frames ∧ 8 + (mL + 11) + rm.locals ≤ R.locals) (q0 : Nat) {fs : List Value} (he : ws[q0]? = some (b, .inr (ci, fs))) (d : decode cc pc = .ok (.invokevirtual idx, 3)) (hn : As.length = n) (hst : st = As.reverse ++ .ref b :: rest) (hcat : (rest.map fun v => v.category).sum ≤ 8) (k : ∀ r w, Post r w → G X (pc + 3) lv (r.toList ++ rest) w) : G X pc lv st ws := by
  obtain ⟨p, l, e, R0, s, m, args, below, meth, c, E0, A, Q, kc, ns, nL0⟩ := X
  obtain ⟨hx, hb, hml, ho, ht, hK, hA, hAz, hlk, hkn, rfl, rfl, rfl⟩ := hX
  obtain ⟨⟨w2, w3, w4, w5⟩, w6, w7, T0, N0, w8⟩ := hw
  subst hst
  intro H locs ls hP hD hS hl
  have hFc : ∀ q, va_A ws H.size q → A q := fun q h => by
    rcases h with ⟨k, e0, h⟩ | h
    · exact hD.2 k _ h
    · exact hA q (Nat.le_trans hS.1 h)
  have hpre : PreV s H y.cls b (va_Pc (.ref b :: As) (fun U => U.heap.size = H.size ∧ va_P E0.1 vwCl ws U.heap ∧ rhK E0 U ∧ va_D (fun q => E0.2.2.1 ≤ q) ws)) As := by
    refine ⟨rh_blind, va_recv hK.1 hP w8 he, fun U hU hW => ⟨rfl, by rw [hU], by rw [hU]; exact hP, hK.warm hAz hS hU hW, ⟨hD.1, fun k q h => hAz _ (hD.2 k q h)⟩⟩⟩
  have hgood : ∀ w ∈ (Cond.code y bytes mL ret :: rhT), ∀ (a' : Array Value) (U : State), s.WarmedH U.vm → w.before a' U = true := pay_in (big := rhT) ht (fun w hw => ⟨by rcases List.mem_cons.mp hw with h | h; rw [h]; exact w3; exact h, by rcases List.mem_cons.mp hw with h | h; rw [h]; exact good_of_word rfl; exact (rhT_good (fun _ h => h) w h).2⟩)
  have hM1 := hM l H.size
  rw [hc0.1, hc0.2] at hM1
  have hrun : va_Run p l e R0 s m args below meth c H locs kc ns 0 0 (F0 m pc ls (As.reverse ++ .ref b :: rest)) rest (rhQ E0 ws H.size Post (.ref b :: As).toArray) (va_A ws H.size) := by
    rcases hlk0 with w1 | ⟨host, w1⟩
    · exact va_runV (S := ⟨hx, hb, hml, ho, ht⟩) hM1 (cw := ⟨⟨hc0.1, hc0.2, hroom.1, hroom.2, hgood, List.mem_cons_self, ht _ w3, ht _ w2, w4, rh_par w5, ht _ w1⟩, ht _ w6, ht _ w7⟩) hpre rfl hn hl.1 rfl (lv_room hcat) d ⟨hkn.1, hkn.2⟩
    · exact va_runVN (S := ⟨hx, hb, hml, ho, ht⟩) hM1 (cw := ⟨⟨⟨hc0.1, hc0.2, hroom.1, hroom.2, hgood, List.mem_cons_self⟩, ht _ w3, ht _ w2, w4, rh_par w5, va_Nw.use rfl (hK.2.1 _ w1)⟩, ht _ w6, ht _ w7⟩) hpre rfl hn hl.1 rfl (lv_room hcat) d ⟨hkn.1, hkn.2⟩
  intro T hT X0
  obtain ⟨v0, st₀, t, T', L, h0, X', hL, e1, e2, ⟨⟨r, w, hv, hp, hf, hPw⟩, hz, hk⟩, stp⟩ := hrun T hT X0
  cases hv
  rw [h0] at hz hk
  obtain ⟨t2, a1, b1⟩ := k v0 w hp T'.heap (locs ++ L) ls (by rw [e1]; exact hPw) (hD.fst hf) ⟨Nat.le_trans hS.1 (by rw [e1]; exact hz), fun q h1 h2 => by rw [e1, hk q (Nat.lt_of_lt_of_le h1 hS.1) (fun z => h2 (hFc q z))]; exact hS.2.1 q h1 h2, fun q hq => by
      rcases List.mem_append.mp hq with h | h
      · exact hS.2.2 q h
      · exact hFc _ (hL q h)⟩ hl T' rfl X'
  exact ⟨t2, stp t2 a1, b1⟩
theorem rh_aP (hX : Ok X E own cc R nL) {idx ci n mL : Nat} {y : MethodName} {bytes : ByteArray} {ret : Option FieldType} {rm : Room} {b : Nat} {As rest : List Value} {v : Value} (hlk0 : rhLk own idx y) (hw : rhMv y bytes mL ret n ci) (hM : ∀ l, Ctr l E y bytes mL ret rm (.ref b :: As) ws (One (some v) ws)) (hc0 : rm.cells = 0 ∧ rm.slots = 0) (hroom : rm.frames + 1 ≤ R.frames ∧ 8 + (mL + 11) + rm.locals ≤ R.locals) (q0 : Nat) {fs : List Value} (he : ws[q0]? = some (b, .inr (ci, fs))) (d : decode cc pc = .ok (.invokevirtual idx, 3)) (hn : As.length = n) (hst : st = As.reverse ++ .ref b :: rest) (hcat : (rest.map fun v => v.category).sum ≤ 8) (k : G X (pc + 3) lv (v :: rest) ws) : G X pc lv st ws := rh_aR hX hlk0 hw hM hc0 hroom q0 he d hn hst hcat (fun r w hp => by obtain ⟨rfl, rfl⟩ := hp; exact k)
theorem rh_aU (hX : Ok X E own cc R nL) {idx ci n mL : Nat} {y : MethodName} {bytes : ByteArray} {ret : Option FieldType} {rm : Room} {b : Nat} {As rest : List Value} {w1 : va_W} (hlk0 : rhLk own idx y) (hw : rhMv y bytes mL ret n ci) (hM : ∀ l, Ctr l E y bytes mL ret rm (.ref b :: As) ws (One none w1)) (hc0 : rm.cells = 0 ∧ rm.slots = 0) (hroom : rm.frames + 1 ≤ R.frames ∧ 8 + (mL + 11) + rm.locals ≤ R.locals) (q0 : Nat) {fs : List Value} (he : ws[q0]? = some (b, .inr (ci, fs))) (d : decode cc pc = .ok (.invokevirtual idx, 3)) (hn : As.length = n) (hst : st = As.reverse ++ .ref b :: rest) (hcat : (rest.map fun v => v.category).sum ≤ 8) (k : G X (pc + 3) lv rest w1) : G X pc lv st ws := rh_aR hX hlk0 hw hM hc0 hroom q0 he d hn hst hcat (fun r w hp => by obtain ⟨rfl, rfl⟩ := hp; exact k)
theorem rh_aW (hX : Ok X E own cc R nL) {idx ci n mL : Nat} {y : MethodName} {bytes : ByteArray} {ret : Option FieldType} {rm : Room} {b : Nat} {As rest : List Value} {w1 : va_W} {v : Value} (hlk0 : rhLk own idx y) (hw : rhMv y bytes mL ret n ci) (hM : ∀ l, Ctr l E y bytes mL ret rm (.ref b :: As) ws (One (some v) w1)) (hc0 : rm.cells = 0 ∧ rm.slots = 0) (hroom : rm.frames + 1 ≤ R.frames ∧ 8 + (mL + 11) + rm.locals ≤ R.locals) (q0 : Nat) {fs : List Value} (he : ws[q0]? = some (b, .inr (ci, fs))) (d : decode cc pc = .ok (.invokevirtual idx, 3)) (hn : As.length = n) (hst : st = As.reverse ++ .ref b :: rest) (hcat : (rest.map fun v => v.category).sum ≤ 8) (k : G X (pc + 3) lv (v :: rest) w1) : G X pc lv st ws := rh_aR hX hlk0 hw hM hc0 hroom q0 he d hn hst hcat (fun r w hp => by obtain ⟨rfl, rfl⟩ := hp; exact k)
end RH5
