section RH4
variable {X : rhX} {E : rhE} {own : String} {cc : ByteArray} {R : Room} {nL pc : Nat} {lv : List (Option Value)} {st : List Value} {ws : va_W}
theorem rh_alen (hX : Ok X E own cc R nL) {a : Nat} {x : vp_A} {ty : FieldType} {v : Int32} (q0 t0 : Nat) (d : decode cc pc = .ok (.arraylength, 1)) (ha : ws[q0]? = some (a, .inl (E.2.1 t0, x))) (hty : (rhTy E.2.1)[t0]? = some (E.2.1 t0, ty)) (hv : Int32.ofNat x.1 = v) (k : G X (pc + 1) lv (.int v :: st) ws) : G X pc lv (.ref a :: st) ws := by
  obtain ⟨p, l, e, R0, s, m, args, below, meth, c, E0, A, Q, kc, ns, nL0⟩ := X
  obtain ⟨hx, hb, hml, ho, ht, hK, hA, hAz, hlk, hkn, rfl, rfl, rfl⟩ := hX
  exact fun H locs ls hP hD hS hl => va_alen (D := E0.1) (tys := rhTy E0.2.1) hx hb hK.1 hP q0 t0 ha hty hv d (k H locs ls hP hD hS hl)
theorem rh_aaload (hX : Ok X E own cc R nL) {a n : Nat} {b : Nat → Nat} {i : Int32} (q0 j : Nat) (d : decode cc pc = .ok (.aaload, 1)) (ha : ws[q0]? = some (a, .inl (E.2.1 4, n, .inr (.inr (.inr (.inr (fun j => some (b j)))))))) (hi : i = nI j) (hj : j < n) (hn : n < 2 ^ 31) (k : G X (pc + 1) lv (.ref (b j) :: st) ws) : G X pc lv (.int i :: .ref a :: st) ws := by
  obtain ⟨p, l, e, R0, s, m, args, below, meth, c, E0, A, Q, kc, ns, nL0⟩ := X
  obtain ⟨hx, hb, hml, ho, ht, hK, hA, hAz, hlk, hkn, rfl, rfl, rfl⟩ := hX
  intro H locs ls hP hD hS hl
  exact W.aald (v := va_rf (some (b j))) (ty := .array .long) hx hb (hP q0 _ ha) ((hK.1.2 4 _ rfl).1 n (fun j => va_rf (some (b j)))) rfl (fun q => by cases q) (by show ¬ (i < 0 ∨ (arrV _ _ _).slots.size ≤ _); rw [arrV_size]; exact rh_in hi hj hn) (by show (arrV _ _ _).slots[_]? = _; rw [rh_cl hi hj hn, arrV_read _ _ hj]) rfl rfl d (k H locs ls hP hD hS hl)
theorem rh_ldcS (hX : Ok X E own cc R nL) {idx i : Nat} {tx : String} (d : decode cc pc = .ok (.ldc idx, 2)) (hq : (own, idx, tx, i) ∈ rhSR) (k : G X (pc + 2) lv (.ref (E.2.2.2.1 i) :: st) ws) : G X pc lv st ws := by
  obtain ⟨p, l, e, R0, s, m, args, below, meth, c, E0, A, Q, kc, ns, nL0⟩ := X
  obtain ⟨hx, hb, hml, ho, ht, hK, hA, hAz, hlk, hkn, rfl, rfl, rfl⟩ := hX
  exact fun H locs ls hP hD hS hl => va_ldcS hx hb ho (hK.2.2.1 _ hq) d (k H locs ls hP hD hS hl)
theorem rh_pop (hX : Ok X E own cc R nL) {va : Value} (d : decode cc pc = .ok (.pop, 1)) (hva : va.category = 1) (k : G X (pc + 1) lv st ws) : G X pc lv (va :: st) ws := by
  obtain ⟨p, l, e, R0, s, m, args, below, meth, c, E0, A, Q, kc, ns, nL0⟩ := X
  obtain ⟨hx, hb, hml, ho, ht, hK, hA, hAz, hlk, hkn, rfl, rfl, rfl⟩ := hX
  exact fun H locs ls hP hD hS hl => lv_pop hx hb d hva (k H locs ls hP hD hS hl)
theorem rh_tabIn (hX : Ok X E own cc R nL) {dflt lo hi : Int} {offs : Array Int} {len : Nat} {x : Int32} {off : Int} {tgt : Nat} (d : decode cc pc = .ok (.tableswitch dflt lo hi offs, len)) (h1 : ¬ x.toInt < lo) (h2 : ¬ hi < x.toInt) (h3 : offs[(x.toInt - lo).toNat]? = some off) (hg : (pc : Int) + off = (tgt : Int)) (k : G X tgt lv st ws) : G X pc lv (.int x :: st) ws := by
  obtain ⟨p, l, e, R0, s, m, args, below, meth, c, E0, A, Q, kc, ns, nL0⟩ := X
  obtain ⟨hx, hb, hml, ho, ht, hK, hA, hAz, hlk, hkn, rfl, rfl, rfl⟩ := hX
  exact fun H locs ls hP hD hS hl => lv_tableIn hx hb d h1 h2 h3 hg (k H locs ls hP hD hS hl)
theorem rh_tabOut (hX : Ok X E own cc R nL) {dflt lo hi : Int} {offs : Array Int} {len : Nat} {x : Int32} {tgt : Nat} (d : decode cc pc = .ok (.tableswitch dflt lo hi offs, len)) (h1 : x.toInt < lo ∨ hi < x.toInt) (hg : (pc : Int) + dflt = (tgt : Int)) (k : G X tgt lv st ws) : G X pc lv (.int x :: st) ws := by
  obtain ⟨p, l, e, R0, s, m, args, below, meth, c, E0, A, Q, kc, ns, nL0⟩ := X
  obtain ⟨hx, hb, hml, ho, ht, hK, hA, hAz, hlk, hkn, rfl, rfl, rfl⟩ := hX
  exact fun H locs ls hP hD hS hl => lv_tableOut hx hb d h1 hg (k H locs ls hP hD hS hl)
theorem rh_lookup (hX : Ok X E own cc R nL) {dflt : Int} {ps : Array (Int × Int)} {len : Nat} {x : Int32} {off : Int} {tgt : Nat} (d : decode cc pc = .ok (.lookupswitch dflt ps, len)) (hp : (ps.toList.zip (ps.toList.drop 1)).all (fun (a, next) => a.1 < next.1) = true) (h3 : Op.lookupswitch.offset ps.toList dflt x.toInt = off) (hg : (pc : Int) + off = (tgt : Int)) (k : G X tgt lv st ws) : G X pc lv (.int x :: st) ws := by
  obtain ⟨p, l, e, R0, s, m, args, below, meth, c, E0, A, Q, kc, ns, nL0⟩ := X
  obtain ⟨hx, hb, hml, ho, ht, hK, hA, hAz, hlk, hkn, rfl, rfl, rfl⟩ := hX
  exact fun H locs ls hP hD hS hl => lv_lookup hx hb d hp h3 hg (k H locs ls hP hD hS hl)
/-! the JDK's texts -/
theorem rh_strS (hX : Ok X E own cc R nL) : True := trivial
theorem rh_getStr (hX : Ok X E own cc R nL) {idx i : Nat} (d : decode cc pc = .ok (.getfield idx, 3)) (hi : i < 11) (hq : Cond.fieldLink own idx "java/lang/String" "value" "[B" ∈ rhT) (k : G X (pc + 3) lv (.ref (E.2.2.2.2 i) :: st) ws) : G X pc lv (.ref (E.2.2.2.1 i) :: st) ws := by
  obtain ⟨p, l, e, R0, s, m, args, below, meth, c, E0, A, Q, kc, ns, nL0⟩ := X
  obtain ⟨hx, hb, hml, ho, ht, hK, hA, hAz, hlk, hkn, rfl, rfl, rfl⟩ := hX
  intro H locs ls hP hD hS hl
  have hE := hK.2.2.2.1.narrow (B := A) hAz
  exact vk_getf hx hb (hE.1 i hi).2.2.1 hS ho (ht _ hq) (fun _ h => h) d (k H locs ls hP hD hS hl)
theorem rh_getCod (hX : Ok X E own cc R nL) {idx i : Nat} (d : decode cc pc = .ok (.getfield idx, 3)) (hi : i < 11) (hq : Cond.fieldLink own idx "java/lang/String" "coder" "B" ∈ rhT) (k : G X (pc + 3) lv (.int 0 :: st) ws) : G X pc lv (.ref (E.2.2.2.1 i) :: st) ws := by
  obtain ⟨p, l, e, R0, s, m, args, below, meth, c, E0, A, Q, kc, ns, nL0⟩ := X
  obtain ⟨hx, hb, hml, ho, ht, hK, hA, hAz, hlk, hkn, rfl, rfl, rfl⟩ := hX
  intro H locs ls hP hD hS hl
  have hE := hK.2.2.2.1.narrow (B := A) hAz
  exact vk_getf hx hb (hE.1 i hi).2.1 hS ho (ht _ hq) (fun _ h => h) d (k H locs ls hP hD hS hl)
theorem rh_lenStr (hX : Ok X E own cc R nL) {i : Nat} (d : decode cc pc = .ok (.arraylength, 1)) (hi : i < 11) (k : G X (pc + 1) lv (.int (nI (rhLen.getD i 0)) :: st) ws) : G X pc lv (.ref (E.2.2.2.2 i) :: st) ws := by
  obtain ⟨p, l, e, R0, s, m, args, below, meth, c, E0, A, Q, kc, ns, nL0⟩ := X
  obtain ⟨hx, hb, hml, ho, ht, hK, hA, hAz, hlk, hkn, rfl, rfl, rfl⟩ := hX
  intro H locs ls hP hD hS hl
  have hE := hK.2.2.2.1.narrow (B := A) hAz
  exact va_tlen hx hb (hE.1 i hi).2.2.2 hS rfl d (k H locs ls hP hD hS hl)
theorem rh_balStr (hX : Ok X E own cc R nL) {i j : Nat} (d : decode cc pc = .ok (.baload, 1)) (hi : i < 11) (hj : j < rhLen.getD i 0) (hn : rhLen.getD i 0 < 2 ^ 31) (k : G X (pc + 1) lv (.int ((rhByt.getD i []).getD j 0) :: st) ws) : G X pc lv (.int (nI j) :: .ref (E.2.2.2.2 i) :: st) ws := by
  obtain ⟨p, l, e, R0, s, m, args, below, meth, c, E0, A, Q, kc, ns, nL0⟩ := X
  obtain ⟨hx, hb, hml, ho, ht, hK, hA, hAz, hlk, hkn, rfl, rfl, rfl⟩ := hX
  intro H locs ls hP hD hS hl
  have hE := hK.2.2.2.1.narrow (B := A) hAz
  refine va_tb hx hb (hE.1 i hi).2.2.2 hS (rh_in rfl hj hn) rfl d ?_
  rw [rh_cl (i := nI j) rfl hj hn]
  exact (k H locs ls hP hD hS hl)
theorem rh_compact (hX : Ok X E own cc R nL) {idx : Nat} (d : decode cc pc = .ok (.getstatic idx, 3)) (hq : Cond.fieldLink own idx "java/lang/String" "COMPACT_STRINGS" "Z" ∈ rhT) (k : G X (pc + 3) lv (.int 1 :: st) ws) : G X pc lv st ws := by
  obtain ⟨p, l, e, R0, s, m, args, below, meth, c, E0, A, Q, kc, ns, nL0⟩ := X
  obtain ⟨hx, hb, hml, ho, ht, hK, hA, hAz, hlk, hkn, rfl, rfl, rfl⟩ := hX
  intro H locs ls hP hD hS hl
  exact va_gets hx hb (hK.2.2.2.2.2.1.narrow hAz) hS ho (ht _ hq) (fun _ h => h) d (k H locs ls hP hD hS hl)
theorem rh_sioobe (hX : Ok X E own cc R nL) {idx : Nat} (d : decode cc pc = .ok (.getstatic idx, 3)) (hq : Cond.fieldLink own idx "jdk/internal/util/Preconditions" "SIOOBE_FORMATTER" "Ljava/util/function/BiFunction;" ∈ rhT) (k : ∀ v, (v = .null ∨ ∃ t, v = .ref t) → G X (pc + 3) lv (v :: st) ws) : G X pc lv st ws := by
  obtain ⟨p, l, e, R0, s, m, args, below, meth, c, E0, A, Q, kc, ns, nL0⟩ := X
  obtain ⟨hx, hb, hml, ho, ht, hK, hA, hAz, hlk, hkn, rfl, rfl, rfl⟩ := hX
  intro H locs ls hP hD hS hl
  rcases hK.2.2.2.2.2.2.1.narrow (B := A) hAz with h | ⟨t, h⟩
  · exact va_gets hx hb h hS ho (ht _ hq) (fun _ h => h) d (k .null (Or.inl rfl) H locs ls hP hD hS hl)
  · exact va_gets hx hb h hS ho (ht _ hq) (fun _ h => h) d (k (.ref t) (Or.inr ⟨t, rfl⟩) H locs ls hP hD hS hl)
def rhMt (y : MethodName) (bytes : ByteArray) (mL : Nat) (ret : Option FieldType) (n : Nat) : Prop := rhMd y bytes mL ret n ∧ Cond.instanceMethod y ∈ rhT ∧ Cond.selects y.cls y y ∈ rhT ∧ y.cls = "java/lang/String"
/-- a call on a text -/
theorem rh_pT (hX : Ok X E own cc R nL) {idx n mL i : Nat} {y : MethodName} {bytes : ByteArray} {ret : Option FieldType} {rm : Room} {As rest : List Value} {v : Value} (hlk0 : rhLk own idx y) (hw : rhMt y bytes mL ret n) (hM : ∀ l, Ctr l E y bytes mL ret rm (.ref (E.2.2.2.1 i) :: As) [] (One (some v) [])) (hi : i < 11) (hc0 : rm.cells = 0 ∧ rm.slots = 0) (hroom : rm.frames + 1 ≤ R.frames ∧ 8 + (mL + 11) + rm.locals ≤ R.locals) (d : decode cc pc = .ok (.invokevirtual idx, 3)) (hn : As.length = n) (hst : st = As.reverse ++ .ref (E.2.2.2.1 i) :: rest) (hcat : (rest.map fun v => v.category).sum ≤ 8) (k : G X (pc + 3) lv (v :: rest) ws) : G X pc lv st ws := by
  obtain ⟨p, l, e, R0, s, m, args, below, meth, c, E0, A, Q, kc, ns, nL0⟩ := X
  obtain ⟨hx, hb, hml, ho, ht, hK, hA, hAz, hlk, hkn, rfl, rfl, rfl⟩ := hX
  obtain ⟨⟨w2, w3, w4, w5⟩, w6, w7, w8⟩ := hw
  subst hst
  intro H locs ls hP hD hS hl
  have hFc : ∀ q, va_A [] H.size q → A q := fun q h => by
    rcases h with ⟨k, e0, h⟩ | h
    · simp at h
    · exact hA q (Nat.le_trans hS.1 h)
  have hrecv := vk_recv (hK.2.2.2.1.narrow (B := A) hAz) hi hS
  have hpre : PreV s H y.cls (E0.2.2.2.1 i) (va_Pc (.ref (E0.2.2.2.1 i) :: As) (fun U => U.heap.size = H.size ∧ va_P E0.1 vwCl [] U.heap ∧ rhK E0 U ∧ va_D (fun q => E0.2.2.1 ≤ q) [])) As := by
    refine ⟨rh_blind, by rw [w8]; exact hrecv, fun U hU hW => ⟨rfl, by rw [hU], fun k q h => by simp at h, hK.warm hAz hS hU hW, ⟨fun i j p q h => by simp at h, fun k q h => by simp at h⟩⟩⟩
  have hgood : ∀ w ∈ (Cond.code y bytes mL ret :: rhT), ∀ (a' : Array Value) (U : State), s.WarmedH U.vm → w.before a' U = true := pay_in (big := rhT) ht (fun w hw => ⟨by rcases List.mem_cons.mp hw with h | h; rw [h]; exact w3; exact h, by rcases List.mem_cons.mp hw with h | h; rw [h]; exact good_of_word rfl; exact (rhT_good (fun _ h => h) w h).2⟩)
  have hM1 := hM l H.size
  rw [hc0.1, hc0.2] at hM1
  have hrun : va_Run p l e R0 s m args below meth c H locs kc ns 0 0 (F0 m pc ls (As.reverse ++ .ref (E0.2.2.2.1 i) :: rest)) rest (rhQ E0 [] H.size (One (some v) []) (.ref (E0.2.2.2.1 i) :: As).toArray) (va_A [] H.size) := by
    rcases hlk0 with w1 | ⟨host, w1⟩
    · exact va_runV (S := ⟨hx, hb, hml, ho, ht⟩) hM1 (cw := ⟨⟨hc0.1, hc0.2, hroom.1, hroom.2, hgood, List.mem_cons_self, ht _ w3, ht _ w2, w4, rh_par w5, ht _ w1⟩, ht _ w6, ht _ w7⟩) hpre rfl hn hl.1 rfl (lv_room hcat) d ⟨hkn.1, hkn.2⟩
    · exact va_runVN (S := ⟨hx, hb, hml, ho, ht⟩) hM1 (cw := ⟨⟨⟨hc0.1, hc0.2, hroom.1, hroom.2, hgood, List.mem_cons_self⟩, ht _ w3, ht _ w2, w4, rh_par w5, va_Nw.use rfl (hK.2.1 _ w1)⟩, ht _ w6, ht _ w7⟩) hpre rfl hn hl.1 rfl (lv_room hcat) d ⟨hkn.1, hkn.2⟩
  intro T hT X0
  obtain ⟨v0, st₀, t, T', L, h0, X', hL, e1, e2, ⟨⟨r, w, hv, hp, hf, hPw⟩, hz, hk⟩, stp⟩ := hrun T hT X0
  cases hv
  obtain ⟨rfl, rfl⟩ := hp
  rw [h0] at hz hk
  obtain ⟨t2, a1, b1⟩ := k T'.heap (locs ++ L) ls (hP.kept (fun j q hq => by rw [e1]; exact hk q.1 (hP j q hq).lt (fun z => by
      rcases z with ⟨k, e0, z⟩ | z
      · simp at z
      · exact absurd (hP j q hq).lt (by omega)))) hD ⟨Nat.le_trans hS.1 (by rw [e1]; exact hz), fun q h1 h2 => by rw [e1, hk q (Nat.lt_of_lt_of_le h1 hS.1) (fun z => h2 (hFc q z))]; exact hS.2.1 q h1 h2, fun q hq => by
      rcases List.mem_append.mp hq with h | h
      · exact hS.2.2 q h
      · exact hFc _ (hL q h)⟩ hl T' rfl X'
  exact ⟨t2, stp t2 a1, b1⟩
end RH4
theorem mtJ0_length_8abf5 : rhMt yJ0_length_8abf5 cJ0_length_8abf5 1 (some .int) 0 := ⟨⟨rhT_in 92 (by decide +kernel) rfl, rhT_in 584 (by decide +kernel) rfl, by decide +kernel, by decide +kernel⟩, rhT_in 582 (by decide +kernel) rfl, rhT_in 583 (by decide +kernel) rfl, rfl⟩
theorem mtJ0_coder_7d493 : rhMt yJ0_coder_7d493 cJ0_coder_7d493 1 (some .byte) 0 := ⟨⟨rhT_in 92 (by decide +kernel) rfl, rhT_in 588 (by decide +kernel) rfl, by decide +kernel, by decide +kernel⟩, rhT_in 586 (by decide +kernel) rfl, rhT_in 587 (by decide +kernel) rfl, rfl⟩
theorem mtJ0_charAt_5068e : rhMt yJ0_charAt_5068e cJ0_charAt_5068e 2 (some .char) 1 := ⟨⟨rhT_in 92 (by decide +kernel) rfl, rhT_in 594 (by decide +kernel) rfl, by decide +kernel, by decide +kernel⟩, rhT_in 592 (by decide +kernel) rfl, rhT_in 593 (by decide +kernel) rfl, rfl⟩
theorem mtJ0_isLatin1_aae02 : rhMt yJ0_isLatin1_aae02 cJ0_isLatin1_aae02 1 (some .boolean) 0 := ⟨⟨rhT_in 92 (by decide +kernel) rfl, rhT_in 598 (by decide +kernel) rfl, by decide +kernel, by decide +kernel⟩, rhT_in 596 (by decide +kernel) rfl, rhT_in 597 (by decide +kernel) rfl, rfl⟩
theorem fs_J0_9 : Cond.fieldLink RJ0 9 "java/lang/String" "value" "[B" ∈ rhT := rhT_in 1728 (by decide +kernel) rfl
theorem fs_J0_15 : Cond.fieldLink RJ0 15 "java/lang/String" "coder" "B" ∈ rhT := rhT_in 1729 (by decide +kernel) rfl
theorem fs_J0_38 : Cond.fieldLink RJ0 38 "java/lang/String" "COMPACT_STRINGS" "Z" ∈ rhT := rhT_in 589 (by decide +kernel) rfl
theorem fs_J0_1053 : Cond.fieldLink RJ0 1053 "jdk/internal/util/Preconditions" "SIOOBE_FORMATTER" "Ljava/util/function/BiFunction;" ∈ rhT := rhT_in 605 (by decide +kernel) rfl
