theorem mm_X0_142 : Cond.methodLink RX0 142 Lib.MathLoose.max_long.x ∈ rhT ∧ Cond.static Lib.MathLoose.max_long.x ∈ rhT ∧ Cond.initialized "java/lang/Math" ∈ rhT ∧ Cond.code Lib.MathLoose.max_long.x Lib.MathLoose.max_long.code 4 (some .long) ∈ rhT := ⟨rhT_in 726 (by decide +kernel) rfl, rhT_in 535 (by decide +kernel) rfl, rhT_in 91 (by decide +kernel) rfl, rhT_in 536 (by decide +kernel) rfl⟩
theorem mm_X1_15 : Cond.methodLink RX1 15 arraycopyName ∈ rhT ∧ Cond.native arraycopyName ∈ rhT ∧ Cond.static arraycopyName ∈ rhT ∧ Cond.initialized "java/lang/System" ∈ rhT := ⟨rhT_in 446 (by decide +kernel) rfl, rhT_in 448 (by decide +kernel) rfl, rhT_in 447 (by decide +kernel) rfl, rhT_in 90 (by decide +kernel) rfl⟩
theorem mm_X1_80 : Cond.methodLink RX1 80 Lib.MathLoose.max_long.x ∈ rhT ∧ Cond.static Lib.MathLoose.max_long.x ∈ rhT ∧ Cond.initialized "java/lang/Math" ∈ rhT ∧ Cond.code Lib.MathLoose.max_long.x Lib.MathLoose.max_long.code 4 (some .long) ∈ rhT := ⟨rhT_in 534 (by decide +kernel) rfl, rhT_in 535 (by decide +kernel) rfl, rhT_in 91 (by decide +kernel) rfl, rhT_in 536 (by decide +kernel) rfl⟩
theorem mm_X2_29 : Cond.methodLink RX2 29 Lib.Math.min.name ∈ rhT ∧ Cond.static Lib.Math.min.name ∈ rhT ∧ Cond.initialized "java/lang/Math" ∈ rhT ∧ Cond.code Lib.Math.min.name Lib.Math.min.code 2 (some .int) ∈ rhT := ⟨rhT_in 449 (by decide +kernel) rfl, rhT_in 450 (by decide +kernel) rfl, rhT_in 91 (by decide +kernel) rfl, rhT_in 451 (by decide +kernel) rfl⟩
theorem mm_X4_79 : Cond.methodLink RX4 79 Lib.MathLoose.min_long.x ∈ rhT ∧ Cond.static Lib.MathLoose.min_long.x ∈ rhT ∧ Cond.initialized "java/lang/Math" ∈ rhT ∧ Cond.code Lib.MathLoose.min_long.x Lib.MathLoose.min_long.code 4 (some .long) ∈ rhT := ⟨rhT_in 938 (by decide +kernel) rfl, rhT_in 718 (by decide +kernel) rfl, rhT_in 91 (by decide +kernel) rfl, rhT_in 719 (by decide +kernel) rfl⟩
theorem mm_X6_98 : Cond.methodLink RX6 98 Lib.Math.max.name ∈ rhT ∧ Cond.static Lib.Math.max.name ∈ rhT ∧ Cond.initialized "java/lang/Math" ∈ rhT ∧ Cond.code Lib.Math.max.name Lib.Math.max.code 2 (some .int) ∈ rhT := ⟨rhT_in 648 (by decide +kernel) rfl, rhT_in 649 (by decide +kernel) rfl, rhT_in 91 (by decide +kernel) rfl, rhT_in 650 (by decide +kernel) rfl⟩
theorem mm_X7_280 : Cond.methodLink RX7 280 Lib.MathLoose.max_long.x ∈ rhT ∧ Cond.static Lib.MathLoose.max_long.x ∈ rhT ∧ Cond.initialized "java/lang/Math" ∈ rhT ∧ Cond.code Lib.MathLoose.max_long.x Lib.MathLoose.max_long.code 4 (some .long) ∈ rhT := ⟨rhT_in 720 (by decide +kernel) rfl, rhT_in 535 (by decide +kernel) rfl, rhT_in 91 (by decide +kernel) rfl, rhT_in 536 (by decide +kernel) rfl⟩
theorem mm_X7_373 : Cond.methodLink RX7 373 Lib.MathLoose.min_long.x ∈ rhT ∧ Cond.static Lib.MathLoose.min_long.x ∈ rhT ∧ Cond.initialized "java/lang/Math" ∈ rhT ∧ Cond.code Lib.MathLoose.min_long.x Lib.MathLoose.min_long.code 4 (some .long) ∈ rhT := ⟨rhT_in 717 (by decide +kernel) rfl, rhT_in 718 (by decide +kernel) rfl, rhT_in 91 (by decide +kernel) rfl, rhT_in 719 (by decide +kernel) rfl⟩
theorem mm_X8_157 : Cond.methodLink RX8 157 Lib.Math.max.name ∈ rhT ∧ Cond.static Lib.Math.max.name ∈ rhT ∧ Cond.initialized "java/lang/Math" ∈ rhT ∧ Cond.code Lib.Math.max.name Lib.Math.max.code 2 (some .int) ∈ rhT := ⟨rhT_in 1382 (by decide +kernel) rfl, rhT_in 649 (by decide +kernel) rfl, rhT_in 91 (by decide +kernel) rfl, rhT_in 650 (by decide +kernel) rfl⟩
theorem mm_X8_261 : Cond.methodLink RX8 261 Lib.MathLoose.min_long.x ∈ rhT ∧ Cond.static Lib.MathLoose.min_long.x ∈ rhT ∧ Cond.initialized "java/lang/Math" ∈ rhT ∧ Cond.code Lib.MathLoose.min_long.x Lib.MathLoose.min_long.code 4 (some .long) ∈ rhT := ⟨rhT_in 1465 (by decide +kernel) rfl, rhT_in 718 (by decide +kernel) rfl, rhT_in 91 (by decide +kernel) rfl, rhT_in 719 (by decide +kernel) rfl⟩
theorem mm_X8_265 : Cond.methodLink RX8 265 Lib.MathLoose.max_long.x ∈ rhT ∧ Cond.static Lib.MathLoose.max_long.x ∈ rhT ∧ Cond.initialized "java/lang/Math" ∈ rhT ∧ Cond.code Lib.MathLoose.max_long.x Lib.MathLoose.max_long.code 4 (some .long) ∈ rhT := ⟨rhT_in 1466 (by decide +kernel) rfl, rhT_in 535 (by decide +kernel) rfl, rhT_in 91 (by decide +kernel) rfl, rhT_in 536 (by decide +kernel) rfl⟩
/-- a row of n numbers is what it holds below n -/
theorem rh_arrV {c : ClassId} {n : Nat} {f g : Nat → Value} (h : ∀ j, j < n → f j = g j) : arrV c n f = arrV c n g := by
  have e : (arrV c n f).slots = (arrV c n g).slots := by
    apply Array.ext_getElem?
    intro j
    by_cases hj : j < n
    · rw [arrV_read _ _ hj, arrV_read _ _ hj, h j hj]
    · rw [Array.getElem?_eq_none (by rw [arrV_size]; omega), Array.getElem?_eq_none (by rw [arrV_size]; omega)]
  have e1 : (arrV c n f).cls = (arrV c n g).cls := rfl
  have e2 : (arrV c n f).vm = (arrV c n g).vm := rfl
  have e3 : (arrV c n f).monitor = (arrV c n g).monitor := rfl
  have e4 : (arrV c n f).hash = (arrV c n g).hash := rfl
  cases hf : arrV c n f
  cases hg : arrV c n g
  rw [hf, hg] at e e1 e2 e3 e4
  simp only at e e1 e2 e3 e4
  rw [e, e1, e2, e3, e4]
theorem rh_extP {D : va_G} {ws : va_W} {H : Heap} {q a n : Nat} {c : ClassId} {f g : Nat → Int64} (hq : ws[q]? = some (a, .inl (c, n, .inr (.inl f)))) (h : ∀ j, j < n → g j = f j) (hP : va_P D vwCl ws H) : va_P D vwCl (ws.set q (a, .inl (c, n, .inr (.inl g)))) H := by
  intro k x hk
  by_cases e : k = q
  · subst e
    have hlt := (List.getElem?_eq_some_iff.mp hq).1
    rw [List.getElem?_set_self hlt] at hk
    cases hk
    have h1 := hP k _ hq
    show H[a]? = some (arrV c n (fun j => .long (g j)))
    rw [rh_arrV (g := fun j => .long (f j)) (fun j hj => by rw [h j hj])]
    exact h1
  · rw [List.getElem?_set_ne (Ne.symm e)] at hk
    exact hP k x hk
theorem rh_extPI {D : va_G} {ws : va_W} {H : Heap} {q a n : Nat} {c : ClassId} {f g : Nat → Int32} (hq : ws[q]? = some (a, .inl (c, n, .inl f))) (h : ∀ j, j < n → g j = f j) (hP : va_P D vwCl ws H) : va_P D vwCl (ws.set q (a, .inl (c, n, .inl g))) H := by
  intro k x hk
  by_cases e : k = q
  · subst e
    have hlt := (List.getElem?_eq_some_iff.mp hq).1
    rw [List.getElem?_set_self hlt] at hk
    cases hk
    have h1 := hP k _ hq
    show H[a]? = some (arrV c n (fun j => .int (g j)))
    rw [rh_arrV (g := fun j => .int (f j)) (fun j hj => by rw [h j hj])]
    exact h1
  · rw [List.getElem?_set_ne (Ne.symm e)] at hk
    exact hP k x hk
section RH3
variable {X : rhX} {E : rhE} {own : String} {cc : ByteArray} {R : Room} {nL pc : Nat} {lv : List (Option Value)} {st : List Value} {ws : va_W}
theorem rh_ext {ws' : va_W} {q a n : Nat} {c : ClassId} {f g : Nat → Int64} (hq : ws[q]? = some (a, .inl (c, n, .inr (.inl f)))) (h : ∀ j, j < n → g j = f j) (hw : ws.set q (a, .inl (c, n, .inr (.inl g))) = ws') (k : G X pc lv st ws') : G X pc lv st ws := by
  obtain ⟨p, l, e, R0, s, m, args, below, meth, c, E0, A, Q, kc, ns, nL0⟩ := X
  subst hw
  exact fun H locs ls hP hD hS hl => k H locs ls (rh_extP hq h hP) (hD.set hq) hS hl
theorem rh_extI {ws' : va_W} {q a n : Nat} {c : ClassId} {f g : Nat → Int32} (hq : ws[q]? = some (a, .inl (c, n, .inl f))) (h : ∀ j, j < n → g j = f j) (hw : ws.set q (a, .inl (c, n, .inl g)) = ws') (k : G X pc lv st ws') : G X pc lv st ws := by
  obtain ⟨p, l, e, R0, s, m, args, below, meth, c, E0, A, Q, kc, ns, nL0⟩ := X
  subst hw
  exact fun H locs ls hP hD hS hl => k H locs ls (rh_extPI hq h hP) (hD.set hq) hS hl
/-- a whole row copied: it holds what the other holds -/
theorem rh_copyw (hX : Ok X E own cc R nL) {idx a0 a n : Nat} {f g : Nat → Int64} {N : Int32} {ws' : va_W} (hM : Cond.methodLink own idx arraycopyName ∈ rhT ∧ Cond.native arraycopyName ∈ rhT ∧ Cond.static arraycopyName ∈ rhT ∧ Cond.initialized "java/lang/System" ∈ rhT) (q0 q1 : Nat) (d : decode cc pc = .ok (.invokestatic idx, 3)) (ha0 : ws[q0]? = some (a0, .inl (E.2.1 1, n, .inr (.inl f)))) (ha1 : ws[q1]? = some (a, .inl (E.2.1 1, n, .inr (.inl g)))) (hN : N = nI n) (hn : n < 2 ^ 31) (hf : 1 ≤ R.frames) (hlo : (st.map fun v => v.category).sum + (nativeFrameWords "java/lang/System" "arraycopy" 5 + 11) ≤ R.locals) (hw : ws.set q1 (a, .inl (E.2.1 1, n, .inr (.inl f))) = ws') (k : G X (pc + 3) lv st ws') : G X pc lv (.int N :: .int 0 :: .ref a :: .int 0 :: .ref a0 :: st) ws := by
  refine rh_copyl hX hM q0 q1 n d ha0 ha1 hN hn (Nat.le_refl _) (Nat.le_refl _) hf hlo rfl ?_
  have hlt := (List.getElem?_eq_some_iff.mp ha1).1
  refine rh_ext (q := q1) (a := a) (n := n) (c := E.2.1 1) (f := fun k => if k < n then f k else g k) (g := f) (by rw [List.getElem?_set_self hlt]) (fun j hj => by simp [hj]) ?_ k
  rw [List.set_set]
  exact hw
end RH3
