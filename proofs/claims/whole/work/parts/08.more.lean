section RH2
variable {X : rhX} {E : rhE} {own : String} {cc : ByteArray} {R : Room} {nL pc : Nat} {lv : List (Option Value)} {st : List Value} {ws : va_W}
theorem rh_hp {lv : List (Option Value)} {n : Nat} {a : Option Value} (h0 : lv[n]? = some a) (ha : rhNl a = true) : ∀ i u, i + 1 = n + 1 → lv[i]? = some (some u) → (u.category == 2) = false := by
  intro i u e h
  have hi : i = n := by omega
  subst hi
  rw [h0] at h
  cases h
  rcases lv_cat u with h1 | h1
  · rw [h1]; rfl
  · simp [rhNl, h1] at ha
theorem rh_hp0 {lv : List (Option Value)} : ∀ i u, i + 1 = 0 → lv[i]? = some (some u) → (u.category == 2) = false := fun i u e _ => absurd e (by omega)
theorem rh_ist0 (hX : Ok X E own cc R nL) {a0 : Option Value} {t : List (Option Value)} {x : Int32} (d : decode cc pc = .ok (.istore 0, 2)) (hn : 0 < nL)  (k : G X (pc + 2) (some (.int x) :: t) st ws) : G X pc (a0 :: t) (.int x :: st) ws := rh_istore hX d hn rh_hp0 rfl k
theorem rh_istn0 (hX : Ok X E own cc R nL) {a0 : Option Value} {t : List (Option Value)} {x : Int32} (d : decode cc pc = .ok (.istore_n 0, 1)) (hn : 0 < nL)  (k : G X (pc + 1) (some (.int x) :: t) st ws) : G X pc (a0 :: t) (.int x :: st) ws := rh_istore_n hX d hn rh_hp0 rfl k
theorem rh_astn0 (hX : Ok X E own cc R nL) {a0 : Option Value} {t : List (Option Value)} {x : Nat} (d : decode cc pc = .ok (.astore_n 0, 1)) (hn : 0 < nL)  (k : G X (pc + 1) (some (.ref x) :: t) st ws) : G X pc (a0 :: t) (.ref x :: st) ws := rh_astore_n hX d hn rh_hp0 rfl k
theorem rh_lst0 (hX : Ok X E own cc R nL) {a0 a1 : Option Value} {t : List (Option Value)} {x : Int64} (d : decode cc pc = .ok (.lstore 0, 2)) (hn : 0 + 1 < nL)  (k : G X (pc + 2) (some (.long x) :: none :: t) st ws) : G X pc (a0 :: a1 :: t) (.long x :: st) ws := rh_lstore hX d hn rh_hp0 rfl k
theorem rh_lstn0 (hX : Ok X E own cc R nL) {a0 a1 : Option Value} {t : List (Option Value)} {x : Int64} (d : decode cc pc = .ok (.lstore_n 0, 1)) (hn : 0 + 1 < nL)  (k : G X (pc + 1) (some (.long x) :: none :: t) st ws) : G X pc (a0 :: a1 :: t) (.long x :: st) ws := rh_lstore_n hX d hn rh_hp0 rfl k
theorem rh_inc0 (hX : Ok X E own cc R nL) {t : List (Option Value)} {x : Int32} {n : Int} {v : Int32} (d : decode cc pc = .ok (.iinc 0 n, 3)) (hn : 0 < nL)  (hx : x + Int32.ofInt n = v) (k : G X (pc + 3) (some (.int v) :: t) st ws) : G X pc (some (.int x) :: t) st ws := rh_iinc hX d rfl hn rh_hp0 hx rfl k
theorem rh_ist1 (hX : Ok X E own cc R nL) {a0 a1 : Option Value} {t : List (Option Value)} {x : Int32} (d : decode cc pc = .ok (.istore 1, 2)) (hn : 1 < nL) (ha : rhNl a0 = true) (k : G X (pc + 2) (a0 :: some (.int x) :: t) st ws) : G X pc (a0 :: a1 :: t) (.int x :: st) ws := rh_istore hX d hn (rh_hp rfl ha) rfl k
theorem rh_istn1 (hX : Ok X E own cc R nL) {a0 a1 : Option Value} {t : List (Option Value)} {x : Int32} (d : decode cc pc = .ok (.istore_n 1, 1)) (hn : 1 < nL) (ha : rhNl a0 = true) (k : G X (pc + 1) (a0 :: some (.int x) :: t) st ws) : G X pc (a0 :: a1 :: t) (.int x :: st) ws := rh_istore_n hX d hn (rh_hp rfl ha) rfl k
theorem rh_astn1 (hX : Ok X E own cc R nL) {a0 a1 : Option Value} {t : List (Option Value)} {x : Nat} (d : decode cc pc = .ok (.astore_n 1, 1)) (hn : 1 < nL) (ha : rhNl a0 = true) (k : G X (pc + 1) (a0 :: some (.ref x) :: t) st ws) : G X pc (a0 :: a1 :: t) (.ref x :: st) ws := rh_astore_n hX d hn (rh_hp rfl ha) rfl k
theorem rh_lst1 (hX : Ok X E own cc R nL) {a0 a1 a2 : Option Value} {t : List (Option Value)} {x : Int64} (d : decode cc pc = .ok (.lstore 1, 2)) (hn : 1 + 1 < nL) (ha : rhNl a0 = true) (k : G X (pc + 2) (a0 :: some (.long x) :: none :: t) st ws) : G X pc (a0 :: a1 :: a2 :: t) (.long x :: st) ws := rh_lstore hX d hn (rh_hp rfl ha) rfl k
theorem rh_lstn1 (hX : Ok X E own cc R nL) {a0 a1 a2 : Option Value} {t : List (Option Value)} {x : Int64} (d : decode cc pc = .ok (.lstore_n 1, 1)) (hn : 1 + 1 < nL) (ha : rhNl a0 = true) (k : G X (pc + 1) (a0 :: some (.long x) :: none :: t) st ws) : G X pc (a0 :: a1 :: a2 :: t) (.long x :: st) ws := rh_lstore_n hX d hn (rh_hp rfl ha) rfl k
theorem rh_inc1 (hX : Ok X E own cc R nL) {a0 : Option Value} {t : List (Option Value)} {x : Int32} {n : Int} {v : Int32} (d : decode cc pc = .ok (.iinc 1 n, 3)) (hn : 1 < nL) (ha : rhNl a0 = true) (hx : x + Int32.ofInt n = v) (k : G X (pc + 3) (a0 :: some (.int v) :: t) st ws) : G X pc (a0 :: some (.int x) :: t) st ws := rh_iinc hX d rfl hn (rh_hp rfl ha) hx rfl k
theorem rh_ist2 (hX : Ok X E own cc R nL) {a0 a1 a2 : Option Value} {t : List (Option Value)} {x : Int32} (d : decode cc pc = .ok (.istore 2, 2)) (hn : 2 < nL) (ha : rhNl a1 = true) (k : G X (pc + 2) (a0 :: a1 :: some (.int x) :: t) st ws) : G X pc (a0 :: a1 :: a2 :: t) (.int x :: st) ws := rh_istore hX d hn (rh_hp rfl ha) rfl k
theorem rh_istn2 (hX : Ok X E own cc R nL) {a0 a1 a2 : Option Value} {t : List (Option Value)} {x : Int32} (d : decode cc pc = .ok (.istore_n 2, 1)) (hn : 2 < nL) (ha : rhNl a1 = true) (k : G X (pc + 1) (a0 :: a1 :: some (.int x) :: t) st ws) : G X pc (a0 :: a1 :: a2 :: t) (.int x :: st) ws := rh_istore_n hX d hn (rh_hp rfl ha) rfl k
theorem rh_astn2 (hX : Ok X E own cc R nL) {a0 a1 a2 : Option Value} {t : List (Option Value)} {x : Nat} (d : decode cc pc = .ok (.astore_n 2, 1)) (hn : 2 < nL) (ha : rhNl a1 = true) (k : G X (pc + 1) (a0 :: a1 :: some (.ref x) :: t) st ws) : G X pc (a0 :: a1 :: a2 :: t) (.ref x :: st) ws := rh_astore_n hX d hn (rh_hp rfl ha) rfl k
theorem rh_lst2 (hX : Ok X E own cc R nL) {a0 a1 a2 a3 : Option Value} {t : List (Option Value)} {x : Int64} (d : decode cc pc = .ok (.lstore 2, 2)) (hn : 2 + 1 < nL) (ha : rhNl a1 = true) (k : G X (pc + 2) (a0 :: a1 :: some (.long x) :: none :: t) st ws) : G X pc (a0 :: a1 :: a2 :: a3 :: t) (.long x :: st) ws := rh_lstore hX d hn (rh_hp rfl ha) rfl k
theorem rh_lstn2 (hX : Ok X E own cc R nL) {a0 a1 a2 a3 : Option Value} {t : List (Option Value)} {x : Int64} (d : decode cc pc = .ok (.lstore_n 2, 1)) (hn : 2 + 1 < nL) (ha : rhNl a1 = true) (k : G X (pc + 1) (a0 :: a1 :: some (.long x) :: none :: t) st ws) : G X pc (a0 :: a1 :: a2 :: a3 :: t) (.long x :: st) ws := rh_lstore_n hX d hn (rh_hp rfl ha) rfl k
theorem rh_inc2 (hX : Ok X E own cc R nL) {a0 a1 : Option Value} {t : List (Option Value)} {x : Int32} {n : Int} {v : Int32} (d : decode cc pc = .ok (.iinc 2 n, 3)) (hn : 2 < nL) (ha : rhNl a1 = true) (hx : x + Int32.ofInt n = v) (k : G X (pc + 3) (a0 :: a1 :: some (.int v) :: t) st ws) : G X pc (a0 :: a1 :: some (.int x) :: t) st ws := rh_iinc hX d rfl hn (rh_hp rfl ha) hx rfl k
theorem rh_ist3 (hX : Ok X E own cc R nL) {a0 a1 a2 a3 : Option Value} {t : List (Option Value)} {x : Int32} (d : decode cc pc = .ok (.istore 3, 2)) (hn : 3 < nL) (ha : rhNl a2 = true) (k : G X (pc + 2) (a0 :: a1 :: a2 :: some (.int x) :: t) st ws) : G X pc (a0 :: a1 :: a2 :: a3 :: t) (.int x :: st) ws := rh_istore hX d hn (rh_hp rfl ha) rfl k
theorem rh_istn3 (hX : Ok X E own cc R nL) {a0 a1 a2 a3 : Option Value} {t : List (Option Value)} {x : Int32} (d : decode cc pc = .ok (.istore_n 3, 1)) (hn : 3 < nL) (ha : rhNl a2 = true) (k : G X (pc + 1) (a0 :: a1 :: a2 :: some (.int x) :: t) st ws) : G X pc (a0 :: a1 :: a2 :: a3 :: t) (.int x :: st) ws := rh_istore_n hX d hn (rh_hp rfl ha) rfl k
theorem rh_astn3 (hX : Ok X E own cc R nL) {a0 a1 a2 a3 : Option Value} {t : List (Option Value)} {x : Nat} (d : decode cc pc = .ok (.astore_n 3, 1)) (hn : 3 < nL) (ha : rhNl a2 = true) (k : G X (pc + 1) (a0 :: a1 :: a2 :: some (.ref x) :: t) st ws) : G X pc (a0 :: a1 :: a2 :: a3 :: t) (.ref x :: st) ws := rh_astore_n hX d hn (rh_hp rfl ha) rfl k
theorem rh_lst3 (hX : Ok X E own cc R nL) {a0 a1 a2 a3 a4 : Option Value} {t : List (Option Value)} {x : Int64} (d : decode cc pc = .ok (.lstore 3, 2)) (hn : 3 + 1 < nL) (ha : rhNl a2 = true) (k : G X (pc + 2) (a0 :: a1 :: a2 :: some (.long x) :: none :: t) st ws) : G X pc (a0 :: a1 :: a2 :: a3 :: a4 :: t) (.long x :: st) ws := rh_lstore hX d hn (rh_hp rfl ha) rfl k
theorem rh_lstn3 (hX : Ok X E own cc R nL) {a0 a1 a2 a3 a4 : Option Value} {t : List (Option Value)} {x : Int64} (d : decode cc pc = .ok (.lstore_n 3, 1)) (hn : 3 + 1 < nL) (ha : rhNl a2 = true) (k : G X (pc + 1) (a0 :: a1 :: a2 :: some (.long x) :: none :: t) st ws) : G X pc (a0 :: a1 :: a2 :: a3 :: a4 :: t) (.long x :: st) ws := rh_lstore_n hX d hn (rh_hp rfl ha) rfl k
theorem rh_inc3 (hX : Ok X E own cc R nL) {a0 a1 a2 : Option Value} {t : List (Option Value)} {x : Int32} {n : Int} {v : Int32} (d : decode cc pc = .ok (.iinc 3 n, 3)) (hn : 3 < nL) (ha : rhNl a2 = true) (hx : x + Int32.ofInt n = v) (k : G X (pc + 3) (a0 :: a1 :: a2 :: some (.int v) :: t) st ws) : G X pc (a0 :: a1 :: a2 :: some (.int x) :: t) st ws := rh_iinc hX d rfl hn (rh_hp rfl ha) hx rfl k
theorem rh_ist4 (hX : Ok X E own cc R nL) {a0 a1 a2 a3 a4 : Option Value} {t : List (Option Value)} {x : Int32} (d : decode cc pc = .ok (.istore 4, 2)) (hn : 4 < nL) (ha : rhNl a3 = true) (k : G X (pc + 2) (a0 :: a1 :: a2 :: a3 :: some (.int x) :: t) st ws) : G X pc (a0 :: a1 :: a2 :: a3 :: a4 :: t) (.int x :: st) ws := rh_istore hX d hn (rh_hp rfl ha) rfl k
theorem rh_lst4 (hX : Ok X E own cc R nL) {a0 a1 a2 a3 a4 a5 : Option Value} {t : List (Option Value)} {x : Int64} (d : decode cc pc = .ok (.lstore 4, 2)) (hn : 4 + 1 < nL) (ha : rhNl a3 = true) (k : G X (pc + 2) (a0 :: a1 :: a2 :: a3 :: some (.long x) :: none :: t) st ws) : G X pc (a0 :: a1 :: a2 :: a3 :: a4 :: a5 :: t) (.long x :: st) ws := rh_lstore hX d hn (rh_hp rfl ha) rfl k
theorem rh_inc4 (hX : Ok X E own cc R nL) {a0 a1 a2 a3 : Option Value} {t : List (Option Value)} {x : Int32} {n : Int} {v : Int32} (d : decode cc pc = .ok (.iinc 4 n, 3)) (hn : 4 < nL) (ha : rhNl a3 = true) (hx : x + Int32.ofInt n = v) (k : G X (pc + 3) (a0 :: a1 :: a2 :: a3 :: some (.int v) :: t) st ws) : G X pc (a0 :: a1 :: a2 :: a3 :: some (.int x) :: t) st ws := rh_iinc hX d rfl hn (rh_hp rfl ha) hx rfl k
theorem rh_ist5 (hX : Ok X E own cc R nL) {a0 a1 a2 a3 a4 a5 : Option Value} {t : List (Option Value)} {x : Int32} (d : decode cc pc = .ok (.istore 5, 2)) (hn : 5 < nL) (ha : rhNl a4 = true) (k : G X (pc + 2) (a0 :: a1 :: a2 :: a3 :: a4 :: some (.int x) :: t) st ws) : G X pc (a0 :: a1 :: a2 :: a3 :: a4 :: a5 :: t) (.int x :: st) ws := rh_istore hX d hn (rh_hp rfl ha) rfl k
theorem rh_lst5 (hX : Ok X E own cc R nL) {a0 a1 a2 a3 a4 a5 a6 : Option Value} {t : List (Option Value)} {x : Int64} (d : decode cc pc = .ok (.lstore 5, 2)) (hn : 5 + 1 < nL) (ha : rhNl a4 = true) (k : G X (pc + 2) (a0 :: a1 :: a2 :: a3 :: a4 :: some (.long x) :: none :: t) st ws) : G X pc (a0 :: a1 :: a2 :: a3 :: a4 :: a5 :: a6 :: t) (.long x :: st) ws := rh_lstore hX d hn (rh_hp rfl ha) rfl k
theorem rh_inc5 (hX : Ok X E own cc R nL) {a0 a1 a2 a3 a4 : Option Value} {t : List (Option Value)} {x : Int32} {n : Int} {v : Int32} (d : decode cc pc = .ok (.iinc 5 n, 3)) (hn : 5 < nL) (ha : rhNl a4 = true) (hx : x + Int32.ofInt n = v) (k : G X (pc + 3) (a0 :: a1 :: a2 :: a3 :: a4 :: some (.int v) :: t) st ws) : G X pc (a0 :: a1 :: a2 :: a3 :: a4 :: some (.int x) :: t) st ws := rh_iinc hX d rfl hn (rh_hp rfl ha) hx rfl k
theorem rh_ist6 (hX : Ok X E own cc R nL) {a0 a1 a2 a3 a4 a5 a6 : Option Value} {t : List (Option Value)} {x : Int32} (d : decode cc pc = .ok (.istore 6, 2)) (hn : 6 < nL) (ha : rhNl a5 = true) (k : G X (pc + 2) (a0 :: a1 :: a2 :: a3 :: a4 :: a5 :: some (.int x) :: t) st ws) : G X pc (a0 :: a1 :: a2 :: a3 :: a4 :: a5 :: a6 :: t) (.int x :: st) ws := rh_istore hX d hn (rh_hp rfl ha) rfl k
theorem rh_lst6 (hX : Ok X E own cc R nL) {a0 a1 a2 a3 a4 a5 a6 a7 : Option Value} {t : List (Option Value)} {x : Int64} (d : decode cc pc = .ok (.lstore 6, 2)) (hn : 6 + 1 < nL) (ha : rhNl a5 = true) (k : G X (pc + 2) (a0 :: a1 :: a2 :: a3 :: a4 :: a5 :: some (.long x) :: none :: t) st ws) : G X pc (a0 :: a1 :: a2 :: a3 :: a4 :: a5 :: a6 :: a7 :: t) (.long x :: st) ws := rh_lstore hX d hn (rh_hp rfl ha) rfl k
theorem rh_inc6 (hX : Ok X E own cc R nL) {a0 a1 a2 a3 a4 a5 : Option Value} {t : List (Option Value)} {x : Int32} {n : Int} {v : Int32} (d : decode cc pc = .ok (.iinc 6 n, 3)) (hn : 6 < nL) (ha : rhNl a5 = true) (hx : x + Int32.ofInt n = v) (k : G X (pc + 3) (a0 :: a1 :: a2 :: a3 :: a4 :: a5 :: some (.int v) :: t) st ws) : G X pc (a0 :: a1 :: a2 :: a3 :: a4 :: a5 :: some (.int x) :: t) st ws := rh_iinc hX d rfl hn (rh_hp rfl ha) hx rfl k
theorem rh_ist7 (hX : Ok X E own cc R nL) {a0 a1 a2 a3 a4 a5 a6 a7 : Option Value} {t : List (Option Value)} {x : Int32} (d : decode cc pc = .ok (.istore 7, 2)) (hn : 7 < nL) (ha : rhNl a6 = true) (k : G X (pc + 2) (a0 :: a1 :: a2 :: a3 :: a4 :: a5 :: a6 :: some (.int x) :: t) st ws) : G X pc (a0 :: a1 :: a2 :: a3 :: a4 :: a5 :: a6 :: a7 :: t) (.int x :: st) ws := rh_istore hX d hn (rh_hp rfl ha) rfl k
theorem rh_lst7 (hX : Ok X E own cc R nL) {a0 a1 a2 a3 a4 a5 a6 a7 a8 : Option Value} {t : List (Option Value)} {x : Int64} (d : decode cc pc = .ok (.lstore 7, 2)) (hn : 7 + 1 < nL) (ha : rhNl a6 = true) (k : G X (pc + 2) (a0 :: a1 :: a2 :: a3 :: a4 :: a5 :: a6 :: some (.long x) :: none :: t) st ws) : G X pc (a0 :: a1 :: a2 :: a3 :: a4 :: a5 :: a6 :: a7 :: a8 :: t) (.long x :: st) ws := rh_lstore hX d hn (rh_hp rfl ha) rfl k
theorem rh_inc7 (hX : Ok X E own cc R nL) {a0 a1 a2 a3 a4 a5 a6 : Option Value} {t : List (Option Value)} {x : Int32} {n : Int} {v : Int32} (d : decode cc pc = .ok (.iinc 7 n, 3)) (hn : 7 < nL) (ha : rhNl a6 = true) (hx : x + Int32.ofInt n = v) (k : G X (pc + 3) (a0 :: a1 :: a2 :: a3 :: a4 :: a5 :: a6 :: some (.int v) :: t) st ws) : G X pc (a0 :: a1 :: a2 :: a3 :: a4 :: a5 :: a6 :: some (.int x) :: t) st ws := rh_iinc hX d rfl hn (rh_hp rfl ha) hx rfl k
theorem rh_ist8 (hX : Ok X E own cc R nL) {a0 a1 a2 a3 a4 a5 a6 a7 a8 : Option Value} {t : List (Option Value)} {x : Int32} (d : decode cc pc = .ok (.istore 8, 2)) (hn : 8 < nL) (ha : rhNl a7 = true) (k : G X (pc + 2) (a0 :: a1 :: a2 :: a3 :: a4 :: a5 :: a6 :: a7 :: some (.int x) :: t) st ws) : G X pc (a0 :: a1 :: a2 :: a3 :: a4 :: a5 :: a6 :: a7 :: a8 :: t) (.int x :: st) ws := rh_istore hX d hn (rh_hp rfl ha) rfl k
theorem rh_lst8 (hX : Ok X E own cc R nL) {a0 a1 a2 a3 a4 a5 a6 a7 a8 a9 : Option Value} {t : List (Option Value)} {x : Int64} (d : decode cc pc = .ok (.lstore 8, 2)) (hn : 8 + 1 < nL) (ha : rhNl a7 = true) (k : G X (pc + 2) (a0 :: a1 :: a2 :: a3 :: a4 :: a5 :: a6 :: a7 :: some (.long x) :: none :: t) st ws) : G X pc (a0 :: a1 :: a2 :: a3 :: a4 :: a5 :: a6 :: a7 :: a8 :: a9 :: t) (.long x :: st) ws := rh_lstore hX d hn (rh_hp rfl ha) rfl k
theorem rh_inc8 (hX : Ok X E own cc R nL) {a0 a1 a2 a3 a4 a5 a6 a7 : Option Value} {t : List (Option Value)} {x : Int32} {n : Int} {v : Int32} (d : decode cc pc = .ok (.iinc 8 n, 3)) (hn : 8 < nL) (ha : rhNl a7 = true) (hx : x + Int32.ofInt n = v) (k : G X (pc + 3) (a0 :: a1 :: a2 :: a3 :: a4 :: a5 :: a6 :: a7 :: some (.int v) :: t) st ws) : G X pc (a0 :: a1 :: a2 :: a3 :: a4 :: a5 :: a6 :: a7 :: some (.int x) :: t) st ws := rh_iinc hX d rfl hn (rh_hp rfl ha) hx rfl k
theorem rh_ist9 (hX : Ok X E own cc R nL) {a0 a1 a2 a3 a4 a5 a6 a7 a8 a9 : Option Value} {t : List (Option Value)} {x : Int32} (d : decode cc pc = .ok (.istore 9, 2)) (hn : 9 < nL) (ha : rhNl a8 = true) (k : G X (pc + 2) (a0 :: a1 :: a2 :: a3 :: a4 :: a5 :: a6 :: a7 :: a8 :: some (.int x) :: t) st ws) : G X pc (a0 :: a1 :: a2 :: a3 :: a4 :: a5 :: a6 :: a7 :: a8 :: a9 :: t) (.int x :: st) ws := rh_istore hX d hn (rh_hp rfl ha) rfl k
theorem rh_lst9 (hX : Ok X E own cc R nL) {a0 a1 a2 a3 a4 a5 a6 a7 a8 a9 a10 : Option Value} {t : List (Option Value)} {x : Int64} (d : decode cc pc = .ok (.lstore 9, 2)) (hn : 9 + 1 < nL) (ha : rhNl a8 = true) (k : G X (pc + 2) (a0 :: a1 :: a2 :: a3 :: a4 :: a5 :: a6 :: a7 :: a8 :: some (.long x) :: none :: t) st ws) : G X pc (a0 :: a1 :: a2 :: a3 :: a4 :: a5 :: a6 :: a7 :: a8 :: a9 :: a10 :: t) (.long x :: st) ws := rh_lstore hX d hn (rh_hp rfl ha) rfl k
theorem rh_inc9 (hX : Ok X E own cc R nL) {a0 a1 a2 a3 a4 a5 a6 a7 a8 : Option Value} {t : List (Option Value)} {x : Int32} {n : Int} {v : Int32} (d : decode cc pc = .ok (.iinc 9 n, 3)) (hn : 9 < nL) (ha : rhNl a8 = true) (hx : x + Int32.ofInt n = v) (k : G X (pc + 3) (a0 :: a1 :: a2 :: a3 :: a4 :: a5 :: a6 :: a7 :: a8 :: some (.int v) :: t) st ws) : G X pc (a0 :: a1 :: a2 :: a3 :: a4 :: a5 :: a6 :: a7 :: a8 :: some (.int x) :: t) st ws := rh_iinc hX d rfl hn (rh_hp rfl ha) hx rfl k
theorem rh_ist10 (hX : Ok X E own cc R nL) {a0 a1 a2 a3 a4 a5 a6 a7 a8 a9 a10 : Option Value} {t : List (Option Value)} {x : Int32} (d : decode cc pc = .ok (.istore 10, 2)) (hn : 10 < nL) (ha : rhNl a9 = true) (k : G X (pc + 2) (a0 :: a1 :: a2 :: a3 :: a4 :: a5 :: a6 :: a7 :: a8 :: a9 :: some (.int x) :: t) st ws) : G X pc (a0 :: a1 :: a2 :: a3 :: a4 :: a5 :: a6 :: a7 :: a8 :: a9 :: a10 :: t) (.int x :: st) ws := rh_istore hX d hn (rh_hp rfl ha) rfl k
theorem rh_lst10 (hX : Ok X E own cc R nL) {a0 a1 a2 a3 a4 a5 a6 a7 a8 a9 a10 a11 : Option Value} {t : List (Option Value)} {x : Int64} (d : decode cc pc = .ok (.lstore 10, 2)) (hn : 10 + 1 < nL) (ha : rhNl a9 = true) (k : G X (pc + 2) (a0 :: a1 :: a2 :: a3 :: a4 :: a5 :: a6 :: a7 :: a8 :: a9 :: some (.long x) :: none :: t) st ws) : G X pc (a0 :: a1 :: a2 :: a3 :: a4 :: a5 :: a6 :: a7 :: a8 :: a9 :: a10 :: a11 :: t) (.long x :: st) ws := rh_lstore hX d hn (rh_hp rfl ha) rfl k
theorem rh_inc10 (hX : Ok X E own cc R nL) {a0 a1 a2 a3 a4 a5 a6 a7 a8 a9 : Option Value} {t : List (Option Value)} {x : Int32} {n : Int} {v : Int32} (d : decode cc pc = .ok (.iinc 10 n, 3)) (hn : 10 < nL) (ha : rhNl a9 = true) (hx : x + Int32.ofInt n = v) (k : G X (pc + 3) (a0 :: a1 :: a2 :: a3 :: a4 :: a5 :: a6 :: a7 :: a8 :: a9 :: some (.int v) :: t) st ws) : G X pc (a0 :: a1 :: a2 :: a3 :: a4 :: a5 :: a6 :: a7 :: a8 :: a9 :: some (.int x) :: t) st ws := rh_iinc hX d rfl hn (rh_hp rfl ha) hx rfl k
theorem rh_ist11 (hX : Ok X E own cc R nL) {a0 a1 a2 a3 a4 a5 a6 a7 a8 a9 a10 a11 : Option Value} {t : List (Option Value)} {x : Int32} (d : decode cc pc = .ok (.istore 11, 2)) (hn : 11 < nL) (ha : rhNl a10 = true) (k : G X (pc + 2) (a0 :: a1 :: a2 :: a3 :: a4 :: a5 :: a6 :: a7 :: a8 :: a9 :: a10 :: some (.int x) :: t) st ws) : G X pc (a0 :: a1 :: a2 :: a3 :: a4 :: a5 :: a6 :: a7 :: a8 :: a9 :: a10 :: a11 :: t) (.int x :: st) ws := rh_istore hX d hn (rh_hp rfl ha) rfl k
theorem rh_lst11 (hX : Ok X E own cc R nL) {a0 a1 a2 a3 a4 a5 a6 a7 a8 a9 a10 a11 a12 : Option Value} {t : List (Option Value)} {x : Int64} (d : decode cc pc = .ok (.lstore 11, 2)) (hn : 11 + 1 < nL) (ha : rhNl a10 = true) (k : G X (pc + 2) (a0 :: a1 :: a2 :: a3 :: a4 :: a5 :: a6 :: a7 :: a8 :: a9 :: a10 :: some (.long x) :: none :: t) st ws) : G X pc (a0 :: a1 :: a2 :: a3 :: a4 :: a5 :: a6 :: a7 :: a8 :: a9 :: a10 :: a11 :: a12 :: t) (.long x :: st) ws := rh_lstore hX d hn (rh_hp rfl ha) rfl k
theorem rh_inc11 (hX : Ok X E own cc R nL) {a0 a1 a2 a3 a4 a5 a6 a7 a8 a9 a10 : Option Value} {t : List (Option Value)} {x : Int32} {n : Int} {v : Int32} (d : decode cc pc = .ok (.iinc 11 n, 3)) (hn : 11 < nL) (ha : rhNl a10 = true) (hx : x + Int32.ofInt n = v) (k : G X (pc + 3) (a0 :: a1 :: a2 :: a3 :: a4 :: a5 :: a6 :: a7 :: a8 :: a9 :: a10 :: some (.int v) :: t) st ws) : G X pc (a0 :: a1 :: a2 :: a3 :: a4 :: a5 :: a6 :: a7 :: a8 :: a9 :: a10 :: some (.int x) :: t) st ws := rh_iinc hX d rfl hn (rh_hp rfl ha) hx rfl k
theorem rh_ist12 (hX : Ok X E own cc R nL) {a0 a1 a2 a3 a4 a5 a6 a7 a8 a9 a10 a11 a12 : Option Value} {t : List (Option Value)} {x : Int32} (d : decode cc pc = .ok (.istore 12, 2)) (hn : 12 < nL) (ha : rhNl a11 = true) (k : G X (pc + 2) (a0 :: a1 :: a2 :: a3 :: a4 :: a5 :: a6 :: a7 :: a8 :: a9 :: a10 :: a11 :: some (.int x) :: t) st ws) : G X pc (a0 :: a1 :: a2 :: a3 :: a4 :: a5 :: a6 :: a7 :: a8 :: a9 :: a10 :: a11 :: a12 :: t) (.int x :: st) ws := rh_istore hX d hn (rh_hp rfl ha) rfl k
theorem rh_lst12 (hX : Ok X E own cc R nL) {a0 a1 a2 a3 a4 a5 a6 a7 a8 a9 a10 a11 a12 a13 : Option Value} {t : List (Option Value)} {x : Int64} (d : decode cc pc = .ok (.lstore 12, 2)) (hn : 12 + 1 < nL) (ha : rhNl a11 = true) (k : G X (pc + 2) (a0 :: a1 :: a2 :: a3 :: a4 :: a5 :: a6 :: a7 :: a8 :: a9 :: a10 :: a11 :: some (.long x) :: none :: t) st ws) : G X pc (a0 :: a1 :: a2 :: a3 :: a4 :: a5 :: a6 :: a7 :: a8 :: a9 :: a10 :: a11 :: a12 :: a13 :: t) (.long x :: st) ws := rh_lstore hX d hn (rh_hp rfl ha) rfl k
theorem rh_inc12 (hX : Ok X E own cc R nL) {a0 a1 a2 a3 a4 a5 a6 a7 a8 a9 a10 a11 : Option Value} {t : List (Option Value)} {x : Int32} {n : Int} {v : Int32} (d : decode cc pc = .ok (.iinc 12 n, 3)) (hn : 12 < nL) (ha : rhNl a11 = true) (hx : x + Int32.ofInt n = v) (k : G X (pc + 3) (a0 :: a1 :: a2 :: a3 :: a4 :: a5 :: a6 :: a7 :: a8 :: a9 :: a10 :: a11 :: some (.int v) :: t) st ws) : G X pc (a0 :: a1 :: a2 :: a3 :: a4 :: a5 :: a6 :: a7 :: a8 :: a9 :: a10 :: a11 :: some (.int x) :: t) st ws := rh_iinc hX d rfl hn (rh_hp rfl ha) hx rfl k
theorem rh_ist13 (hX : Ok X E own cc R nL) {a0 a1 a2 a3 a4 a5 a6 a7 a8 a9 a10 a11 a12 a13 : Option Value} {t : List (Option Value)} {x : Int32} (d : decode cc pc = .ok (.istore 13, 2)) (hn : 13 < nL) (ha : rhNl a12 = true) (k : G X (pc + 2) (a0 :: a1 :: a2 :: a3 :: a4 :: a5 :: a6 :: a7 :: a8 :: a9 :: a10 :: a11 :: a12 :: some (.int x) :: t) st ws) : G X pc (a0 :: a1 :: a2 :: a3 :: a4 :: a5 :: a6 :: a7 :: a8 :: a9 :: a10 :: a11 :: a12 :: a13 :: t) (.int x :: st) ws := rh_istore hX d hn (rh_hp rfl ha) rfl k
theorem rh_lst13 (hX : Ok X E own cc R nL) {a0 a1 a2 a3 a4 a5 a6 a7 a8 a9 a10 a11 a12 a13 a14 : Option Value} {t : List (Option Value)} {x : Int64} (d : decode cc pc = .ok (.lstore 13, 2)) (hn : 13 + 1 < nL) (ha : rhNl a12 = true) (k : G X (pc + 2) (a0 :: a1 :: a2 :: a3 :: a4 :: a5 :: a6 :: a7 :: a8 :: a9 :: a10 :: a11 :: a12 :: some (.long x) :: none :: t) st ws) : G X pc (a0 :: a1 :: a2 :: a3 :: a4 :: a5 :: a6 :: a7 :: a8 :: a9 :: a10 :: a11 :: a12 :: a13 :: a14 :: t) (.long x :: st) ws := rh_lstore hX d hn (rh_hp rfl ha) rfl k
theorem rh_inc13 (hX : Ok X E own cc R nL) {a0 a1 a2 a3 a4 a5 a6 a7 a8 a9 a10 a11 a12 : Option Value} {t : List (Option Value)} {x : Int32} {n : Int} {v : Int32} (d : decode cc pc = .ok (.iinc 13 n, 3)) (hn : 13 < nL) (ha : rhNl a12 = true) (hx : x + Int32.ofInt n = v) (k : G X (pc + 3) (a0 :: a1 :: a2 :: a3 :: a4 :: a5 :: a6 :: a7 :: a8 :: a9 :: a10 :: a11 :: a12 :: some (.int v) :: t) st ws) : G X pc (a0 :: a1 :: a2 :: a3 :: a4 :: a5 :: a6 :: a7 :: a8 :: a9 :: a10 :: a11 :: a12 :: some (.int x) :: t) st ws := rh_iinc hX d rfl hn (rh_hp rfl ha) hx rfl k
theorem rh_ist14 (hX : Ok X E own cc R nL) {a0 a1 a2 a3 a4 a5 a6 a7 a8 a9 a10 a11 a12 a13 a14 : Option Value} {t : List (Option Value)} {x : Int32} (d : decode cc pc = .ok (.istore 14, 2)) (hn : 14 < nL) (ha : rhNl a13 = true) (k : G X (pc + 2) (a0 :: a1 :: a2 :: a3 :: a4 :: a5 :: a6 :: a7 :: a8 :: a9 :: a10 :: a11 :: a12 :: a13 :: some (.int x) :: t) st ws) : G X pc (a0 :: a1 :: a2 :: a3 :: a4 :: a5 :: a6 :: a7 :: a8 :: a9 :: a10 :: a11 :: a12 :: a13 :: a14 :: t) (.int x :: st) ws := rh_istore hX d hn (rh_hp rfl ha) rfl k
theorem rh_lst14 (hX : Ok X E own cc R nL) {a0 a1 a2 a3 a4 a5 a6 a7 a8 a9 a10 a11 a12 a13 a14 a15 : Option Value} {t : List (Option Value)} {x : Int64} (d : decode cc pc = .ok (.lstore 14, 2)) (hn : 14 + 1 < nL) (ha : rhNl a13 = true) (k : G X (pc + 2) (a0 :: a1 :: a2 :: a3 :: a4 :: a5 :: a6 :: a7 :: a8 :: a9 :: a10 :: a11 :: a12 :: a13 :: some (.long x) :: none :: t) st ws) : G X pc (a0 :: a1 :: a2 :: a3 :: a4 :: a5 :: a6 :: a7 :: a8 :: a9 :: a10 :: a11 :: a12 :: a13 :: a14 :: a15 :: t) (.long x :: st) ws := rh_lstore hX d hn (rh_hp rfl ha) rfl k
theorem rh_inc14 (hX : Ok X E own cc R nL) {a0 a1 a2 a3 a4 a5 a6 a7 a8 a9 a10 a11 a12 a13 : Option Value} {t : List (Option Value)} {x : Int32} {n : Int} {v : Int32} (d : decode cc pc = .ok (.iinc 14 n, 3)) (hn : 14 < nL) (ha : rhNl a13 = true) (hx : x + Int32.ofInt n = v) (k : G X (pc + 3) (a0 :: a1 :: a2 :: a3 :: a4 :: a5 :: a6 :: a7 :: a8 :: a9 :: a10 :: a11 :: a12 :: a13 :: some (.int v) :: t) st ws) : G X pc (a0 :: a1 :: a2 :: a3 :: a4 :: a5 :: a6 :: a7 :: a8 :: a9 :: a10 :: a11 :: a12 :: a13 :: some (.int x) :: t) st ws := rh_iinc hX d rfl hn (rh_hp rfl ha) hx rfl k
theorem rh_ist15 (hX : Ok X E own cc R nL) {a0 a1 a2 a3 a4 a5 a6 a7 a8 a9 a10 a11 a12 a13 a14 a15 : Option Value} {t : List (Option Value)} {x : Int32} (d : decode cc pc = .ok (.istore 15, 2)) (hn : 15 < nL) (ha : rhNl a14 = true) (k : G X (pc + 2) (a0 :: a1 :: a2 :: a3 :: a4 :: a5 :: a6 :: a7 :: a8 :: a9 :: a10 :: a11 :: a12 :: a13 :: a14 :: some (.int x) :: t) st ws) : G X pc (a0 :: a1 :: a2 :: a3 :: a4 :: a5 :: a6 :: a7 :: a8 :: a9 :: a10 :: a11 :: a12 :: a13 :: a14 :: a15 :: t) (.int x :: st) ws := rh_istore hX d hn (rh_hp rfl ha) rfl k
theorem rh_lst15 (hX : Ok X E own cc R nL) {a0 a1 a2 a3 a4 a5 a6 a7 a8 a9 a10 a11 a12 a13 a14 a15 a16 : Option Value} {t : List (Option Value)} {x : Int64} (d : decode cc pc = .ok (.lstore 15, 2)) (hn : 15 + 1 < nL) (ha : rhNl a14 = true) (k : G X (pc + 2) (a0 :: a1 :: a2 :: a3 :: a4 :: a5 :: a6 :: a7 :: a8 :: a9 :: a10 :: a11 :: a12 :: a13 :: a14 :: some (.long x) :: none :: t) st ws) : G X pc (a0 :: a1 :: a2 :: a3 :: a4 :: a5 :: a6 :: a7 :: a8 :: a9 :: a10 :: a11 :: a12 :: a13 :: a14 :: a15 :: a16 :: t) (.long x :: st) ws := rh_lstore hX d hn (rh_hp rfl ha) rfl k
theorem rh_inc15 (hX : Ok X E own cc R nL) {a0 a1 a2 a3 a4 a5 a6 a7 a8 a9 a10 a11 a12 a13 a14 : Option Value} {t : List (Option Value)} {x : Int32} {n : Int} {v : Int32} (d : decode cc pc = .ok (.iinc 15 n, 3)) (hn : 15 < nL) (ha : rhNl a14 = true) (hx : x + Int32.ofInt n = v) (k : G X (pc + 3) (a0 :: a1 :: a2 :: a3 :: a4 :: a5 :: a6 :: a7 :: a8 :: a9 :: a10 :: a11 :: a12 :: a13 :: a14 :: some (.int v) :: t) st ws) : G X pc (a0 :: a1 :: a2 :: a3 :: a4 :: a5 :: a6 :: a7 :: a8 :: a9 :: a10 :: a11 :: a12 :: a13 :: a14 :: some (.int x) :: t) st ws := rh_iinc hX d rfl hn (rh_hp rfl ha) hx rfl k
theorem rh_ist16 (hX : Ok X E own cc R nL) {a0 a1 a2 a3 a4 a5 a6 a7 a8 a9 a10 a11 a12 a13 a14 a15 a16 : Option Value} {t : List (Option Value)} {x : Int32} (d : decode cc pc = .ok (.istore 16, 2)) (hn : 16 < nL) (ha : rhNl a15 = true) (k : G X (pc + 2) (a0 :: a1 :: a2 :: a3 :: a4 :: a5 :: a6 :: a7 :: a8 :: a9 :: a10 :: a11 :: a12 :: a13 :: a14 :: a15 :: some (.int x) :: t) st ws) : G X pc (a0 :: a1 :: a2 :: a3 :: a4 :: a5 :: a6 :: a7 :: a8 :: a9 :: a10 :: a11 :: a12 :: a13 :: a14 :: a15 :: a16 :: t) (.int x :: st) ws := rh_istore hX d hn (rh_hp rfl ha) rfl k
theorem rh_lst16 (hX : Ok X E own cc R nL) {a0 a1 a2 a3 a4 a5 a6 a7 a8 a9 a10 a11 a12 a13 a14 a15 a16 a17 : Option Value} {t : List (Option Value)} {x : Int64} (d : decode cc pc = .ok (.lstore 16, 2)) (hn : 16 + 1 < nL) (ha : rhNl a15 = true) (k : G X (pc + 2) (a0 :: a1 :: a2 :: a3 :: a4 :: a5 :: a6 :: a7 :: a8 :: a9 :: a10 :: a11 :: a12 :: a13 :: a14 :: a15 :: some (.long x) :: none :: t) st ws) : G X pc (a0 :: a1 :: a2 :: a3 :: a4 :: a5 :: a6 :: a7 :: a8 :: a9 :: a10 :: a11 :: a12 :: a13 :: a14 :: a15 :: a16 :: a17 :: t) (.long x :: st) ws := rh_lstore hX d hn (rh_hp rfl ha) rfl k
theorem rh_inc16 (hX : Ok X E own cc R nL) {a0 a1 a2 a3 a4 a5 a6 a7 a8 a9 a10 a11 a12 a13 a14 a15 : Option Value} {t : List (Option Value)} {x : Int32} {n : Int} {v : Int32} (d : decode cc pc = .ok (.iinc 16 n, 3)) (hn : 16 < nL) (ha : rhNl a15 = true) (hx : x + Int32.ofInt n = v) (k : G X (pc + 3) (a0 :: a1 :: a2 :: a3 :: a4 :: a5 :: a6 :: a7 :: a8 :: a9 :: a10 :: a11 :: a12 :: a13 :: a14 :: a15 :: some (.int v) :: t) st ws) : G X pc (a0 :: a1 :: a2 :: a3 :: a4 :: a5 :: a6 :: a7 :: a8 :: a9 :: a10 :: a11 :: a12 :: a13 :: a14 :: a15 :: some (.int x) :: t) st ws := rh_iinc hX d rfl hn (rh_hp rfl ha) hx rfl k
theorem rn_i1 (i : Nat) : nI i + Int32.ofInt 1 = nI (i + 1) := (nI_succ i).symm
theorem rn_im1 (i : Nat) : nI (i + 1) + Int32.ofInt (-1) = nI i := by
  rw [nI_succ, Int32.add_assoc, show (1 : Int32) + Int32.ofInt (-1) = 0 by decide, Int32.add_zero]
theorem rn_inc (x : Int32) : x + Int32.ofInt 1 = x + 1 := rfl
theorem rn_dec (x : Int32) : x + Int32.ofInt (-1) = x + -1 := rfl
theorem rn_add (a b : Nat) : nI a + nI b = nI (a + b) := by
  unfold nI
  rw [Int32.ofNat_add]
theorem rn_mul (a b : Nat) : nI a * nI b = nI (a * b) := by
  unfold nI
  rw [Int32.ofNat_mul]
theorem rn_sub {a b : Nat} (h : b ≤ a) : nI a - nI b = nI (a - b) := by
  have e : nI a = nI (a - b) + nI b := by rw [rn_add, Nat.sub_add_cancel h]
  rw [e, Int32.add_sub_cancel]
theorem rn_a {x y : Int32} {a b : Nat} (hx : x = nI a) (hy : y = nI b) : x + y = nI (a + b) := by rw [hx, hy, rn_add]
theorem rn_m {x y : Int32} {a b : Nat} (hx : x = nI a) (hy : y = nI b) : x * y = nI (a * b) := by rw [hx, hy, rn_mul]
theorem rn_s {x y : Int32} {a b : Nat} (hx : x = nI a) (hy : y = nI b) (h : b ≤ a) : x - y = nI (a - b) := by rw [hx, hy, rn_sub h]
theorem rn_ex {x : Int32} (h : 0 ≤ x) : ∃ k : Nat, x = nI k ∧ k < 2 ^ 31 := by
  refine ⟨x.toInt.toNat, ?_, ?_⟩
  · have h0 : (0 : Int) ≤ x.toInt := by simpa using Int32.le_iff_toInt_le.mp h
    apply Int32.toInt_inj.mp
    have h1 := Int32.toInt_lt x
    rw [nI_toInt (by omega)]
    omega
  · have h1 := Int32.toInt_lt x
    omega
theorem rn_c0 : (0 : Int32) = nI 0 := rfl
theorem rn_c1 : (1 : Int32) = nI 1 := rfl
theorem rn_c2 : (2 : Int32) = nI 2 := rfl
theorem rn_c3 : (3 : Int32) = nI 3 := rfl
theorem rn_c4 : (4 : Int32) = nI 4 := rfl
theorem rn_c5 : (5 : Int32) = nI 5 := rfl
theorem rn_c6 : (6 : Int32) = nI 6 := rfl
theorem rn_c7 : (7 : Int32) = nI 7 := rfl
theorem rn_c8 : (8 : Int32) = nI 8 := rfl
theorem rn_c9 : (9 : Int32) = nI 9 := rfl
theorem rn_c10 : (10 : Int32) = nI 10 := rfl
theorem rn_c11 : (11 : Int32) = nI 11 := rfl
theorem rn_c12 : (12 : Int32) = nI 12 := rfl
theorem rn_c24 : (24 : Int32) = nI 24 := rfl
theorem rn_c31 : (31 : Int32) = nI 31 := rfl
theorem rn_c32 : (32 : Int32) = nI 32 := rfl
theorem rn_c48 : (48 : Int32) = nI 48 := rfl
theorem rn_c50 : (50 : Int32) = nI 50 := rfl
theorem rn_c56 : (56 : Int32) = nI 56 := rfl
theorem rn_c57 : (57 : Int32) = nI 57 := rfl
theorem rn_c58 : (58 : Int32) = nI 58 := rfl
theorem rn_c64 : (64 : Int32) = nI 64 := rfl
theorem rn_c70 : (70 : Int32) = nI 70 := rfl
theorem rn_c76 : (76 : Int32) = nI 76 := rfl
theorem rn_c82 : (82 : Int32) = nI 82 := rfl
theorem rn_c88 : (88 : Int32) = nI 88 := rfl
theorem rn_c94 : (94 : Int32) = nI 94 := rfl
theorem rn_c96 : (96 : Int32) = nI 96 := rfl
theorem rn_c100 : (100 : Int32) = nI 100 := rfl
theorem rn_c104 : (104 : Int32) = nI 104 := rfl
theorem rn_c124 : (124 : Int32) = nI 124 := rfl
theorem rn_c170 : (170 : Int32) = nI 170 := rfl
theorem rn_c171 : (171 : Int32) = nI 171 := rfl
theorem rn_c172 : (172 : Int32) = nI 172 := rfl
theorem rn_c174 : (174 : Int32) = nI 174 := rfl
theorem rn_c200 : (200 : Int32) = nI 200 := rfl
theorem rn_c255 : (255 : Int32) = nI 255 := rfl
theorem rn_c1000 : (1000 : Int32) = nI 1000 := rfl
theorem rn_c1376 : (1376 : Int32) = nI 1376 := rfl
theorem ki_m1 : Int32.ofInt (-1) = -1 := by decide
theorem ki_0 : Int32.ofInt 0 = 0 := by decide
theorem ki_1 : Int32.ofInt 1 = 1 := by decide
theorem ki_2 : Int32.ofInt 2 = 2 := by decide
theorem ki_3 : Int32.ofInt 3 = 3 := by decide
theorem ki_4 : Int32.ofInt 4 = 4 := by decide
theorem ki_5 : Int32.ofInt 5 = 5 := by decide
theorem kL_0 : Int64.ofNat ((0 : Fin 2) : Nat) = 0 := by decide
theorem kL_1 : Int64.ofNat ((1 : Fin 2) : Nat) = 1 := by decide
theorem kb_m21 : (Int8.ofInt (-21)).toInt32 = -21 := by decide
theorem kb_m9 : (Int8.ofInt (-9)).toInt32 = -9 := by decide
theorem kb_m4 : (Int8.ofInt (-4)).toInt32 = -4 := by decide
theorem kb_m3 : (Int8.ofInt (-3)).toInt32 = -3 := by decide
theorem kb_m2 : (Int8.ofInt (-2)).toInt32 = -2 := by decide
theorem kb_6 : (Int8.ofInt 6).toInt32 = 6 := by decide
theorem kb_7 : (Int8.ofInt 7).toInt32 = 7 := by decide
theorem kb_8 : (Int8.ofInt 8).toInt32 = 8 := by decide
theorem kb_9 : (Int8.ofInt 9).toInt32 = 9 := by decide
theorem kb_10 : (Int8.ofInt 10).toInt32 = 10 := by decide
theorem kb_11 : (Int8.ofInt 11).toInt32 = 11 := by decide
theorem kb_12 : (Int8.ofInt 12).toInt32 = 12 := by decide
theorem kb_24 : (Int8.ofInt 24).toInt32 = 24 := by decide
theorem kb_32 : (Int8.ofInt 32).toInt32 = 32 := by decide
theorem kb_44 : (Int8.ofInt 44).toInt32 = 44 := by decide
theorem kb_48 : (Int8.ofInt 48).toInt32 = 48 := by decide
theorem kb_50 : (Int8.ofInt 50).toInt32 = 50 := by decide
theorem kb_56 : (Int8.ofInt 56).toInt32 = 56 := by decide
theorem kb_57 : (Int8.ofInt 57).toInt32 = 57 := by decide
theorem kb_58 : (Int8.ofInt 58).toInt32 = 58 := by decide
theorem kb_61 : (Int8.ofInt 61).toInt32 = 61 := by decide
theorem kb_63 : (Int8.ofInt 63).toInt32 = 63 := by decide
theorem kb_64 : (Int8.ofInt 64).toInt32 = 64 := by decide
theorem kb_70 : (Int8.ofInt 70).toInt32 = 70 := by decide
theorem kb_76 : (Int8.ofInt 76).toInt32 = 76 := by decide
theorem kb_82 : (Int8.ofInt 82).toInt32 = 82 := by decide
theorem kb_88 : (Int8.ofInt 88).toInt32 = 88 := by decide
theorem kb_94 : (Int8.ofInt 94).toInt32 = 94 := by decide
theorem kb_96 : (Int8.ofInt 96).toInt32 = 96 := by decide
theorem kb_100 : (Int8.ofInt 100).toInt32 = 100 := by decide
theorem kb_104 : (Int8.ofInt 104).toInt32 = 104 := by decide
theorem kb_124 : (Int8.ofInt 124).toInt32 = 124 := by decide
theorem ks_170 : (Int16.ofInt 170).toInt32 = 170 := by decide
theorem ks_171 : (Int16.ofInt 171).toInt32 = 171 := by decide
theorem ks_172 : (Int16.ofInt 172).toInt32 = 172 := by decide
theorem ks_200 : (Int16.ofInt 200).toInt32 = 200 := by decide
theorem ks_255 : (Int16.ofInt 255).toInt32 = 255 := by decide
theorem ks_256 : (Int16.ofInt 256).toInt32 = 256 := by decide
theorem ks_1376 : (Int16.ofInt 1376).toInt32 = 1376 := by decide
theorem vput_self : ∀ (is : List Nat) (ws wc : va_W), is.map (fun i => ws[i]?) = wc.map some → vput ws is wc = ws
  | [], ws, wc, h => by cases wc <;> rfl
  | i :: is, ws, [], h => by simp at h
  | i :: is, ws, c :: wc, h => by
    simp only [List.map_cons, List.cons.injEq] at h
    have e : ws.set i c = ws := by
      apply List.ext_getElem?
      intro j
      by_cases ej : j = i
      · subst ej
        have hlt := (List.getElem?_eq_some_iff.mp h.1).1
        rw [List.getElem?_set, h.1]
        simp [hlt]
      · rw [List.getElem?_set_ne (Ne.symm ej)]
    show vput (ws.set i c) is wc = ws
    rw [e]
    exact vput_self is ws wc h.2
theorem rh_pV (hX : Ok X E own cc R nL) {idx ci n mL : Nat} {y : MethodName} {bytes : ByteArray} {ret : Option FieldType} {rm : Room} {b : Nat} {As rest : List Value} {wc : va_W} {v : Value} (hlk0 : rhLk own idx y) (hw : rhMv y bytes mL ret n ci) (hM : ∀ l, Ctr l E y bytes mL ret rm (.ref b :: As) wc (One (some v) wc)) (hc0 : rm.cells = 0 ∧ rm.slots = 0) (hroom : rm.frames + 1 ≤ R.frames ∧ 8 + (mL + 11) + rm.locals ≤ R.locals) (is : List Nat) (hC : is.map (fun i => ws[i]?) = wc.map some) (hnd : va_nd is = true) (q0 : Nat) {fs : List Value} (he : ws[q0]? = some (b, .inr (ci, fs))) (d : decode cc pc = .ok (.invokevirtual idx, 3)) (hn : As.length = n) (hst : st = As.reverse ++ .ref b :: rest) (hcat : (rest.map fun v => v.category).sum ≤ 8) (k : G X (pc + 3) lv (v :: rest) ws) : G X pc lv st ws := rh_callV hX hlk0 hw hM hc0 hroom is hC hnd q0 he d hn hst hcat (fun r w hp _ => by obtain ⟨rfl, rfl⟩ := hp; rw [vput_self is ws w hC]; exact k)
theorem rh_uV (hX : Ok X E own cc R nL) {idx ci n mL : Nat} {y : MethodName} {bytes : ByteArray} {ret : Option FieldType} {rm : Room} {b : Nat} {As rest : List Value} {wc w1 ws' : va_W} (hlk0 : rhLk own idx y) (hw : rhMv y bytes mL ret n ci) (hM : ∀ l, Ctr l E y bytes mL ret rm (.ref b :: As) wc (One none w1)) (hc0 : rm.cells = 0 ∧ rm.slots = 0) (hroom : rm.frames + 1 ≤ R.frames ∧ 8 + (mL + 11) + rm.locals ≤ R.locals) (is : List Nat) (hC : is.map (fun i => ws[i]?) = wc.map some) (hnd : va_nd is = true) (q0 : Nat) {fs : List Value} (he : ws[q0]? = some (b, .inr (ci, fs))) (d : decode cc pc = .ok (.invokevirtual idx, 3)) (hn : As.length = n) (hst : st = As.reverse ++ .ref b :: rest) (hcat : (rest.map fun v => v.category).sum ≤ 8) (hu : vput ws is w1 = ws') (k : G X (pc + 3) lv rest ws') : G X pc lv st ws := rh_callV hX hlk0 hw hM hc0 hroom is hC hnd q0 he d hn hst hcat (fun r w hp _ => by obtain ⟨rfl, rfl⟩ := hp; rw [hu]; exact k)
theorem rh_wV (hX : Ok X E own cc R nL) {idx ci n mL : Nat} {y : MethodName} {bytes : ByteArray} {ret : Option FieldType} {rm : Room} {b : Nat} {As rest : List Value} {wc w1 ws' : va_W} {v : Value} (hlk0 : rhLk own idx y) (hw : rhMv y bytes mL ret n ci) (hM : ∀ l, Ctr l E y bytes mL ret rm (.ref b :: As) wc (One (some v) w1)) (hc0 : rm.cells = 0 ∧ rm.slots = 0) (hroom : rm.frames + 1 ≤ R.frames ∧ 8 + (mL + 11) + rm.locals ≤ R.locals) (is : List Nat) (hC : is.map (fun i => ws[i]?) = wc.map some) (hnd : va_nd is = true) (q0 : Nat) {fs : List Value} (he : ws[q0]? = some (b, .inr (ci, fs))) (d : decode cc pc = .ok (.invokevirtual idx, 3)) (hn : As.length = n) (hst : st = As.reverse ++ .ref b :: rest) (hcat : (rest.map fun v => v.category).sum ≤ 8) (hu : vput ws is w1 = ws') (k : G X (pc + 3) lv (v :: rest) ws') : G X pc lv st ws := rh_callV hX hlk0 hw hM hc0 hroom is hC hnd q0 he d hn hst hcat (fun r w hp _ => by obtain ⟨rfl, rfl⟩ := hp; rw [hu]; exact k)
theorem rh_pS (hX : Ok X E own cc R nL) {idx n mL : Nat} {y : MethodName} {bytes : ByteArray} {ret : Option FieldType} {rm : Room} {As rest : List Value} {wc : va_W} {v : Value} (hlk0 : rhLk own idx y) (hw : rhMs y bytes mL ret n) (hM : ∀ l, Ctr l E y bytes mL ret rm As wc (One (some v) wc)) (hc0 : rm.cells = 0 ∧ rm.slots = 0) (hroom : rm.frames + 1 ≤ R.frames ∧ 8 + (mL + 11) + rm.locals ≤ R.locals) (is : List Nat) (hC : is.map (fun i => ws[i]?) = wc.map some) (hnd : va_nd is = true) (d : decode cc pc = .ok (.invokestatic idx, 3)) (hn : As.length = n) (hst : st = As.reverse ++ rest) (hcat : (rest.map fun v => v.category).sum ≤ 8) (k : G X (pc + 3) lv (v :: rest) ws) : G X pc lv st ws := rh_callS hX hlk0 hw hM hc0 hroom is hC hnd d hn hst hcat (fun r w hp _ => by obtain ⟨rfl, rfl⟩ := hp; rw [vput_self is ws w hC]; exact k)
theorem rh_uS (hX : Ok X E own cc R nL) {idx n mL : Nat} {y : MethodName} {bytes : ByteArray} {ret : Option FieldType} {rm : Room} {As rest : List Value} {wc w1 ws' : va_W} (hlk0 : rhLk own idx y) (hw : rhMs y bytes mL ret n) (hM : ∀ l, Ctr l E y bytes mL ret rm As wc (One none w1)) (hc0 : rm.cells = 0 ∧ rm.slots = 0) (hroom : rm.frames + 1 ≤ R.frames ∧ 8 + (mL + 11) + rm.locals ≤ R.locals) (is : List Nat) (hC : is.map (fun i => ws[i]?) = wc.map some) (hnd : va_nd is = true) (d : decode cc pc = .ok (.invokestatic idx, 3)) (hn : As.length = n) (hst : st = As.reverse ++ rest) (hcat : (rest.map fun v => v.category).sum ≤ 8) (hu : vput ws is w1 = ws') (k : G X (pc + 3) lv rest ws') : G X pc lv st ws := rh_callS hX hlk0 hw hM hc0 hroom is hC hnd d hn hst hcat (fun r w hp _ => by obtain ⟨rfl, rfl⟩ := hp; rw [hu]; exact k)
theorem rh_wS (hX : Ok X E own cc R nL) {idx n mL : Nat} {y : MethodName} {bytes : ByteArray} {ret : Option FieldType} {rm : Room} {As rest : List Value} {wc w1 ws' : va_W} {v : Value} (hlk0 : rhLk own idx y) (hw : rhMs y bytes mL ret n) (hM : ∀ l, Ctr l E y bytes mL ret rm As wc (One (some v) w1)) (hc0 : rm.cells = 0 ∧ rm.slots = 0) (hroom : rm.frames + 1 ≤ R.frames ∧ 8 + (mL + 11) + rm.locals ≤ R.locals) (is : List Nat) (hC : is.map (fun i => ws[i]?) = wc.map some) (hnd : va_nd is = true) (d : decode cc pc = .ok (.invokestatic idx, 3)) (hn : As.length = n) (hst : st = As.reverse ++ rest) (hcat : (rest.map fun v => v.category).sum ≤ 8) (hu : vput ws is w1 = ws') (k : G X (pc + 3) lv (v :: rest) ws') : G X pc lv st ws := rh_callS hX hlk0 hw hM hc0 hroom is hC hnd d hn hst hcat (fun r w hp _ => by obtain ⟨rfl, rfl⟩ := hp; rw [hu]; exact k)
end RH2
