section RH
variable {X : rhX} {E : rhE} {own : String} {cc : ByteArray} {R : Room} {nL pc : Nat} {lv : List (Option Value)} {st : List Value} {ws : va_W}
theorem rh_iconst (hX : Ok X E own cc R nL) {n : Int} {v : Int32} (d : decode cc pc = .ok (.iconst n, 1)) (hv : Int32.ofInt n = v) (k : G X (pc + 1) lv (.int v :: st) ws) : G X pc lv st ws := by
  obtain ⟨p, l, e, R0, s, m, args, below, meth, c, E0, A, Q, kc, ns, nL0⟩ := X
  obtain ⟨hx, hb, hml, ho, ht, hK, hA, hAz, hlk, hkn, rfl, rfl, rfl⟩ := hX
  exact fun H locs ls hP hD hS hl => lv_iconst hx hb d hv (k H locs ls hP hD hS hl)
theorem rh_bipush (hX : Ok X E own cc R nL) {n : Int} {v : Int32} (d : decode cc pc = .ok (.bipush n, 2)) (hv : (Int8.ofInt n).toInt32 = v) (k : G X (pc + 2) lv (.int v :: st) ws) : G X pc lv st ws := by
  obtain ⟨p, l, e, R0, s, m, args, below, meth, c, E0, A, Q, kc, ns, nL0⟩ := X
  obtain ⟨hx, hb, hml, ho, ht, hK, hA, hAz, hlk, hkn, rfl, rfl, rfl⟩ := hX
  exact fun H locs ls hP hD hS hl => lv_bipush hx hb d hv (k H locs ls hP hD hS hl)
theorem rh_sipush (hX : Ok X E own cc R nL) {n : Int} {v : Int32} (d : decode cc pc = .ok (.sipush n, 3)) (hv : (Int16.ofInt n).toInt32 = v) (k : G X (pc + 3) lv (.int v :: st) ws) : G X pc lv st ws := by
  obtain ⟨p, l, e, R0, s, m, args, below, meth, c, E0, A, Q, kc, ns, nL0⟩ := X
  obtain ⟨hx, hb, hml, ho, ht, hK, hA, hAz, hlk, hkn, rfl, rfl, rfl⟩ := hX
  exact fun H locs ls hP hD hS hl => lv_sipush hx hb d hv (k H locs ls hP hD hS hl)
theorem rh_lconst (hX : Ok X E own cc R nL) {n : Fin 2} {v : Int64} (d : decode cc pc = .ok (.lconst n, 1)) (hv : Int64.ofNat (n : Nat) = v) (k : G X (pc + 1) lv (.long v :: st) ws) : G X pc lv st ws := by
  obtain ⟨p, l, e, R0, s, m, args, below, meth, c, E0, A, Q, kc, ns, nL0⟩ := X
  obtain ⟨hx, hb, hml, ho, ht, hK, hA, hAz, hlk, hkn, rfl, rfl, rfl⟩ := hX
  exact fun H locs ls hP hD hS hl => lv_lconst hx hb d hv (k H locs ls hP hD hS hl)
theorem rh_ldc (hX : Ok X E own cc R nL) {i : Nat} {v : Int32} (d : decode cc pc = .ok (.ldc i, 2)) (hc : Cond.constant own i v ∈ rhT) (k : G X (pc + 2) lv (.int v :: st) ws) : G X pc lv st ws := by
  obtain ⟨p, l, e, R0, s, m, args, below, meth, c, E0, A, Q, kc, ns, nL0⟩ := X
  obtain ⟨hx, hb, hml, ho, ht, hK, hA, hAz, hlk, hkn, rfl, rfl, rfl⟩ := hX
  exact fun H locs ls hP hD hS hl => lv_ldc hx hb ho (ht _ hc) d (k H locs ls hP hD hS hl)
theorem rh_ldc_w (hX : Ok X E own cc R nL) {i : Nat} {v : Int32} (d : decode cc pc = .ok (.ldc_w i, 3)) (hc : Cond.constant own i v ∈ rhT) (k : G X (pc + 3) lv (.int v :: st) ws) : G X pc lv st ws := by
  obtain ⟨p, l, e, R0, s, m, args, below, meth, c, E0, A, Q, kc, ns, nL0⟩ := X
  obtain ⟨hx, hb, hml, ho, ht, hK, hA, hAz, hlk, hkn, rfl, rfl, rfl⟩ := hX
  exact fun H locs ls hP hD hS hl => lv_ldcw hx hb ho (ht _ hc) d (k H locs ls hP hD hS hl)
theorem rh_ldc2 (hX : Ok X E own cc R nL) {i : Nat} {v : Int64} (d : decode cc pc = .ok (.ldc2_w i, 3)) (hc : Cond.constantLong own i v ∈ rhT) (k : G X (pc + 3) lv (.long v :: st) ws) : G X pc lv st ws := by
  obtain ⟨p, l, e, R0, s, m, args, below, meth, c, E0, A, Q, kc, ns, nL0⟩ := X
  obtain ⟨hx, hb, hml, ho, ht, hK, hA, hAz, hlk, hkn, rfl, rfl, rfl⟩ := hX
  exact fun H locs ls hP hD hS hl => lv_ldc2 hx hb ho (ht _ hc) d (k H locs ls hP hD hS hl)
theorem rh_iload_n (hX : Ok X E own cc R nL) {j : Fin 4} {x : Int32} (d : decode cc pc = .ok (.iload_n j, 1)) (hv : lv[(j : Nat)]? = some (some (.int x))) (k : G X (pc + 1) lv (.int x :: st) ws) : G X pc lv st ws := by
  obtain ⟨p, l, e, R0, s, m, args, below, meth, c, E0, A, Q, kc, ns, nL0⟩ := X
  obtain ⟨hx, hb, hml, ho, ht, hK, hA, hAz, hlk, hkn, rfl, rfl, rfl⟩ := hX
  exact fun H locs ls hP hD hS hl => lv_iload_n hx hb d rfl (hl.2.2 _ _ hv) (k H locs ls hP hD hS hl)
theorem rh_iload (hX : Ok X E own cc R nL) {j : Nat} {x : Int32} (d : decode cc pc = .ok (.iload j, 2)) (hv : lv[j]? = some (some (.int x))) (k : G X (pc + 2) lv (.int x :: st) ws) : G X pc lv st ws := by
  obtain ⟨p, l, e, R0, s, m, args, below, meth, c, E0, A, Q, kc, ns, nL0⟩ := X
  obtain ⟨hx, hb, hml, ho, ht, hK, hA, hAz, hlk, hkn, rfl, rfl, rfl⟩ := hX
  exact fun H locs ls hP hD hS hl => lv_iload hx hb d (hl.2.2 _ _ hv) (k H locs ls hP hD hS hl)
theorem rh_lload_n (hX : Ok X E own cc R nL) {j : Fin 4} {x : Int64} (d : decode cc pc = .ok (.lload_n j, 1)) (hv : lv[(j : Nat)]? = some (some (.long x))) (k : G X (pc + 1) lv (.long x :: st) ws) : G X pc lv st ws := by
  obtain ⟨p, l, e, R0, s, m, args, below, meth, c, E0, A, Q, kc, ns, nL0⟩ := X
  obtain ⟨hx, hb, hml, ho, ht, hK, hA, hAz, hlk, hkn, rfl, rfl, rfl⟩ := hX
  exact fun H locs ls hP hD hS hl => lv_lload_n hx hb d rfl (hl.2.2 _ _ hv) (k H locs ls hP hD hS hl)
theorem rh_lload (hX : Ok X E own cc R nL) {j : Nat} {x : Int64} (d : decode cc pc = .ok (.lload j, 2)) (hv : lv[j]? = some (some (.long x))) (k : G X (pc + 2) lv (.long x :: st) ws) : G X pc lv st ws := by
  obtain ⟨p, l, e, R0, s, m, args, below, meth, c, E0, A, Q, kc, ns, nL0⟩ := X
  obtain ⟨hx, hb, hml, ho, ht, hK, hA, hAz, hlk, hkn, rfl, rfl, rfl⟩ := hX
  exact fun H locs ls hP hD hS hl => lv_lload hx hb d (hl.2.2 _ _ hv) (k H locs ls hP hD hS hl)
theorem rh_aload_n (hX : Ok X E own cc R nL) {j : Fin 4} {x : Nat} (d : decode cc pc = .ok (.aload_n j, 1)) (hv : lv[(j : Nat)]? = some (some (.ref x))) (k : G X (pc + 1) lv (.ref x :: st) ws) : G X pc lv st ws := by
  obtain ⟨p, l, e, R0, s, m, args, below, meth, c, E0, A, Q, kc, ns, nL0⟩ := X
  obtain ⟨hx, hb, hml, ho, ht, hK, hA, hAz, hlk, hkn, rfl, rfl, rfl⟩ := hX
  exact fun H locs ls hP hD hS hl => lv_aload_n hx hb d rfl (hl.2.2 _ _ hv) (k H locs ls hP hD hS hl)
theorem rh_aload (hX : Ok X E own cc R nL) {j : Nat} {x : Nat} (d : decode cc pc = .ok (.aload j, 2)) (hv : lv[j]? = some (some (.ref x))) (k : G X (pc + 2) lv (.ref x :: st) ws) : G X pc lv st ws := by
  obtain ⟨p, l, e, R0, s, m, args, below, meth, c, E0, A, Q, kc, ns, nL0⟩ := X
  obtain ⟨hx, hb, hml, ho, ht, hK, hA, hAz, hlk, hkn, rfl, rfl, rfl⟩ := hX
  exact fun H locs ls hP hD hS hl => lv_aload hx hb d (hl.2.2 _ _ hv) (k H locs ls hP hD hS hl)
theorem rh_istore_n (hX : Ok X E own cc R nL) {j : Fin 4} {x : Int32} {lv' : List (Option Value)} (d : decode cc pc = .ok (.istore_n j, 1)) (hn : (j : Nat) < nL) (hp : ∀ i u, i + 1 = (j : Nat) → lv[i]? = some (some u) → (u.category == 2) = false) (hv : lv.set (j : Nat) (some (.int x)) = lv') (k : G X (pc + 1) lv' st ws) : G X pc lv (.int x :: st) ws := by
  obtain ⟨p, l, e, R0, s, m, args, below, meth, c, E0, A, Q, kc, ns, nL0⟩ := X
  obtain ⟨hx, hb, hml, ho, ht, hK, hA, hAz, hlk, hkn, rfl, rfl, rfl⟩ := hX
  subst hv
  exact fun H locs ls hP hD hS hl => lv_istore_n hx hb d rfl hl.has hn rfl (fun ls' hl' => k H locs ls' hP hD hS (rhL.of1 hp hl'))
theorem rh_istore (hX : Ok X E own cc R nL) {j : Nat} {x : Int32} {lv' : List (Option Value)} (d : decode cc pc = .ok (.istore j, 2)) (hn : j < nL) (hp : ∀ i u, i + 1 = j → lv[i]? = some (some u) → (u.category == 2) = false) (hv : lv.set j (some (.int x)) = lv') (k : G X (pc + 2) lv' st ws) : G X pc lv (.int x :: st) ws := by
  obtain ⟨p, l, e, R0, s, m, args, below, meth, c, E0, A, Q, kc, ns, nL0⟩ := X
  obtain ⟨hx, hb, hml, ho, ht, hK, hA, hAz, hlk, hkn, rfl, rfl, rfl⟩ := hX
  subst hv
  exact fun H locs ls hP hD hS hl => lv_istore hx hb d hl.has hn rfl (fun ls' hl' => k H locs ls' hP hD hS (rhL.of1 hp hl'))
theorem rh_lstore_n (hX : Ok X E own cc R nL) {j : Fin 4} {x : Int64} {lv' : List (Option Value)} (d : decode cc pc = .ok (.lstore_n j, 1)) (hn : (j : Nat) + 1 < nL) (hp : ∀ i u, i + 1 = (j : Nat) → lv[i]? = some (some u) → (u.category == 2) = false) (hv : (lv.set (j : Nat) (some (.long x))).set ((j : Nat) + 1) none = lv') (k : G X (pc + 1) lv' st ws) : G X pc lv (.long x :: st) ws := by
  obtain ⟨p, l, e, R0, s, m, args, below, meth, c, E0, A, Q, kc, ns, nL0⟩ := X
  obtain ⟨hx, hb, hml, ho, ht, hK, hA, hAz, hlk, hkn, rfl, rfl, rfl⟩ := hX
  subst hv
  exact fun H locs ls hP hD hS hl => lv_lstore_n hx hb d rfl hl.has hn rfl (fun ls' hl' => k H locs ls' hP hD hS (rhL.of2 hp hl'))
theorem rh_lstore (hX : Ok X E own cc R nL) {j : Nat} {x : Int64} {lv' : List (Option Value)} (d : decode cc pc = .ok (.lstore j, 2)) (hn : j + 1 < nL) (hp : ∀ i u, i + 1 = j → lv[i]? = some (some u) → (u.category == 2) = false) (hv : (lv.set j (some (.long x))).set (j + 1) none = lv') (k : G X (pc + 2) lv' st ws) : G X pc lv (.long x :: st) ws := by
  obtain ⟨p, l, e, R0, s, m, args, below, meth, c, E0, A, Q, kc, ns, nL0⟩ := X
  obtain ⟨hx, hb, hml, ho, ht, hK, hA, hAz, hlk, hkn, rfl, rfl, rfl⟩ := hX
  subst hv
  exact fun H locs ls hP hD hS hl => lv_lstore hx hb d hl.has hn rfl (fun ls' hl' => k H locs ls' hP hD hS (rhL.of2 hp hl'))
theorem rh_astore_n (hX : Ok X E own cc R nL) {j : Fin 4} {x : Nat} {lv' : List (Option Value)} (d : decode cc pc = .ok (.astore_n j, 1)) (hn : (j : Nat) < nL) (hp : ∀ i u, i + 1 = (j : Nat) → lv[i]? = some (some u) → (u.category == 2) = false) (hv : lv.set (j : Nat) (some (.ref x)) = lv') (k : G X (pc + 1) lv' st ws) : G X pc lv (.ref x :: st) ws := by
  obtain ⟨p, l, e, R0, s, m, args, below, meth, c, E0, A, Q, kc, ns, nL0⟩ := X
  obtain ⟨hx, hb, hml, ho, ht, hK, hA, hAz, hlk, hkn, rfl, rfl, rfl⟩ := hX
  subst hv
  exact fun H locs ls hP hD hS hl => lv_astore_n hx hb d rfl hl.has hn rfl (fun ls' hl' => k H locs ls' hP hD hS (rhL.of1 hp hl'))
theorem rh_iinc (hX : Ok X E own cc R nL) {j : Nat} {n : Int} {x v : Int32} {lv' : List (Option Value)} (d : decode cc pc = .ok (.iinc j n, 3)) (hv0 : lv[j]? = some (some (.int x))) (hn : j < nL) (hp : ∀ i u, i + 1 = j → lv[i]? = some (some u) → (u.category == 2) = false) (hx0 : x + Int32.ofInt n = v) (hv : lv.set j (some (.int v)) = lv') (k : G X (pc + 3) lv' st ws) : G X pc lv st ws := by
  obtain ⟨p, l, e, R0, s, m, args, below, meth, c, E0, A, Q, kc, ns, nL0⟩ := X
  obtain ⟨hx, hb, hml, ho, ht, hK, hA, hAz, hlk, hkn, rfl, rfl, rfl⟩ := hX
  subst hv
  intro H locs ls hP hD hS hl
  obtain ⟨i, hi⟩ := List.getElem?_of_mem (rhAs_mem.mpr hv0)
  exact lv_iinc hx hb d hl.has hi hx0 hn rfl (fun ls' hl' => k H locs ls' hP hD hS (rhL.of1 hp hl'))
theorem rh_iadd (hX : Ok X E own cc R nL) {x y : Int32} (d : decode cc pc = .ok (.iadd, 1)) (k : G X (pc + 1) lv (.int (x + y) :: st) ws) : G X pc lv (.int y :: .int x :: st) ws := by
  obtain ⟨p, l, e, R0, s, m, args, below, meth, c, E0, A, Q, kc, ns, nL0⟩ := X
  obtain ⟨hx, hb, hml, ho, ht, hK, hA, hAz, hlk, hkn, rfl, rfl, rfl⟩ := hX
  exact fun H locs ls hP hD hS hl => lv_iadd hx hb d (k H locs ls hP hD hS hl)
theorem rh_isub (hX : Ok X E own cc R nL) {x y : Int32} (d : decode cc pc = .ok (.isub, 1)) (k : G X (pc + 1) lv (.int (x - y) :: st) ws) : G X pc lv (.int y :: .int x :: st) ws := by
  obtain ⟨p, l, e, R0, s, m, args, below, meth, c, E0, A, Q, kc, ns, nL0⟩ := X
  obtain ⟨hx, hb, hml, ho, ht, hK, hA, hAz, hlk, hkn, rfl, rfl, rfl⟩ := hX
  exact fun H locs ls hP hD hS hl => lv_isub hx hb d (k H locs ls hP hD hS hl)
theorem rh_imul (hX : Ok X E own cc R nL) {x y : Int32} (d : decode cc pc = .ok (.imul, 1)) (k : G X (pc + 1) lv (.int (x * y) :: st) ws) : G X pc lv (.int y :: .int x :: st) ws := by
  obtain ⟨p, l, e, R0, s, m, args, below, meth, c, E0, A, Q, kc, ns, nL0⟩ := X
  obtain ⟨hx, hb, hml, ho, ht, hK, hA, hAz, hlk, hkn, rfl, rfl, rfl⟩ := hX
  exact fun H locs ls hP hD hS hl => lv_imul hx hb d (k H locs ls hP hD hS hl)
theorem rh_iand (hX : Ok X E own cc R nL) {x y : Int32} (d : decode cc pc = .ok (.iand, 1)) (k : G X (pc + 1) lv (.int (x &&& y) :: st) ws) : G X pc lv (.int y :: .int x :: st) ws := by
  obtain ⟨p, l, e, R0, s, m, args, below, meth, c, E0, A, Q, kc, ns, nL0⟩ := X
  obtain ⟨hx, hb, hml, ho, ht, hK, hA, hAz, hlk, hkn, rfl, rfl, rfl⟩ := hX
  exact fun H locs ls hP hD hS hl => lv_iand hx hb d (k H locs ls hP hD hS hl)
theorem rh_ior (hX : Ok X E own cc R nL) {x y : Int32} (d : decode cc pc = .ok (.ior, 1)) (k : G X (pc + 1) lv (.int (x ||| y) :: st) ws) : G X pc lv (.int y :: .int x :: st) ws := by
  obtain ⟨p, l, e, R0, s, m, args, below, meth, c, E0, A, Q, kc, ns, nL0⟩ := X
  obtain ⟨hx, hb, hml, ho, ht, hK, hA, hAz, hlk, hkn, rfl, rfl, rfl⟩ := hX
  exact fun H locs ls hP hD hS hl => lv_ior hx hb d (k H locs ls hP hD hS hl)
theorem rh_ishl (hX : Ok X E own cc R nL) {x y : Int32} (d : decode cc pc = .ok (.ishl, 1)) (k : G X (pc + 1) lv (.int (x <<< (y &&& 31)) :: st) ws) : G X pc lv (.int y :: .int x :: st) ws := by
  obtain ⟨p, l, e, R0, s, m, args, below, meth, c, E0, A, Q, kc, ns, nL0⟩ := X
  obtain ⟨hx, hb, hml, ho, ht, hK, hA, hAz, hlk, hkn, rfl, rfl, rfl⟩ := hX
  exact fun H locs ls hP hD hS hl => lv_ishl hx hb d (k H locs ls hP hD hS hl)
theorem rh_ishr (hX : Ok X E own cc R nL) {x y : Int32} (d : decode cc pc = .ok (.ishr, 1)) (k : G X (pc + 1) lv (.int (x >>> (y &&& 31)) :: st) ws) : G X pc lv (.int y :: .int x :: st) ws := by
  obtain ⟨p, l, e, R0, s, m, args, below, meth, c, E0, A, Q, kc, ns, nL0⟩ := X
  obtain ⟨hx, hb, hml, ho, ht, hK, hA, hAz, hlk, hkn, rfl, rfl, rfl⟩ := hX
  exact fun H locs ls hP hD hS hl => lv_ishr hx hb d (k H locs ls hP hD hS hl)
theorem rh_ladd (hX : Ok X E own cc R nL) {x y : Int64} (d : decode cc pc = .ok (.ladd, 1)) (k : G X (pc + 1) lv (.long (x + y) :: st) ws) : G X pc lv (.long y :: .long x :: st) ws := by
  obtain ⟨p, l, e, R0, s, m, args, below, meth, c, E0, A, Q, kc, ns, nL0⟩ := X
  obtain ⟨hx, hb, hml, ho, ht, hK, hA, hAz, hlk, hkn, rfl, rfl, rfl⟩ := hX
  exact fun H locs ls hP hD hS hl => lv_ladd hx hb d (k H locs ls hP hD hS hl)
theorem rh_lsub (hX : Ok X E own cc R nL) {x y : Int64} (d : decode cc pc = .ok (.lsub, 1)) (k : G X (pc + 1) lv (.long (x - y) :: st) ws) : G X pc lv (.long y :: .long x :: st) ws := by
  obtain ⟨p, l, e, R0, s, m, args, below, meth, c, E0, A, Q, kc, ns, nL0⟩ := X
  obtain ⟨hx, hb, hml, ho, ht, hK, hA, hAz, hlk, hkn, rfl, rfl, rfl⟩ := hX
  exact fun H locs ls hP hD hS hl => lv_lsub hx hb d (k H locs ls hP hD hS hl)
theorem rh_lmul (hX : Ok X E own cc R nL) {x y : Int64} (d : decode cc pc = .ok (.lmul, 1)) (k : G X (pc + 1) lv (.long (x * y) :: st) ws) : G X pc lv (.long y :: .long x :: st) ws := by
  obtain ⟨p, l, e, R0, s, m, args, below, meth, c, E0, A, Q, kc, ns, nL0⟩ := X
  obtain ⟨hx, hb, hml, ho, ht, hK, hA, hAz, hlk, hkn, rfl, rfl, rfl⟩ := hX
  exact fun H locs ls hP hD hS hl => lv_lmul hx hb d (k H locs ls hP hD hS hl)
theorem rh_idiv (hX : Ok X E own cc R nL) {x y : Int32} (d : decode cc pc = .ok (.idiv, 1)) (hne : ¬ y = 0) (k : G X (pc + 1) lv (.int (x / y) :: st) ws) : G X pc lv (.int y :: .int x :: st) ws := by
  obtain ⟨p, l, e, R0, s, m, args, below, meth, c, E0, A, Q, kc, ns, nL0⟩ := X
  obtain ⟨hx, hb, hml, ho, ht, hK, hA, hAz, hlk, hkn, rfl, rfl, rfl⟩ := hX
  exact fun H locs ls hP hD hS hl => lv_idiv hx hb d hne (k H locs ls hP hD hS hl)
theorem rh_irem (hX : Ok X E own cc R nL) {x y : Int32} (d : decode cc pc = .ok (.irem, 1)) (hne : ¬ y = 0) (k : G X (pc + 1) lv (.int (x - x / y * y) :: st) ws) : G X pc lv (.int y :: .int x :: st) ws := by
  obtain ⟨p, l, e, R0, s, m, args, below, meth, c, E0, A, Q, kc, ns, nL0⟩ := X
  obtain ⟨hx, hb, hml, ho, ht, hK, hA, hAz, hlk, hkn, rfl, rfl, rfl⟩ := hX
  exact fun H locs ls hP hD hS hl => lv_irem hx hb d hne (k H locs ls hP hD hS hl)
theorem rh_ldiv (hX : Ok X E own cc R nL) {x y : Int64} (d : decode cc pc = .ok (.ldiv, 1)) (hne : ¬ y = 0) (k : G X (pc + 1) lv (.long (x / y) :: st) ws) : G X pc lv (.long y :: .long x :: st) ws := by
  obtain ⟨p, l, e, R0, s, m, args, below, meth, c, E0, A, Q, kc, ns, nL0⟩ := X
  obtain ⟨hx, hb, hml, ho, ht, hK, hA, hAz, hlk, hkn, rfl, rfl, rfl⟩ := hX
  exact fun H locs ls hP hD hS hl => lv_ldiv hx hb d hne (k H locs ls hP hD hS hl)
theorem rh_ineg (hX : Ok X E own cc R nL) {x : Int32} (d : decode cc pc = .ok (.ineg, 1)) (k : G X (pc + 1) lv (.int (-x) :: st) ws) : G X pc lv (.int x :: st) ws := by
  obtain ⟨p, l, e, R0, s, m, args, below, meth, c, E0, A, Q, kc, ns, nL0⟩ := X
  obtain ⟨hx, hb, hml, ho, ht, hK, hA, hAz, hlk, hkn, rfl, rfl, rfl⟩ := hX
  exact fun H locs ls hP hD hS hl => lv_ineg hx hb d (k H locs ls hP hD hS hl)
theorem rh_lneg (hX : Ok X E own cc R nL) {x : Int64} (d : decode cc pc = .ok (.lneg, 1)) (k : G X (pc + 1) lv (.long (-x) :: st) ws) : G X pc lv (.long x :: st) ws := by
  obtain ⟨p, l, e, R0, s, m, args, below, meth, c, E0, A, Q, kc, ns, nL0⟩ := X
  obtain ⟨hx, hb, hml, ho, ht, hK, hA, hAz, hlk, hkn, rfl, rfl, rfl⟩ := hX
  exact fun H locs ls hP hD hS hl => lv_lneg hx hb d (k H locs ls hP hD hS hl)
theorem rh_i2l (hX : Ok X E own cc R nL) {x : Int32} (d : decode cc pc = .ok (.i2l, 1)) (k : G X (pc + 1) lv (.long x.toInt64 :: st) ws) : G X pc lv (.int x :: st) ws := by
  obtain ⟨p, l, e, R0, s, m, args, below, meth, c, E0, A, Q, kc, ns, nL0⟩ := X
  obtain ⟨hx, hb, hml, ho, ht, hK, hA, hAz, hlk, hkn, rfl, rfl, rfl⟩ := hX
  exact fun H locs ls hP hD hS hl => lv_i2l hx hb d rfl (k H locs ls hP hD hS hl)
theorem rh_l2i (hX : Ok X E own cc R nL) {x : Int64} (d : decode cc pc = .ok (.l2i, 1)) (k : G X (pc + 1) lv (.int x.toInt32 :: st) ws) : G X pc lv (.long x :: st) ws := by
  obtain ⟨p, l, e, R0, s, m, args, below, meth, c, E0, A, Q, kc, ns, nL0⟩ := X
  obtain ⟨hx, hb, hml, ho, ht, hK, hA, hAz, hlk, hkn, rfl, rfl, rfl⟩ := hX
  exact fun H locs ls hP hD hS hl => lv_l2i hx hb d rfl (k H locs ls hP hD hS hl)
theorem rh_i2b (hX : Ok X E own cc R nL) {x : Int32} (d : decode cc pc = .ok (.i2b, 1)) (k : G X (pc + 1) lv (.int x.toInt8.toInt32 :: st) ws) : G X pc lv (.int x :: st) ws := by
  obtain ⟨p, l, e, R0, s, m, args, below, meth, c, E0, A, Q, kc, ns, nL0⟩ := X
  obtain ⟨hx, hb, hml, ho, ht, hK, hA, hAz, hlk, hkn, rfl, rfl, rfl⟩ := hX
  exact fun H locs ls hP hD hS hl => lv_i2b hx hb d rfl (k H locs ls hP hD hS hl)
theorem rh_i2c (hX : Ok X E own cc R nL) {x : Int32} (d : decode cc pc = .ok (.i2c, 1)) (k : G X (pc + 1) lv (.int (x.toUInt32 % 65536).toInt32 :: st) ws) : G X pc lv (.int x :: st) ws := by
  obtain ⟨p, l, e, R0, s, m, args, below, meth, c, E0, A, Q, kc, ns, nL0⟩ := X
  obtain ⟨hx, hb, hml, ho, ht, hK, hA, hAz, hlk, hkn, rfl, rfl, rfl⟩ := hX
  exact fun H locs ls hP hD hS hl => lv_i2c hx hb d rfl (k H locs ls hP hD hS hl)
theorem rh_iushr (hX : Ok X E own cc R nL) {x y : Int32} (d : decode cc pc = .ok (.iushr, 1)) (k : G X (pc + 1) lv (.int (x.toUInt32 >>> (y.toUInt32 &&& Int32.toUInt32 31)).toInt32 :: st) ws) : G X pc lv (.int y :: .int x :: st) ws := by
  obtain ⟨p, l, e, R0, s, m, args, below, meth, c, E0, A, Q, kc, ns, nL0⟩ := X
  obtain ⟨hx, hb, hml, ho, ht, hK, hA, hAz, hlk, hkn, rfl, rfl, rfl⟩ := hX
  exact fun H locs ls hP hD hS hl => lv_iushr hx hb d rfl (k H locs ls hP hD hS hl)
theorem rh_dup (hX : Ok X E own cc R nL) {va : Value} (d : decode cc pc = .ok (.dup, 1)) (hva : va.category = 1) (k : G X (pc + 1) lv (va :: va :: st) ws) : G X pc lv (va :: st) ws := by
  obtain ⟨p, l, e, R0, s, m, args, below, meth, c, E0, A, Q, kc, ns, nL0⟩ := X
  obtain ⟨hx, hb, hml, ho, ht, hK, hA, hAz, hlk, hkn, rfl, rfl, rfl⟩ := hX
  exact fun H locs ls hP hD hS hl => lv_dup hx hb d hva (k H locs ls hP hD hS hl)
theorem rh_dup_x1 (hX : Ok X E own cc R nL) {va vb : Value} (d : decode cc pc = .ok (.dup_x1, 1)) (hva : va.category = 1) (hvb : vb.category = 1) (k : G X (pc + 1) lv (va :: vb :: va :: st) ws) : G X pc lv (va :: vb :: st) ws := by
  obtain ⟨p, l, e, R0, s, m, args, below, meth, c, E0, A, Q, kc, ns, nL0⟩ := X
  obtain ⟨hx, hb, hml, ho, ht, hK, hA, hAz, hlk, hkn, rfl, rfl, rfl⟩ := hX
  exact fun H locs ls hP hD hS hl => lv_dup_x1 hx hb d hva hvb (k H locs ls hP hD hS hl)
theorem rh_dup2 (hX : Ok X E own cc R nL) {va vb : Value} (d : decode cc pc = .ok (.dup2, 1)) (hva : va.category = 1) (hvb : vb.category = 1) (k : G X (pc + 1) lv (va :: vb :: va :: vb :: st) ws) : G X pc lv (va :: vb :: st) ws := by
  obtain ⟨p, l, e, R0, s, m, args, below, meth, c, E0, A, Q, kc, ns, nL0⟩ := X
  obtain ⟨hx, hb, hml, ho, ht, hK, hA, hAz, hlk, hkn, rfl, rfl, rfl⟩ := hX
  exact fun H locs ls hP hD hS hl => lv_dup2_11 hx hb d hva hvb (k H locs ls hP hD hS hl)
theorem rh_dup2L (hX : Ok X E own cc R nL) {va : Value} (d : decode cc pc = .ok (.dup2, 1)) (hva : va.category = 2) (k : G X (pc + 1) lv (va :: va :: st) ws) : G X pc lv (va :: st) ws := by
  obtain ⟨p, l, e, R0, s, m, args, below, meth, c, E0, A, Q, kc, ns, nL0⟩ := X
  obtain ⟨hx, hb, hml, ho, ht, hK, hA, hAz, hlk, hkn, rfl, rfl, rfl⟩ := hX
  exact fun H locs ls hP hD hS hl => lv_dup2_2 hx hb d hva (k H locs ls hP hD hS hl)
theorem rh_goto (hX : Ok X E own cc R nL) {off : Int} {tgt : Nat} (d : decode cc pc = .ok (.goto off, 3)) (hg : (pc : Int) + off = (tgt : Int)) (k : G X tgt lv st ws) : G X pc lv st ws := by
  obtain ⟨p, l, e, R0, s, m, args, below, meth, c, E0, A, Q, kc, ns, nL0⟩ := X
  obtain ⟨hx, hb, hml, ho, ht, hK, hA, hAz, hlk, hkn, rfl, rfl, rfl⟩ := hX
  exact fun H locs ls hP hD hS hl => lv_goto hx hb d hg (k H locs ls hP hD hS hl)
theorem rh_if_eq (hX : Ok X E own cc R nL) {x : Int32} {off : Int} {tgt : Nat} (d : decode cc pc = .ok (.ifCond .eq off, 3)) (hg : (pc : Int) + off = (tgt : Int)) (kt : x = 0 → G X tgt lv st ws) (kf : ¬ x = 0 → G X (pc + 3) lv st ws) : G X pc lv (.int x :: st) ws := by
  obtain ⟨p, l, e, R0, s, m, args, below, meth, c, E0, A, Q, kc, ns, nL0⟩ := X
  obtain ⟨hx, hb, hml, ho, ht, hK, hA, hAz, hlk, hkn, rfl, rfl, rfl⟩ := hX
  exact fun H locs ls hP hD hS hl => lv_if_eq hx hb d hg (fun h => kt h H locs ls hP hD hS hl) (fun h => kf h H locs ls hP hD hS hl)
theorem rh_if_eq_t (hX : Ok X E own cc R nL) {x : Int32} {off : Int} {tgt : Nat} (d : decode cc pc = .ok (.ifCond .eq off, 3)) (hg : (pc : Int) + off = (tgt : Int)) (h : x = 0) (k : G X tgt lv st ws) : G X pc lv (.int x :: st) ws := rh_if_eq hX d hg (fun _ => k) (fun q => absurd h q)
theorem rh_if_eq_f (hX : Ok X E own cc R nL) {x : Int32} {off : Int} {tgt : Nat} (d : decode cc pc = .ok (.ifCond .eq off, 3)) (hg : (pc : Int) + off = (tgt : Int)) (h : ¬ x = 0) (k : G X (pc + 3) lv st ws) : G X pc lv (.int x :: st) ws := rh_if_eq hX d hg (fun q => absurd q h) (fun _ => k)
theorem rh_icmp_eq (hX : Ok X E own cc R nL) {x y : Int32} {off : Int} {tgt : Nat} (d : decode cc pc = .ok (.if_icmp .eq off, 3)) (hg : (pc : Int) + off = (tgt : Int)) (kt : x = y → G X tgt lv st ws) (kf : ¬ x = y → G X (pc + 3) lv st ws) : G X pc lv (.int y :: .int x :: st) ws := by
  obtain ⟨p, l, e, R0, s, m, args, below, meth, c, E0, A, Q, kc, ns, nL0⟩ := X
  obtain ⟨hx, hb, hml, ho, ht, hK, hA, hAz, hlk, hkn, rfl, rfl, rfl⟩ := hX
  exact fun H locs ls hP hD hS hl => lv_icmp_eq hx hb d hg (fun h => kt h H locs ls hP hD hS hl) (fun h => kf h H locs ls hP hD hS hl)
theorem rh_icmp_eq_t (hX : Ok X E own cc R nL) {x y : Int32} {off : Int} {tgt : Nat} (d : decode cc pc = .ok (.if_icmp .eq off, 3)) (hg : (pc : Int) + off = (tgt : Int)) (h : x = y) (k : G X tgt lv st ws) : G X pc lv (.int y :: .int x :: st) ws := rh_icmp_eq hX d hg (fun _ => k) (fun q => absurd h q)
theorem rh_icmp_eq_f (hX : Ok X E own cc R nL) {x y : Int32} {off : Int} {tgt : Nat} (d : decode cc pc = .ok (.if_icmp .eq off, 3)) (hg : (pc : Int) + off = (tgt : Int)) (h : ¬ x = y) (k : G X (pc + 3) lv st ws) : G X pc lv (.int y :: .int x :: st) ws := rh_icmp_eq hX d hg (fun q => absurd q h) (fun _ => k)
theorem rh_if_ne (hX : Ok X E own cc R nL) {x : Int32} {off : Int} {tgt : Nat} (d : decode cc pc = .ok (.ifCond .ne off, 3)) (hg : (pc : Int) + off = (tgt : Int)) (kt : ¬ x = 0 → G X tgt lv st ws) (kf : x = 0 → G X (pc + 3) lv st ws) : G X pc lv (.int x :: st) ws := by
  obtain ⟨p, l, e, R0, s, m, args, below, meth, c, E0, A, Q, kc, ns, nL0⟩ := X
  obtain ⟨hx, hb, hml, ho, ht, hK, hA, hAz, hlk, hkn, rfl, rfl, rfl⟩ := hX
  exact fun H locs ls hP hD hS hl => lv_if_ne hx hb d hg (fun h => kt h H locs ls hP hD hS hl) (fun h => kf h H locs ls hP hD hS hl)
theorem rh_if_ne_t (hX : Ok X E own cc R nL) {x : Int32} {off : Int} {tgt : Nat} (d : decode cc pc = .ok (.ifCond .ne off, 3)) (hg : (pc : Int) + off = (tgt : Int)) (h : ¬ x = 0) (k : G X tgt lv st ws) : G X pc lv (.int x :: st) ws := rh_if_ne hX d hg (fun _ => k) (fun q => absurd q h)
theorem rh_if_ne_f (hX : Ok X E own cc R nL) {x : Int32} {off : Int} {tgt : Nat} (d : decode cc pc = .ok (.ifCond .ne off, 3)) (hg : (pc : Int) + off = (tgt : Int)) (h : x = 0) (k : G X (pc + 3) lv st ws) : G X pc lv (.int x :: st) ws := rh_if_ne hX d hg (fun q => absurd h q) (fun _ => k)
theorem rh_icmp_ne (hX : Ok X E own cc R nL) {x y : Int32} {off : Int} {tgt : Nat} (d : decode cc pc = .ok (.if_icmp .ne off, 3)) (hg : (pc : Int) + off = (tgt : Int)) (kt : ¬ x = y → G X tgt lv st ws) (kf : x = y → G X (pc + 3) lv st ws) : G X pc lv (.int y :: .int x :: st) ws := by
  obtain ⟨p, l, e, R0, s, m, args, below, meth, c, E0, A, Q, kc, ns, nL0⟩ := X
  obtain ⟨hx, hb, hml, ho, ht, hK, hA, hAz, hlk, hkn, rfl, rfl, rfl⟩ := hX
  exact fun H locs ls hP hD hS hl => lv_icmp_ne hx hb d hg (fun h => kt h H locs ls hP hD hS hl) (fun h => kf h H locs ls hP hD hS hl)
theorem rh_icmp_ne_t (hX : Ok X E own cc R nL) {x y : Int32} {off : Int} {tgt : Nat} (d : decode cc pc = .ok (.if_icmp .ne off, 3)) (hg : (pc : Int) + off = (tgt : Int)) (h : ¬ x = y) (k : G X tgt lv st ws) : G X pc lv (.int y :: .int x :: st) ws := rh_icmp_ne hX d hg (fun _ => k) (fun q => absurd q h)
theorem rh_icmp_ne_f (hX : Ok X E own cc R nL) {x y : Int32} {off : Int} {tgt : Nat} (d : decode cc pc = .ok (.if_icmp .ne off, 3)) (hg : (pc : Int) + off = (tgt : Int)) (h : x = y) (k : G X (pc + 3) lv st ws) : G X pc lv (.int y :: .int x :: st) ws := rh_icmp_ne hX d hg (fun q => absurd h q) (fun _ => k)
theorem rh_if_lt (hX : Ok X E own cc R nL) {x : Int32} {off : Int} {tgt : Nat} (d : decode cc pc = .ok (.ifCond .lt off, 3)) (hg : (pc : Int) + off = (tgt : Int)) (kt : x < 0 → G X tgt lv st ws) (kf : ¬ x < 0 → G X (pc + 3) lv st ws) : G X pc lv (.int x :: st) ws := by
  obtain ⟨p, l, e, R0, s, m, args, below, meth, c, E0, A, Q, kc, ns, nL0⟩ := X
  obtain ⟨hx, hb, hml, ho, ht, hK, hA, hAz, hlk, hkn, rfl, rfl, rfl⟩ := hX
  exact fun H locs ls hP hD hS hl => lv_if_lt hx hb d hg (fun h => kt h H locs ls hP hD hS hl) (fun h => kf h H locs ls hP hD hS hl)
theorem rh_if_lt_t (hX : Ok X E own cc R nL) {x : Int32} {off : Int} {tgt : Nat} (d : decode cc pc = .ok (.ifCond .lt off, 3)) (hg : (pc : Int) + off = (tgt : Int)) (h : x < 0) (k : G X tgt lv st ws) : G X pc lv (.int x :: st) ws := rh_if_lt hX d hg (fun _ => k) (fun q => absurd h q)
theorem rh_if_lt_f (hX : Ok X E own cc R nL) {x : Int32} {off : Int} {tgt : Nat} (d : decode cc pc = .ok (.ifCond .lt off, 3)) (hg : (pc : Int) + off = (tgt : Int)) (h : ¬ x < 0) (k : G X (pc + 3) lv st ws) : G X pc lv (.int x :: st) ws := rh_if_lt hX d hg (fun q => absurd q h) (fun _ => k)
theorem rh_icmp_lt (hX : Ok X E own cc R nL) {x y : Int32} {off : Int} {tgt : Nat} (d : decode cc pc = .ok (.if_icmp .lt off, 3)) (hg : (pc : Int) + off = (tgt : Int)) (kt : x < y → G X tgt lv st ws) (kf : ¬ x < y → G X (pc + 3) lv st ws) : G X pc lv (.int y :: .int x :: st) ws := by
  obtain ⟨p, l, e, R0, s, m, args, below, meth, c, E0, A, Q, kc, ns, nL0⟩ := X
  obtain ⟨hx, hb, hml, ho, ht, hK, hA, hAz, hlk, hkn, rfl, rfl, rfl⟩ := hX
  exact fun H locs ls hP hD hS hl => lv_icmp_lt hx hb d hg (fun h => kt h H locs ls hP hD hS hl) (fun h => kf h H locs ls hP hD hS hl)
theorem rh_icmp_lt_t (hX : Ok X E own cc R nL) {x y : Int32} {off : Int} {tgt : Nat} (d : decode cc pc = .ok (.if_icmp .lt off, 3)) (hg : (pc : Int) + off = (tgt : Int)) (h : x < y) (k : G X tgt lv st ws) : G X pc lv (.int y :: .int x :: st) ws := rh_icmp_lt hX d hg (fun _ => k) (fun q => absurd h q)
theorem rh_icmp_lt_f (hX : Ok X E own cc R nL) {x y : Int32} {off : Int} {tgt : Nat} (d : decode cc pc = .ok (.if_icmp .lt off, 3)) (hg : (pc : Int) + off = (tgt : Int)) (h : ¬ x < y) (k : G X (pc + 3) lv st ws) : G X pc lv (.int y :: .int x :: st) ws := rh_icmp_lt hX d hg (fun q => absurd q h) (fun _ => k)
theorem rh_if_ge (hX : Ok X E own cc R nL) {x : Int32} {off : Int} {tgt : Nat} (d : decode cc pc = .ok (.ifCond .ge off, 3)) (hg : (pc : Int) + off = (tgt : Int)) (kt : 0 ≤ x → G X tgt lv st ws) (kf : ¬ 0 ≤ x → G X (pc + 3) lv st ws) : G X pc lv (.int x :: st) ws := by
  obtain ⟨p, l, e, R0, s, m, args, below, meth, c, E0, A, Q, kc, ns, nL0⟩ := X
  obtain ⟨hx, hb, hml, ho, ht, hK, hA, hAz, hlk, hkn, rfl, rfl, rfl⟩ := hX
  exact fun H locs ls hP hD hS hl => lv_if_ge hx hb d hg (fun h => kt h H locs ls hP hD hS hl) (fun h => kf h H locs ls hP hD hS hl)
theorem rh_if_ge_t (hX : Ok X E own cc R nL) {x : Int32} {off : Int} {tgt : Nat} (d : decode cc pc = .ok (.ifCond .ge off, 3)) (hg : (pc : Int) + off = (tgt : Int)) (h : 0 ≤ x) (k : G X tgt lv st ws) : G X pc lv (.int x :: st) ws := rh_if_ge hX d hg (fun _ => k) (fun q => absurd h q)
theorem rh_if_ge_f (hX : Ok X E own cc R nL) {x : Int32} {off : Int} {tgt : Nat} (d : decode cc pc = .ok (.ifCond .ge off, 3)) (hg : (pc : Int) + off = (tgt : Int)) (h : ¬ 0 ≤ x) (k : G X (pc + 3) lv st ws) : G X pc lv (.int x :: st) ws := rh_if_ge hX d hg (fun q => absurd q h) (fun _ => k)
theorem rh_icmp_ge (hX : Ok X E own cc R nL) {x y : Int32} {off : Int} {tgt : Nat} (d : decode cc pc = .ok (.if_icmp .ge off, 3)) (hg : (pc : Int) + off = (tgt : Int)) (kt : y ≤ x → G X tgt lv st ws) (kf : ¬ y ≤ x → G X (pc + 3) lv st ws) : G X pc lv (.int y :: .int x :: st) ws := by
  obtain ⟨p, l, e, R0, s, m, args, below, meth, c, E0, A, Q, kc, ns, nL0⟩ := X
  obtain ⟨hx, hb, hml, ho, ht, hK, hA, hAz, hlk, hkn, rfl, rfl, rfl⟩ := hX
  exact fun H locs ls hP hD hS hl => lv_icmp_ge hx hb d hg (fun h => kt h H locs ls hP hD hS hl) (fun h => kf h H locs ls hP hD hS hl)
theorem rh_icmp_ge_t (hX : Ok X E own cc R nL) {x y : Int32} {off : Int} {tgt : Nat} (d : decode cc pc = .ok (.if_icmp .ge off, 3)) (hg : (pc : Int) + off = (tgt : Int)) (h : y ≤ x) (k : G X tgt lv st ws) : G X pc lv (.int y :: .int x :: st) ws := rh_icmp_ge hX d hg (fun _ => k) (fun q => absurd h q)
theorem rh_icmp_ge_f (hX : Ok X E own cc R nL) {x y : Int32} {off : Int} {tgt : Nat} (d : decode cc pc = .ok (.if_icmp .ge off, 3)) (hg : (pc : Int) + off = (tgt : Int)) (h : ¬ y ≤ x) (k : G X (pc + 3) lv st ws) : G X pc lv (.int y :: .int x :: st) ws := rh_icmp_ge hX d hg (fun q => absurd q h) (fun _ => k)
theorem rh_if_gt (hX : Ok X E own cc R nL) {x : Int32} {off : Int} {tgt : Nat} (d : decode cc pc = .ok (.ifCond .gt off, 3)) (hg : (pc : Int) + off = (tgt : Int)) (kt : 0 < x → G X tgt lv st ws) (kf : ¬ 0 < x → G X (pc + 3) lv st ws) : G X pc lv (.int x :: st) ws := by
  obtain ⟨p, l, e, R0, s, m, args, below, meth, c, E0, A, Q, kc, ns, nL0⟩ := X
  obtain ⟨hx, hb, hml, ho, ht, hK, hA, hAz, hlk, hkn, rfl, rfl, rfl⟩ := hX
  exact fun H locs ls hP hD hS hl => lv_if_gt hx hb d hg (fun h => kt h H locs ls hP hD hS hl) (fun h => kf h H locs ls hP hD hS hl)
theorem rh_if_gt_t (hX : Ok X E own cc R nL) {x : Int32} {off : Int} {tgt : Nat} (d : decode cc pc = .ok (.ifCond .gt off, 3)) (hg : (pc : Int) + off = (tgt : Int)) (h : 0 < x) (k : G X tgt lv st ws) : G X pc lv (.int x :: st) ws := rh_if_gt hX d hg (fun _ => k) (fun q => absurd h q)
theorem rh_if_gt_f (hX : Ok X E own cc R nL) {x : Int32} {off : Int} {tgt : Nat} (d : decode cc pc = .ok (.ifCond .gt off, 3)) (hg : (pc : Int) + off = (tgt : Int)) (h : ¬ 0 < x) (k : G X (pc + 3) lv st ws) : G X pc lv (.int x :: st) ws := rh_if_gt hX d hg (fun q => absurd q h) (fun _ => k)
theorem rh_icmp_gt (hX : Ok X E own cc R nL) {x y : Int32} {off : Int} {tgt : Nat} (d : decode cc pc = .ok (.if_icmp .gt off, 3)) (hg : (pc : Int) + off = (tgt : Int)) (kt : y < x → G X tgt lv st ws) (kf : ¬ y < x → G X (pc + 3) lv st ws) : G X pc lv (.int y :: .int x :: st) ws := by
  obtain ⟨p, l, e, R0, s, m, args, below, meth, c, E0, A, Q, kc, ns, nL0⟩ := X
  obtain ⟨hx, hb, hml, ho, ht, hK, hA, hAz, hlk, hkn, rfl, rfl, rfl⟩ := hX
  exact fun H locs ls hP hD hS hl => lv_icmp_gt hx hb d hg (fun h => kt h H locs ls hP hD hS hl) (fun h => kf h H locs ls hP hD hS hl)
theorem rh_icmp_gt_t (hX : Ok X E own cc R nL) {x y : Int32} {off : Int} {tgt : Nat} (d : decode cc pc = .ok (.if_icmp .gt off, 3)) (hg : (pc : Int) + off = (tgt : Int)) (h : y < x) (k : G X tgt lv st ws) : G X pc lv (.int y :: .int x :: st) ws := rh_icmp_gt hX d hg (fun _ => k) (fun q => absurd h q)
theorem rh_icmp_gt_f (hX : Ok X E own cc R nL) {x y : Int32} {off : Int} {tgt : Nat} (d : decode cc pc = .ok (.if_icmp .gt off, 3)) (hg : (pc : Int) + off = (tgt : Int)) (h : ¬ y < x) (k : G X (pc + 3) lv st ws) : G X pc lv (.int y :: .int x :: st) ws := rh_icmp_gt hX d hg (fun q => absurd q h) (fun _ => k)
theorem rh_if_le (hX : Ok X E own cc R nL) {x : Int32} {off : Int} {tgt : Nat} (d : decode cc pc = .ok (.ifCond .le off, 3)) (hg : (pc : Int) + off = (tgt : Int)) (kt : x ≤ 0 → G X tgt lv st ws) (kf : ¬ x ≤ 0 → G X (pc + 3) lv st ws) : G X pc lv (.int x :: st) ws := by
  obtain ⟨p, l, e, R0, s, m, args, below, meth, c, E0, A, Q, kc, ns, nL0⟩ := X
  obtain ⟨hx, hb, hml, ho, ht, hK, hA, hAz, hlk, hkn, rfl, rfl, rfl⟩ := hX
  exact fun H locs ls hP hD hS hl => lv_if_le hx hb d hg (fun h => kt h H locs ls hP hD hS hl) (fun h => kf h H locs ls hP hD hS hl)
theorem rh_if_le_t (hX : Ok X E own cc R nL) {x : Int32} {off : Int} {tgt : Nat} (d : decode cc pc = .ok (.ifCond .le off, 3)) (hg : (pc : Int) + off = (tgt : Int)) (h : x ≤ 0) (k : G X tgt lv st ws) : G X pc lv (.int x :: st) ws := rh_if_le hX d hg (fun _ => k) (fun q => absurd h q)
theorem rh_if_le_f (hX : Ok X E own cc R nL) {x : Int32} {off : Int} {tgt : Nat} (d : decode cc pc = .ok (.ifCond .le off, 3)) (hg : (pc : Int) + off = (tgt : Int)) (h : ¬ x ≤ 0) (k : G X (pc + 3) lv st ws) : G X pc lv (.int x :: st) ws := rh_if_le hX d hg (fun q => absurd q h) (fun _ => k)
theorem rh_icmp_le (hX : Ok X E own cc R nL) {x y : Int32} {off : Int} {tgt : Nat} (d : decode cc pc = .ok (.if_icmp .le off, 3)) (hg : (pc : Int) + off = (tgt : Int)) (kt : x ≤ y → G X tgt lv st ws) (kf : ¬ x ≤ y → G X (pc + 3) lv st ws) : G X pc lv (.int y :: .int x :: st) ws := by
  obtain ⟨p, l, e, R0, s, m, args, below, meth, c, E0, A, Q, kc, ns, nL0⟩ := X
  obtain ⟨hx, hb, hml, ho, ht, hK, hA, hAz, hlk, hkn, rfl, rfl, rfl⟩ := hX
  exact fun H locs ls hP hD hS hl => lv_icmp_le hx hb d hg (fun h => kt h H locs ls hP hD hS hl) (fun h => kf h H locs ls hP hD hS hl)
theorem rh_icmp_le_t (hX : Ok X E own cc R nL) {x y : Int32} {off : Int} {tgt : Nat} (d : decode cc pc = .ok (.if_icmp .le off, 3)) (hg : (pc : Int) + off = (tgt : Int)) (h : x ≤ y) (k : G X tgt lv st ws) : G X pc lv (.int y :: .int x :: st) ws := rh_icmp_le hX d hg (fun _ => k) (fun q => absurd h q)
theorem rh_icmp_le_f (hX : Ok X E own cc R nL) {x y : Int32} {off : Int} {tgt : Nat} (d : decode cc pc = .ok (.if_icmp .le off, 3)) (hg : (pc : Int) + off = (tgt : Int)) (h : ¬ x ≤ y) (k : G X (pc + 3) lv st ws) : G X pc lv (.int y :: .int x :: st) ws := rh_icmp_le hX d hg (fun q => absurd q h) (fun _ => k)
theorem rh_cmp1 {x y : Int64} (h : y < x) : lg_cmp x y = 1 := by simp [lg_cmp, h]
theorem rh_cmp0 {x : Int64} : lg_cmp x x = 0 := by simp [lg_cmp]
theorem rh_cmpN {x y : Int64} (h : x < y) : lg_cmp x y = -1 := by
  have h1 : ¬ y < x := by
    rw [Int64.lt_iff_toInt_lt] at h ⊢
    omega
  have h2 : ¬ x = y := by
    intro q
    subst q
    exact h1 h
  simp [lg_cmp, h1, h2]
theorem rh_cmpC (x y : Int64) : (x < y ∧ lg_cmp x y = -1 ∧ ¬ y < x ∧ ¬ x = y) ∨ (x = y ∧ lg_cmp x y = 0 ∧ ¬ y < x ∧ ¬ x < y) ∨ (y < x ∧ lg_cmp x y = 1 ∧ ¬ x < y ∧ ¬ x = y) := by
  rcases Int.lt_trichotomy x.toInt y.toInt with h | h | h
  · have h1 : x < y := Int64.lt_iff_toInt_lt.mpr h
    refine Or.inl ⟨h1, rh_cmpN h1, ?_, ?_⟩
    · rw [Int64.lt_iff_toInt_lt]; omega
    · intro q; rw [q] at h; omega
  · have h1 : x = y := Int64.toInt_inj.mp h
    subst h1
    exact Or.inr (Or.inl ⟨rfl, rh_cmp0, by rw [Int64.lt_iff_toInt_lt]; omega, by rw [Int64.lt_iff_toInt_lt]; omega⟩)
  · have h1 : y < x := Int64.lt_iff_toInt_lt.mpr h
    refine Or.inr (Or.inr ⟨h1, rh_cmp1 h1, ?_, ?_⟩)
    · rw [Int64.lt_iff_toInt_lt]; omega
    · intro q; rw [q] at h; omega
theorem rh_le64 {x y : Int64} : x ≤ y ↔ ¬ y < x := by rw [Int64.le_iff_toInt_le, Int64.lt_iff_toInt_lt]; omega
theorem rh_lcmp (hX : Ok X E own cc R nL) {x y : Int64} (d : decode cc pc = .ok (.lcmp, 1)) (k : G X (pc + 1) lv (.int (lg_cmp x y) :: st) ws) : G X pc lv (.long y :: .long x :: st) ws := by
  obtain ⟨p, l, e, R0, s, m, args, below, meth, c, E0, A, Q, kc, ns, nL0⟩ := X
  obtain ⟨hx, hb, hml, ho, ht, hK, hA, hAz, hlk, hkn, rfl, rfl, rfl⟩ := hX
  exact fun H locs ls hP hD hS hl => W.lcmp hx hb d (k H locs ls hP hD hS hl)
theorem rh_lc_eq (x y : Int64) : lg_cmp x y = 0 ↔ x = y := by
  rcases rh_cmpC x y with ⟨h1, h2, h3, h4⟩ | ⟨h1, h2, h3, h4⟩ | ⟨h1, h2, h3, h4⟩ <;> rw [h2] <;> simp [h1, h3, h4, rh_le64]
theorem rh_leq (hX : Ok X E own cc R nL) {x y : Int64} {off : Int} {tgt : Nat} (d1 : decode cc pc = .ok (.lcmp, 1)) (d : decode cc (pc + 1) = .ok (.ifCond .eq off, 3)) (hg : ((pc + 1 : Nat) : Int) + off = (tgt : Int)) (kt : x = y → G X tgt lv st ws) (kf : ¬ x = y → G X (pc + 4) lv st ws) : G X pc lv (.long y :: .long x :: st) ws := rh_lcmp hX d1 (rh_if_eq hX d hg (fun h => kt ((rh_lc_eq x y).mp h)) (fun h => kf (fun q => h ((rh_lc_eq x y).mpr q))))
theorem rh_leq_t (hX : Ok X E own cc R nL) {x y : Int64} {off : Int} {tgt : Nat} (d1 : decode cc pc = .ok (.lcmp, 1)) (d : decode cc (pc + 1) = .ok (.ifCond .eq off, 3)) (hg : ((pc + 1 : Nat) : Int) + off = (tgt : Int)) (h : x = y) (k : G X tgt lv st ws) : G X pc lv (.long y :: .long x :: st) ws := rh_leq hX d1 d hg (fun _ => k) (fun q => absurd h q)
theorem rh_leq_f (hX : Ok X E own cc R nL) {x y : Int64} {off : Int} {tgt : Nat} (d1 : decode cc pc = .ok (.lcmp, 1)) (d : decode cc (pc + 1) = .ok (.ifCond .eq off, 3)) (hg : ((pc + 1 : Nat) : Int) + off = (tgt : Int)) (h : ¬ x = y) (k : G X (pc + 4) lv st ws) : G X pc lv (.long y :: .long x :: st) ws := rh_leq hX d1 d hg (fun q => absurd q h) (fun _ => k)
theorem rh_lc_ne (x y : Int64) : ¬ lg_cmp x y = 0 ↔ ¬ x = y := by
  rcases rh_cmpC x y with ⟨h1, h2, h3, h4⟩ | ⟨h1, h2, h3, h4⟩ | ⟨h1, h2, h3, h4⟩ <;> rw [h2] <;> simp [h1, h3, h4, rh_le64]
theorem rh_lne (hX : Ok X E own cc R nL) {x y : Int64} {off : Int} {tgt : Nat} (d1 : decode cc pc = .ok (.lcmp, 1)) (d : decode cc (pc + 1) = .ok (.ifCond .ne off, 3)) (hg : ((pc + 1 : Nat) : Int) + off = (tgt : Int)) (kt : ¬ x = y → G X tgt lv st ws) (kf : x = y → G X (pc + 4) lv st ws) : G X pc lv (.long y :: .long x :: st) ws := rh_lcmp hX d1 (rh_if_ne hX d hg (fun h => kt ((rh_lc_ne x y).mp h)) (fun h => kf (Classical.not_not.mp (fun q => (rh_lc_ne x y).mpr q h))))
theorem rh_lne_t (hX : Ok X E own cc R nL) {x y : Int64} {off : Int} {tgt : Nat} (d1 : decode cc pc = .ok (.lcmp, 1)) (d : decode cc (pc + 1) = .ok (.ifCond .ne off, 3)) (hg : ((pc + 1 : Nat) : Int) + off = (tgt : Int)) (h : ¬ x = y) (k : G X tgt lv st ws) : G X pc lv (.long y :: .long x :: st) ws := rh_lne hX d1 d hg (fun _ => k) (fun q => absurd q h)
theorem rh_lne_f (hX : Ok X E own cc R nL) {x y : Int64} {off : Int} {tgt : Nat} (d1 : decode cc pc = .ok (.lcmp, 1)) (d : decode cc (pc + 1) = .ok (.ifCond .ne off, 3)) (hg : ((pc + 1 : Nat) : Int) + off = (tgt : Int)) (h : x = y) (k : G X (pc + 4) lv st ws) : G X pc lv (.long y :: .long x :: st) ws := rh_lne hX d1 d hg (fun q => absurd h q) (fun _ => k)
theorem rh_lc_lt (x y : Int64) : lg_cmp x y < 0 ↔ x < y := by
  rcases rh_cmpC x y with ⟨h1, h2, h3, h4⟩ | ⟨h1, h2, h3, h4⟩ | ⟨h1, h2, h3, h4⟩ <;> rw [h2] <;> simp [h1, h3, h4, rh_le64]
theorem rh_llt (hX : Ok X E own cc R nL) {x y : Int64} {off : Int} {tgt : Nat} (d1 : decode cc pc = .ok (.lcmp, 1)) (d : decode cc (pc + 1) = .ok (.ifCond .lt off, 3)) (hg : ((pc + 1 : Nat) : Int) + off = (tgt : Int)) (kt : x < y → G X tgt lv st ws) (kf : ¬ x < y → G X (pc + 4) lv st ws) : G X pc lv (.long y :: .long x :: st) ws := rh_lcmp hX d1 (rh_if_lt hX d hg (fun h => kt ((rh_lc_lt x y).mp h)) (fun h => kf (fun q => h ((rh_lc_lt x y).mpr q))))
theorem rh_llt_t (hX : Ok X E own cc R nL) {x y : Int64} {off : Int} {tgt : Nat} (d1 : decode cc pc = .ok (.lcmp, 1)) (d : decode cc (pc + 1) = .ok (.ifCond .lt off, 3)) (hg : ((pc + 1 : Nat) : Int) + off = (tgt : Int)) (h : x < y) (k : G X tgt lv st ws) : G X pc lv (.long y :: .long x :: st) ws := rh_llt hX d1 d hg (fun _ => k) (fun q => absurd h q)
theorem rh_llt_f (hX : Ok X E own cc R nL) {x y : Int64} {off : Int} {tgt : Nat} (d1 : decode cc pc = .ok (.lcmp, 1)) (d : decode cc (pc + 1) = .ok (.ifCond .lt off, 3)) (hg : ((pc + 1 : Nat) : Int) + off = (tgt : Int)) (h : ¬ x < y) (k : G X (pc + 4) lv st ws) : G X pc lv (.long y :: .long x :: st) ws := rh_llt hX d1 d hg (fun q => absurd q h) (fun _ => k)
theorem rh_lc_ge (x y : Int64) : 0 ≤ lg_cmp x y ↔ y ≤ x := by
  rcases rh_cmpC x y with ⟨h1, h2, h3, h4⟩ | ⟨h1, h2, h3, h4⟩ | ⟨h1, h2, h3, h4⟩ <;> rw [h2] <;> simp [h1, h3, h4, rh_le64]
theorem rh_lge (hX : Ok X E own cc R nL) {x y : Int64} {off : Int} {tgt : Nat} (d1 : decode cc pc = .ok (.lcmp, 1)) (d : decode cc (pc + 1) = .ok (.ifCond .ge off, 3)) (hg : ((pc + 1 : Nat) : Int) + off = (tgt : Int)) (kt : y ≤ x → G X tgt lv st ws) (kf : ¬ y ≤ x → G X (pc + 4) lv st ws) : G X pc lv (.long y :: .long x :: st) ws := rh_lcmp hX d1 (rh_if_ge hX d hg (fun h => kt ((rh_lc_ge x y).mp h)) (fun h => kf (fun q => h ((rh_lc_ge x y).mpr q))))
theorem rh_lge_t (hX : Ok X E own cc R nL) {x y : Int64} {off : Int} {tgt : Nat} (d1 : decode cc pc = .ok (.lcmp, 1)) (d : decode cc (pc + 1) = .ok (.ifCond .ge off, 3)) (hg : ((pc + 1 : Nat) : Int) + off = (tgt : Int)) (h : y ≤ x) (k : G X tgt lv st ws) : G X pc lv (.long y :: .long x :: st) ws := rh_lge hX d1 d hg (fun _ => k) (fun q => absurd h q)
theorem rh_lge_f (hX : Ok X E own cc R nL) {x y : Int64} {off : Int} {tgt : Nat} (d1 : decode cc pc = .ok (.lcmp, 1)) (d : decode cc (pc + 1) = .ok (.ifCond .ge off, 3)) (hg : ((pc + 1 : Nat) : Int) + off = (tgt : Int)) (h : ¬ y ≤ x) (k : G X (pc + 4) lv st ws) : G X pc lv (.long y :: .long x :: st) ws := rh_lge hX d1 d hg (fun q => absurd q h) (fun _ => k)
theorem rh_lc_gt (x y : Int64) : 0 < lg_cmp x y ↔ y < x := by
  rcases rh_cmpC x y with ⟨h1, h2, h3, h4⟩ | ⟨h1, h2, h3, h4⟩ | ⟨h1, h2, h3, h4⟩ <;> rw [h2] <;> simp [h1, h3, h4, rh_le64]
theorem rh_lgt (hX : Ok X E own cc R nL) {x y : Int64} {off : Int} {tgt : Nat} (d1 : decode cc pc = .ok (.lcmp, 1)) (d : decode cc (pc + 1) = .ok (.ifCond .gt off, 3)) (hg : ((pc + 1 : Nat) : Int) + off = (tgt : Int)) (kt : y < x → G X tgt lv st ws) (kf : ¬ y < x → G X (pc + 4) lv st ws) : G X pc lv (.long y :: .long x :: st) ws := rh_lcmp hX d1 (rh_if_gt hX d hg (fun h => kt ((rh_lc_gt x y).mp h)) (fun h => kf (fun q => h ((rh_lc_gt x y).mpr q))))
theorem rh_lgt_t (hX : Ok X E own cc R nL) {x y : Int64} {off : Int} {tgt : Nat} (d1 : decode cc pc = .ok (.lcmp, 1)) (d : decode cc (pc + 1) = .ok (.ifCond .gt off, 3)) (hg : ((pc + 1 : Nat) : Int) + off = (tgt : Int)) (h : y < x) (k : G X tgt lv st ws) : G X pc lv (.long y :: .long x :: st) ws := rh_lgt hX d1 d hg (fun _ => k) (fun q => absurd h q)
theorem rh_lgt_f (hX : Ok X E own cc R nL) {x y : Int64} {off : Int} {tgt : Nat} (d1 : decode cc pc = .ok (.lcmp, 1)) (d : decode cc (pc + 1) = .ok (.ifCond .gt off, 3)) (hg : ((pc + 1 : Nat) : Int) + off = (tgt : Int)) (h : ¬ y < x) (k : G X (pc + 4) lv st ws) : G X pc lv (.long y :: .long x :: st) ws := rh_lgt hX d1 d hg (fun q => absurd q h) (fun _ => k)
theorem rh_lc_le (x y : Int64) : lg_cmp x y ≤ 0 ↔ x ≤ y := by
  rcases rh_cmpC x y with ⟨h1, h2, h3, h4⟩ | ⟨h1, h2, h3, h4⟩ | ⟨h1, h2, h3, h4⟩ <;> rw [h2] <;> simp [h1, h3, h4, rh_le64]
theorem rh_lle (hX : Ok X E own cc R nL) {x y : Int64} {off : Int} {tgt : Nat} (d1 : decode cc pc = .ok (.lcmp, 1)) (d : decode cc (pc + 1) = .ok (.ifCond .le off, 3)) (hg : ((pc + 1 : Nat) : Int) + off = (tgt : Int)) (kt : x ≤ y → G X tgt lv st ws) (kf : ¬ x ≤ y → G X (pc + 4) lv st ws) : G X pc lv (.long y :: .long x :: st) ws := rh_lcmp hX d1 (rh_if_le hX d hg (fun h => kt ((rh_lc_le x y).mp h)) (fun h => kf (fun q => h ((rh_lc_le x y).mpr q))))
theorem rh_lle_t (hX : Ok X E own cc R nL) {x y : Int64} {off : Int} {tgt : Nat} (d1 : decode cc pc = .ok (.lcmp, 1)) (d : decode cc (pc + 1) = .ok (.ifCond .le off, 3)) (hg : ((pc + 1 : Nat) : Int) + off = (tgt : Int)) (h : x ≤ y) (k : G X tgt lv st ws) : G X pc lv (.long y :: .long x :: st) ws := rh_lle hX d1 d hg (fun _ => k) (fun q => absurd h q)
theorem rh_lle_f (hX : Ok X E own cc R nL) {x y : Int64} {off : Int} {tgt : Nat} (d1 : decode cc pc = .ok (.lcmp, 1)) (d : decode cc (pc + 1) = .ok (.ifCond .le off, 3)) (hg : ((pc + 1 : Nat) : Int) + off = (tgt : Int)) (h : ¬ x ≤ y) (k : G X (pc + 4) lv st ws) : G X pc lv (.long y :: .long x :: st) ws := rh_lle hX d1 d hg (fun q => absurd q h) (fun _ => k)
theorem rh_get (hX : Ok X E own cc R nL) {idx ci kf : Nat} {ty : FieldType} {fin : Bool} (F : rhGl own idx ci kf ty fin) {a : Nat} {fs : List Value} {v : Value} (q0 : Nat) (d : decode cc pc = .ok (.getfield idx, 3)) (he : ws[q0]? = some (a, .inr (ci, fs))) (hv : fs[kf]? = some v) (k : G X (pc + 3) lv (v :: st) ws) : G X pc lv (.ref a :: st) ws := by
  obtain ⟨p, l, e, R0, s, m, args, below, meth, c, E0, A, Q, kc, ns, nL0⟩ := X
  obtain ⟨hx, hb, hml, ho, ht, hK, hA, hAz, hlk, hkn, rfl, rfl, rfl⟩ := hX
  obtain ⟨C, T, N, ty0, f1, f2, f3, f4, f5, f6, f7, f8⟩ := F
  intro H locs ls hP hD hS hl
  rcases f8 with f8 | ⟨host, f8⟩
  · exact va_get (D := E0.1) (tys := rhTy E0.2.1) hx hb ht f3 ho hK.1 hP q0 he f1 kf f2 (ht _ f8) (fun _ h => h) hv d (k H locs ls hP hD hS hl)
  · exact va_getN (D := E0.1) (tys := rhTy E0.2.1) hx hb ht f3 ho hK.1 hP q0 he f1 kf f2 (va_Nw.use rfl (hK.2.1 _ f8)) (fun _ h => h) hv d (k H locs ls hP hD hS hl)
theorem rh_put (hX : Ok X E own cc R nL) {idx ci kf : Nat} {ty : FieldType} (F : rhGl own idx ci kf ty false) {a : Nat} {fs : List Value} {v : Value} {ws' : va_W} (q0 : Nat) (d : decode cc pc = .ok (.putfield idx, 3)) (he : ws[q0]? = some (a, .inr (ci, fs))) (hn : narrow ty v = v) (hf : fits ty v = true) (hlen : kf < fs.length) (hw : ws.set q0 (a, .inr (ci, fs.set kf v)) = ws') (k : G X (pc + 3) lv st ws') : G X pc lv (v :: .ref a :: st) ws := by
  obtain ⟨p, l, e, R0, s, m, args, below, meth, c, E0, A, Q, kc, ns, nL0⟩ := X
  obtain ⟨hx, hb, hml, ho, ht, hK, hA, hAz, hlk, hkn, rfl, rfl, rfl⟩ := hX
  obtain ⟨C, T, N, ty0, f1, f2, f3, f4, f5, f6, f7, f8⟩ := F
  subst hw
  intro H locs ls hP hD hS hl
  rcases f8 with f8 | ⟨host, f8⟩
  · exact va_put (D := E0.1) (tys := rhTy E0.2.1) hx hb ht f3 ty0 f4 f5 ho hK.1 hP hD hS q0 he f1 kf f2 (ht _ f8) (fun _ h => h) f7 ((f4 kf f2).trans (congrArg some f6)) hn hf hlen d (fun H1 locs1 hP1 hD1 hS1 => k H1 locs1 ls hP1 hD1 hS1 hl)
  · exact va_putN (D := E0.1) (tys := rhTy E0.2.1) hx hb ht f3 ty0 f4 f5 ho hK.1 hP hD hS q0 he f1 kf f2 (va_Nw.use rfl (hK.2.1 _ f8)) (fun _ h => h) f7 ((f4 kf f2).trans (congrArg some f6)) hn hf hlen d (fun H1 locs1 hP1 hD1 hS1 => k H1 locs1 ls hP1 hD1 hS1 hl)
theorem rh_in {i : Int32} {j n : Nat} (hi : i = nI j) (hj : j < n) (hn : n < 2 ^ 31) : vp_in i n := by rw [hi]; exact vp_in_nI hj hn
theorem rh_cl {i : Int32} {j n : Nat} (hi : i = nI j) (hj : j < n) (hn : n < 2 ^ 31) : i.toNatClampNeg = j := by rw [hi]; exact nI_clamp (by omega)
theorem rh_laload (hX : Ok X E own cc R nL) {a n : Nat} {f : Nat → Int64} {i : Int32} (q0 j : Nat) (d : decode cc pc = .ok (.laload, 1)) (ha : ws[q0]? = some (a, .inl (E.2.1 1, n, .inr (.inl f)))) (hi : i = nI j) (hj : j < n) (hn : n < 2 ^ 31) (k : G X (pc + 1) lv (.long (f j) :: st) ws) : G X pc lv (.int i :: .ref a :: st) ws := by
  obtain ⟨p, l, e, R0, s, m, args, below, meth, c, E0, A, Q, kc, ns, nL0⟩ := X
  obtain ⟨hx, hb, hml, ho, ht, hK, hA, hAz, hlk, hkn, rfl, rfl, rfl⟩ := hX
  intro H locs ls hP hD hS hl
  refine va_lald (D := E0.1) (tys := rhTy E0.2.1) hx hb hK.1 hP q0 1 ha rfl (rh_in hi hj hn) d ?_
  rw [rh_cl hi hj hn]
  exact (k H locs ls hP hD hS hl)
theorem rh_iaload (hX : Ok X E own cc R nL) {a n : Nat} {f : Nat → Int32} {i : Int32} (q0 j : Nat) (d : decode cc pc = .ok (.iaload, 1)) (ha : ws[q0]? = some (a, .inl (E.2.1 0, n, .inl f))) (hi : i = nI j) (hj : j < n) (hn : n < 2 ^ 31) (k : G X (pc + 1) lv (.int (f j) :: st) ws) : G X pc lv (.int i :: .ref a :: st) ws := by
  obtain ⟨p, l, e, R0, s, m, args, below, meth, c, E0, A, Q, kc, ns, nL0⟩ := X
  obtain ⟨hx, hb, hml, ho, ht, hK, hA, hAz, hlk, hkn, rfl, rfl, rfl⟩ := hX
  intro H locs ls hP hD hS hl
  refine va_iald (D := E0.1) (tys := rhTy E0.2.1) hx hb hK.1 hP q0 0 ha rfl (rh_in hi hj hn) d ?_
  rw [rh_cl hi hj hn]
  exact (k H locs ls hP hD hS hl)
theorem rh_baload (hX : Ok X E own cc R nL) {a n : Nat} {f : Nat → Int32} {i : Int32} (q0 j : Nat) (d : decode cc pc = .ok (.baload, 1)) (ha : ws[q0]? = some (a, .inl (E.2.1 2, n, .inl f))) (hi : i = nI j) (hj : j < n) (hn : n < 2 ^ 31) (k : G X (pc + 1) lv (.int (f j) :: st) ws) : G X pc lv (.int i :: .ref a :: st) ws := by
  obtain ⟨p, l, e, R0, s, m, args, below, meth, c, E0, A, Q, kc, ns, nL0⟩ := X
  obtain ⟨hx, hb, hml, ho, ht, hK, hA, hAz, hlk, hkn, rfl, rfl, rfl⟩ := hX
  intro H locs ls hP hD hS hl
  refine va_bald (D := E0.1) (tys := rhTy E0.2.1) hx hb hK.1 hP q0 2 ha rfl (rh_in hi hj hn) d ?_
  rw [rh_cl hi hj hn]
  exact (k H locs ls hP hD hS hl)
theorem rh_caload (hX : Ok X E own cc R nL) {a n : Nat} {f : Nat → Int32} {i : Int32} (q0 j : Nat) (d : decode cc pc = .ok (.caload, 1)) (ha : ws[q0]? = some (a, .inl (E.2.1 3, n, .inl f))) (hi : i = nI j) (hj : j < n) (hn : n < 2 ^ 31) (k : G X (pc + 1) lv (.int (f j) :: st) ws) : G X pc lv (.int i :: .ref a :: st) ws := by
  obtain ⟨p, l, e, R0, s, m, args, below, meth, c, E0, A, Q, kc, ns, nL0⟩ := X
  obtain ⟨hx, hb, hml, ho, ht, hK, hA, hAz, hlk, hkn, rfl, rfl, rfl⟩ := hX
  intro H locs ls hP hD hS hl
  refine va_cald (D := E0.1) (tys := rhTy E0.2.1) hx hb hK.1 hP q0 3 ha rfl (rh_in hi hj hn) d ?_
  rw [rh_cl hi hj hn]
  exact (k H locs ls hP hD hS hl)
theorem rh_lastore (hX : Ok X E own cc R nL) {a n : Nat} {f : Nat → Int64} {i : Int32} {x : Int64} {ws' : va_W} (q0 j : Nat) (d : decode cc pc = .ok (.lastore, 1)) (ha : ws[q0]? = some (a, .inl (E.2.1 1, n, .inr (.inl f)))) (hi : i = nI j) (hj : j < n) (hn : n < 2 ^ 31) (hw : ws.set q0 (a, .inl (E.2.1 1, n, .inr (.inl (va_up f j x)))) = ws') (k : G X (pc + 1) lv st ws') : G X pc lv (.long x :: .int i :: .ref a :: st) ws := by
  obtain ⟨p, l, e, R0, s, m, args, below, meth, c, E0, A, Q, kc, ns, nL0⟩ := X
  obtain ⟨hx, hb, hml, ho, ht, hK, hA, hAz, hlk, hkn, rfl, rfl, rfl⟩ := hX
  subst hw
  intro H locs ls hP hD hS hl
  refine va_last (D := E0.1) (tys := rhTy E0.2.1) hx hb hK.1 hP hD hS q0 1 ha rfl (rh_in hi hj hn) d (fun H1 locs1 hP1 hD1 hS1 => ?_)
  rw [rh_cl hi hj hn] at hP1 hD1
  exact k H1 locs1 ls hP1 hD1 hS1 hl
theorem rh_iastore (hX : Ok X E own cc R nL) {a n : Nat} {f : Nat → Int32} {i : Int32} {x : Int32} {ws' : va_W} (q0 j : Nat) (d : decode cc pc = .ok (.iastore, 1)) (ha : ws[q0]? = some (a, .inl (E.2.1 0, n, .inl f))) (hi : i = nI j) (hj : j < n) (hn : n < 2 ^ 31) (hw : ws.set q0 (a, .inl (E.2.1 0, n, .inl (va_up f j x))) = ws') (k : G X (pc + 1) lv st ws') : G X pc lv (.int x :: .int i :: .ref a :: st) ws := by
  obtain ⟨p, l, e, R0, s, m, args, below, meth, c, E0, A, Q, kc, ns, nL0⟩ := X
  obtain ⟨hx, hb, hml, ho, ht, hK, hA, hAz, hlk, hkn, rfl, rfl, rfl⟩ := hX
  subst hw
  intro H locs ls hP hD hS hl
  refine va_iast (D := E0.1) (tys := rhTy E0.2.1) hx hb hK.1 hP hD hS q0 0 ha rfl (rh_in hi hj hn) d (fun H1 locs1 hP1 hD1 hS1 => ?_)
  rw [rh_cl hi hj hn] at hP1 hD1
  exact k H1 locs1 ls hP1 hD1 hS1 hl
theorem rh_bastore (hX : Ok X E own cc R nL) {a n : Nat} {f : Nat → Int32} {i : Int32} {x : Int32} {ws' : va_W} (q0 j : Nat) (d : decode cc pc = .ok (.bastore, 1)) (ha : ws[q0]? = some (a, .inl (E.2.1 2, n, .inl f))) (hi : i = nI j) (hj : j < n) (hn : n < 2 ^ 31) (hw : ws.set q0 (a, .inl (E.2.1 2, n, .inl (va_up f j (vp_nar .byte x)))) = ws') (k : G X (pc + 1) lv st ws') : G X pc lv (.int x :: .int i :: .ref a :: st) ws := by
  obtain ⟨p, l, e, R0, s, m, args, below, meth, c, E0, A, Q, kc, ns, nL0⟩ := X
  obtain ⟨hx, hb, hml, ho, ht, hK, hA, hAz, hlk, hkn, rfl, rfl, rfl⟩ := hX
  subst hw
  intro H locs ls hP hD hS hl
  refine va_bast (D := E0.1) (tys := rhTy E0.2.1) hx hb hK.1 hP hD hS q0 2 ha rfl (rh_in hi hj hn) d (fun H1 locs1 hP1 hD1 hS1 => ?_)
  rw [rh_cl hi hj hn] at hP1 hD1
  exact k H1 locs1 ls hP1 hD1 hS1 hl
theorem rh_castore (hX : Ok X E own cc R nL) {a n : Nat} {f : Nat → Int32} {i : Int32} {x : Int32} {ws' : va_W} (q0 j : Nat) (d : decode cc pc = .ok (.castore, 1)) (ha : ws[q0]? = some (a, .inl (E.2.1 3, n, .inl f))) (hi : i = nI j) (hj : j < n) (hn : n < 2 ^ 31) (hw : ws.set q0 (a, .inl (E.2.1 3, n, .inl (va_up f j (vp_nar .char x)))) = ws') (k : G X (pc + 1) lv st ws') : G X pc lv (.int x :: .int i :: .ref a :: st) ws := by
  obtain ⟨p, l, e, R0, s, m, args, below, meth, c, E0, A, Q, kc, ns, nL0⟩ := X
  obtain ⟨hx, hb, hml, ho, ht, hK, hA, hAz, hlk, hkn, rfl, rfl, rfl⟩ := hX
  subst hw
  intro H locs ls hP hD hS hl
  refine va_cast (D := E0.1) (tys := rhTy E0.2.1) hx hb hK.1 hP hD hS q0 3 ha rfl (rh_in hi hj hn) d (fun H1 locs1 hP1 hD1 hS1 => ?_)
  rw [rh_cl hi hj hn] at hP1 hD1
  exact k H1 locs1 ls hP1 hD1 hS1 hl
theorem rh_weak {lv' : List (Option Value)} (h : ∀ (i : Nat) (v : Value), lv'[i]? = some (some v) → lv[i]? = some (some v)) (k : G X pc lv' st ws) : G X pc lv st ws := by
  obtain ⟨p, l, e, R0, s, m, args, below, meth, c, E0, A, Q, kc, ns, nL0⟩ := X
  exact fun H locs ls hP hD hS hl => k H locs ls hP hD hS ⟨hl.1, hl.2.1, fun i v q => hl.2.2 i v (h i v q)⟩
def rhLe : List (Option Value) → List (Option Value) → Prop
  | [], _ => True
  | none :: t, _ :: t' => rhLe t t'
  | some v :: t, a :: t' => a = some v ∧ rhLe t t'
  | none :: t, [] => rhLe t []
  | some _ :: _, [] => False
theorem rhLe.at : ∀ {l l' : List (Option Value)}, rhLe l l' → ∀ (i : Nat) (v : Value), l[i]? = some (some v) → l'[i]? = some (some v)
  | [], _, _, i, v, h => by simp at h
  | none :: t, b :: t', hl, 0, v, h => by simp at h
  | none :: t, b :: t', hl, i + 1, v, h => by simp only [List.getElem?_cons_succ] at h ⊢; exact rhLe.at (l := t) (l' := t') hl i v h
  | some u :: t, b :: t', hl, 0, v, h => by simp only [List.getElem?_cons_zero] at h ⊢; rw [hl.1]; exact h
  | some u :: t, b :: t', hl, i + 1, v, h => by simp only [List.getElem?_cons_succ] at h ⊢; exact rhLe.at (l := t) (l' := t') hl.2 i v h
  | none :: t, [], hl, 0, v, h => by simp at h
  | none :: t, [], hl, i + 1, v, h => by simp only [List.getElem?_cons_succ] at h; have := rhLe.at (l := t) (l' := []) hl i v h; simp at this
  | some u :: t, [], hl, i, v, h => False.elim hl
theorem rh_wk {lv' : List (Option Value)} (h : rhLe lv' lv) (k : G X pc lv' st ws) : G X pc lv st ws := rh_weak h.at k
theorem rh_iret (hX : Ok X E own cc R nL) {v : Int32} {w0 : va_W} {Post : Option Value → va_W → Prop} (hR : Rt X (some .int) w0 Post) (d : decode cc pc = .ok (.ireturn, 1)) (ha : ws.map Prod.fst = w0.map Prod.fst) (h : Post (some (.int v)) ws) : G X pc lv [.int v] ws := by
  obtain ⟨p, l, e, R0, s, m, args, below, meth, c, E0, A, Q, kc, ns, nL0⟩ := X
  obtain ⟨hx, hb, hml, ho, ht, hK, hA, hAz, hlk, hkn, rfl, rfl, rfl⟩ := hX
  obtain ⟨hr, rfl, rfl⟩ := hR
  exact fun H locs ls hP hD hS hl => W.iret hx hb hr (fun t e2 hW => ⟨⟨_, ws, rfl, h, ha, by rw [e2]; exact hP⟩, hS.F e2⟩) hS.2.2 d hlk
theorem rh_lret (hX : Ok X E own cc R nL) {v : Int64} {w0 : va_W} {Post : Option Value → va_W → Prop} (hR : Rt X (some .long) w0 Post) (d : decode cc pc = .ok (.lreturn, 1)) (ha : ws.map Prod.fst = w0.map Prod.fst) (h : Post (some (.long v)) ws) : G X pc lv [.long v] ws := by
  obtain ⟨p, l, e, R0, s, m, args, below, meth, c, E0, A, Q, kc, ns, nL0⟩ := X
  obtain ⟨hx, hb, hml, ho, ht, hK, hA, hAz, hlk, hkn, rfl, rfl, rfl⟩ := hX
  obtain ⟨hr, rfl, rfl⟩ := hR
  exact fun H locs ls hP hD hS hl => W.lret hx hb hr (fun t e2 hW => ⟨⟨_, ws, rfl, h, ha, by rw [e2]; exact hP⟩, hS.F e2⟩) hS.2.2 d hlk
theorem rh_zret (hX : Ok X E own cc R nL) {v : Int32} {ty : FieldType} {w0 : va_W} {Post : Option Value → va_W → Prop} (hR : Rt X (some ty) w0 Post) (d : decode cc pc = .ok (.ireturn, 1)) (hn : narrow ty (.int v) = .int v) (ha : ws.map Prod.fst = w0.map Prod.fst) (h : Post (some (.int v)) ws) : G X pc lv [.int v] ws := by
  obtain ⟨p, l, e, R0, s, m, args, below, meth, c, E0, A, Q, kc, ns, nL0⟩ := X
  obtain ⟨hx, hb, hml, ho, ht, hK, hA, hAz, hlk, hkn, rfl, rfl, rfl⟩ := hX
  obtain ⟨hr, rfl, rfl⟩ := hR
  exact fun H locs ls hP hD hS hl => W.zret hx hb hr hn (fun t e2 hW => ⟨⟨_, ws, rfl, h, ha, by rw [e2]; exact hP⟩, hS.F e2⟩) hS.2.2 d hlk
theorem rh_vret (hX : Ok X E own cc R nL) {w0 : va_W} {Post : Option Value → va_W → Prop} (hR : Rt X none w0 Post) (d : decode cc pc = .ok (.return_, 1)) (ha : ws.map Prod.fst = w0.map Prod.fst) (h : Post none ws) : G X pc lv [] ws := by
  obtain ⟨p, l, e, R0, s, m, args, below, meth, c, E0, A, Q, kc, ns, nL0⟩ := X
  obtain ⟨hx, hb, hml, ho, ht, hK, hA, hAz, hlk, hkn, rfl, rfl, rfl⟩ := hX
  obtain ⟨hr, rfl, rfl⟩ := hR
  exact fun H locs ls hP hD hS hl => W.vret hx hb hr (fun t e2 hW => ⟨⟨_, ws, rfl, h, ha, by rw [e2]; exact hP⟩, hS.F e2⟩) hS.2.2 d hlk
theorem rh_aret (hX : Ok X E own cc R nL) {a : Nat} {nm : String} {w0 : va_W} {Post : Option Value → va_W → Prop} (hR : Rt X (some (.object nm)) w0 Post) (d : decode cc pc = .ok (.areturn, 1)) (ha : ws.map Prod.fst = w0.map Prod.fst) (h : Post (some (.ref a)) ws) : G X pc lv [.ref a] ws := by
  obtain ⟨p, l, e, R0, s, m, args, below, meth, c, E0, A, Q, kc, ns, nL0⟩ := X
  obtain ⟨hx, hb, hml, ho, ht, hK, hA, hAz, hlk, hkn, rfl, rfl, rfl⟩ := hX
  obtain ⟨hr, rfl, rfl⟩ := hR
  exact fun H locs ls hP hD hS hl => W.aret hx hb hr (Or.inl ⟨_, rfl⟩) (Or.inr ⟨_, rfl⟩) (fun t e2 hW => ⟨⟨_, ws, rfl, h, ha, by rw [e2]; exact hP⟩, hS.F e2⟩) hS.2.2 d hlk
theorem rh_maxl (hX : Ok X E own cc R nL) {idx : Nat} {x y : Int64} (hM : Cond.methodLink own idx Lib.MathLoose.max_long.x ∈ rhT ∧ Cond.static Lib.MathLoose.max_long.x ∈ rhT ∧ Cond.initialized "java/lang/Math" ∈ rhT ∧ Cond.code Lib.MathLoose.max_long.x Lib.MathLoose.max_long.code 4 (some .long) ∈ rhT) (d : decode cc pc = .ok (.invokestatic idx, 3)) (hf : 1 ≤ R.frames) (hlo : (st.map fun v => v.category).sum + 15 ≤ R.locals) (k : G X (pc + 3) lv (.long (if y < x then x else y) :: st) ws) : G X pc lv (.long y :: .long x :: st) ws := by
  obtain ⟨p, l, e, R0, s, m, args, below, meth, c, E0, A, Q, kc, ns, nL0⟩ := X
  obtain ⟨hx, hb, hml, ho, ht, hK, hA, hAz, hlk, hkn, rfl, rfl, rfl⟩ := hX
  obtain ⟨m1, m2, m3, m4⟩ := hM
  exact fun H locs ls hP hD hS hl => va_mmax_long hx hb (hml.trans hl.1.symm) ho (ht _ m1) (ht _ m2) (ht _ m3) (ht _ m4) hf hlo hkn.1 hkn.2 d (k H locs ls hP hD hS hl)
theorem rh_minl (hX : Ok X E own cc R nL) {idx : Nat} {x y : Int64} (hM : Cond.methodLink own idx Lib.MathLoose.min_long.x ∈ rhT ∧ Cond.static Lib.MathLoose.min_long.x ∈ rhT ∧ Cond.initialized "java/lang/Math" ∈ rhT ∧ Cond.code Lib.MathLoose.min_long.x Lib.MathLoose.min_long.code 4 (some .long) ∈ rhT) (d : decode cc pc = .ok (.invokestatic idx, 3)) (hf : 1 ≤ R.frames) (hlo : (st.map fun v => v.category).sum + 15 ≤ R.locals) (k : G X (pc + 3) lv (.long (if y < x then y else x) :: st) ws) : G X pc lv (.long y :: .long x :: st) ws := by
  obtain ⟨p, l, e, R0, s, m, args, below, meth, c, E0, A, Q, kc, ns, nL0⟩ := X
  obtain ⟨hx, hb, hml, ho, ht, hK, hA, hAz, hlk, hkn, rfl, rfl, rfl⟩ := hX
  obtain ⟨m1, m2, m3, m4⟩ := hM
  exact fun H locs ls hP hD hS hl => va_mmin_long hx hb (hml.trans hl.1.symm) ho (ht _ m1) (ht _ m2) (ht _ m3) (ht _ m4) hf hlo hkn.1 hkn.2 d (k H locs ls hP hD hS hl)
theorem rh_maxi (hX : Ok X E own cc R nL) {idx : Nat} {x y : Int32} (hM : Cond.methodLink own idx Lib.Math.max.name ∈ rhT ∧ Cond.static Lib.Math.max.name ∈ rhT ∧ Cond.initialized "java/lang/Math" ∈ rhT ∧ Cond.code Lib.Math.max.name Lib.Math.max.code 2 (some .int) ∈ rhT) (d : decode cc pc = .ok (.invokestatic idx, 3)) (hf : 1 ≤ R.frames) (hlo : (st.map fun v => v.category).sum + 13 ≤ R.locals) (k : G X (pc + 3) lv (.int (if x < y then y else x) :: st) ws) : G X pc lv (.int y :: .int x :: st) ws := by
  obtain ⟨p, l, e, R0, s, m, args, below, meth, c, E0, A, Q, kc, ns, nL0⟩ := X
  obtain ⟨hx, hb, hml, ho, ht, hK, hA, hAz, hlk, hkn, rfl, rfl, rfl⟩ := hX
  obtain ⟨m1, m2, m3, m4⟩ := hM
  exact fun H locs ls hP hD hS hl => va_mmax hx hb (hml.trans hl.1.symm) ho (ht _ m1) (ht _ m2) (ht _ m3) (ht _ m4) hf hlo hkn.1 hkn.2 d (k H locs ls hP hD hS hl)
theorem rh_mini (hX : Ok X E own cc R nL) {idx : Nat} {x y : Int32} (hM : Cond.methodLink own idx Lib.Math.min.name ∈ rhT ∧ Cond.static Lib.Math.min.name ∈ rhT ∧ Cond.initialized "java/lang/Math" ∈ rhT ∧ Cond.code Lib.Math.min.name Lib.Math.min.code 2 (some .int) ∈ rhT) (d : decode cc pc = .ok (.invokestatic idx, 3)) (hf : 1 ≤ R.frames) (hlo : (st.map fun v => v.category).sum + 13 ≤ R.locals) (k : G X (pc + 3) lv (.int (if y < x then y else x) :: st) ws) : G X pc lv (.int y :: .int x :: st) ws := by
  obtain ⟨p, l, e, R0, s, m, args, below, meth, c, E0, A, Q, kc, ns, nL0⟩ := X
  obtain ⟨hx, hb, hml, ho, ht, hK, hA, hAz, hlk, hkn, rfl, rfl, rfl⟩ := hX
  obtain ⟨m1, m2, m3, m4⟩ := hM
  exact fun H locs ls hP hD hS hl => va_mmin hx hb (hml.trans hl.1.symm) ho (ht _ m1) (ht _ m2) (ht _ m3) (ht _ m4) hf hlo hkn.1 hkn.2 d (k H locs ls hP hD hS hl)
theorem rh_copyl (hX : Ok X E own cc R nL) {idx a0 a n0 n1 : Nat} {f g : Nat → Int64} {N : Int32} {ws' : va_W} (hM : Cond.methodLink own idx arraycopyName ∈ rhT ∧ Cond.native arraycopyName ∈ rhT ∧ Cond.static arraycopyName ∈ rhT ∧ Cond.initialized "java/lang/System" ∈ rhT) (q0 q1 n : Nat) (d : decode cc pc = .ok (.invokestatic idx, 3)) (ha0 : ws[q0]? = some (a0, .inl (E.2.1 1, n0, .inr (.inl f)))) (ha1 : ws[q1]? = some (a, .inl (E.2.1 1, n1, .inr (.inl g)))) (hN : N = nI n) (hn : n < 2 ^ 31) (h0 : n ≤ n0) (h1 : n ≤ n1) (hf : 1 ≤ R.frames) (hlo : (st.map fun v => v.category).sum + (nativeFrameWords "java/lang/System" "arraycopy" 5 + 11) ≤ R.locals) (hw : ws.set q1 (a, .inl (E.2.1 1, n1, .inr (.inl (fun k => if k < n then f k else g k)))) = ws') (k : G X (pc + 3) lv st ws') : G X pc lv (.int N :: .int 0 :: .ref a :: .int 0 :: .ref a0 :: st) ws := by
  obtain ⟨p, l, e, R0, s, m, args, below, meth, c, E0, A, Q, kc, ns, nL0⟩ := X
  obtain ⟨hx, hb, hml, ho, ht, hK, hA, hAz, hlk, hkn, rfl, rfl, rfl⟩ := hX
  obtain ⟨m1, m2, m3, m4⟩ := hM
  subst hw
  subst hN
  intro H locs ls hP hD hS hl
  have hz : (0 : Int32).toNatClampNeg = 0 := rfl
  have hc : (nI n).toNatClampNeg = n := nI_clamp hn
  refine va_copyl (D := E0.1) (tys := rhTy E0.2.1) hx hb (hml.trans hl.1.symm) ho (ht _ m1) (ht _ m2) (ht _ m3) (ht _ m4) hK.1 hP hD hS q0 q1 1 1 (ty := .long) ha0 ha1 rfl rfl rfl (by decide) (by decide) (nI_pos hn) (by rw [hz, hc]; omega) (by rw [hz, hc]; omega) (fun _ _ => rfl) hf hlo d (fun H1 locs1 hP1 hD1 hS1 => ?_)
  have e0 : va_cpy f g (0 : Int32).toNatClampNeg (0 : Int32).toNatClampNeg (nI n).toNatClampNeg = fun k => if k < n then f k else g k := by
    funext j
    rw [hz, hc]
    simp [va_cpy]
  rw [e0] at hP1 hD1
  exact k H1 locs1 ls hP1 hD1 hS1 hl
/-- cells put at their places -/
def vput (ws : va_W) : List Nat → va_W → va_W
  | i :: is, q :: qs => vput (ws.set i q) is qs
  | _, _ => ws
theorem vput_at : ∀ (is : List Nat) (w : va_W) (ws : va_W) (k : Nat) (q : Nat × va_E), is.length = w.length → (vput ws is w)[k]? = some q → q ∈ w ∨ (ws[k]? = some q ∧ k ∉ is)
  | [], w, ws, k, q, hl, h => Or.inr ⟨by cases w <;> exact h, List.not_mem_nil⟩
  | i :: is, [], ws, k, q, hl, h => by simp at hl
  | i :: is, x :: w, ws, k, q, hl, h => by
    rcases vput_at is w (ws.set i x) k q (by simpa using hl) h with h1 | ⟨h1, h2⟩
    · exact Or.inl (List.mem_cons_of_mem _ h1)
    · by_cases e : k = i
      · subst e
        rw [List.getElem?_set] at h1
        simp at h1
        exact Or.inl (by rw [h1.2]; exact List.mem_cons_self)
      · rw [List.getElem?_set_ne (Ne.symm e)] at h1
        exact Or.inr ⟨h1, fun z => by rcases List.mem_cons.mp z with z | z; exact e z; exact h2 z⟩
theorem vput_fst : ∀ (is : List Nat) (wc w : va_W) (ws : va_W), is.map (fun i => (ws.map Prod.fst)[i]?) = (wc.map Prod.fst).map some → w.map Prod.fst = wc.map Prod.fst → (vput ws is w).map Prod.fst = ws.map Prod.fst
  | [], wc, w, ws, h, hw => by cases w <;> rfl
  | i :: is, [], w, ws, h, hw => by simp at h
  | i :: is, c :: wc, [], ws, h, hw => by simp at hw
  | i :: is, c :: wc, x :: w, ws, h, hw => by
    simp only [List.map_cons, List.cons.injEq] at h hw
    have e : (ws.set i x).map Prod.fst = ws.map Prod.fst := by
      apply List.ext_getElem?
      intro j
      rw [List.map_set]
      by_cases ej : j = i
      · subst ej
        rw [List.getElem?_set]
        have h1 := h.1
        rw [hw.1, h1]
        have hlt := (List.getElem?_eq_some_iff.mp h1).1
        simp only [List.length_map] at hlt
        simp [hlt]
      · rw [List.getElem?_set_ne (Ne.symm ej)]
    show (vput (ws.set i x) is w).map Prod.fst = ws.map Prod.fst
    rw [vput_fst is wc w (ws.set i x) (by rw [e]; exact h.2) hw.2, e]
theorem va_D.fst {A : Nat → Prop} {ws ws' : va_W} (h : ws'.map Prod.fst = ws.map Prod.fst) (hD : va_D A ws) : va_D A ws' := by
  have key : ∀ (k : Nat) (q : Nat × va_E), ws'[k]? = some q → ∃ q0, ws[k]? = some q0 ∧ q0.1 = q.1 := by
    intro k q hk
    have h1 : (ws'.map Prod.fst)[k]? = some q.1 := by rw [List.getElem?_map, hk]; rfl
    rw [h, List.getElem?_map] at h1
    cases hq : ws[k]? with
    | none => rw [hq] at h1; cases h1
    | some q0 => rw [hq] at h1; exact ⟨q0, rfl, Option.some.inj h1⟩
  refine ⟨fun i j x y hi hj hxy => ?_, fun k q hk => ?_⟩
  · obtain ⟨x0, h1, h2⟩ := key i x hi
    obtain ⟨y0, h3, h4⟩ := key j y hj
    exact hD.1 i j x0 y0 h1 h3 (h2.trans (hxy.trans h4.symm))
  · obtain ⟨q0, h1, h2⟩ := key k q hk
    rw [← h2]
    exact hD.2 k q0 h1
theorem rh_pick {ws wc : va_W} {is : List Nat} (hC : is.map (fun i => ws[i]?) = wc.map some) (k : Nat) (q : Nat × va_E) (hq : wc[k]? = some q) : ∃ i, i ∈ is ∧ ws[i]? = some q := by
  have h1 : (is.map (fun i => ws[i]?))[k]? = some (some q) := by rw [hC, List.getElem?_map, hq]; rfl
  rw [List.getElem?_map] at h1
  cases hi : is[k]? with
  | none => rw [hi] at h1; cases h1
  | some i => rw [hi] at h1; exact ⟨i, List.mem_of_getElem? hi, Option.some.inj h1⟩
theorem rh_put_P {A : Nat → Prop} {D : va_G} {ws wc w : va_W} {H H1 : Heap} {is : List Nat} (hP : va_P D vwCl ws H) (hD : va_D A ws) (hC : is.map (fun i => ws[i]?) = wc.map some) (hf : w.map Prod.fst = wc.map Prod.fst) (hk : ∀ q : Nat, q < H.size → ¬ va_A wc H.size q → H1[q]? = H[q]?) (hP1 : va_P D vwCl w H1) : va_P D vwCl (vput ws is w) H1 ∧ va_D A (vput ws is w) := by
  have hlen : is.length = w.length := by
    have h1 := congrArg List.length hC
    have h2 := congrArg List.length hf
    simp at h1 h2
    omega
  refine ⟨fun k q h => ?_, hD.fst (vput_fst is wc w ws ?_ hf)⟩
  · rcases vput_at is w ws k q hlen h with h1 | ⟨h1, h2⟩
    · obtain ⟨j, hj⟩ := List.getElem?_of_mem h1
      exact hP1 j q hj
    · refine (hP k q h1).kept (hk q.1 (hP k q h1).lt ?_)
      rintro (⟨j, e0, hj⟩ | hj)
      · obtain ⟨i, hi, hi2⟩ := rh_pick hC j _ hj
        exact h2 (by rw [hD.1 k i q _ h1 hi2 rfl]; exact hi)
      · exact absurd (hP k q h1).lt (by omega)
  · have e : ∀ i, (ws.map Prod.fst)[i]? = (ws[i]?).map Prod.fst := fun i => List.getElem?_map ..
    have h1 := congrArg (List.map (Option.map Prod.fst)) hC
    simp only [List.map_map] at h1 ⊢
    rw [show (is.map fun i => (ws.map Prod.fst)[i]?) = is.map ((Option.map Prod.fst) ∘ fun i => ws[i]?) from List.map_congr_left (fun i _ => e i)]
    rw [h1]
    apply List.map_congr_left
    intro x _
    rfl
theorem rh_par {d : String} {n : Nat} (h : (parseMethodDescriptor d).map (fun d => d.parameters.length) = some n) : ∀ sig, parseMethodDescriptor d = some sig → n = sig.parameters.length := by
  intro sig hs
  rw [hs] at h
  exact (Option.some.inj h).symm
theorem rh_blind {E : rhE} {vargs : List Value} {wc : va_W} {sz : Nat} : FrameBlind (va_Pc vargs (fun U => U.heap.size = sz ∧ va_P E.1 vwCl wc U.heap ∧ rhK E U ∧ va_D (fun q => E.2.2.1 ≤ q) wc)) := by
  intro a U g mk q
  obtain ⟨q0, q1, qP, qK, qD⟩ := q
  exact ⟨q0, q1, qP, qK.call, qD⟩
theorem rh_callV (hX : Ok X E own cc R nL) {idx ci n mL : Nat} {y : MethodName} {bytes : ByteArray} {ret : Option FieldType} {rm : Room} {b : Nat} {As rest : List Value} {wc : va_W} {Post : Option Value → va_W → Prop} (hlk0 : rhLk own idx y) (hw : rhMv y bytes mL ret n ci) (hM : ∀ l, Ctr l E y bytes mL ret rm (.ref b :: As) wc Post) (hc0 : rm.cells = 0 ∧ rm.slots = 0) (hroom : rm.frames + 1 ≤ R.frames ∧ 8 + (mL + 11) + rm.locals ≤ R.locals) (is : List Nat) (hC : is.map (fun i => ws[i]?) = wc.map some) (hnd : va_nd is = true) (q0 : Nat) {fs : List Value} (he : ws[q0]? = some (b, .inr (ci, fs))) (d : decode cc pc = .ok (.invokevirtual idx, 3)) (hn : As.length = n) (hst : st = As.reverse ++ .ref b :: rest) (hcat : (rest.map fun v => v.category).sum ≤ 8) (k : ∀ r w, Post r w → w.map Prod.fst = wc.map Prod.fst → G X (pc + 3) lv (r.toList ++ rest) (vput ws is w)) : G X pc lv st ws := by
  obtain ⟨p, l, e, R0, s, m, args, below, meth, c, E0, A, Q, kc, ns, nL0⟩ := X
  obtain ⟨hx, hb, hml, ho, ht, hK, hA, hAz, hlk, hkn, rfl, rfl, rfl⟩ := hX
  obtain ⟨⟨w2, w3, w4, w5⟩, w6, w7, T0, N0, w8⟩ := hw
  subst hst
  intro H locs ls hP hD hS hl
  have hFc := va_free (wc := wc) hD hS hA is hC
  have hpre : PreV s H y.cls b (va_Pc (.ref b :: As) (fun U => U.heap.size = H.size ∧ va_P E0.1 vwCl wc U.heap ∧ rhK E0 U ∧ va_D (fun q => E0.2.2.1 ≤ q) wc)) As := by
    refine ⟨rh_blind, va_recv hK.1 hP w8 he, fun U hU hW => ⟨rfl, by rw [hU], ?_, hK.warm hAz hS hU hW, ?_⟩⟩
    · rw [hU]
      intro j q hq
      obtain ⟨i, -, hi⟩ := rh_pick hC j q hq
      exact hP i q hi
    · refine ⟨fun i j p q hi hj hpq => ?_, fun j q hq => ?_⟩
      · exact (hD.sub is hnd hC).1 i j p q hi hj hpq
      · obtain ⟨i, -, hi⟩ := rh_pick hC j q hq
        exact hAz _ (hD.2 i q hi)
  have hgood : ∀ w ∈ (Cond.code y bytes mL ret :: rhT), ∀ (a' : Array Value) (U : State), s.WarmedH U.vm → w.before a' U = true := pay_in (big := rhT) ht (fun w hw => ⟨by rcases List.mem_cons.mp hw with h | h; rw [h]; exact w3; exact h, by rcases List.mem_cons.mp hw with h | h; rw [h]; exact good_of_word rfl; exact (rhT_good (fun _ h => h) w h).2⟩)
  have hM1 := hM l H.size
  rw [hc0.1, hc0.2] at hM1
  have hrun : va_Run p l e R0 s m args below meth c H locs kc ns 0 0 (F0 m pc ls (As.reverse ++ .ref b :: rest)) rest (rhQ E0 wc H.size Post (.ref b :: As).toArray) (va_A wc H.size) := by
    rcases hlk0 with w1 | ⟨host, w1⟩
    · exact va_runV (S := ⟨hx, hb, hml, ho, ht⟩) hM1 (cw := ⟨⟨hc0.1, hc0.2, hroom.1, hroom.2, hgood, List.mem_cons_self, ht _ w3, ht _ w2, w4, rh_par w5, ht _ w1⟩, ht _ w6, ht _ w7⟩) hpre rfl hn hl.1 rfl (lv_room hcat) d ⟨hkn.1, hkn.2⟩
    · exact va_runVN (S := ⟨hx, hb, hml, ho, ht⟩) hM1 (cw := ⟨⟨⟨hc0.1, hc0.2, hroom.1, hroom.2, hgood, List.mem_cons_self⟩, ht _ w3, ht _ w2, w4, rh_par w5, va_Nw.use rfl (hK.2.1 _ w1)⟩, ht _ w6, ht _ w7⟩) hpre rfl hn hl.1 rfl (lv_room hcat) d ⟨hkn.1, hkn.2⟩
  intro T hT X0
  obtain ⟨v, st₀, t, T', L, h0, X', hL, e1, e2, ⟨⟨r, w, hv, hp, hf, hPw⟩, hz, hk⟩, stp⟩ := hrun T hT X0
  cases hv
  rw [h0] at hz hk
  obtain ⟨g1, g2⟩ := rh_put_P (H1 := t.heap) hP hD hC hf (fun q h1 h2 => hk q h1 h2) hPw
  obtain ⟨t2, a1, b1⟩ := k v w hp hf T'.heap (locs ++ L) ls (by rw [e1]; exact g1) g2 ⟨Nat.le_trans hS.1 (by rw [e1]; exact hz), fun q h1 h2 => by rw [e1, hk q (Nat.lt_of_lt_of_le h1 hS.1) (fun z => h2 (hFc q z))]; exact hS.2.1 q h1 h2, fun q hq => by
      rcases List.mem_append.mp hq with h | h
      · exact hS.2.2 q h
      · exact hFc _ (hL q h)⟩ hl T' rfl X'
  exact ⟨t2, stp t2 a1, b1⟩
theorem rh_callS (hX : Ok X E own cc R nL) {idx n mL : Nat} {y : MethodName} {bytes : ByteArray} {ret : Option FieldType} {rm : Room} {As rest : List Value} {wc : va_W} {Post : Option Value → va_W → Prop} (hlk0 : rhLk own idx y) (hw : rhMs y bytes mL ret n) (hM : ∀ l, Ctr l E y bytes mL ret rm As wc Post) (hc0 : rm.cells = 0 ∧ rm.slots = 0) (hroom : rm.frames + 1 ≤ R.frames ∧ 8 + (mL + 11) + rm.locals ≤ R.locals) (is : List Nat) (hC : is.map (fun i => ws[i]?) = wc.map some) (hnd : va_nd is = true) (d : decode cc pc = .ok (.invokestatic idx, 3)) (hn : As.length = n) (hst : st = As.reverse ++ rest) (hcat : (rest.map fun v => v.category).sum ≤ 8) (k : ∀ r w, Post r w → w.map Prod.fst = wc.map Prod.fst → G X (pc + 3) lv (r.toList ++ rest) (vput ws is w)) : G X pc lv st ws := by
  obtain ⟨p, l, e, R0, s, m, args, below, meth, c, E0, A, Q, kc, ns, nL0⟩ := X
  obtain ⟨hx, hb, hml, ho, ht, hK, hA, hAz, hlk, hkn, rfl, rfl, rfl⟩ := hX
  obtain ⟨⟨w2, w3, w4, w5⟩, w6⟩ := hw
  subst hst
  intro H locs ls hP hD hS hl
  have hFc := va_free (wc := wc) hD hS hA is hC
  have hpre : PreS s H (va_Pc As (fun U => U.heap.size = H.size ∧ va_P E0.1 vwCl wc U.heap ∧ rhK E0 U ∧ va_D (fun q => E0.2.2.1 ≤ q) wc)) As := by
    refine ⟨rh_blind, fun U hU hW => ⟨rfl, by rw [hU], ?_, hK.warm hAz hS hU hW, ?_⟩⟩
    · rw [hU]
      intro j q hq
      obtain ⟨i, -, hi⟩ := rh_pick hC j q hq
      exact hP i q hi
    · refine ⟨fun i j p q hi hj hpq => ?_, fun j q hq => ?_⟩
      · exact (hD.sub is hnd hC).1 i j p q hi hj hpq
      · obtain ⟨i, -, hi⟩ := rh_pick hC j q hq
        exact hAz _ (hD.2 i q hi)
  have hgood : ∀ w ∈ (Cond.code y bytes mL ret :: rhT), ∀ (a' : Array Value) (U : State), s.WarmedH U.vm → w.before a' U = true := pay_in (big := rhT) ht (fun w hw => ⟨by rcases List.mem_cons.mp hw with h | h; rw [h]; exact w3; exact h, by rcases List.mem_cons.mp hw with h | h; rw [h]; exact good_of_word rfl; exact (rhT_good (fun _ h => h) w h).2⟩)
  have hM1 := hM l H.size
  rw [hc0.1, hc0.2] at hM1
  have hrun : va_Run p l e R0 s m args below meth c H locs kc ns 0 0 (F0 m pc ls (As.reverse ++ rest)) rest (rhQ E0 wc H.size Post As.toArray) (va_A wc H.size) := by
    rcases hlk0 with w1 | ⟨host, w1⟩
    · exact va_runS (S := ⟨hx, hb, hml, ho, ht⟩) hM1 (cw := ⟨⟨hc0.1, hc0.2, hroom.1, hroom.2, hgood, List.mem_cons_self, ht _ w3, ht _ w2, w4, rh_par w5, ht _ w1⟩, ht _ w6⟩) hpre rfl hn hl.1 rfl (lv_room hcat) d ⟨hkn.1, hkn.2⟩
    · exact va_runSN (S := ⟨hx, hb, hml, ho, ht⟩) hM1 (cw := ⟨⟨⟨hc0.1, hc0.2, hroom.1, hroom.2, hgood, List.mem_cons_self⟩, ht _ w3, ht _ w2, w4, rh_par w5, va_Nw.use rfl (hK.2.1 _ w1)⟩, ht _ w6, trivial⟩) hpre rfl hn hl.1 rfl (lv_room hcat) d ⟨hkn.1, hkn.2⟩
  intro T hT X0
  obtain ⟨v, st₀, t, T', L, h0, X', hL, e1, e2, ⟨⟨r, w, hv, hp, hf, hPw⟩, hz, hk⟩, stp⟩ := hrun T hT X0
  cases hv
  rw [h0] at hz hk
  obtain ⟨g1, g2⟩ := rh_put_P (H1 := t.heap) hP hD hC hf (fun q h1 h2 => hk q h1 h2) hPw
  obtain ⟨t2, a1, b1⟩ := k v w hp hf T'.heap (locs ++ L) ls (by rw [e1]; exact g1) g2 ⟨Nat.le_trans hS.1 (by rw [e1]; exact hz), fun q h1 h2 => by rw [e1, hk q (Nat.lt_of_lt_of_le h1 hS.1) (fun z => h2 (hFc q z))]; exact hS.2.1 q h1 h2, fun q hq => by
      rcases List.mem_append.mp hq with h | h
      · exact hS.2.2 q h
      · exact hFc _ (hL q h)⟩ hl T' rfl X'
  exact ⟨t2, stp t2 a1, b1⟩
/-- a contract with one answer and one end -/
abbrev One (r0 : Option Value) (w0 : va_W) : Option Value → va_W → Prop := fun r w => r = r0 ∧ w = w0
theorem rh_loop {P : Nat → Prop} (i0 N : Nat) (h : i0 ≤ N) (last : P N) (step : ∀ i, i0 ≤ i → i < N → P (i + 1) → P i) : P i0 := by
  have key : ∀ n i, i0 ≤ i → i + n = N → P i := by
    intro n
    induction n with
    | zero => intro i _ e; rw [show i = N by omega]; exact last
    | succ n ih => intro i hi e; exact step i hi (by omega) (ih (i + 1) (by omega) (by omega))
  exact key (N - i0) i0 (Nat.le_refl _) (by omega)
theorem rh_down {P : Nat → Prop} (N : Nat) (last : P 0) (step : ∀ i, i < N → P i → P (i + 1)) : P N := by
  have key : ∀ i, i ≤ N → P i := by
    intro i
    induction i with
    | zero => intro _; exact last
    | succ i ih => intro h; exact step i (by omega) (ih (by omega))
  exact key N (Nat.le_refl _)
end RH
