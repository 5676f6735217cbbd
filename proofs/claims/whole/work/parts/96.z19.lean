theorem vmid_get : ∀ (wc wa wr : va_W), (List.range' wa.length wc.length).map (fun i => (wa ++ (wc ++ wr))[i]?) = wc.map some
  | [], _, _ => rfl
  | q :: wc, wa, wr => by
    have h := vmid_get wc (wa ++ [q]) wr
    rw [List.length_append, List.append_assoc] at h
    have e : (wa ++ (q :: wc ++ wr))[wa.length]? = some q := by
      rw [List.getElem?_append_right (Nat.le_refl _), Nat.sub_self]
      rfl
    rw [List.length_cons, List.range'_succ, List.map_cons, List.map_cons, e]
    exact congrArg (List.cons (some q)) h
theorem vmid_put : ∀ (wc w wa wr : va_W), w.length = wc.length → vput (wa ++ (wc ++ wr)) (List.range' wa.length wc.length) w = wa ++ (w ++ wr)
  | [], [], _, _, _ => rfl
  | [], _ :: _, _, _, h => by simp at h
  | _ :: _, [], _, _, h => by simp at h
  | q :: wc, x :: w, wa, wr, h => by
    have h2 := vmid_put wc w (wa ++ [x]) wr (by simpa using h)
    rw [List.length_append, List.append_assoc, List.append_assoc] at h2
    have e : (wa ++ (q :: wc ++ wr)).set wa.length x = wa ++ ([x] ++ (wc ++ wr)) := by
      rw [List.set_append_right _ _ (Nat.le_refl _), Nat.sub_self]
      rfl
    rw [List.length_cons, List.range'_succ]
    show vput ((wa ++ (q :: wc ++ wr)).set wa.length x) (List.range' (wa.length + 1) wc.length) w = _
    rw [e]
    exact h2
theorem vmid_nd : ∀ (n k : Nat), va_nd (List.range' k n) = true
  | 0, _ => rfl
  | n + 1, k => by
    rw [List.range'_succ]
    show (decide (k ∉ List.range' (k + 1) n) && va_nd (List.range' (k + 1) n)) = true
    rw [vmid_nd n (k + 1), Bool.and_true]
    exact decide_eq_true (fun h => by have := (List.mem_range'_1.mp h).1; omega)
theorem map_fst_len {w wc : va_W} (h : w.map Prod.fst = wc.map Prod.fst) : w.length = wc.length := by
  have := congrArg List.length h
  rwa [List.length_map, List.length_map] at this
section RHM
variable {X : rhX} {E : rhE} {own : String} {cc : ByteArray} {R : Room} {nL pc : Nat} {lv : List (Option Value)} {st : List Value} {ws w0 : va_W} {a b a1 b1 : Nat} {Post : va_W → Prop}
/-- a call: the callee's cells lie in the midst -/
theorem rh_cM (hX : Ok X E own cc R nL) {idx ci n mL : Nat} {y : MethodName} {bytes : ByteArray} {ret : Option FieldType} {rm : Room} {b : Nat} {As rest : List Value} {wa wc wr : va_W} {Post : Option Value → va_W → Prop} (hlk0 : rhLk own idx y) (hw : rhMv y bytes mL ret n ci) (hM : ∀ l, Ctr l E y bytes mL ret rm (.ref b :: As) wc Post) (hc0 : rm.cells = 0 ∧ rm.slots = 0) (hroom : rm.frames + 1 ≤ R.frames ∧ 8 + (mL + 11) + rm.locals ≤ R.locals) {fs : List Value} {wd : va_W} (he : wc = (b, .inr (ci, fs)) :: wd) (d : decode cc pc = .ok (.invokevirtual idx, 3)) (hn : As.length = n) (hst : st = As.reverse ++ .ref b :: rest) (hcat : (rest.map fun v => v.category).sum ≤ 8) (k : ∀ r w, Post r w → G X (pc + 3) lv (r.toList ++ rest) (wa ++ (w ++ wr))) : G X pc lv st (wa ++ (wc ++ wr)) := by
  refine rh_callV hX hlk0 hw hM hc0 hroom (List.range' wa.length wc.length) (vmid_get wc wa wr) (vmid_nd _ _) wa.length (fs := fs) ?_ d hn hst hcat (fun r w hp hf => ?_)
  · rw [List.getElem?_append_right (Nat.le_refl _), Nat.sub_self, he]
    rfl
  · rw [vmid_put wc w wa wr (map_fst_len hf)]
    exact k r w hp
theorem rh_cL (hX : Ok X E own cc R nL) {idx ci n mL : Nat} {y : MethodName} {bytes : ByteArray} {ret : Option FieldType} {rm : Room} {b : Nat} {As rest : List Value} {wc wr : va_W} {Post : Option Value → va_W → Prop} (hlk0 : rhLk own idx y) (hw : rhMv y bytes mL ret n ci) (hM : ∀ l, Ctr l E y bytes mL ret rm (.ref b :: As) wc Post) (hc0 : rm.cells = 0 ∧ rm.slots = 0) (hroom : rm.frames + 1 ≤ R.frames ∧ 8 + (mL + 11) + rm.locals ≤ R.locals) {fs : List Value} {wd : va_W} (he : wc = (b, .inr (ci, fs)) :: wd) (d : decode cc pc = .ok (.invokevirtual idx, 3)) (hn : As.length = n) (hst : st = As.reverse ++ .ref b :: rest) (hcat : (rest.map fun v => v.category).sum ≤ 8) (k : ∀ r w, Post r w → G X (pc + 3) lv (r.toList ++ rest) (w ++ wr)) : G X pc lv st (wc ++ wr) := rh_cM (wa := []) hX hlk0 hw hM hc0 hroom he d hn hst hcat k
theorem rh_assoc {w1 w2 w3 : va_W} (k : G X pc lv st ((w1 ++ w2) ++ w3)) : G X pc lv st (w1 ++ (w2 ++ w3)) := by
  rw [List.append_assoc] at k
  exact k
theorem rh_assoc' {w1 w2 w3 : va_W} (k : G X pc lv st (w1 ++ (w2 ++ w3))) : G X pc lv st ((w1 ++ w2) ++ w3) := by
  rw [List.append_assoc]
  exact k
/-- a row of references, changed where nobody looks -/
theorem rh_extPQ {D : va_G} {ws : va_W} {H : Heap} {q a n : Nat} {c : ClassId} {f g : Nat → Option Nat} (hq : ws[q]? = some (a, .inl (c, n, .inr (.inr (.inr (.inr f)))))) (h : ∀ j, j < n → g j = f j) (hP : va_P D vwCl ws H) : va_P D vwCl (ws.set q (a, .inl (c, n, .inr (.inr (.inr (.inr g)))))) H := by
  intro k x hk
  by_cases e : k = q
  · subst e
    have hlt := (List.getElem?_eq_some_iff.mp hq).1
    rw [List.getElem?_set_self hlt] at hk
    cases hk
    have h1 := hP k _ hq
    show H[a]? = some (arrV c n (fun j => va_rf (g j)))
    rw [rh_arrV (g := fun j => va_rf (f j)) (fun j hj => by rw [h j hj])]
    exact h1
  · rw [List.getElem?_set_ne (Ne.symm e)] at hk
    exact hP k x hk
theorem rh_extQ {ws' : va_W} {q a n : Nat} {c : ClassId} {f g : Nat → Option Nat} (hq : ws[q]? = some (a, .inl (c, n, .inr (.inr (.inr (.inr f)))))) (h : ∀ j, j < n → g j = f j) (hw : ws.set q (a, .inl (c, n, .inr (.inr (.inr (.inr g))))) = ws') (k : G X pc lv st ws') : G X pc lv st ws := by
  obtain ⟨p, l, e, R0, s, m, args, below, meth, c, E0, A, Q, kc, ns, nL0⟩ := X
  subst hw
  exact fun H locs ls hP hD hS hl => k H locs ls (rh_extPQ hq h hP) (hD.set hq) hS hl
theorem vr_up8 {r : Nat → Nat} {e : va_E} : va_pl ([] ++ (List.range 8).map r) (vr_up (fun _ => e) ((List.range 8).map r) e) = [(r 0, e), (r 1, e), (r 2, e), (r 3, e), (r 4, e), (r 5, e), (r 6, e), (r 7, e)] := by
  have h : vr_up (fun _ => e) ((List.range 8).map r) e = fun _ => e := by
    funext a
    unfold vr_up
    split <;> rfl
  rw [h]
  rfl
/-- new long[8][172] -/
theorem rn_mna (hX : Ok X E own cc R nL) (hR : RtN X w0 a b a1 b1 Post) {idx : Nat} (hcl : Cond.classLink own idx "[[J" ∈ rhT) (harr : Cond.arrayClass .long ∈ rhT) (d : decode cc pc = .ok (.multianewarray idx 2, 4)) (h1 : a + 9 ≤ R.cells) (h2 : b + 1384 ≤ R.slots)
    (k : ∀ (Y : rhX) (q : Nat) (r : Nat → Nat), Ok Y E own cc R nL → RtN Y w0 (a + 9) (b + 1384) a1 b1 Post → G Y (pc + 4) lv (.ref q :: st) (ws ++ [(q, aR E 8 r), (r 0, aL E 172 (fun _ => 0)), (r 1, aL E 172 (fun _ => 0)), (r 2, aL E 172 (fun _ => 0)), (r 3, aL E 172 (fun _ => 0)), (r 4, aL E 172 (fun _ => 0)), (r 5, aL E 172 (fun _ => 0)), (r 6, aL E 172 (fun _ => 0)), (r 7, aL E 172 (fun _ => 0))])) : G X pc lv (.int 172 :: .int 8 :: st) ws := by
  obtain ⟨p, l, e, R0, s, m, args, below, meth, c, E0, A, Q, kc, ns, nL0⟩ := X
  obtain ⟨hx, hb, hml, ho, ht, hK, hA, hAz, hlk, hkn, rfl, rfl, rfl⟩ := hX
  obtain ⟨rfl, rfl, hr, hnm, rfl, rfl, hO⟩ := hR
  intro H locs ls hP hD hS hl
  have hw0 : ws ++ va_pl [] (fun _ => aL E0 172 (fun _ => 0)) = ws := List.append_nil ws
  refine va_mna (X := ws) (L := []) (f := fun _ => aL E0 172 (fun _ => 0)) (ty := .long) (N' := 8) (K' := 172) (z := (172, .inr (.inl (fun _ => 0)))) hx hb ho (ht _ hcl) hO (ht _ harr) (cy := E0.2.1 1) ((hK.1.2 1 _ rfl).2) hK.1 (by rw [hw0]; exact hP) (by rw [hw0]; exact hD) hS hA (by decide) (by decide) (by decide) (by decide) (by decide) (by decide) (by decide) rfl rfl h1 h2 (fun c9 => arrV_new c9 172 (.long 0)) d (fun q r cA H1 hin hnl hK1 hP1 hD1 hS1 => ?_)
  have e1 := (hK1.2 (rhTy E0.2.1).length (cA, .array .long) (by rw [List.getElem?_append_right (Nat.le_refl _), Nat.sub_self]; rfl))
  have e2 := (hK.1.2 4 _ rfl)
  have e3 : cA = E0.2.1 4 := Option.some.inj (e1.2.symm.trans e2.2)
  subst e3
  rw [vr_up8, List.append_assoc] at hP1 hD1
  have hq : (ws ++ ([(q, (.inl (E0.2.1 4, 8, .inr (.inr (.inr (.inr (fun i => if i < 8 then some (r i) else none))))) : va_E))] ++ [(r 0, aL E0 172 (fun _ => 0)), (r 1, aL E0 172 (fun _ => 0)), (r 2, aL E0 172 (fun _ => 0)), (r 3, aL E0 172 (fun _ => 0)), (r 4, aL E0 172 (fun _ => 0)), (r 5, aL E0 172 (fun _ => 0)), (r 6, aL E0 172 (fun _ => 0)), (r 7, aL E0 172 (fun _ => 0))]))[ws.length]? = some (q, .inl (E0.2.1 4, 8, .inr (.inr (.inr (.inr (fun i => if i < 8 then some (r i) else none)))))) := by
    rw [List.getElem?_append_right (Nat.le_refl _), Nat.sub_self]
    rfl
  have hP2 := rh_extPQ hq (g := fun i => some (r i)) (fun j hj => (if_pos hj).symm) hP1
  have hD2 := hD1.set (e := .inl (E0.2.1 4, 8, .inr (.inr (.inr (.inr (fun i => some (r i))))))) hq
  rw [List.set_append_right _ _ (Nat.le_refl _), Nat.sub_self] at hP2 hD2
  exact k (p, l, e, R0, s, m, args, below, meth, c, E0, _, _, kc + 1 + 8, ns + 8 + 8 * 172, nL0) q r ⟨hx, hb, hml, ho, ht, hK, hA, hAz, hlk, ⟨h1, h2⟩, rfl, rfl, rfl⟩ ⟨rfl, rfl, hr, hnm, rfl, rfl, hO⟩ H1 locs ls hP2 hD2 hS1 hl
end RHM
