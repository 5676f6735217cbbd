/-- the rows of the past: the class's ring and the model's list -/
def pastR (P : Nat → Nat → Int64) (nx pm : Nat) (ps : Nat → Int32) : Prop := ∀ j, j < pm → ∃ v Tj, mI v Tj ∧ (∀ x, x < 172 → ps (172 * j + x) = v x) ∧ (∀ x, x < 172 → P ((nx + 8 - pm + j) % 8) x = fm v x)
/-- the class and the model side by side -/
def rl (C : CT) (T Tk : Nat) (u kp : Nat → Int32) (ik : Int32) (ps : Nat → Int32) (pm : Nat) (dd : Int32) (tx : Nat → Int32) (ty : Nat) (rw : Nat → Int64) (rm : Nat) : Prop := C.1 = fm u ∧ mI u T ∧ (C.2.1 = fm kp ∧ C.2.2.1 = ik ∧ (¬ ik = 0 → mI kp Tk) ∧ (fm kp 171).toInt32 = nI Tk ∧ Tk ≤ 6) ∧ (C.2.2.2.2.1 < 8 ∧ C.2.2.2.2.2.1 = pm ∧ pm ≤ 8 ∧ pastR C.2.2.2.1 C.2.2.2.2.1 pm ps) ∧ C.2.2.2.2.2.2.1 = dd ∧ (C.2.2.2.2.2.2.2.1 = sC tx ∧ C.2.2.2.2.2.2.2.2.1 = ty ∧ ty ≤ 200 ∧ byteOk tx ty) ∧ (C.2.2.2.2.2.2.2.2.2.2 = rm ∧ rm ≤ 12 ∧ ∀ k, k < rm → C.2.2.2.2.2.2.2.2.2.1 k = rw k)
theorem rl_cOk {C : CT} {T Tk : Nat} {u kp : Nat → Int32} {ik : Int32} {ps : Nat → Int32} {pm : Nat} {dd : Int32} {tx : Nat → Int32} {ty : Nat} {rw : Nat → Int64} {rm : Nat} (h : rl C T Tk u kp ik ps pm dd tx ty rw rm) : cOk C T := by
  obtain ⟨h1, h2, h3, ⟨h4, h5, h6, -⟩, h7, ⟨h8, h9, h10, -⟩, h11, h12, h13⟩ := h
  refine ⟨?_, h2.ok.2.1, h2.ok.2.2.1, h4, by omega, by omega, by omega⟩
  rw [h1]
  show (u (piM 171)).toInt64.toInt32 = nI T
  rw [Int32.toInt32_toInt64]
  exact h2.ok.1
theorem psP_at {ps a : Nat → Int32} {k j x : Nat} (hx : x < 172) : psP ps a k 172 (172 * j + x) = if j = k then a x else ps (172 * j + x) := by
  unfold psP
  by_cases e : j = k
  · subst e
    rw [if_pos (c := j = j) rfl, if_pos (by omega), show 172 * j + x - 172 * j = x by omega]
  · rw [if_neg e, if_neg (by omega)]
theorem psS_row {ps : Nat → Int32} {j x : Nat} (hj : j < 7) (hx : x < 172) : psS ps 1376 (172 * j + x) = ps (172 * (j + 1) + x) := by
  unfold psS
  rw [if_pos (by omega), show 172 * j + x + 172 = 172 * (j + 1) + x by omega]
theorem past_did {P : Nat → Nat → Int64} {nx pm T : Nat} {ps u : Nat → Int32} (hn : nx < 8) (hp : pm ≤ 8) (hI : mI u T) (h : pastR P nx pm ps) : pastR (va_up P nx (fm u)) ((nx + 1) % 8) (pmDid pm) (psDid ps pm u) := by
  intro j hj
  unfold pmDid at hj ⊢
  unfold psDid
  by_cases e : pm = 8
  · rw [if_pos e] at hj ⊢
    rw [if_pos e]
    by_cases j7 : j = 7
    · refine ⟨u, T, hI, fun x hx => by rw [psP_at hx, if_pos j7], fun x hx => ?_⟩
      rw [show ((nx + 1) % 8 + 8 - 8 + j) % 8 = nx by omega]
      unfold va_up
      rw [if_pos rfl]
    · obtain ⟨v, Tj, a, b, c⟩ := h (j + 1) (by omega)
      refine ⟨v, Tj, a, fun x hx => by rw [psP_at hx, if_neg j7, psS_row (by omega) hx]; exact b x hx, fun x hx => ?_⟩
      have q := c x hx
      rw [show (nx + 8 - pm + (j + 1)) % 8 = ((nx + 1) % 8 + 8 - 8 + j) % 8 by omega] at q
      unfold va_up
      rw [if_neg (by omega)]
      exact q
  · rw [if_neg e] at hj ⊢
    rw [if_neg e]
    by_cases jp : j = pm
    · refine ⟨u, T, hI, fun x hx => by rw [psP_at hx, if_pos jp], fun x hx => ?_⟩
      rw [show ((nx + 1) % 8 + 8 - (pm + 1) + j) % 8 = nx by omega]
      unfold va_up
      rw [if_pos rfl]
    · obtain ⟨v, Tj, a, b, c⟩ := h j (by omega)
      refine ⟨v, Tj, a, fun x hx => by rw [psP_at hx, if_neg jp]; exact b x hx, fun x hx => ?_⟩
      have q := c x hx
      rw [show (nx + 8 - pm + j) % 8 = ((nx + 1) % 8 + 8 - (pm + 1) + j) % 8 by omega] at q
      unfold va_up
      rw [if_neg (by omega)]
      exact q
theorem pmDid_u {pm : Nat} (h : pm ≤ 8) : (if 8 < pm + 1 then 8 else pm + 1) = pmDid pm := by
  unfold pmDid
  by_cases e : pm = 8
  · rw [if_pos e, if_pos (by omega)]
  · rw [if_neg e, if_neg (by omega)]
theorem pmDid_8 {pm : Nat} (h : pm ≤ 8) : pmDid pm ≤ 8 := by
  unfold pmDid
  split <;> omega
/-- a deed -/
theorem rl_did {C : CT} {T Tk : Nat} {u kp : Nat → Int32} {ik : Int32} {ps : Nat → Int32} {pm : Nat} {dd : Int32} {tx : Nat → Int32} {ty : Nat} {rw : Nat → Int64} {rm : Nat} (h : rl C T Tk u kp ik ps pm dd tx ty rw rm) {fd : Nat → Int64} {u1 : Nat → Int32} {T1 : Nat} (hI : mI u1 T1) : rl (fm u1, (accC C fd).2) T1 Tk u1 kp ik (psDid ps pm u) (pmDid pm) (dd + 1) tx ty rw rm := by
  obtain ⟨h1, h2, h3, ⟨h4, h5, h6, h6p⟩, h7, h8, h11⟩ := h
  refine ⟨rfl, hI, h3, ⟨Nat.mod_lt _ (by decide), ?_, pmDid_8 h6, ?_⟩, ?_, h8, h11⟩
  · show (if 8 < C.2.2.2.2.2.1 + 1 then 8 else C.2.2.2.2.2.1 + 1) = pmDid pm
    rw [h5]
    exact pmDid_u h6
  · show pastR (va_up C.2.2.2.1 C.2.2.2.2.1 C.1) ((C.2.2.2.2.1 + 1) % 8) (pmDid pm) (psDid ps pm u)
    rw [h1]
    exact past_did h4 h6 h2 h6p
  · show C.2.2.2.2.2.2.1 + 1 = dd + 1
    rw [h7]
/-- the text is read away -/
theorem rl_clT {C : CT} {T Tk : Nat} {u kp : Nat → Int32} {ik : Int32} {ps : Nat → Int32} {pm : Nat} {dd : Int32} {tx : Nat → Int32} {ty : Nat} {rw : Nat → Int64} {rm : Nat} (h : rl C T Tk u kp ik ps pm dd tx ty rw rm) : rl (clT C) T Tk u kp ik ps pm dd tx 0 rw rm := by
  obtain ⟨h1, h2, h3, h4, h7, ⟨h8, h9, h10, hb⟩, h11⟩ := h
  exact ⟨h1, h2, h3, h4, h7, ⟨h8, rfl, Nat.zero_le _, fun p hp => absurd hp (Nat.not_lt_zero p)⟩, h11⟩
/-- a row is told, on both sides -/
theorem rl_row {C : CT} {T Tk : Nat} {u kp : Nat → Int32} {ik : Int32} {ps : Nat → Int32} {pm : Nat} {dd : Int32} {tx : Nat → Int32} {ty : Nat} {rw : Nat → Int64} {rm : Nat} (h : rl C T Tk u kp ik ps pm dd tx ty rw rm) {C1 : CT} {rw1 : Nat → Int64} {rm1 : Nat} {o : Option (List Int64)} (a : rowTold C C1 o) (b : mTold rw rm rw1 rm1 o) (hl : ∀ l, o = some l → l.length ≤ 12) : rl C1 T Tk u kp ik ps pm dd tx ty rw1 rm1 := by
  obtain ⟨h1, h2, h3, h4, h7, h8, h11, h12, h13⟩ := h
  cases o with
  | none =>
    have a : C1 = C := a
    obtain ⟨b1, b2⟩ : rw1 = rw ∧ rm1 = rm := b
    subst a b1 b2
    exact ⟨h1, h2, h3, h4, h7, h8, h11, h12, h13⟩
  | some l =>
    obtain ⟨g1, a1, a2⟩ : ∃ g1, rowOk g1 l ∧ C1 = setRow C g1 l.length := a
    obtain ⟨b1, b2⟩ : rowOk rw1 l ∧ rm1 = l.length := b
    subst a2 b2
    refine ⟨h1, h2, h3, h4, h7, h8, rfl, hl l rfl, fun k hk => ?_⟩
    show g1 k = rw1 k
    have e : l[k]? = some l[k] := List.getElem?_eq_getElem hk
    rw [a1 k _ e, b1 k _ e]
/-- a signed word -/
theorem rl_sign {C : CT} {T Tk : Nat} {u kp : Nat → Int32} {ik : Int32} {ps : Nat → Int32} {pm : Nat} {dd : Int32} {tx : Nat → Int32} {ty : Nat} {rw : Nat → Int64} {rm : Nat} (h : rl C T Tk u kp ik ps pm dd tx ty rw rm) (v : Int32) : (x_sign C v).1 = (if ty + 4 ≤ 200 then nI (ty + 4) else -1) ∧ rl (x_sign C v).2 T Tk u kp ik ps pm dd (if ty + 4 ≤ 200 then mAdd tx ty v else tx) (if ty + 4 ≤ 200 then ty + 4 else ty) rw rm := by
  obtain ⟨h1, h2, h3, h4, h7, ⟨h8, h9, h10, hb⟩, h11⟩ := h
  unfold x_sign
  rw [h9]
  refine ⟨rfl, h1, h2, h3, h4, h7, ?_, h11⟩
  dsimp only
  by_cases e : ty + 4 ≤ 200
  · simp only [if_pos e]
    exact ⟨by rw [h8, sC_add], trivial, e, byteOk_add hb v⟩
  · simp only [if_neg e]
    exact ⟨h8, trivial, h10, hb⟩
theorem cutN_le {n : Nat} {x : Int32} (hn : n ≤ 200) : (cutN n x).getD n ≤ n := by
  unfold cutN
  by_cases a : x < 0
  · rw [if_pos a]; exact Nat.le_refl _
  · rw [if_neg a]
    by_cases b : nI n < x
    · rw [if_pos b]; exact Nat.le_refl _
    · rw [if_neg b]
      show x.toNatClampNeg ≤ n
      rw [z_lt32, nI_toInt (by omega)] at b
      have : (x.toNatClampNeg : Int) = x.toInt.toNat := rfl
      omega
theorem rl_end {C : CT} {T Tk : Nat} {u kp : Nat → Int32} {ik : Int32} {ps : Nat → Int32} {pm : Nat} {dd : Int32} {tx : Nat → Int32} {ty : Nat} {rw : Nat → Int64} {rm : Nat} (h : rl C T Tk u kp ik ps pm dd tx ty rw rm) (x : Int32) : (x_end C x).1 = (if (cutN ty x).isSome = true then 1 else 0) ∧ rl (x_end C x).2 T Tk u kp ik ps pm dd tx ((cutN ty x).getD ty) rw rm := by
  obtain ⟨h1, h2, h3, h4, h7, ⟨h8, h9, h10, hb⟩, h11⟩ := h
  have hc := cutN_le (x := x) h10
  unfold x_end
  rw [h9]
  exact ⟨rfl, h1, h2, h3, h4, h7, ⟨h8, rfl, by omega, fun p hp => hb p (by omega)⟩, h11⟩
theorem rl_keeps {C : CT} {T Tk : Nat} {u kp : Nat → Int32} {ik : Int32} {ps : Nat → Int32} {pm : Nat} {dd : Int32} {tx : Nat → Int32} {ty : Nat} {rw : Nat → Int64} {rm : Nat} (h : rl C T Tk u kp ik ps pm dd tx ty rw rm) : (x_keeps C T).1 = (cSize (fm u) T).toInt32 ∧ rl (x_keeps C T).2 T T u u 1 ps pm dd tx ty rw rm := by
  obtain ⟨h1, h2, h3, h4, h7, h8, h11⟩ := h
  refine ⟨by unfold x_keeps; rw [h1], h1, h2, ⟨h1, rfl, fun _ => h2, ?_, h2.ok.2.2.1⟩, h4, h7, h8, h11⟩
  show (u (piM 171)).toInt64.toInt32 = nI T
  rw [Int32.toInt32_toInt64]
  exact h2.ok.1
/-- one deed back -/
theorem rl_undo {C : CT} {T Tk : Nat} {u kp : Nat → Int32} {ik : Int32} {ps : Nat → Int32} {pm : Nat} {dd : Int32} {tx : Nat → Int32} {ty : Nat} {rw : Nat → Int64} {rm : Nat} (h : rl C T Tk u kp ik ps pm dd tx ty rw rm) (hp : ¬ pm = 0) : (x_undo C).1 = nI (pm - 1) ∧ ∃ v Tv, (∀ x, x < 172 → ps (172 * (pm - 1) + x) = v x) ∧ (∀ x, x < 172 → (x_undo C).2.1 x = fm v x) ∧ rl (fm v, (x_undo C).2.2) Tv Tk v kp ik ps (pm - 1) dd tx ty rw rm := by
  obtain ⟨h1, h2, h3, ⟨h4, h5, h6, h6p⟩, h7, h8, h11⟩ := h
  unfold x_undo
  rw [if_neg (by omega), h5]
  obtain ⟨v, Tv, a, b, c⟩ := h6p (pm - 1) (by omega)
  refine ⟨rfl, v, Tv, b, fun x hx => ?_, rfl, a, h3, ⟨Nat.mod_lt _ (by decide), rfl, by omega, fun j hj => ?_⟩, h7, h8, h11⟩
  · have q := c x hx
    rw [show (C.2.2.2.2.1 + 8 - pm + (pm - 1)) % 8 = (C.2.2.2.2.1 + 7) % 8 by omega] at q
    exact q
  · obtain ⟨w, Tw, a', b', c'⟩ := h6p j (by omega)
    refine ⟨w, Tw, a', b', fun x hx => ?_⟩
    have q := c' x hx
    rw [show (C.2.2.2.2.1 + 8 - pm + j) % 8 = ((C.2.2.2.2.1 + 7) % 8 + 8 - (pm - 1) + j) % 8 by omega] at q
    exact q
theorem rl_undo0 {C : CT} {T Tk : Nat} {u kp : Nat → Int32} {ik : Int32} {ps : Nat → Int32} {pm : Nat} {dd : Int32} {tx : Nat → Int32} {ty : Nat} {rw : Nat → Int64} {rm : Nat} (h : rl C T Tk u kp ik ps pm dd tx ty rw rm) (hp : pm = 0) : x_undo C = (-2, C) := by
  unfold x_undo
  rw [if_pos (by have := h.2.2.2.1.2.1; omega)]
