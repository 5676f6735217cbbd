/-! RoundHouseModel -/
abbrev aY (E : rhE) (n : Nat) (f : Nat → Int32) : va_E := .inl (E.2.1 2, n, .inl f)
abbrev wM (E : rhE) (B : Nat → Nat) (u : Nat → Int32) (kp : Nat → Int32) (ik : Int32) (ps : Nat → Int32) (pm : Nat) (dd : Int32) (tx : Nat → Int32) (ty : Nat) (rw : Nat → Int64) (rm : Nat) (th : Int32) (sz : Nat) (he : Nat) (wr : Int32) (mn : Nat → Int32) (vl : Int32) (tp : Int32) (lt : Int32) (ra : Int32) (pf : Int32) (pt : Int32) (pl : Int32) (pd : Int64) (prc : Int64) (ns : Int64) (tu : Nat) (ba : Int64) (na : Int64) (ca : Nat → Int64) (bo : Nat → Int32) (tr : Nat → Int64) (tH : Int32) (asd : Nat → Int32) (pa : Nat → Int64) (tg : Nat → Int64) (sd : Int64) (sr : Int64) : va_W := [(B 0, .inr (8, [.ref (B 1), .ref (B 2), .int ik, .ref (B 3), .int (nI pm), .int dd, .ref (B 4), .int (nI ty), .ref (B 5), .int (nI rm), .int th, .int (nI sz), .int (nI he), .int wr, .ref (B 6), .int vl, .int tp, .int lt, .int ra, .int pf, .int pt, .int pl, .long pd, .long prc, .long ns, .int (nI tu), .long ba, .long na, .ref (B 7), .ref (B 8), .ref (B 9), .int tH, .ref (B 10), .ref (B 11), .ref (B 12), .long sd, .long sr])), (B 1, aI E 172 u), (B 2, aI E 172 kp), (B 3, aI E 1376 ps), (B 4, aY E 200 tx), (B 5, aL E 32 rw), (B 6, aI E 8 mn), (B 7, aL E 6 ca), (B 8, aI E 8 bo), (B 9, aL E 6 tr), (B 10, aI E 172 asd), (B 11, aL E 6 pa), (B 12, aL E 6 tg)]
/-- where the class's cells lie in the model's row -/
def piM (i : Nat) : Nat := if i < 48 then i else if i < 96 then i + 76 else if i < 104 then i - 48 else if i < 170 then (if (i - 104) % 11 < 6 then 58 + 6 * ((i - 104) % 11) + (i - 104) / 11 else 94 + 5 * ((i - 104) / 11) + ((i - 104) % 11 - 6)) else if i = 170 then 56 else 57
/-- a row of the model's as the class's cells -/
def fm (u : Nat → Int32) (i : Nat) : Int64 := (u (piM i)).toInt64
theorem fm_held (u : Nat → Int32) {h t : Nat} (hh : h < 8) (ht : t < 6) : (u (6 * h + t)).toInt64 = cHeld (fm u) h t := by
  unfold cHeld fm piM
  rw [if_pos (by omega), show 0 + h * 6 + t = 6 * h + t by omega]
theorem fm_given (u : Nat → Int32) {h t : Nat} (hh : h < 8) (ht : t < 6) : (u (124 + 6 * h + t)).toInt64 = cGiven (fm u) h t := by
  unfold cGiven fm piM
  rw [if_neg (by omega), if_pos (by omega), show 48 + h * 6 + t + 76 = 124 + 6 * h + t by omega]
theorem fm_granted (u : Nat → Int32) {h : Nat} (hh : h < 8) : (u (48 + h)).toInt64 = cGranted (fm u) h := by
  unfold cGranted fm piM
  rw [if_neg (by omega), if_neg (by omega), if_pos (by omega), show 96 + h - 48 = 48 + h by omega]
theorem fm_fact (u : Nat → Int32) {t k : Nat} (ht : t < 6) (hk : k < 6) : (u (58 + 6 * k + t)).toInt64 = cFact (fm u) t k := by
  unfold cFact fm piM
  rw [if_neg (by omega), if_neg (by omega), if_neg (by omega), if_pos (by omega), if_pos (by omega), show (104 + t * 11 + k - 104) % 11 = k by omega, show (104 + t * 11 + k - 104) / 11 = t by omega]
theorem fm_told (u : Nat → Int32) {t k : Nat} (ht : t < 6) (hk : k < 5) : (u (94 + 5 * t + k)).toInt64 = cFact (fm u) t (6 + k) := by
  unfold cFact fm piM
  rw [if_neg (by omega), if_neg (by omega), if_neg (by omega), if_pos (by omega), if_neg (by omega), show (104 + t * 11 + (6 + k) - 104) % 11 - 6 = k by omega, show (104 + t * 11 + (6 + k) - 104) / 11 = t by omega]
theorem fm_pool (u : Nat → Int32) : (u 56).toInt64 = fm u 170 := rfl
theorem fm_types (u : Nat → Int32) : (u 57).toInt64 = fm u 171 := rfl
def mOk (u : Nat → Int32) (T : Nat) : Prop := u 57 = nI T ∧ 1 ≤ T ∧ T ≤ 6 ∧ ∀ t, 1 ≤ t → t < T → 0 < cFact (fm u) t 1
def xIn (v lo hi : Int64) : Int32 := if v < lo then 0 else if hi < v then 0 else 1
theorem xIn_nar (v lo hi : Int64) : narrow FieldType.boolean (Value.int (xIn v lo hi)) = Value.int (xIn v lo hi) := by
  unfold xIn
  split
  · rfl
  · split <;> rfl
theorem pos_ne {x : Int64} (h : 0 < x) : ¬ x = 0 := fun q => by rw [q] at h; exact absurd h (by decide)
theorem zero_div64 (c : Int64) : (0 : Int64) / c = 0 := by
  apply Int64.toInt_inj.mp
  rw [Int64.toInt_div]
  simp
theorem mConv (f : Nat → Int64) {t : Nat} (n : Int64) (ht : ¬ t = 0) (h : 0 < cFact f t 1) : n * cFact f t 0 / cFact f t 1 = cConv f t n := by
  unfold cConv cQuot
  rw [if_neg ht, if_pos h]
  by_cases e : n = 0
  · rw [if_pos e, e, Int64.zero_mul, zero_div64]
  · rw [if_neg e]
