def Gd (E : rhE) (A B : Nat → Nat) (w1 w2 : va_W) : Prop := ∀ (X : rhX) (pc : Nat) (lv : List (Option Value)) (st : List Value) (w3 : va_W), (∀ (C : CT) (T Tk : Nat) (Z : ZT) (u : Nat → Int32) (kp : Nat → Int32) (ik : Int32) (ps : Nat → Int32) (pm : Nat) (dd : Int32) (tx : Nat → Int32) (ty : Nat) (rw : Nat → Int64) (rm : Nat) (th : Int32) (sz : Nat) (he : Nat) (wr : Int32) (mn : Nat → Int32) (vl : Int32) (tp : Int32) (lt : Int32) (ra : Int32) (pf : Int32) (pt : Int32) (pl : Int32) (pd : Int64) (prc : Int64) (ns : Int64) (tu : Nat) (ba : Int64) (na : Int64) (ca : Nat → Int64) (bo : Nat → Int32) (tr : Nat → Int64) (tH : Int32) (asd : Nat → Int32) (pa : Nat → Int64) (tg : Nat → Int64) (sd : Int64) (sr : Int64), rl C T Tk u kp ik ps pm dd tx ty rw rm → zOk Z → G X pc lv st (wC E A C Z ++ (wM E B u kp ik ps pm dd tx ty rw rm th sz he wr mn vl tp lt ra pf pt pl pd prc ns tu ba na ca bo tr tH asd pa tg sd sr ++ w3))) → G X pc lv st (w1 ++ (w2 ++ w3))
theorem Gd.of {E : rhE} {A B : Nat → Nat} {C : CT} {T Tk : Nat} {Z : ZT} {u : Nat → Int32} {kp : Nat → Int32} {ik : Int32} {ps : Nat → Int32} {pm : Nat} {dd : Int32} {tx : Nat → Int32} {ty : Nat} {rw : Nat → Int64} {rm : Nat} {th : Int32} {sz : Nat} {he : Nat} {wr : Int32} {mn : Nat → Int32} {vl : Int32} {tp : Int32} {lt : Int32} {ra : Int32} {pf : Int32} {pt : Int32} {pl : Int32} {pd : Int64} {prc : Int64} {ns : Int64} {tu : Nat} {ba : Int64} {na : Int64} {ca : Nat → Int64} {bo : Nat → Int32} {tr : Nat → Int64} {tH : Int32} {asd : Nat → Int32} {pa : Nat → Int64} {tg : Nat → Int64} {sd : Int64} {sr : Int64} (h : rl C T Tk u kp ik ps pm dd tx ty rw rm) (hz : zOk Z) : Gd E A B (wC E A C Z) (wM E B u kp ik ps pm dd tx ty rw rm th sz he wr mn vl tp lt ra pf pt pl pd prc ns tu ba na ca bo tr tH asd pa tg sd sr) := fun X pc lv st w3 k => k C T Tk Z u kp ik ps pm dd tx ty rw rm th sz he wr mn vl tp lt ra pf pt pl pd prc ns tu ba na ca bo tr tH asd pa tg sd sr h hz
theorem Gd.ofC {E : rhE} {A B : Nat → Nat} {C : CT} {T Tk : Nat} {Z : ZT} {u : Nat → Int32} {kp : Nat → Int32} {ik : Int32} {ps : Nat → Int32} {pm : Nat} {dd : Int32} {tx : Nat → Int32} {ty : Nat} {rw : Nat → Int64} {rm : Nat} {th : Int32} {sz : Nat} {he : Nat} {wr : Int32} {mn : Nat → Int32} {vl : Int32} {tp : Int32} {lt : Int32} {ra : Int32} {pf : Int32} {pt : Int32} {pl : Int32} {pd : Int64} {prc : Int64} {ns : Int64} {tu : Nat} {ba : Int64} {na : Int64} {ca : Nat → Int64} {bo : Nat → Int32} {tr : Nat → Int64} {tH : Int32} {asd : Nat → Int32} {pa : Nat → Int64} {tg : Nat → Int64} {sd : Int64} {sr : Int64} (h : rl (fm u, C.2) T Tk u kp ik ps pm dd tx ty rw rm) (hx : ∀ x, x < 172 → C.1 x = fm u x) (hz : zOk Z) : Gd E A B (wC E A C Z) (wM E B u kp ik ps pm dd tx ty rw rm th sz he wr mn vl tp lt ra pf pt pl pd prc ns tu ba na ca bo tr tH asd pa tg sd sr) := fun X pc lv st w3 k => rh_ext (q := 2) (a := A 2) (n := 172) (c := E.2.1 1) (f := C.1) (g := fm u) rfl (fun j hj => (hx j hj).symm) rfl (k (fm u, C.2) T Tk Z u kp ik ps pm dd tx ty rw rm th sz he wr mn vl tp lt ra pf pt pl pd prc ns tu ba na ca bo tr tH asd pa tg sd sr h hz)
theorem Gd.ofU {E : rhE} {A B : Nat → Nat} {C : CT} {T Tk : Nat} {Z : ZT} {uu : Nat → Int32} {u : Nat → Int32} {kp : Nat → Int32} {ik : Int32} {ps : Nat → Int32} {pm : Nat} {dd : Int32} {tx : Nat → Int32} {ty : Nat} {rw : Nat → Int64} {rm : Nat} {th : Int32} {sz : Nat} {he : Nat} {wr : Int32} {mn : Nat → Int32} {vl : Int32} {tp : Int32} {lt : Int32} {ra : Int32} {pf : Int32} {pt : Int32} {pl : Int32} {pd : Int64} {prc : Int64} {ns : Int64} {tu : Nat} {ba : Int64} {na : Int64} {ca : Nat → Int64} {bo : Nat → Int32} {tr : Nat → Int64} {tH : Int32} {asd : Nat → Int32} {pa : Nat → Int64} {tg : Nat → Int64} {sd : Int64} {sr : Int64} (h : rl (fm u, C.2) T Tk u kp ik ps pm dd tx ty rw rm) (hx : ∀ x, x < 172 → C.1 x = fm u x) (hu : ∀ x, x < 172 → uu x = u x) (hz : zOk Z) : Gd E A B (wC E A C Z) (wM E B uu kp ik ps pm dd tx ty rw rm th sz he wr mn vl tp lt ra pf pt pl pd prc ns tu ba na ca bo tr tH asd pa tg sd sr) := fun X pc lv st w3 k => rh_extI (q := 37) (a := B 1) (n := 172) (c := E.2.1 0) (f := uu) (g := u) rfl (fun j hj => (hu j hj).symm) rfl (Gd.ofC h hx hz X pc lv st w3 k)
def StpC {K : Type} (mk : K → Value) (E : rhE) (A B : Nat → Nat) (wc wm : va_W) (y1 : MethodName) (c1 : ByteArray) (m1 : Nat) (t1 : Option FieldType) (r1 : Room) (y2 : MethodName) (c2 : ByteArray) (m2 : Nat) (t2 : Option FieldType) (r2 : Room) (As : List Value) : Prop := ∃ P1 P2 : Option Value → va_W → Prop, (∀ l, Ctr l E y1 c1 m1 t1 r1 (.ref (A 0) :: As) wc P1) ∧ (∀ l, Ctr l E y2 c2 m2 t2 r2 (.ref (B 0) :: As) wm P2) ∧ ∀ a1 w1, P1 a1 w1 → ∃ v : K, a1 = some (mk v) ∧ ∀ a2 w2, P2 a2 w2 → a2 = some (mk v) ∧ Gd E A B w1 w2
theorem rowTold_fst {C C1 : CT} {o : Option (List Int64)} (f : Nat → Int64) (h : rowTold C C1 o) : rowTold (f, C.2) (f, C1.2) o ∧ C1.1 = C.1 := by
  cases o with
  | none =>
    have h : C1 = C := h
    subst h
    exact ⟨rfl, rfl⟩
  | some l =>
    obtain ⟨g, h1, h2⟩ := h
    subst h2
    exact ⟨⟨g, h1, rfl⟩, rfl⟩

theorem ln_stake {C : CT} {T : Nat} {h : Int32} (hT : T ≤ 6) : ∀ l, (x_stake C T h).2 = some l → l.length ≤ 12 := by
  intro l hl
  unfold x_stake at hl
  (repeat' (split at hl)) <;> first | (cases hl; done) | (obtain rfl := Option.some.inj hl; simp; done) | (obtain rfl := Option.some.inj hl; simp; omega)

theorem ln_full {C : CT} {T : Nat}  (hT : T ≤ 6) : ∀ l, (x_full C T ).2 = some l → l.length ≤ 12 := by
  intro l hl
  unfold x_full at hl
  (repeat' (split at hl)) <;> first | (cases hl; done) | (obtain rfl := Option.some.inj hl; simp; done) | (obtain rfl := Option.some.inj hl; simp; omega)

theorem ln_greatest {C : CT} {T : Nat}  (hT : T ≤ 6) : ∀ l, (x_greatest C T ).2 = some l → l.length ≤ 12 := by
  intro l hl
  unfold x_greatest at hl
  (repeat' (split at hl)) <;> first | (cases hl; done) | (obtain rfl := Option.some.inj hl; simp; done) | (obtain rfl := Option.some.inj hl; simp; omega)

theorem ln_leads {C : CT} {T : Nat} {t : Int32} (hT : T ≤ 6) : ∀ l, (x_leads C T t).2 = some l → l.length ≤ 12 := by
  intro l hl
  unfold x_leads at hl
  (repeat' (split at hl)) <;> first | (cases hl; done) | (obtain rfl := Option.some.inj hl; simp; done) | (obtain rfl := Option.some.inj hl; simp; omega)

theorem ln_paid {C : CT} {T : Nat} {h : Int32} (hT : T ≤ 6) : ∀ l, (x_paid C T h).2 = some l → l.length ≤ 12 := by
  intro l hl
  unfold x_paid at hl
  (repeat' (split at hl)) <;> first | (cases hl; done) | (obtain rfl := Option.some.inj hl; simp; done) | (obtain rfl := Option.some.inj hl; simp; omega)

theorem ln_value {C : CT} {T : Nat}  (hT : T ≤ 6) : ∀ l, (x_value C T ).2 = some l → l.length ≤ 12 := by
  intro l hl
  unfold x_value at hl
  (repeat' (split at hl)) <;> first | (cases hl; done) | (obtain rfl := Option.some.inj hl; simp; done) | (obtain rfl := Option.some.inj hl; simp; omega)

theorem ln_majority {C : CT} {T : Nat} {h : Int32} (hT : T ≤ 6) : ∀ l, (x_majority C T h).2 = some l → l.length ≤ 12 := by
  intro l hl
  unfold x_majority at hl
  (repeat' (split at hl)) <;> first | (cases hl; done) | (obtain rfl := Option.some.inj hl; simp; done) | (obtain rfl := Option.some.inj hl; simp; omega)

theorem ln_swing {C : CT} {T : Nat} {h : Int32} (hT : T ≤ 6) : ∀ l, (x_swing C T h).2 = some l → l.length ≤ 12 := by
  intro l hl
  unfold x_swing at hl
  (repeat' (split at hl)) <;> first | (cases hl; done) | (obtain rfl := Option.some.inj hl; simp; done) | (obtain rfl := Option.some.inj hl; simp; omega)

theorem ln_exit {C : CT} {T : Nat} {s : Int32} (hT : T ≤ 6) : ∀ l, (x_exit C T s).2 = some l → l.length ≤ 12 := by
  intro l hl
  unfold x_exit at hl
  (repeat' (split at hl)) <;> first | (cases hl; done) | (obtain rfl := Option.some.inj hl; simp; done) | (obtain rfl := Option.some.inj hl; simp; omega)

theorem ln_gets {C : CT} {T : Nat} {h s : Int32} (hT : T ≤ 6) : ∀ l, (x_gets C T h s).2 = some l → l.length ≤ 12 := by
  intro l hl
  unfold x_gets at hl
  (repeat' (split at hl)) <;> first | (cases hl; done) | (obtain rfl := Option.some.inj hl; simp; done) | (obtain rfl := Option.some.inj hl; simp; omega)

theorem ln_over {C : CT} {T : Nat} {s : Int32} (hT : T ≤ 6) : ∀ l, (x_over C T s).2 = some l → l.length ≤ 12 := by
  intro l hl
  unfold x_over at hl
  (repeat' (split at hl)) <;> first | (cases hl; done) | (obtain rfl := Option.some.inj hl; simp; done) | (obtain rfl := Option.some.inj hl; simp; omega)

theorem ln_curve {C : CT} {T : Nat} {h d : Int32} (hT : T ≤ 6) : ∀ l, (x_curve C T h d).2 = some l → l.length ≤ 12 := by
  intro l hl
  unfold x_curve at hl
  (repeat' (split at hl)) <;> first | (cases hl; done) | (obtain rfl := Option.some.inj hl; simp; done) | (obtain rfl := Option.some.inj hl; simp; omega)

theorem ln_stage {C : CT} {T : Nat} {s : Int32} (hT : T ≤ 6) : ∀ l, (x_stage C T s).2 = some l → l.length ≤ 12 := by
  intro l hl
  unfold x_stage at hl
  (repeat' (split at hl)) <;> first | (cases hl; done) | (obtain rfl := Option.some.inj hl; simp; done) | (obtain rfl := Option.some.inj hl; simp; omega)

theorem ln_preference {C : CT} {T : Nat} {t : Int32} (hT : T ≤ 6) : ∀ l, (x_preference C T t).2 = some l → l.length ≤ 12 := by
  intro l hl
  unfold x_preference at hl
  (repeat' (split at hl)) <;> first | (cases hl; done) | (obtain rfl := Option.some.inj hl; simp; done) | (obtain rfl := Option.some.inj hl; simp; omega)

theorem ln_few {u : Nat → Int64} : ∀ l, (x_few u).2 = some l → l.length ≤ 12 := by
  intro l hl
  unfold x_few at hl
  split at hl
  · cases hl
  · obtain rfl := Option.some.inj hl
    exact (by decide : 1 ≤ 12)
theorem ln_control {C : CT} {T : Nat} (hT : T ≤ 6) : ∀ l, (x_control C T).2 = some l → l.length ≤ 12 := ln_few
theorem ln_block {C : CT} {T : Nat} {t : Int32} (hT : T ≤ 6) : ∀ l, (x_block C T t).2 = some l → l.length ≤ 12 := by
  intro l hl
  unfold x_block at hl
  split at hl
  · cases hl
  · exact ln_few l hl
theorem ln_threatens {C : CT} {T : Nat} (hT : T ≤ 6) : ∀ l, (x_threatens C T).2.2 = some l → l.length ≤ 12 := by
  intro l hl
  unfold x_threatens at hl
  split at hl
  · obtain rfl := Option.some.inj hl
    simp
    omega
  · cases hl
theorem ln_sweep {C : CT} {T : Nat} {d : Int32} (hT : T ≤ 6) : ∀ l, (x_sweep C T d).2.2 = some l → l.length ≤ 12 := by
  intro l hl
  unfold x_sweep at hl
  split at hl
  · split at hl
    · cases hl
    · obtain rfl := Option.some.inj hl
      simp
  · cases hl
theorem ln_ratchets {C : CT} {T : Nat} (hT : T ≤ 6) : ∀ l, (x_ratchets C T).2.2 = some l → l.length ≤ 12 := by
  intro l hl
  unfold x_ratchets at hl
  split at hl
  · obtain rfl := Option.some.inj hl
    simp
  · cases hl
theorem ln_round {C : CT} {T : Nat} (hT : T ≤ 6) : ∀ l, (x_round C T).2.2 = some l → l.length ≤ 12 := by
  intro l hl
  unfold x_round at hl
  split at hl
  · generalize xDS C.1 T (tRound C).2.2 = Q at hl
    obtain ⟨p, o⟩ := Q
    cases o with
    | none => cases hl
    | some q =>
      change (if 1000000000 < cSize q.1 (T + 1) then ((-9, clT C, none) : XR) else (p, accC (clT C) q.1, some [q.2.1, (nI q.2.2.1).toInt64, q.2.2.2])).2.2 = some l at hl
      split at hl
      · cases hl
      · obtain rfl := Option.some.inj hl
        exact (by decide : 3 ≤ 12)
  · cases hl
theorem ln_thought {C : CT} {T : Nat} (hT : T ≤ 6) : ∀ l, (x_thought C T).2.2 = some l → l.length ≤ 12 := by
  intro l hl
  unfold x_thought at hl
  split at hl
  · generalize xDS C.1 T (tRound C).2.2 = Q at hl
    obtain ⟨p, o⟩ := Q
    cases o with
    | none => cases hl
    | some q =>
      obtain rfl := Option.some.inj hl
      simp
      omega
  · cases hl
theorem ln_diluted {C : CT} {T : Nat} {h : Int32} (hT : T ≤ 6) : ∀ l, (x_diluted C T h).2.2 = some l → l.length ≤ 12 := by
  intro l hl
  unfold x_diluted at hl
  split at hl
  · split at hl
    · cases hl
    · generalize xDS C.1 T (tRound C).2.2 = Q at hl
      obtain ⟨p, o⟩ := Q
      cases o with
      | none => cases hl
      | some q =>
        obtain rfl := Option.some.inj hl
        exact (by decide : 2 ≤ 12)
  · cases hl


set_option maxRecDepth 100000 in
set_option maxHeartbeats 4000000 in
theorem s_told {E : rhE} {A B : Nat → Nat} {C : CT} {T Tk : Nat} {Z : ZT} {u : Nat → Int32} {kp : Nat → Int32} {ik : Int32} {ps : Nat → Int32} {pm : Nat} {dd : Int32} {tx : Nat → Int32} {ty : Nat} {rw : Nat → Int64} {rm : Nat} {th : Int32} {sz : Nat} {he : Nat} {wr : Int32} {mn : Nat → Int32} {vl : Int32} {tp : Int32} {lt : Int32} {ra : Int32} {pf : Int32} {pt : Int32} {pl : Int32} {pd : Int64} {prc : Int64} {ns : Int64} {tu : Nat} {ba : Int64} {na : Int64} {ca : Nat → Int64} {bo : Nat → Int32} {tr : Nat → Int64} {tH : Int32} {asd : Nat → Int32} {pa : Nat → Int64} {tg : Nat → Int64} {sd : Int64} {sr : Int64} (h : rl C T Tk u kp ik ps pm dd tx ty rw rm) (hz : zOk Z) (aa ab : Int32) : StpC Value.int E A B (wC E A C Z) (wM E B u kp ik ps pm dd tx ty rw rm th sz he wr mn vl tp lt ra pf pt pl pd prc ns tu ba na ca bo tr tH asd pa tg sd sr) yX7_told cX7_told 3 (some .int) (rmL 2) yX8_told cX8_told 3 (some .int) (rmL 3) [.int aa, .int ab] := by
  have hC := rl_cOk h
  have hI := h.2.1
  have hT6 : T ≤ 6 := hC.2.2.1
  refine ⟨_, _, fun l => c_X7_told l E A C Z aa ab T hC, fun l => c_X8_told l E B u kp ik ps pm dd tx ty rw rm th sz he wr mn vl tp lt ra pf pt pl pd prc ns tu ba na ca bo tr tH asd pa tg sd sr aa ab C h.1 T hI.ok, fun r1 w1 hp => ?_⟩
  obtain ⟨rfl, rfl⟩ := hp
  refine ⟨_, rfl, fun r2 w2 hq => ?_⟩
  obtain ⟨rfl, rfl⟩ := hq
  exact ⟨rfl, Gd.of h hz⟩

set_option maxRecDepth 100000 in
set_option maxHeartbeats 4000000 in
theorem s_shares {E : rhE} {A B : Nat → Nat} {C : CT} {T Tk : Nat} {Z : ZT} {u : Nat → Int32} {kp : Nat → Int32} {ik : Int32} {ps : Nat → Int32} {pm : Nat} {dd : Int32} {tx : Nat → Int32} {ty : Nat} {rw : Nat → Int64} {rm : Nat} {th : Int32} {sz : Nat} {he : Nat} {wr : Int32} {mn : Nat → Int32} {vl : Int32} {tp : Int32} {lt : Int32} {ra : Int32} {pf : Int32} {pt : Int32} {pl : Int32} {pd : Int64} {prc : Int64} {ns : Int64} {tu : Nat} {ba : Int64} {na : Int64} {ca : Nat → Int64} {bo : Nat → Int32} {tr : Nat → Int64} {tH : Int32} {asd : Nat → Int32} {pa : Nat → Int64} {tg : Nat → Int64} {sd : Int64} {sr : Int64} (h : rl C T Tk u kp ik ps pm dd tx ty rw rm) (hz : zOk Z) (aa ab : Int32) : StpC Value.int E A B (wC E A C Z) (wM E B u kp ik ps pm dd tx ty rw rm th sz he wr mn vl tp lt ra pf pt pl pd prc ns tu ba na ca bo tr tH asd pa tg sd sr) yX7_shares cX7_shares 3 (some .int) (rmL 2) yX8_shares cX8_shares 3 (some .int) (rmL 3) [.int aa, .int ab] := by
  have hC := rl_cOk h
  have hI := h.2.1
  have hT6 : T ≤ 6 := hC.2.2.1
  refine ⟨_, _, fun l => c_X7_shares l E A C Z aa ab T hC, fun l => c_X8_shares l E B u kp ik ps pm dd tx ty rw rm th sz he wr mn vl tp lt ra pf pt pl pd prc ns tu ba na ca bo tr tH asd pa tg sd sr aa ab C h.1 T hI.ok, fun r1 w1 hp => ?_⟩
  obtain ⟨rfl, rfl⟩ := hp
  refine ⟨_, rfl, fun r2 w2 hq => ?_⟩
  obtain ⟨rfl, rfl⟩ := hq
  exact ⟨rfl, Gd.of h hz⟩

set_option maxRecDepth 100000 in
set_option maxHeartbeats 4000000 in
theorem s_options {E : rhE} {A B : Nat → Nat} {C : CT} {T Tk : Nat} {Z : ZT} {u : Nat → Int32} {kp : Nat → Int32} {ik : Int32} {ps : Nat → Int32} {pm : Nat} {dd : Int32} {tx : Nat → Int32} {ty : Nat} {rw : Nat → Int64} {rm : Nat} {th : Int32} {sz : Nat} {he : Nat} {wr : Int32} {mn : Nat → Int32} {vl : Int32} {tp : Int32} {lt : Int32} {ra : Int32} {pf : Int32} {pt : Int32} {pl : Int32} {pd : Int64} {prc : Int64} {ns : Int64} {tu : Nat} {ba : Int64} {na : Int64} {ca : Nat → Int64} {bo : Nat → Int32} {tr : Nat → Int64} {tH : Int32} {asd : Nat → Int32} {pa : Nat → Int64} {tg : Nat → Int64} {sd : Int64} {sr : Int64} (h : rl C T Tk u kp ik ps pm dd tx ty rw rm) (hz : zOk Z) (aa : Int32) : StpC Value.int E A B (wC E A C Z) (wM E B u kp ik ps pm dd tx ty rw rm th sz he wr mn vl tp lt ra pf pt pl pd prc ns tu ba na ca bo tr tH asd pa tg sd sr) yX7_options cX7_options 2 (some .int) (rmL 1) yX8_options cX8_options 2 (some .int) (rmL 3) [.int aa] := by
  have hC := rl_cOk h
  have hI := h.2.1
  have hT6 : T ≤ 6 := hC.2.2.1
  refine ⟨_, _, fun l => c_X7_options l E A C Z aa T hC, fun l => c_X8_options l E B u kp ik ps pm dd tx ty rw rm th sz he wr mn vl tp lt ra pf pt pl pd prc ns tu ba na ca bo tr tH asd pa tg sd sr aa C h.1 T hI.ok, fun r1 w1 hp => ?_⟩
  obtain ⟨rfl, rfl⟩ := hp
  refine ⟨_, rfl, fun r2 w2 hq => ?_⟩
  obtain ⟨rfl, rfl⟩ := hq
  exact ⟨rfl, Gd.of h hz⟩

set_option maxRecDepth 100000 in
set_option maxHeartbeats 4000000 in
theorem s_type {E : rhE} {A B : Nat → Nat} {C : CT} {T Tk : Nat} {Z : ZT} {u : Nat → Int32} {kp : Nat → Int32} {ik : Int32} {ps : Nat → Int32} {pm : Nat} {dd : Int32} {tx : Nat → Int32} {ty : Nat} {rw : Nat → Int64} {rm : Nat} {th : Int32} {sz : Nat} {he : Nat} {wr : Int32} {mn : Nat → Int32} {vl : Int32} {tp : Int32} {lt : Int32} {ra : Int32} {pf : Int32} {pt : Int32} {pl : Int32} {pd : Int64} {prc : Int64} {ns : Int64} {tu : Nat} {ba : Int64} {na : Int64} {ca : Nat → Int64} {bo : Nat → Int32} {tr : Nat → Int64} {tH : Int32} {asd : Nat → Int32} {pa : Nat → Int64} {tg : Nat → Int64} {sd : Int64} {sr : Int64} (h : rl C T Tk u kp ik ps pm dd tx ty rw rm) (hz : zOk Z) (aa ab : Int32) : StpC Value.int E A B (wC E A C Z) (wM E B u kp ik ps pm dd tx ty rw rm th sz he wr mn vl tp lt ra pf pt pl pd prc ns tu ba na ca bo tr tH asd pa tg sd sr) yX7_type cX7_type 3 (some .int) (rmL 2) yX8_type cX8_type 3 (some .int) (rmL 3) [.int aa, .int ab] := by
  have hC := rl_cOk h
  have hI := h.2.1
  have hT6 : T ≤ 6 := hC.2.2.1
  refine ⟨_, _, fun l => c_X7_type l E A C Z aa ab T hC, fun l => c_X8_type l E B u kp ik ps pm dd tx ty rw rm th sz he wr mn vl tp lt ra pf pt pl pd prc ns tu ba na ca bo tr tH asd pa tg sd sr aa ab C h.1 T hI.ok, fun r1 w1 hp => ?_⟩
  obtain ⟨rfl, rfl⟩ := hp
  refine ⟨_, rfl, fun r2 w2 hq => ?_⟩
  obtain ⟨rfl, rfl⟩ := hq
  exact ⟨rfl, Gd.of h hz⟩

set_option maxRecDepth 100000 in
set_option maxHeartbeats 4000000 in
theorem s_needs {E : rhE} {A B : Nat → Nat} {C : CT} {T Tk : Nat} {Z : ZT} {u : Nat → Int32} {kp : Nat → Int32} {ik : Int32} {ps : Nat → Int32} {pm : Nat} {dd : Int32} {tx : Nat → Int32} {ty : Nat} {rw : Nat → Int64} {rm : Nat} {th : Int32} {sz : Nat} {he : Nat} {wr : Int32} {mn : Nat → Int32} {vl : Int32} {tp : Int32} {lt : Int32} {ra : Int32} {pf : Int32} {pt : Int32} {pl : Int32} {pd : Int64} {prc : Int64} {ns : Int64} {tu : Nat} {ba : Int64} {na : Int64} {ca : Nat → Int64} {bo : Nat → Int32} {tr : Nat → Int64} {tH : Int32} {asd : Nat → Int32} {pa : Nat → Int64} {tg : Nat → Int64} {sd : Int64} {sr : Int64} (h : rl C T Tk u kp ik ps pm dd tx ty rw rm) (hz : zOk Z) (aa ab : Int32) : StpC Value.int E A B (wC E A C Z) (wM E B u kp ik ps pm dd tx ty rw rm th sz he wr mn vl tp lt ra pf pt pl pd prc ns tu ba na ca bo tr tH asd pa tg sd sr) yX7_needs cX7_needs 5 (some .int) (rmL 4) yX8_needs cX8_needs 5 (some .int) (rmL 5) [.int aa, .int ab] := by
  have hC := rl_cOk h
  have hI := h.2.1
  have hT6 : T ≤ 6 := hC.2.2.1
  refine ⟨_, _, fun l => c_X7_needs l E A C Z aa ab T hC, fun l => c_X8_needs l E B u kp ik ps pm dd tx ty rw rm th sz he wr mn vl tp lt ra pf pt pl pd prc ns tu ba na ca bo tr tH asd pa tg sd sr aa ab C h.1 T hI.ok hI.size0, fun r1 w1 hp => ?_⟩
  obtain ⟨rfl, rfl⟩ := hp
  refine ⟨_, rfl, fun r2 w2 hq => ?_⟩
  obtain ⟨rfl, rfl⟩ := hq
  exact ⟨rfl, Gd.of h hz⟩

set_option maxRecDepth 100000 in
set_option maxHeartbeats 4000000 in
theorem s_count {E : rhE} {A B : Nat → Nat} {C : CT} {T Tk : Nat} {Z : ZT} {u : Nat → Int32} {kp : Nat → Int32} {ik : Int32} {ps : Nat → Int32} {pm : Nat} {dd : Int32} {tx : Nat → Int32} {ty : Nat} {rw : Nat → Int64} {rm : Nat} {th : Int32} {sz : Nat} {he : Nat} {wr : Int32} {mn : Nat → Int32} {vl : Int32} {tp : Int32} {lt : Int32} {ra : Int32} {pf : Int32} {pt : Int32} {pl : Int32} {pd : Int64} {prc : Int64} {ns : Int64} {tu : Nat} {ba : Int64} {na : Int64} {ca : Nat → Int64} {bo : Nat → Int32} {tr : Nat → Int64} {tH : Int32} {asd : Nat → Int32} {pa : Nat → Int64} {tg : Nat → Int64} {sd : Int64} {sr : Int64} (h : rl C T Tk u kp ik ps pm dd tx ty rw rm) (hz : zOk Z) (aa : Int32) : StpC Value.int E A B (wC E A C Z) (wM E B u kp ik ps pm dd tx ty rw rm th sz he wr mn vl tp lt ra pf pt pl pd prc ns tu ba na ca bo tr tH asd pa tg sd sr) yX7_count cX7_count 2 (some .int) (rmL 5) yX8_count cX8_count 2 (some .int) (rmL 4) [.int aa] := by
  have hC := rl_cOk h
  have hI := h.2.1
  have hT6 : T ≤ 6 := hC.2.2.1
  refine ⟨_, _, fun l => c_X7_count l E A C Z aa T hC, fun l => c_X8_count l E B u kp ik ps pm dd tx ty rw rm th sz he wr mn vl tp lt ra pf pt pl pd prc ns tu ba na ca bo tr tH asd pa tg sd sr aa C h.1 h.2.2.2.1.2.1 h.2.2.2.2.1 h.2.2.2.2.2.2.1 h.2.2.2.2.2.1.2.1 T hI.ok, fun r1 w1 hp => ?_⟩
  obtain ⟨rfl, rfl⟩ := hp
  refine ⟨_, rfl, fun r2 w2 hq => ?_⟩
  obtain ⟨rfl, rfl⟩ := hq
  exact ⟨rfl, Gd.of h hz⟩

set_option maxRecDepth 100000 in
set_option maxHeartbeats 4000000 in
theorem s_full {E : rhE} {A B : Nat → Nat} {C : CT} {T Tk : Nat} {Z : ZT} {u : Nat → Int32} {kp : Nat → Int32} {ik : Int32} {ps : Nat → Int32} {pm : Nat} {dd : Int32} {tx : Nat → Int32} {ty : Nat} {rw : Nat → Int64} {rm : Nat} {th : Int32} {sz : Nat} {he : Nat} {wr : Int32} {mn : Nat → Int32} {vl : Int32} {tp : Int32} {lt : Int32} {ra : Int32} {pf : Int32} {pt : Int32} {pl : Int32} {pd : Int64} {prc : Int64} {ns : Int64} {tu : Nat} {ba : Int64} {na : Int64} {ca : Nat → Int64} {bo : Nat → Int32} {tr : Nat → Int64} {tH : Int32} {asd : Nat → Int32} {pa : Nat → Int64} {tg : Nat → Int64} {sd : Int64} {sr : Int64} (h : rl C T Tk u kp ik ps pm dd tx ty rw rm) (hz : zOk Z) : StpC Value.int E A B (wC E A C Z) (wM E B u kp ik ps pm dd tx ty rw rm th sz he wr mn vl tp lt ra pf pt pl pd prc ns tu ba na ca bo tr tH asd pa tg sd sr) yX7_full cX7_full 2 (some .int) (rmL 4) yX8_full cX8_full 2 (some .int) (rmL 5) [] := by
  have hC := rl_cOk h
  have hI := h.2.1
  have hT6 : T ≤ 6 := hC.2.2.1
  refine ⟨_, _, fun l => c_X7_full l E A C Z  T hC hz, fun l => c_X8_full l E B u kp ik ps pm dd tx ty rw rm th sz he wr mn vl tp lt ra pf pt pl pd prc ns tu ba na ca bo tr tH asd pa tg sd sr  C h.1 T hI.ok, fun r1 w1 hp => ?_⟩
  obtain ⟨Z1, C1, rfl, hz1, ht, rfl⟩ := hp
  refine ⟨_, rfl, fun r2 w2 hq => ?_⟩
  obtain ⟨rw1, rm1, rfl, hm, rfl⟩ := hq
  exact ⟨rfl, Gd.of (rl_row h ht hm (ln_full hT6)) hz1⟩

set_option maxRecDepth 100000 in
set_option maxHeartbeats 4000000 in
theorem s_greatest {E : rhE} {A B : Nat → Nat} {C : CT} {T Tk : Nat} {Z : ZT} {u : Nat → Int32} {kp : Nat → Int32} {ik : Int32} {ps : Nat → Int32} {pm : Nat} {dd : Int32} {tx : Nat → Int32} {ty : Nat} {rw : Nat → Int64} {rm : Nat} {th : Int32} {sz : Nat} {he : Nat} {wr : Int32} {mn : Nat → Int32} {vl : Int32} {tp : Int32} {lt : Int32} {ra : Int32} {pf : Int32} {pt : Int32} {pl : Int32} {pd : Int64} {prc : Int64} {ns : Int64} {tu : Nat} {ba : Int64} {na : Int64} {ca : Nat → Int64} {bo : Nat → Int32} {tr : Nat → Int64} {tH : Int32} {asd : Nat → Int32} {pa : Nat → Int64} {tg : Nat → Int64} {sd : Int64} {sr : Int64} (h : rl C T Tk u kp ik ps pm dd tx ty rw rm) (hz : zOk Z) : StpC Value.int E A B (wC E A C Z) (wM E B u kp ik ps pm dd tx ty rw rm th sz he wr mn vl tp lt ra pf pt pl pd prc ns tu ba na ca bo tr tH asd pa tg sd sr) yX7_greatest cX7_greatest 2 (some .int) (rmL 4) yX8_greatest cX8_greatest 5 (some .int) (rmL 5) [] := by
  have hC := rl_cOk h
  have hI := h.2.1
  have hT6 : T ≤ 6 := hC.2.2.1
  refine ⟨_, _, fun l => c_X7_greatest l E A C Z  T hC hz, fun l => c_X8_greatest l E B u kp ik ps pm dd tx ty rw rm th sz he wr mn vl tp lt ra pf pt pl pd prc ns tu ba na ca bo tr tH asd pa tg sd sr  C h.1 T hI.ok, fun r1 w1 hp => ?_⟩
  obtain ⟨Z1, C1, rfl, hz1, ht, rfl⟩ := hp
  refine ⟨_, rfl, fun r2 w2 hq => ?_⟩
  obtain ⟨rw1, rm1, rfl, hm, rfl⟩ := hq
  exact ⟨rfl, Gd.of (rl_row h ht hm (ln_greatest hT6)) hz1⟩

set_option maxRecDepth 100000 in
set_option maxHeartbeats 4000000 in
theorem s_paid {E : rhE} {A B : Nat → Nat} {C : CT} {T Tk : Nat} {Z : ZT} {u : Nat → Int32} {kp : Nat → Int32} {ik : Int32} {ps : Nat → Int32} {pm : Nat} {dd : Int32} {tx : Nat → Int32} {ty : Nat} {rw : Nat → Int64} {rm : Nat} {th : Int32} {sz : Nat} {he : Nat} {wr : Int32} {mn : Nat → Int32} {vl : Int32} {tp : Int32} {lt : Int32} {ra : Int32} {pf : Int32} {pt : Int32} {pl : Int32} {pd : Int64} {prc : Int64} {ns : Int64} {tu : Nat} {ba : Int64} {na : Int64} {ca : Nat → Int64} {bo : Nat → Int32} {tr : Nat → Int64} {tH : Int32} {asd : Nat → Int32} {pa : Nat → Int64} {tg : Nat → Int64} {sd : Int64} {sr : Int64} (h : rl C T Tk u kp ik ps pm dd tx ty rw rm) (hz : zOk Z) (aa : Int32) : StpC Value.int E A B (wC E A C Z) (wM E B u kp ik ps pm dd tx ty rw rm th sz he wr mn vl tp lt ra pf pt pl pd prc ns tu ba na ca bo tr tH asd pa tg sd sr) yX7_paid cX7_paid 3 (some .int) (rmL 3) yX8_paid cX8_paid 3 (some .int) (rmL 5) [.int aa] := by
  have hC := rl_cOk h
  have hI := h.2.1
  have hT6 : T ≤ 6 := hC.2.2.1
  refine ⟨_, _, fun l => c_X7_paid l E A C Z aa T hC hz, fun l => c_X8_paid l E B u kp ik ps pm dd tx ty rw rm th sz he wr mn vl tp lt ra pf pt pl pd prc ns tu ba na ca bo tr tH asd pa tg sd sr aa C h.1 T hI.ok, fun r1 w1 hp => ?_⟩
  obtain ⟨Z1, C1, rfl, hz1, ht, rfl⟩ := hp
  refine ⟨_, rfl, fun r2 w2 hq => ?_⟩
  obtain ⟨rw1, rm1, rfl, hm, rfl⟩ := hq
  exact ⟨rfl, Gd.of (rl_row h ht hm (ln_paid hT6)) hz1⟩

set_option maxRecDepth 100000 in
set_option maxHeartbeats 4000000 in
theorem s_value {E : rhE} {A B : Nat → Nat} {C : CT} {T Tk : Nat} {Z : ZT} {u : Nat → Int32} {kp : Nat → Int32} {ik : Int32} {ps : Nat → Int32} {pm : Nat} {dd : Int32} {tx : Nat → Int32} {ty : Nat} {rw : Nat → Int64} {rm : Nat} {th : Int32} {sz : Nat} {he : Nat} {wr : Int32} {mn : Nat → Int32} {vl : Int32} {tp : Int32} {lt : Int32} {ra : Int32} {pf : Int32} {pt : Int32} {pl : Int32} {pd : Int64} {prc : Int64} {ns : Int64} {tu : Nat} {ba : Int64} {na : Int64} {ca : Nat → Int64} {bo : Nat → Int32} {tr : Nat → Int64} {tH : Int32} {asd : Nat → Int32} {pa : Nat → Int64} {tg : Nat → Int64} {sd : Int64} {sr : Int64} (h : rl C T Tk u kp ik ps pm dd tx ty rw rm) (hz : zOk Z) : StpC Value.int E A B (wC E A C Z) (wM E B u kp ik ps pm dd tx ty rw rm th sz he wr mn vl tp lt ra pf pt pl pd prc ns tu ba na ca bo tr tH asd pa tg sd sr) yX7_value cX7_value 2 (some .int) (rmL 4) yX8_value cX8_value 2 (some .int) (rmL 5) [] := by
  have hC := rl_cOk h
  have hI := h.2.1
  have hT6 : T ≤ 6 := hC.2.2.1
  refine ⟨_, _, fun l => c_X7_value l E A C Z  T hC hz, fun l => c_X8_value l E B u kp ik ps pm dd tx ty rw rm th sz he wr mn vl tp lt ra pf pt pl pd prc ns tu ba na ca bo tr tH asd pa tg sd sr  C h.1 T hI.ok, fun r1 w1 hp => ?_⟩
  obtain ⟨Z1, C1, rfl, hz1, ht, rfl⟩ := hp
  refine ⟨_, rfl, fun r2 w2 hq => ?_⟩
  obtain ⟨rw1, rm1, rfl, hm, rfl⟩ := hq
  exact ⟨rfl, Gd.of (rl_row h ht hm (ln_value hT6)) hz1⟩

set_option maxRecDepth 100000 in
set_option maxHeartbeats 4000000 in
theorem s_majority {E : rhE} {A B : Nat → Nat} {C : CT} {T Tk : Nat} {Z : ZT} {u : Nat → Int32} {kp : Nat → Int32} {ik : Int32} {ps : Nat → Int32} {pm : Nat} {dd : Int32} {tx : Nat → Int32} {ty : Nat} {rw : Nat → Int64} {rm : Nat} {th : Int32} {sz : Nat} {he : Nat} {wr : Int32} {mn : Nat → Int32} {vl : Int32} {tp : Int32} {lt : Int32} {ra : Int32} {pf : Int32} {pt : Int32} {pl : Int32} {pd : Int64} {prc : Int64} {ns : Int64} {tu : Nat} {ba : Int64} {na : Int64} {ca : Nat → Int64} {bo : Nat → Int32} {tr : Nat → Int64} {tH : Int32} {asd : Nat → Int32} {pa : Nat → Int64} {tg : Nat → Int64} {sd : Int64} {sr : Int64} (h : rl C T Tk u kp ik ps pm dd tx ty rw rm) (hz : zOk Z) (aa : Int32) : StpC Value.int E A B (wC E A C Z) (wM E B u kp ik ps pm dd tx ty rw rm th sz he wr mn vl tp lt ra pf pt pl pd prc ns tu ba na ca bo tr tH asd pa tg sd sr) yX7_majority cX7_majority 8 (some .int) (rmL 4) yX8_majority cX8_majority 8 (some .int) (rmL 5) [.int aa] := by
  have hC := rl_cOk h
  have hI := h.2.1
  have hT6 : T ≤ 6 := hC.2.2.1
  refine ⟨_, _, fun l => c_X7_majority l E A C Z aa T hC hz, fun l => c_X8_majority l E B u kp ik ps pm dd tx ty rw rm th sz he wr mn vl tp lt ra pf pt pl pd prc ns tu ba na ca bo tr tH asd pa tg sd sr aa C h.1 T hI.ok, fun r1 w1 hp => ?_⟩
  obtain ⟨Z1, C1, rfl, hz1, ht, rfl⟩ := hp
  refine ⟨_, rfl, fun r2 w2 hq => ?_⟩
  obtain ⟨rw1, rm1, rfl, hm, rfl⟩ := hq
  exact ⟨rfl, Gd.of (rl_row h ht hm (ln_majority hT6)) hz1⟩

set_option maxRecDepth 100000 in
set_option maxHeartbeats 4000000 in
theorem s_swing {E : rhE} {A B : Nat → Nat} {C : CT} {T Tk : Nat} {Z : ZT} {u : Nat → Int32} {kp : Nat → Int32} {ik : Int32} {ps : Nat → Int32} {pm : Nat} {dd : Int32} {tx : Nat → Int32} {ty : Nat} {rw : Nat → Int64} {rm : Nat} {th : Int32} {sz : Nat} {he : Nat} {wr : Int32} {mn : Nat → Int32} {vl : Int32} {tp : Int32} {lt : Int32} {ra : Int32} {pf : Int32} {pt : Int32} {pl : Int32} {pd : Int64} {prc : Int64} {ns : Int64} {tu : Nat} {ba : Int64} {na : Int64} {ca : Nat → Int64} {bo : Nat → Int32} {tr : Nat → Int64} {tH : Int32} {asd : Nat → Int32} {pa : Nat → Int64} {tg : Nat → Int64} {sd : Int64} {sr : Int64} (h : rl C T Tk u kp ik ps pm dd tx ty rw rm) (hz : zOk Z) (aa : Int32) : StpC Value.int E A B (wC E A C Z) (wM E B u kp ik ps pm dd tx ty rw rm th sz he wr mn vl tp lt ra pf pt pl pd prc ns tu ba na ca bo tr tH asd pa tg sd sr) yX7_swing cX7_swing 7 (some .int) (rmL 4) yX8_swing cX8_swing 3 (some .int) (rmL 5) [.int aa] := by
  have hC := rl_cOk h
  have hI := h.2.1
  have hT6 : T ≤ 6 := hC.2.2.1
  refine ⟨_, _, fun l => c_X7_swing l E A C Z aa T hC hz, fun l => c_X8_swing l E B u kp ik ps pm dd tx ty rw rm th sz he wr mn vl tp lt ra pf pt pl pd prc ns tu ba na ca bo tr tH asd pa tg sd sr aa C h.1 T hI.ok, fun r1 w1 hp => ?_⟩
  obtain ⟨Z1, C1, rfl, hz1, ht, rfl⟩ := hp
  refine ⟨_, rfl, fun r2 w2 hq => ?_⟩
  obtain ⟨rw1, rm1, rfl, hm, rfl⟩ := hq
  exact ⟨rfl, Gd.of (rl_row h ht hm (ln_swing hT6)) hz1⟩

set_option maxRecDepth 100000 in
set_option maxHeartbeats 4000000 in
theorem s_stake {E : rhE} {A B : Nat → Nat} {C : CT} {T Tk : Nat} {Z : ZT} {u : Nat → Int32} {kp : Nat → Int32} {ik : Int32} {ps : Nat → Int32} {pm : Nat} {dd : Int32} {tx : Nat → Int32} {ty : Nat} {rw : Nat → Int64} {rm : Nat} {th : Int32} {sz : Nat} {he : Nat} {wr : Int32} {mn : Nat → Int32} {vl : Int32} {tp : Int32} {lt : Int32} {ra : Int32} {pf : Int32} {pt : Int32} {pl : Int32} {pd : Int64} {prc : Int64} {ns : Int64} {tu : Nat} {ba : Int64} {na : Int64} {ca : Nat → Int64} {bo : Nat → Int32} {tr : Nat → Int64} {tH : Int32} {asd : Nat → Int32} {pa : Nat → Int64} {tg : Nat → Int64} {sd : Int64} {sr : Int64} (h : rl C T Tk u kp ik ps pm dd tx ty rw rm) (hz : zOk Z) (aa : Int32) : StpC Value.int E A B (wC E A C Z) (wM E B u kp ik ps pm dd tx ty rw rm th sz he wr mn vl tp lt ra pf pt pl pd prc ns tu ba na ca bo tr tH asd pa tg sd sr) yX7_stake cX7_stake 4 (some .int) (rmL 4) yX8_stake cX8_stake 2 (some .int) (rmL 5) [.int aa] := by
  have hC := rl_cOk h
  have hI := h.2.1
  have hT6 : T ≤ 6 := hC.2.2.1
  refine ⟨_, _, fun l => c_X7_stake l E A C Z aa T hC hz, fun l => c_X8_stake l E B u kp ik ps pm dd tx ty rw rm th sz he wr mn vl tp lt ra pf pt pl pd prc ns tu ba na ca bo tr tH asd pa tg sd sr aa C h.1 T hI.ok hI.size0 hI.votes0, fun r1 w1 hp => ?_⟩
  obtain ⟨Z1, C1, rfl, hz1, ht, rfl⟩ := hp
  refine ⟨_, rfl, fun r2 w2 hq => ?_⟩
  obtain ⟨rw1, rm1, rfl, hm, rfl⟩ := hq
  exact ⟨rfl, Gd.of (rl_row h ht hm (ln_stake hT6)) hz1⟩

set_option maxRecDepth 100000 in
set_option maxHeartbeats 4000000 in
theorem s_leads {E : rhE} {A B : Nat → Nat} {C : CT} {T Tk : Nat} {Z : ZT} {u : Nat → Int32} {kp : Nat → Int32} {ik : Int32} {ps : Nat → Int32} {pm : Nat} {dd : Int32} {tx : Nat → Int32} {ty : Nat} {rw : Nat → Int64} {rm : Nat} {th : Int32} {sz : Nat} {he : Nat} {wr : Int32} {mn : Nat → Int32} {vl : Int32} {tp : Int32} {lt : Int32} {ra : Int32} {pf : Int32} {pt : Int32} {pl : Int32} {pd : Int64} {prc : Int64} {ns : Int64} {tu : Nat} {ba : Int64} {na : Int64} {ca : Nat → Int64} {bo : Nat → Int32} {tr : Nat → Int64} {tH : Int32} {asd : Nat → Int32} {pa : Nat → Int64} {tg : Nat → Int64} {sd : Int64} {sr : Int64} (h : rl C T Tk u kp ik ps pm dd tx ty rw rm) (hz : zOk Z) (aa : Int32) : StpC Value.int E A B (wC E A C Z) (wM E B u kp ik ps pm dd tx ty rw rm th sz he wr mn vl tp lt ra pf pt pl pd prc ns tu ba na ca bo tr tH asd pa tg sd sr) yX7_leads cX7_leads 7 (some .int) (rmL 4) yX8_leads cX8_leads 6 (some .int) (rmL 4) [.int aa] := by
  have hC := rl_cOk h
  have hI := h.2.1
  have hT6 : T ≤ 6 := hC.2.2.1
  refine ⟨_, _, fun l => c_X7_leads l E A C Z aa T hC hz, fun l => c_X8_leads l E B u kp ik ps pm dd tx ty rw rm th sz he wr mn vl tp lt ra pf pt pl pd prc ns tu ba na ca bo tr tH asd pa tg sd sr aa C h.1 T hI.ok hI.b, fun r1 w1 hp => ?_⟩
  obtain ⟨Z1, C1, rfl, hz1, ht, rfl⟩ := hp
  refine ⟨_, rfl, fun r2 w2 hq => ?_⟩
  obtain ⟨rw1, rm1, rfl, hm, rfl⟩ := hq
  exact ⟨rfl, Gd.of (rl_row h ht hm (ln_leads hT6)) hz1⟩

set_option maxRecDepth 100000 in
set_option maxHeartbeats 4000000 in
theorem s_control {E : rhE} {A B : Nat → Nat} {C : CT} {T Tk : Nat} {Z : ZT} {u : Nat → Int32} {kp : Nat → Int32} {ik : Int32} {ps : Nat → Int32} {pm : Nat} {dd : Int32} {tx : Nat → Int32} {ty : Nat} {rw : Nat → Int64} {rm : Nat} {th : Int32} {sz : Nat} {he : Nat} {wr : Int32} {mn : Nat → Int32} {vl : Int32} {tp : Int32} {lt : Int32} {ra : Int32} {pf : Int32} {pt : Int32} {pl : Int32} {pd : Int64} {prc : Int64} {ns : Int64} {tu : Nat} {ba : Int64} {na : Int64} {ca : Nat → Int64} {bo : Nat → Int32} {tr : Nat → Int64} {tH : Int32} {asd : Nat → Int32} {pa : Nat → Int64} {tg : Nat → Int64} {sd : Int64} {sr : Int64} (h : rl C T Tk u kp ik ps pm dd tx ty rw rm) (hz : zOk Z) : StpC Value.int E A B (wC E A C Z) (wM E B u kp ik ps pm dd tx ty rw rm th sz he wr mn vl tp lt ra pf pt pl pd prc ns tu ba na ca bo tr tH asd pa tg sd sr) yX7_control cX7_control 1 (some .int) (rmL 5) yX8_control cX8_control 7 (some .int) (rmL 5) [] := by
  have hC := rl_cOk h
  have hI := h.2.1
  have hT6 : T ≤ 6 := hC.2.2.1
  refine ⟨_, _, fun l => c_X7_control l E A C Z  T hC hz, fun l => c_X8_control l E B u kp ik ps pm dd tx ty rw rm th sz he wr mn vl tp lt ra pf pt pl pd prc ns tu ba na ca bo tr tH asd pa tg sd sr  C h.1 T hI, fun r1 w1 hp => ?_⟩
  obtain ⟨Z1, C1, rfl, hz1, ht, rfl⟩ := hp
  refine ⟨_, rfl, fun r2 w2 hq => ?_⟩
  obtain ⟨rw1, rm1, rfl, hm, rfl⟩ := hq
  exact ⟨rfl, Gd.of (rl_row h ht hm (ln_control hT6)) hz1⟩

set_option maxRecDepth 100000 in
set_option maxHeartbeats 4000000 in
theorem s_block {E : rhE} {A B : Nat → Nat} {C : CT} {T Tk : Nat} {Z : ZT} {u : Nat → Int32} {kp : Nat → Int32} {ik : Int32} {ps : Nat → Int32} {pm : Nat} {dd : Int32} {tx : Nat → Int32} {ty : Nat} {rw : Nat → Int64} {rm : Nat} {th : Int32} {sz : Nat} {he : Nat} {wr : Int32} {mn : Nat → Int32} {vl : Int32} {tp : Int32} {lt : Int32} {ra : Int32} {pf : Int32} {pt : Int32} {pl : Int32} {pd : Int64} {prc : Int64} {ns : Int64} {tu : Nat} {ba : Int64} {na : Int64} {ca : Nat → Int64} {bo : Nat → Int32} {tr : Nat → Int64} {tH : Int32} {asd : Nat → Int32} {pa : Nat → Int64} {tg : Nat → Int64} {sd : Int64} {sr : Int64} (h : rl C T Tk u kp ik ps pm dd tx ty rw rm) (hz : zOk Z) (aa : Int32) : StpC Value.int E A B (wC E A C Z) (wM E B u kp ik ps pm dd tx ty rw rm th sz he wr mn vl tp lt ra pf pt pl pd prc ns tu ba na ca bo tr tH asd pa tg sd sr) yX7_block cX7_block 2 (some .int) (rmL 5) yX8_block cX8_block 9 (some .int) (rmL 4) [.int aa] := by
  have hC := rl_cOk h
  have hI := h.2.1
  have hT6 : T ≤ 6 := hC.2.2.1
  refine ⟨_, _, fun l => c_X7_block l E A C Z aa T hC hz, fun l => c_X8_block l E B u kp ik ps pm dd tx ty rw rm th sz he wr mn vl tp lt ra pf pt pl pd prc ns tu ba na ca bo tr tH asd pa tg sd sr aa C h.1 T hI, fun r1 w1 hp => ?_⟩
  obtain ⟨Z1, C1, rfl, hz1, ht, rfl⟩ := hp
  refine ⟨_, rfl, fun r2 w2 hq => ?_⟩
  obtain ⟨rw1, rm1, rfl, hm, rfl⟩ := hq
  exact ⟨rfl, Gd.of (rl_row h ht hm (ln_block hT6)) hz1⟩

set_option maxRecDepth 100000 in
set_option maxHeartbeats 4000000 in
theorem s_preference {E : rhE} {A B : Nat → Nat} {C : CT} {T Tk : Nat} {Z : ZT} {u : Nat → Int32} {kp : Nat → Int32} {ik : Int32} {ps : Nat → Int32} {pm : Nat} {dd : Int32} {tx : Nat → Int32} {ty : Nat} {rw : Nat → Int64} {rm : Nat} {th : Int32} {sz : Nat} {he : Nat} {wr : Int32} {mn : Nat → Int32} {vl : Int32} {tp : Int32} {lt : Int32} {ra : Int32} {pf : Int32} {pt : Int32} {pl : Int32} {pd : Int64} {prc : Int64} {ns : Int64} {tu : Nat} {ba : Int64} {na : Int64} {ca : Nat → Int64} {bo : Nat → Int32} {tr : Nat → Int64} {tH : Int32} {asd : Nat → Int32} {pa : Nat → Int64} {tg : Nat → Int64} {sd : Int64} {sr : Int64} (h : rl C T Tk u kp ik ps pm dd tx ty rw rm) (hz : zOk Z) (aa : Int32) : StpC Value.int E A B (wC E A C Z) (wM E B u kp ik ps pm dd tx ty rw rm th sz he wr mn vl tp lt ra pf pt pl pd prc ns tu ba na ca bo tr tH asd pa tg sd sr) yX7_preference cX7_preference 5 (some .int) (rmL 4) yX8_preference cX8_preference 5 (some .int) (rmL 4) [.int aa] := by
  have hC := rl_cOk h
  have hI := h.2.1
  have hT6 : T ≤ 6 := hC.2.2.1
  refine ⟨_, _, fun l => c_X7_preference l E A C Z aa T hC hz, fun l => c_X8_preference l E B u kp ik ps pm dd tx ty rw rm th sz he wr mn vl tp lt ra pf pt pl pd prc ns tu ba na ca bo tr tH asd pa tg sd sr aa C h.1 T hI, fun r1 w1 hp => ?_⟩
  obtain ⟨Z1, C1, rfl, hz1, ht, rfl⟩ := hp
  refine ⟨_, rfl, fun r2 w2 hq => ?_⟩
  obtain ⟨rw1, rm1, rfl, hm, rfl⟩ := hq
  exact ⟨rfl, Gd.of (rl_row h ht hm (ln_preference hT6)) hz1⟩

set_option maxRecDepth 100000 in
set_option maxHeartbeats 4000000 in
theorem s_exit {E : rhE} {A B : Nat → Nat} {C : CT} {T Tk : Nat} {Z : ZT} {u : Nat → Int32} {kp : Nat → Int32} {ik : Int32} {ps : Nat → Int32} {pm : Nat} {dd : Int32} {tx : Nat → Int32} {ty : Nat} {rw : Nat → Int64} {rm : Nat} {th : Int32} {sz : Nat} {he : Nat} {wr : Int32} {mn : Nat → Int32} {vl : Int32} {tp : Int32} {lt : Int32} {ra : Int32} {pf : Int32} {pt : Int32} {pl : Int32} {pd : Int64} {prc : Int64} {ns : Int64} {tu : Nat} {ba : Int64} {na : Int64} {ca : Nat → Int64} {bo : Nat → Int32} {tr : Nat → Int64} {tH : Int32} {asd : Nat → Int32} {pa : Nat → Int64} {tg : Nat → Int64} {sd : Int64} {sr : Int64} (h : rl C T Tk u kp ik ps pm dd tx ty rw rm) (hz : zOk Z) (aa : Int32) : StpC Value.int E A B (wC E A C Z) (wM E B u kp ik ps pm dd tx ty rw rm th sz he wr mn vl tp lt ra pf pt pl pd prc ns tu ba na ca bo tr tH asd pa tg sd sr) yX7_exit cX7_exit 3 (some .int) (rmL 4) yX8_exit cX8_exit 4 (some .int) (rmL 6) [.int aa] := by
  have hC := rl_cOk h
  have hI := h.2.1
  have hT6 : T ≤ 6 := hC.2.2.1
  refine ⟨_, _, fun l => c_X7_exit l E A C Z aa T hC hz, fun l => c_X8_exit l E B u kp ik ps pm dd tx ty rw rm th sz he wr mn vl tp lt ra pf pt pl pd prc ns tu ba na ca bo tr tH asd pa tg sd sr aa C h.1 T hI, fun r1 w1 hp => ?_⟩
  obtain ⟨Z1, C1, rfl, hz1, ht, rfl⟩ := hp
  refine ⟨_, rfl, fun r2 w2 hq => ?_⟩
  obtain ⟨pa1, tg1, sd1, sr1, rw1, rm1, rfl, hm, rfl⟩ := hq
  exact ⟨rfl, Gd.of (rl_row h ht hm (ln_exit hT6)) hz1⟩

set_option maxRecDepth 100000 in
set_option maxHeartbeats 4000000 in
theorem s_gets {E : rhE} {A B : Nat → Nat} {C : CT} {T Tk : Nat} {Z : ZT} {u : Nat → Int32} {kp : Nat → Int32} {ik : Int32} {ps : Nat → Int32} {pm : Nat} {dd : Int32} {tx : Nat → Int32} {ty : Nat} {rw : Nat → Int64} {rm : Nat} {th : Int32} {sz : Nat} {he : Nat} {wr : Int32} {mn : Nat → Int32} {vl : Int32} {tp : Int32} {lt : Int32} {ra : Int32} {pf : Int32} {pt : Int32} {pl : Int32} {pd : Int64} {prc : Int64} {ns : Int64} {tu : Nat} {ba : Int64} {na : Int64} {ca : Nat → Int64} {bo : Nat → Int32} {tr : Nat → Int64} {tH : Int32} {asd : Nat → Int32} {pa : Nat → Int64} {tg : Nat → Int64} {sd : Int64} {sr : Int64} (h : rl C T Tk u kp ik ps pm dd tx ty rw rm) (hz : zOk Z) (aa ab : Int32) : StpC Value.int E A B (wC E A C Z) (wM E B u kp ik ps pm dd tx ty rw rm th sz he wr mn vl tp lt ra pf pt pl pd prc ns tu ba na ca bo tr tH asd pa tg sd sr) yX7_gets cX7_gets 7 (some .int) (rmL 4) yX8_gets cX8_gets 4 (some .int) (rmL 6) [.int aa, .int ab] := by
  have hC := rl_cOk h
  have hI := h.2.1
  have hT6 : T ≤ 6 := hC.2.2.1
  refine ⟨_, _, fun l => c_X7_gets l E A C Z aa ab T hC hz, fun l => c_X8_gets l E B u kp ik ps pm dd tx ty rw rm th sz he wr mn vl tp lt ra pf pt pl pd prc ns tu ba na ca bo tr tH asd pa tg sd sr aa ab C h.1 T hI, fun r1 w1 hp => ?_⟩
  obtain ⟨Z1, C1, rfl, hz1, ht, rfl⟩ := hp
  refine ⟨_, rfl, fun r2 w2 hq => ?_⟩
  obtain ⟨pa1, tg1, sd1, sr1, rw1, rm1, rfl, hm, rfl⟩ := hq
  exact ⟨rfl, Gd.of (rl_row h ht hm (ln_gets hT6)) hz1⟩

set_option maxRecDepth 100000 in
set_option maxHeartbeats 4000000 in
theorem s_over {E : rhE} {A B : Nat → Nat} {C : CT} {T Tk : Nat} {Z : ZT} {u : Nat → Int32} {kp : Nat → Int32} {ik : Int32} {ps : Nat → Int32} {pm : Nat} {dd : Int32} {tx : Nat → Int32} {ty : Nat} {rw : Nat → Int64} {rm : Nat} {th : Int32} {sz : Nat} {he : Nat} {wr : Int32} {mn : Nat → Int32} {vl : Int32} {tp : Int32} {lt : Int32} {ra : Int32} {pf : Int32} {pt : Int32} {pl : Int32} {pd : Int64} {prc : Int64} {ns : Int64} {tu : Nat} {ba : Int64} {na : Int64} {ca : Nat → Int64} {bo : Nat → Int32} {tr : Nat → Int64} {tH : Int32} {asd : Nat → Int32} {pa : Nat → Int64} {tg : Nat → Int64} {sd : Int64} {sr : Int64} (h : rl C T Tk u kp ik ps pm dd tx ty rw rm) (hz : zOk Z) (aa : Int32) : StpC Value.int E A B (wC E A C Z) (wM E B u kp ik ps pm dd tx ty rw rm th sz he wr mn vl tp lt ra pf pt pl pd prc ns tu ba na ca bo tr tH asd pa tg sd sr) yX7_over cX7_over 7 (some .int) (rmL 4) yX8_over cX8_over 7 (some .int) (rmL 7) [.int aa] := by
  have hC := rl_cOk h
  have hI := h.2.1
  have hT6 : T ≤ 6 := hC.2.2.1
  refine ⟨_, _, fun l => c_X7_over l E A C Z aa T hC hz, fun l => c_X8_over l E B u kp ik ps pm dd tx ty rw rm th sz he wr mn vl tp lt ra pf pt pl pd prc ns tu ba na ca bo tr tH asd pa tg sd sr aa C h.1 T hI, fun r1 w1 hp => ?_⟩
  obtain ⟨Z1, C1, rfl, hz1, ht, rfl⟩ := hp
  refine ⟨_, rfl, fun r2 w2 hq => ?_⟩
  obtain ⟨pa1, tg1, sd1, sr1, rw1, rm1, rfl, hm, rfl⟩ := hq
  exact ⟨rfl, Gd.of (rl_row h ht hm (ln_over hT6)) hz1⟩

set_option maxRecDepth 100000 in
set_option maxHeartbeats 4000000 in
theorem s_stage {E : rhE} {A B : Nat → Nat} {C : CT} {T Tk : Nat} {Z : ZT} {u : Nat → Int32} {kp : Nat → Int32} {ik : Int32} {ps : Nat → Int32} {pm : Nat} {dd : Int32} {tx : Nat → Int32} {ty : Nat} {rw : Nat → Int64} {rm : Nat} {th : Int32} {sz : Nat} {he : Nat} {wr : Int32} {mn : Nat → Int32} {vl : Int32} {tp : Int32} {lt : Int32} {ra : Int32} {pf : Int32} {pt : Int32} {pl : Int32} {pd : Int64} {prc : Int64} {ns : Int64} {tu : Nat} {ba : Int64} {na : Int64} {ca : Nat → Int64} {bo : Nat → Int32} {tr : Nat → Int64} {tH : Int32} {asd : Nat → Int32} {pa : Nat → Int64} {tg : Nat → Int64} {sd : Int64} {sr : Int64} (h : rl C T Tk u kp ik ps pm dd tx ty rw rm) (hz : zOk Z) (aa : Int32) : StpC Value.int E A B (wC E A C Z) (wM E B u kp ik ps pm dd tx ty rw rm th sz he wr mn vl tp lt ra pf pt pl pd prc ns tu ba na ca bo tr tH asd pa tg sd sr) yX7_stage cX7_stage 8 (some .int) (rmL 4) yX8_stage cX8_stage 9 (some .int) (rmL 6) [.int aa] := by
  have hC := rl_cOk h
  have hI := h.2.1
  have hT6 : T ≤ 6 := hC.2.2.1
  refine ⟨_, _, fun l => c_X7_stage l E A C Z aa T hC hz, fun l => c_X8_stage l E B u kp ik ps pm dd tx ty rw rm th sz he wr mn vl tp lt ra pf pt pl pd prc ns tu ba na ca bo tr tH asd pa tg sd sr aa C h.1 T hI, fun r1 w1 hp => ?_⟩
  obtain ⟨Z1, C1, rfl, hz1, ht, rfl⟩ := hp
  refine ⟨_, rfl, fun r2 w2 hq => ?_⟩
  obtain ⟨pa1, tg1, sd1, sr1, rw1, rm1, rfl, hm, rfl⟩ := hq
  exact ⟨rfl, Gd.of (rl_row h ht hm (ln_stage hT6)) hz1⟩

set_option maxRecDepth 100000 in
set_option maxHeartbeats 4000000 in
theorem s_curve {E : rhE} {A B : Nat → Nat} {C : CT} {T Tk : Nat} {Z : ZT} {u : Nat → Int32} {kp : Nat → Int32} {ik : Int32} {ps : Nat → Int32} {pm : Nat} {dd : Int32} {tx : Nat → Int32} {ty : Nat} {rw : Nat → Int64} {rm : Nat} {th : Int32} {sz : Nat} {he : Nat} {wr : Int32} {mn : Nat → Int32} {vl : Int32} {tp : Int32} {lt : Int32} {ra : Int32} {pf : Int32} {pt : Int32} {pl : Int32} {pd : Int64} {prc : Int64} {ns : Int64} {tu : Nat} {ba : Int64} {na : Int64} {ca : Nat → Int64} {bo : Nat → Int32} {tr : Nat → Int64} {tH : Int32} {asd : Nat → Int32} {pa : Nat → Int64} {tg : Nat → Int64} {sd : Int64} {sr : Int64} (h : rl C T Tk u kp ik ps pm dd tx ty rw rm) (hz : zOk Z) (aa ab : Int32) : StpC Value.long E A B (wC E A C Z) (wM E B u kp ik ps pm dd tx ty rw rm th sz he wr mn vl tp lt ra pf pt pl pd prc ns tu ba na ca bo tr tH asd pa tg sd sr) yX7_curve cX7_curve 8 (some .long) (rmL 4) yX8_curve cX8_curve 8 (some .long) (rmL 7) [.int aa, .int ab] := by
  have hC := rl_cOk h
  have hI := h.2.1
  have hT6 : T ≤ 6 := hC.2.2.1
  refine ⟨_, _, fun l => c_X7_curve l E A C Z aa ab T hC hz, fun l => c_X8_curve l E B u kp ik ps pm dd tx ty rw rm th sz he wr mn vl tp lt ra pf pt pl pd prc ns tu ba na ca bo tr tH asd pa tg sd sr aa ab C h.1 T hI, fun r1 w1 hp => ?_⟩
  obtain ⟨Z1, C1, rfl, hz1, ht, rfl⟩ := hp
  refine ⟨_, rfl, fun r2 w2 hq => ?_⟩
  obtain ⟨pa1, tg1, sd1, sr1, rw1, rm1, rfl, hm, rfl⟩ := hq
  exact ⟨rfl, Gd.of (rl_row h ht hm (ln_curve hT6)) hz1⟩

set_option maxRecDepth 100000 in
set_option maxHeartbeats 4000000 in
theorem s_worth {E : rhE} {A B : Nat → Nat} {C : CT} {T Tk : Nat} {Z : ZT} {u : Nat → Int32} {kp : Nat → Int32} {ik : Int32} {ps : Nat → Int32} {pm : Nat} {dd : Int32} {tx : Nat → Int32} {ty : Nat} {rw : Nat → Int64} {rm : Nat} {th : Int32} {sz : Nat} {he : Nat} {wr : Int32} {mn : Nat → Int32} {vl : Int32} {tp : Int32} {lt : Int32} {ra : Int32} {pf : Int32} {pt : Int32} {pl : Int32} {pd : Int64} {prc : Int64} {ns : Int64} {tu : Nat} {ba : Int64} {na : Int64} {ca : Nat → Int64} {bo : Nat → Int32} {tr : Nat → Int64} {tH : Int32} {asd : Nat → Int32} {pa : Nat → Int64} {tg : Nat → Int64} {sd : Int64} {sr : Int64} (h : rl C T Tk u kp ik ps pm dd tx ty rw rm) (hz : zOk Z) (aa ab : Int32) : StpC Value.int E A B (wC E A C Z) (wM E B u kp ik ps pm dd tx ty rw rm th sz he wr mn vl tp lt ra pf pt pl pd prc ns tu ba na ca bo tr tH asd pa tg sd sr) yX7_worth cX7_worth 5 (some .int) (rmL 4) yX8_worth cX8_worth 4 (some .int) (rmL 6) [.int aa, .int ab] := by
  have hC := rl_cOk h
  have hI := h.2.1
  have hT6 : T ≤ 6 := hC.2.2.1
  refine ⟨_, _, fun l => c_X7_worth l E A C Z aa ab T hC hz, fun l => c_X8_worth l E B u kp ik ps pm dd tx ty rw rm th sz he wr mn vl tp lt ra pf pt pl pd prc ns tu ba na ca bo tr tH asd pa tg sd sr aa ab C h.1 T hI, fun r1 w1 hp => ?_⟩
  obtain ⟨Z1, rfl, hz1, rfl⟩ := hp
  refine ⟨_, rfl, fun r2 w2 hq => ?_⟩
  obtain ⟨pa1, tg1, sd1, sr1, rfl, rfl⟩ := hq
  exact ⟨rfl, Gd.of h hz1⟩

set_option maxRecDepth 100000 in
set_option maxHeartbeats 4000000 in
theorem s_reaches {E : rhE} {A B : Nat → Nat} {C : CT} {T Tk : Nat} {Z : ZT} {u : Nat → Int32} {kp : Nat → Int32} {ik : Int32} {ps : Nat → Int32} {pm : Nat} {dd : Int32} {tx : Nat → Int32} {ty : Nat} {rw : Nat → Int64} {rm : Nat} {th : Int32} {sz : Nat} {he : Nat} {wr : Int32} {mn : Nat → Int32} {vl : Int32} {tp : Int32} {lt : Int32} {ra : Int32} {pf : Int32} {pt : Int32} {pl : Int32} {pd : Int64} {prc : Int64} {ns : Int64} {tu : Nat} {ba : Int64} {na : Int64} {ca : Nat → Int64} {bo : Nat → Int32} {tr : Nat → Int64} {tH : Int32} {asd : Nat → Int32} {pa : Nat → Int64} {tg : Nat → Int64} {sd : Int64} {sr : Int64} (h : rl C T Tk u kp ik ps pm dd tx ty rw rm) (hz : zOk Z) (aa ab ac : Int32) : StpC Value.int E A B (wC E A C Z) (wM E B u kp ik ps pm dd tx ty rw rm th sz he wr mn vl tp lt ra pf pt pl pd prc ns tu ba na ca bo tr tH asd pa tg sd sr) yX7_reaches cX7_reaches 5 (some .int) (rmL 4) yX8_reaches cX8_reaches 5 (some .int) (rmL 7) [.int aa, .int ab, .int ac] := by
  have hC := rl_cOk h
  have hI := h.2.1
  have hT6 : T ≤ 6 := hC.2.2.1
  refine ⟨_, _, fun l => c_X7_reaches l E A C Z aa ab ac T hC hz, fun l => c_X8_reaches l E B u kp ik ps pm dd tx ty rw rm th sz he wr mn vl tp lt ra pf pt pl pd prc ns tu ba na ca bo tr tH asd pa tg sd sr aa ab ac C h.1 T hI, fun r1 w1 hp => ?_⟩
  obtain ⟨Z1, rfl, hz1, rfl⟩ := hp
  refine ⟨_, rfl, fun r2 w2 hq => ?_⟩
  obtain ⟨pa1, tg1, sd1, sr1, rfl, rfl⟩ := hq
  exact ⟨rfl, Gd.of h hz1⟩

set_option maxRecDepth 100000 in
set_option maxHeartbeats 4000000 in
theorem s_multiple {E : rhE} {A B : Nat → Nat} {C : CT} {T Tk : Nat} {Z : ZT} {u : Nat → Int32} {kp : Nat → Int32} {ik : Int32} {ps : Nat → Int32} {pm : Nat} {dd : Int32} {tx : Nat → Int32} {ty : Nat} {rw : Nat → Int64} {rm : Nat} {th : Int32} {sz : Nat} {he : Nat} {wr : Int32} {mn : Nat → Int32} {vl : Int32} {tp : Int32} {lt : Int32} {ra : Int32} {pf : Int32} {pt : Int32} {pl : Int32} {pd : Int64} {prc : Int64} {ns : Int64} {tu : Nat} {ba : Int64} {na : Int64} {ca : Nat → Int64} {bo : Nat → Int32} {tr : Nat → Int64} {tH : Int32} {asd : Nat → Int32} {pa : Nat → Int64} {tg : Nat → Int64} {sd : Int64} {sr : Int64} (h : rl C T Tk u kp ik ps pm dd tx ty rw rm) (hz : zOk Z) (aa ab : Int32) : StpC Value.int E A B (wC E A C Z) (wM E B u kp ik ps pm dd tx ty rw rm th sz he wr mn vl tp lt ra pf pt pl pd prc ns tu ba na ca bo tr tH asd pa tg sd sr) yX7_multiple cX7_multiple 5 (some .int) (rmL 4) yX8_multiple cX8_multiple 5 (some .int) (rmL 7) [.int aa, .int ab] := by
  have hC := rl_cOk h
  have hI := h.2.1
  have hT6 : T ≤ 6 := hC.2.2.1
  refine ⟨_, _, fun l => c_X7_multiple l E A C Z aa ab T hC hz, fun l => c_X8_multiple l E B u kp ik ps pm dd tx ty rw rm th sz he wr mn vl tp lt ra pf pt pl pd prc ns tu ba na ca bo tr tH asd pa tg sd sr aa ab C h.1 T hI, fun r1 w1 hp => ?_⟩
  obtain ⟨Z1, rfl, hz1, rfl⟩ := hp
  refine ⟨_, rfl, fun r2 w2 hq => ?_⟩
  obtain ⟨pa1, tg1, sd1, sr1, rfl, rfl⟩ := hq
  exact ⟨rfl, Gd.of h hz1⟩

set_option maxRecDepth 100000 in
set_option maxHeartbeats 4000000 in
theorem s_flips {E : rhE} {A B : Nat → Nat} {C : CT} {T Tk : Nat} {Z : ZT} {u : Nat → Int32} {kp : Nat → Int32} {ik : Int32} {ps : Nat → Int32} {pm : Nat} {dd : Int32} {tx : Nat → Int32} {ty : Nat} {rw : Nat → Int64} {rm : Nat} {th : Int32} {sz : Nat} {he : Nat} {wr : Int32} {mn : Nat → Int32} {vl : Int32} {tp : Int32} {lt : Int32} {ra : Int32} {pf : Int32} {pt : Int32} {pl : Int32} {pd : Int64} {prc : Int64} {ns : Int64} {tu : Nat} {ba : Int64} {na : Int64} {ca : Nat → Int64} {bo : Nat → Int32} {tr : Nat → Int64} {tH : Int32} {asd : Nat → Int32} {pa : Nat → Int64} {tg : Nat → Int64} {sd : Int64} {sr : Int64} (h : rl C T Tk u kp ik ps pm dd tx ty rw rm) (hz : zOk Z) (aa ab : Int32) : StpC Value.int E A B (wC E A C Z) (wM E B u kp ik ps pm dd tx ty rw rm th sz he wr mn vl tp lt ra pf pt pl pd prc ns tu ba na ca bo tr tH asd pa tg sd sr) yX7_flips cX7_flips 4 (some .int) (rmL 4) yX8_flips cX8_flips 4 (some .int) (rmL 6) [.int aa, .int ab] := by
  have hC := rl_cOk h
  have hI := h.2.1
  have hT6 : T ≤ 6 := hC.2.2.1
  refine ⟨_, _, fun l => c_X7_flips l E A C Z aa ab T hC hz, fun l => c_X8_flips l E B u kp ik ps pm dd tx ty rw rm th sz he wr mn vl tp lt ra pf pt pl pd prc ns tu ba na ca bo tr tH asd pa tg sd sr aa ab C h.1 T hI, fun r1 w1 hp => ?_⟩
  obtain ⟨Z1, rfl, hz1, rfl⟩ := hp
  refine ⟨_, rfl, fun r2 w2 hq => ?_⟩
  obtain ⟨pa1, tg1, sd1, sr1, rfl, rfl⟩ := hq
  exact ⟨rfl, Gd.of h hz1⟩

set_option maxRecDepth 100000 in
set_option maxHeartbeats 4000000 in
theorem s_ratchet {E : rhE} {A B : Nat → Nat} {C : CT} {T Tk : Nat} {Z : ZT} {u : Nat → Int32} {kp : Nat → Int32} {ik : Int32} {ps : Nat → Int32} {pm : Nat} {dd : Int32} {tx : Nat → Int32} {ty : Nat} {rw : Nat → Int64} {rm : Nat} {th : Int32} {sz : Nat} {he : Nat} {wr : Int32} {mn : Nat → Int32} {vl : Int32} {tp : Int32} {lt : Int32} {ra : Int32} {pf : Int32} {pt : Int32} {pl : Int32} {pd : Int64} {prc : Int64} {ns : Int64} {tu : Nat} {ba : Int64} {na : Int64} {ca : Nat → Int64} {bo : Nat → Int32} {tr : Nat → Int64} {tH : Int32} {asd : Nat → Int32} {pa : Nat → Int64} {tg : Nat → Int64} {sd : Int64} {sr : Int64} (h : rl C T Tk u kp ik ps pm dd tx ty rw rm) (hz : zOk Z) (aa ab ac ad : Int32) : StpC Value.int E A B (wC E A C Z) (wM E B u kp ik ps pm dd tx ty rw rm th sz he wr mn vl tp lt ra pf pt pl pd prc ns tu ba na ca bo tr tH asd pa tg sd sr) yX7_ratchet cX7_ratchet 9 (some .int) (rmL 4) yX8_ratchet cX8_ratchet 5 (some .int) (rmL 5) [.int aa, .int ab, .int ac, .int ad] := by
  have hC := rl_cOk h
  have hI := h.2.1
  have hT6 : T ≤ 6 := hC.2.2.1
  refine ⟨_, _, fun l => c_X7_ratchet l E A C Z aa ab ac ad T hC, fun l => c_X8_ratchet l E B u kp ik ps pm dd tx ty rw rm th sz he wr mn vl tp lt ra pf pt pl pd prc ns tu ba na ca bo tr tH asd pa tg sd sr aa ab ac ad C h.1 T hI, fun r1 w1 hp => ?_⟩
  obtain ⟨rfl, rfl⟩ := hp
  refine ⟨_, rfl, fun r2 w2 hq => ?_⟩
  obtain ⟨ba1, na1, ca1, rfl, rfl⟩ := hq
  exact ⟨rfl, Gd.of h hz⟩

set_option maxRecDepth 100000 in
set_option maxHeartbeats 4000000 in
theorem s_issues {E : rhE} {A B : Nat → Nat} {C : CT} {T Tk : Nat} {Z : ZT} {u : Nat → Int32} {kp : Nat → Int32} {ik : Int32} {ps : Nat → Int32} {pm : Nat} {dd : Int32} {tx : Nat → Int32} {ty : Nat} {rw : Nat → Int64} {rm : Nat} {th : Int32} {sz : Nat} {he : Nat} {wr : Int32} {mn : Nat → Int32} {vl : Int32} {tp : Int32} {lt : Int32} {ra : Int32} {pf : Int32} {pt : Int32} {pl : Int32} {pd : Int64} {prc : Int64} {ns : Int64} {tu : Nat} {ba : Int64} {na : Int64} {ca : Nat → Int64} {bo : Nat → Int32} {tr : Nat → Int64} {tH : Int32} {asd : Nat → Int32} {pa : Nat → Int64} {tg : Nat → Int64} {sd : Int64} {sr : Int64} (h : rl C T Tk u kp ik ps pm dd tx ty rw rm) (hz : zOk Z) (aa ab : Int32) : StpC Value.int E A B (wC E A C Z) (wM E B u kp ik ps pm dd tx ty rw rm th sz he wr mn vl tp lt ra pf pt pl pd prc ns tu ba na ca bo tr tH asd pa tg sd sr) yX7_issues cX7_issues 3 (some .int) (rmL 5) yX8_issues cX8_issues 3 (some .int) (rmL 6) [.int aa, .int ab] := by
  have hC := rl_cOk h
  have hI := h.2.1
  have hT6 : T ≤ 6 := hC.2.2.1
  refine ⟨_, _, fun l => c_X7_issues l E A C Z aa ab T hC hz, fun l => c_X8_issues l E B u kp ik ps pm dd tx ty rw rm th sz he wr mn vl tp lt ra pf pt pl pd prc ns tu ba na ca bo tr tH asd pa tg sd sr aa ab T hI.ok h.2.2.2.1.2.2.1, fun r1 w1 hp => ?_⟩
  obtain ⟨Z1, rfl, hz1, rfl⟩ := hp
  refine ⟨_, rfl, fun r2 w2 hq => ?_⟩
  obtain ⟨rfl, hs, hn⟩ := hq
  obtain ⟨e1, e2, e3⟩ := eq_issues h.1 hI aa ab
  refine ⟨by rw [e1], ?_⟩
  generalize hY : y_issues u T aa ab = Y at e1 e2 e3 hs hn
  obtain ⟨y1, o⟩ := Y
  cases o with
  | none =>
    first
      | (rw [e2 rfl, hn rfl]; exact Gd.of h hz1)
      | (obtain ⟨asd1, hn1⟩ := hn rfl
         rw [e2 rfl, hn1]
         exact Gd.of h hz1)
  | some u1 =>
    obtain ⟨e4, e5⟩ := e3 u1 rfl
    rw [e4, hs u1 rfl]
    exact Gd.of (C := accC C (fm u1)) (rl_did (fd := fm u1) h e5) hz1

set_option maxRecDepth 100000 in
set_option maxHeartbeats 4000000 in
theorem s_cancels {E : rhE} {A B : Nat → Nat} {C : CT} {T Tk : Nat} {Z : ZT} {u : Nat → Int32} {kp : Nat → Int32} {ik : Int32} {ps : Nat → Int32} {pm : Nat} {dd : Int32} {tx : Nat → Int32} {ty : Nat} {rw : Nat → Int64} {rm : Nat} {th : Int32} {sz : Nat} {he : Nat} {wr : Int32} {mn : Nat → Int32} {vl : Int32} {tp : Int32} {lt : Int32} {ra : Int32} {pf : Int32} {pt : Int32} {pl : Int32} {pd : Int64} {prc : Int64} {ns : Int64} {tu : Nat} {ba : Int64} {na : Int64} {ca : Nat → Int64} {bo : Nat → Int32} {tr : Nat → Int64} {tH : Int32} {asd : Nat → Int32} {pa : Nat → Int64} {tg : Nat → Int64} {sd : Int64} {sr : Int64} (h : rl C T Tk u kp ik ps pm dd tx ty rw rm) (hz : zOk Z) (aa ab ac : Int32) : StpC Value.int E A B (wC E A C Z) (wM E B u kp ik ps pm dd tx ty rw rm th sz he wr mn vl tp lt ra pf pt pl pd prc ns tu ba na ca bo tr tH asd pa tg sd sr) yX7_cancels cX7_cancels 4 (some .int) (rmL 5) yX8_cancels cX8_cancels 4 (some .int) (rmL 6) [.int aa, .int ab, .int ac] := by
  have hC := rl_cOk h
  have hI := h.2.1
  have hT6 : T ≤ 6 := hC.2.2.1
  refine ⟨_, _, fun l => c_X7_cancels l E A C Z aa ab ac T hC hz, fun l => c_X8_cancels l E B u kp ik ps pm dd tx ty rw rm th sz he wr mn vl tp lt ra pf pt pl pd prc ns tu ba na ca bo tr tH asd pa tg sd sr aa ab ac T hI.ok h.2.2.2.1.2.2.1, fun r1 w1 hp => ?_⟩
  obtain ⟨Z1, rfl, hz1, rfl⟩ := hp
  refine ⟨_, rfl, fun r2 w2 hq => ?_⟩
  obtain ⟨rfl, hs, hn⟩ := hq
  obtain ⟨e1, e2, e3⟩ := eq_cancels h.1 hI aa ab ac
  refine ⟨by rw [e1], ?_⟩
  generalize hY : y_cancels u T aa ab ac = Y at e1 e2 e3 hs hn
  obtain ⟨y1, o⟩ := Y
  cases o with
  | none =>
    first
      | (rw [e2 rfl, hn rfl]; exact Gd.of h hz1)
      | (obtain ⟨asd1, hn1⟩ := hn rfl
         rw [e2 rfl, hn1]
         exact Gd.of h hz1)
  | some u1 =>
    obtain ⟨e4, e5⟩ := e3 u1 rfl
    rw [e4, hs u1 rfl]
    exact Gd.of (C := accC C (fm u1)) (rl_did (fd := fm u1) h e5) hz1

set_option maxRecDepth 100000 in
set_option maxHeartbeats 4000000 in
theorem s_pool {E : rhE} {A B : Nat → Nat} {C : CT} {T Tk : Nat} {Z : ZT} {u : Nat → Int32} {kp : Nat → Int32} {ik : Int32} {ps : Nat → Int32} {pm : Nat} {dd : Int32} {tx : Nat → Int32} {ty : Nat} {rw : Nat → Int64} {rm : Nat} {th : Int32} {sz : Nat} {he : Nat} {wr : Int32} {mn : Nat → Int32} {vl : Int32} {tp : Int32} {lt : Int32} {ra : Int32} {pf : Int32} {pt : Int32} {pl : Int32} {pd : Int64} {prc : Int64} {ns : Int64} {tu : Nat} {ba : Int64} {na : Int64} {ca : Nat → Int64} {bo : Nat → Int32} {tr : Nat → Int64} {tH : Int32} {asd : Nat → Int32} {pa : Nat → Int64} {tg : Nat → Int64} {sd : Int64} {sr : Int64} (h : rl C T Tk u kp ik ps pm dd tx ty rw rm) (hz : zOk Z) (aa : Int32) : StpC Value.int E A B (wC E A C Z) (wM E B u kp ik ps pm dd tx ty rw rm th sz he wr mn vl tp lt ra pf pt pl pd prc ns tu ba na ca bo tr tH asd pa tg sd sr) yX7_pool cX7_pool 3 (some .int) (rmL 5) yX8_pool cX8_pool 3 (some .int) (rmL 6) [.int aa] := by
  have hC := rl_cOk h
  have hI := h.2.1
  have hT6 : T ≤ 6 := hC.2.2.1
  refine ⟨_, _, fun l => c_X7_pool l E A C Z aa T hC hz, fun l => c_X8_pool l E B u kp ik ps pm dd tx ty rw rm th sz he wr mn vl tp lt ra pf pt pl pd prc ns tu ba na ca bo tr tH asd pa tg sd sr aa T hI.ok h.2.2.2.1.2.2.1, fun r1 w1 hp => ?_⟩
  obtain ⟨Z1, rfl, hz1, rfl⟩ := hp
  refine ⟨_, rfl, fun r2 w2 hq => ?_⟩
  obtain ⟨rfl, hs, hn⟩ := hq
  obtain ⟨e1, e2, e3⟩ := eq_pool h.1 hI aa
  refine ⟨by rw [e1], ?_⟩
  generalize hY : y_pool u T aa = Y at e1 e2 e3 hs hn
  obtain ⟨y1, o⟩ := Y
  cases o with
  | none =>
    first
      | (rw [e2 rfl, hn rfl]; exact Gd.of h hz1)
      | (obtain ⟨asd1, hn1⟩ := hn rfl
         rw [e2 rfl, hn1]
         exact Gd.of h hz1)
  | some u1 =>
    obtain ⟨e4, e5⟩ := e3 u1 rfl
    rw [e4, hs u1 rfl]
    exact Gd.of (C := accC C (fm u1)) (rl_did (fd := fm u1) h e5) hz1

set_option maxRecDepth 100000 in
set_option maxHeartbeats 4000000 in
theorem s_grant {E : rhE} {A B : Nat → Nat} {C : CT} {T Tk : Nat} {Z : ZT} {u : Nat → Int32} {kp : Nat → Int32} {ik : Int32} {ps : Nat → Int32} {pm : Nat} {dd : Int32} {tx : Nat → Int32} {ty : Nat} {rw : Nat → Int64} {rm : Nat} {th : Int32} {sz : Nat} {he : Nat} {wr : Int32} {mn : Nat → Int32} {vl : Int32} {tp : Int32} {lt : Int32} {ra : Int32} {pf : Int32} {pt : Int32} {pl : Int32} {pd : Int64} {prc : Int64} {ns : Int64} {tu : Nat} {ba : Int64} {na : Int64} {ca : Nat → Int64} {bo : Nat → Int32} {tr : Nat → Int64} {tH : Int32} {asd : Nat → Int32} {pa : Nat → Int64} {tg : Nat → Int64} {sd : Int64} {sr : Int64} (h : rl C T Tk u kp ik ps pm dd tx ty rw rm) (hz : zOk Z) (aa ab : Int32) : StpC Value.int E A B (wC E A C Z) (wM E B u kp ik ps pm dd tx ty rw rm th sz he wr mn vl tp lt ra pf pt pl pd prc ns tu ba na ca bo tr tH asd pa tg sd sr) yX7_grant cX7_grant 3 (some .int) (rmL 5) yX8_grant cX8_grant 3 (some .int) (rmL 6) [.int aa, .int ab] := by
  have hC := rl_cOk h
  have hI := h.2.1
  have hT6 : T ≤ 6 := hC.2.2.1
  refine ⟨_, _, fun l => c_X7_grant l E A C Z aa ab T hC hz, fun l => c_X8_grant l E B u kp ik ps pm dd tx ty rw rm th sz he wr mn vl tp lt ra pf pt pl pd prc ns tu ba na ca bo tr tH asd pa tg sd sr aa ab T hI.ok h.2.2.2.1.2.2.1, fun r1 w1 hp => ?_⟩
  obtain ⟨Z1, rfl, hz1, rfl⟩ := hp
  refine ⟨_, rfl, fun r2 w2 hq => ?_⟩
  obtain ⟨rfl, hs, hn⟩ := hq
  obtain ⟨e1, e2, e3⟩ := eq_grant h.1 hI aa ab
  refine ⟨by rw [e1], ?_⟩
  generalize hY : y_grant u aa ab = Y at e1 e2 e3 hs hn
  obtain ⟨y1, o⟩ := Y
  cases o with
  | none =>
    first
      | (rw [e2 rfl, hn rfl]; exact Gd.of h hz1)
      | (obtain ⟨asd1, hn1⟩ := hn rfl
         rw [e2 rfl, hn1]
         exact Gd.of h hz1)
  | some u1 =>
    obtain ⟨e4, e5⟩ := e3 u1 rfl
    rw [e4, hs u1 rfl]
    exact Gd.of (C := accC C (fm u1)) (rl_did (fd := fm u1) h e5) hz1

set_option maxRecDepth 100000 in
set_option maxHeartbeats 4000000 in
theorem s_exercise {E : rhE} {A B : Nat → Nat} {C : CT} {T Tk : Nat} {Z : ZT} {u : Nat → Int32} {kp : Nat → Int32} {ik : Int32} {ps : Nat → Int32} {pm : Nat} {dd : Int32} {tx : Nat → Int32} {ty : Nat} {rw : Nat → Int64} {rm : Nat} {th : Int32} {sz : Nat} {he : Nat} {wr : Int32} {mn : Nat → Int32} {vl : Int32} {tp : Int32} {lt : Int32} {ra : Int32} {pf : Int32} {pt : Int32} {pl : Int32} {pd : Int64} {prc : Int64} {ns : Int64} {tu : Nat} {ba : Int64} {na : Int64} {ca : Nat → Int64} {bo : Nat → Int32} {tr : Nat → Int64} {tH : Int32} {asd : Nat → Int32} {pa : Nat → Int64} {tg : Nat → Int64} {sd : Int64} {sr : Int64} (h : rl C T Tk u kp ik ps pm dd tx ty rw rm) (hz : zOk Z) (aa ab : Int32) : StpC Value.int E A B (wC E A C Z) (wM E B u kp ik ps pm dd tx ty rw rm th sz he wr mn vl tp lt ra pf pt pl pd prc ns tu ba na ca bo tr tH asd pa tg sd sr) yX7_exercise cX7_exercise 3 (some .int) (rmL 5) yX8_exercise cX8_exercise 3 (some .int) (rmL 6) [.int aa, .int ab] := by
  have hC := rl_cOk h
  have hI := h.2.1
  have hT6 : T ≤ 6 := hC.2.2.1
  refine ⟨_, _, fun l => c_X7_exercise l E A C Z aa ab T hC hz, fun l => c_X8_exercise l E B u kp ik ps pm dd tx ty rw rm th sz he wr mn vl tp lt ra pf pt pl pd prc ns tu ba na ca bo tr tH asd pa tg sd sr aa ab T hI.ok h.2.2.2.1.2.2.1, fun r1 w1 hp => ?_⟩
  obtain ⟨Z1, rfl, hz1, rfl⟩ := hp
  refine ⟨_, rfl, fun r2 w2 hq => ?_⟩
  obtain ⟨rfl, hs, hn⟩ := hq
  obtain ⟨e1, e2, e3⟩ := eq_exercise h.1 hI aa ab
  refine ⟨by rw [e1], ?_⟩
  generalize hY : y_exercise u aa ab = Y at e1 e2 e3 hs hn
  obtain ⟨y1, o⟩ := Y
  cases o with
  | none =>
    first
      | (rw [e2 rfl, hn rfl]; exact Gd.of h hz1)
      | (obtain ⟨asd1, hn1⟩ := hn rfl
         rw [e2 rfl, hn1]
         exact Gd.of h hz1)
  | some u1 =>
    obtain ⟨e4, e5⟩ := e3 u1 rfl
    rw [e4, hs u1 rfl]
    exact Gd.of (C := accC C (fm u1)) (rl_did (fd := fm u1) h e5) hz1

set_option maxRecDepth 100000 in
set_option maxHeartbeats 4000000 in
theorem s_lapses {E : rhE} {A B : Nat → Nat} {C : CT} {T Tk : Nat} {Z : ZT} {u : Nat → Int32} {kp : Nat → Int32} {ik : Int32} {ps : Nat → Int32} {pm : Nat} {dd : Int32} {tx : Nat → Int32} {ty : Nat} {rw : Nat → Int64} {rm : Nat} {th : Int32} {sz : Nat} {he : Nat} {wr : Int32} {mn : Nat → Int32} {vl : Int32} {tp : Int32} {lt : Int32} {ra : Int32} {pf : Int32} {pt : Int32} {pl : Int32} {pd : Int64} {prc : Int64} {ns : Int64} {tu : Nat} {ba : Int64} {na : Int64} {ca : Nat → Int64} {bo : Nat → Int32} {tr : Nat → Int64} {tH : Int32} {asd : Nat → Int32} {pa : Nat → Int64} {tg : Nat → Int64} {sd : Int64} {sr : Int64} (h : rl C T Tk u kp ik ps pm dd tx ty rw rm) (hz : zOk Z) (aa ab : Int32) : StpC Value.int E A B (wC E A C Z) (wM E B u kp ik ps pm dd tx ty rw rm th sz he wr mn vl tp lt ra pf pt pl pd prc ns tu ba na ca bo tr tH asd pa tg sd sr) yX7_lapses cX7_lapses 3 (some .int) (rmL 5) yX8_lapses cX8_lapses 3 (some .int) (rmL 6) [.int aa, .int ab] := by
  have hC := rl_cOk h
  have hI := h.2.1
  have hT6 : T ≤ 6 := hC.2.2.1
  refine ⟨_, _, fun l => c_X7_lapses l E A C Z aa ab T hC hz, fun l => c_X8_lapses l E B u kp ik ps pm dd tx ty rw rm th sz he wr mn vl tp lt ra pf pt pl pd prc ns tu ba na ca bo tr tH asd pa tg sd sr aa ab T hI.ok h.2.2.2.1.2.2.1, fun r1 w1 hp => ?_⟩
  obtain ⟨Z1, rfl, hz1, rfl⟩ := hp
  refine ⟨_, rfl, fun r2 w2 hq => ?_⟩
  obtain ⟨rfl, hs, hn⟩ := hq
  obtain ⟨e1, e2, e3⟩ := eq_lapses h.1 hI aa ab
  refine ⟨by rw [e1], ?_⟩
  generalize hY : y_lapses u aa ab = Y at e1 e2 e3 hs hn
  obtain ⟨y1, o⟩ := Y
  cases o with
  | none =>
    first
      | (rw [e2 rfl, hn rfl]; exact Gd.of h hz1)
      | (obtain ⟨asd1, hn1⟩ := hn rfl
         rw [e2 rfl, hn1]
         exact Gd.of h hz1)
  | some u1 =>
    obtain ⟨e4, e5⟩ := e3 u1 rfl
    rw [e4, hs u1 rfl]
    exact Gd.of (C := accC C (fm u1)) (rl_did (fd := fm u1) h e5) hz1

set_option maxRecDepth 100000 in
set_option maxHeartbeats 4000000 in
theorem s_sells {E : rhE} {A B : Nat → Nat} {C : CT} {T Tk : Nat} {Z : ZT} {u : Nat → Int32} {kp : Nat → Int32} {ik : Int32} {ps : Nat → Int32} {pm : Nat} {dd : Int32} {tx : Nat → Int32} {ty : Nat} {rw : Nat → Int64} {rm : Nat} {th : Int32} {sz : Nat} {he : Nat} {wr : Int32} {mn : Nat → Int32} {vl : Int32} {tp : Int32} {lt : Int32} {ra : Int32} {pf : Int32} {pt : Int32} {pl : Int32} {pd : Int64} {prc : Int64} {ns : Int64} {tu : Nat} {ba : Int64} {na : Int64} {ca : Nat → Int64} {bo : Nat → Int32} {tr : Nat → Int64} {tH : Int32} {asd : Nat → Int32} {pa : Nat → Int64} {tg : Nat → Int64} {sd : Int64} {sr : Int64} (h : rl C T Tk u kp ik ps pm dd tx ty rw rm) (hz : zOk Z) (aa ab ac ad : Int32) : StpC Value.int E A B (wC E A C Z) (wM E B u kp ik ps pm dd tx ty rw rm th sz he wr mn vl tp lt ra pf pt pl pd prc ns tu ba na ca bo tr tH asd pa tg sd sr) yX7_sells cX7_sells 5 (some .int) (rmL 5) yX8_sells cX8_sells 5 (some .int) (rmL 6) [.int aa, .int ab, .int ac, .int ad] := by
  have hC := rl_cOk h
  have hI := h.2.1
  have hT6 : T ≤ 6 := hC.2.2.1
  refine ⟨_, _, fun l => c_X7_sells l E A C Z aa ab ac ad T hC hz, fun l => c_X8_sells l E B u kp ik ps pm dd tx ty rw rm th sz he wr mn vl tp lt ra pf pt pl pd prc ns tu ba na ca bo tr tH asd pa tg sd sr aa ab ac ad T hI.ok h.2.2.2.1.2.2.1, fun r1 w1 hp => ?_⟩
  obtain ⟨Z1, rfl, hz1, rfl⟩ := hp
  refine ⟨_, rfl, fun r2 w2 hq => ?_⟩
  obtain ⟨rfl, hs, hn⟩ := hq
  obtain ⟨e1, e2, e3⟩ := eq_sells h.1 hI aa ab ac ad
  refine ⟨by rw [e1], ?_⟩
  generalize hY : y_sells u T aa ab ac ad = Y at e1 e2 e3 hs hn
  obtain ⟨y1, o⟩ := Y
  cases o with
  | none =>
    first
      | (rw [e2 rfl, hn rfl]; exact Gd.of h hz1)
      | (obtain ⟨asd1, hn1⟩ := hn rfl
         rw [e2 rfl, hn1]
         exact Gd.of h hz1)
  | some u1 =>
    obtain ⟨e4, e5⟩ := e3 u1 rfl
    rw [e4, hs u1 rfl]
    exact Gd.of (C := accC C (fm u1)) (rl_did (fd := fm u1) h e5) hz1

set_option maxRecDepth 100000 in
set_option maxHeartbeats 4000000 in
theorem s_gives {E : rhE} {A B : Nat → Nat} {C : CT} {T Tk : Nat} {Z : ZT} {u : Nat → Int32} {kp : Nat → Int32} {ik : Int32} {ps : Nat → Int32} {pm : Nat} {dd : Int32} {tx : Nat → Int32} {ty : Nat} {rw : Nat → Int64} {rm : Nat} {th : Int32} {sz : Nat} {he : Nat} {wr : Int32} {mn : Nat → Int32} {vl : Int32} {tp : Int32} {lt : Int32} {ra : Int32} {pf : Int32} {pt : Int32} {pl : Int32} {pd : Int64} {prc : Int64} {ns : Int64} {tu : Nat} {ba : Int64} {na : Int64} {ca : Nat → Int64} {bo : Nat → Int32} {tr : Nat → Int64} {tH : Int32} {asd : Nat → Int32} {pa : Nat → Int64} {tg : Nat → Int64} {sd : Int64} {sr : Int64} (h : rl C T Tk u kp ik ps pm dd tx ty rw rm) (hz : zOk Z) (aa ab : Int32) : StpC Value.int E A B (wC E A C Z) (wM E B u kp ik ps pm dd tx ty rw rm th sz he wr mn vl tp lt ra pf pt pl pd prc ns tu ba na ca bo tr tH asd pa tg sd sr) yX7_gives cX7_gives 6 (some .int) (rmL 5) yX8_gives cX8_gives 6 (some .int) (rmL 6) [.int aa, .int ab] := by
  have hC := rl_cOk h
  have hI := h.2.1
  have hT6 : T ≤ 6 := hC.2.2.1
  refine ⟨_, _, fun l => c_X7_gives l E A C Z aa ab T hC hz, fun l => c_X8_gives l E B u kp ik ps pm dd tx ty rw rm th sz he wr mn vl tp lt ra pf pt pl pd prc ns tu ba na ca bo tr tH asd pa tg sd sr aa ab T hI.ok h.2.2.2.1.2.2.1, fun r1 w1 hp => ?_⟩
  obtain ⟨Z1, rfl, hz1, rfl⟩ := hp
  refine ⟨_, rfl, fun r2 w2 hq => ?_⟩
  obtain ⟨rfl, hs, hn⟩ := hq
  obtain ⟨e1, e2, e3⟩ := eq_gives h.1 hI aa ab
  refine ⟨by rw [e1], ?_⟩
  generalize hY : y_gives u T aa ab = Y at e1 e2 e3 hs hn
  obtain ⟨y1, o⟩ := Y
  cases o with
  | none =>
    first
      | (rw [e2 rfl, hn rfl]; exact Gd.of h hz1)
      | (obtain ⟨asd1, hn1⟩ := hn rfl
         rw [e2 rfl, hn1]
         exact Gd.of h hz1)
  | some u1 =>
    obtain ⟨e4, e5⟩ := e3 u1 rfl
    rw [e4, hs u1 rfl]
    exact Gd.of (C := accC C (fm u1)) (rl_did (fd := fm u1) h e5) hz1

set_option maxRecDepth 100000 in
set_option maxHeartbeats 4000000 in
theorem s_splits {E : rhE} {A B : Nat → Nat} {C : CT} {T Tk : Nat} {Z : ZT} {u : Nat → Int32} {kp : Nat → Int32} {ik : Int32} {ps : Nat → Int32} {pm : Nat} {dd : Int32} {tx : Nat → Int32} {ty : Nat} {rw : Nat → Int64} {rm : Nat} {th : Int32} {sz : Nat} {he : Nat} {wr : Int32} {mn : Nat → Int32} {vl : Int32} {tp : Int32} {lt : Int32} {ra : Int32} {pf : Int32} {pt : Int32} {pl : Int32} {pd : Int64} {prc : Int64} {ns : Int64} {tu : Nat} {ba : Int64} {na : Int64} {ca : Nat → Int64} {bo : Nat → Int32} {tr : Nat → Int64} {tH : Int32} {asd : Nat → Int32} {pa : Nat → Int64} {tg : Nat → Int64} {sd : Int64} {sr : Int64} (h : rl C T Tk u kp ik ps pm dd tx ty rw rm) (hz : zOk Z) (aa : Int32) : StpC Value.int E A B (wC E A C Z) (wM E B u kp ik ps pm dd tx ty rw rm th sz he wr mn vl tp lt ra pf pt pl pd prc ns tu ba na ca bo tr tH asd pa tg sd sr) yX7_splits cX7_splits 2 (some .int) (rmL 5) yX8_splits cX8_splits 5 (some .int) (rmL 5) [.int aa] := by
  have hC := rl_cOk h
  have hI := h.2.1
  have hT6 : T ≤ 6 := hC.2.2.1
  refine ⟨_, _, fun l => c_X7_splits l E A C Z aa T hC hz, fun l => c_X8_splits l E B u kp ik ps pm dd tx ty rw rm th sz he wr mn vl tp lt ra pf pt pl pd prc ns tu ba na ca bo tr tH asd pa tg sd sr aa T hI.ok h.2.2.2.1.2.2.1, fun r1 w1 hp => ?_⟩
  obtain ⟨Z1, rfl, hz1, rfl⟩ := hp
  refine ⟨_, rfl, fun r2 w2 hq => ?_⟩
  obtain ⟨rfl, hs, hn⟩ := hq
  obtain ⟨e1, e2, e3⟩ := eq_splits h.1 hI aa
  refine ⟨by rw [e1], ?_⟩
  generalize hY : y_splits u T aa = Y at e1 e2 e3 hs hn
  obtain ⟨y1, o⟩ := Y
  cases o with
  | none =>
    first
      | (rw [e2 rfl, hn rfl]; exact Gd.of h hz1)
      | (obtain ⟨asd1, hn1⟩ := hn rfl
         rw [e2 rfl, hn1]
         exact Gd.of h hz1)
  | some u1 =>
    obtain ⟨e4, e5⟩ := e3 u1 rfl
    rw [e4, hs u1 rfl]
    exact Gd.of (C := accC C (fm u1)) (rl_did (fd := fm u1) h e5) hz1

set_option maxRecDepth 100000 in
set_option maxHeartbeats 4000000 in
theorem s_converts {E : rhE} {A B : Nat → Nat} {C : CT} {T Tk : Nat} {Z : ZT} {u : Nat → Int32} {kp : Nat → Int32} {ik : Int32} {ps : Nat → Int32} {pm : Nat} {dd : Int32} {tx : Nat → Int32} {ty : Nat} {rw : Nat → Int64} {rm : Nat} {th : Int32} {sz : Nat} {he : Nat} {wr : Int32} {mn : Nat → Int32} {vl : Int32} {tp : Int32} {lt : Int32} {ra : Int32} {pf : Int32} {pt : Int32} {pl : Int32} {pd : Int64} {prc : Int64} {ns : Int64} {tu : Nat} {ba : Int64} {na : Int64} {ca : Nat → Int64} {bo : Nat → Int32} {tr : Nat → Int64} {tH : Int32} {asd : Nat → Int32} {pa : Nat → Int64} {tg : Nat → Int64} {sd : Int64} {sr : Int64} (h : rl C T Tk u kp ik ps pm dd tx ty rw rm) (hz : zOk Z) (aa ab ac : Int32) : StpC Value.int E A B (wC E A C Z) (wM E B u kp ik ps pm dd tx ty rw rm th sz he wr mn vl tp lt ra pf pt pl pd prc ns tu ba na ca bo tr tH asd pa tg sd sr) yX7_converts cX7_converts 6 (some .int) (rmL 5) yX8_converts cX8_converts 5 (some .int) (rmL 6) [.int aa, .int ab, .int ac] := by
  have hC := rl_cOk h
  have hI := h.2.1
  have hT6 : T ≤ 6 := hC.2.2.1
  refine ⟨_, _, fun l => c_X7_converts l E A C Z aa ab ac T hC hz, fun l => c_X8_converts l E B u kp ik ps pm dd tx ty rw rm th sz he wr mn vl tp lt ra pf pt pl pd prc ns tu ba na ca bo tr tH asd pa tg sd sr aa ab ac T hI.ok h.2.2.2.1.2.2.1, fun r1 w1 hp => ?_⟩
  obtain ⟨Z1, rfl, hz1, rfl⟩ := hp
  refine ⟨_, rfl, fun r2 w2 hq => ?_⟩
  obtain ⟨rfl, hs, hn⟩ := hq
  obtain ⟨e1, e2, e3⟩ := eq_converts h.1 hI aa ab ac
  refine ⟨by rw [e1], ?_⟩
  generalize hY : y_converts u T aa ab ac = Y at e1 e2 e3 hs hn
  obtain ⟨y1, o⟩ := Y
  cases o with
  | none =>
    first
      | (rw [e2 rfl, hn rfl]; exact Gd.of h hz1)
      | (obtain ⟨asd1, hn1⟩ := hn rfl
         rw [e2 rfl, hn1]
         exact Gd.of h hz1)
  | some u1 =>
    obtain ⟨e4, e5⟩ := e3 u1 rfl
    rw [e4, hs u1 rfl]
    exact Gd.of (C := accC C (fm u1)) (rl_did (fd := fm u1) h e5) hz1

set_option maxRecDepth 100000 in
set_option maxHeartbeats 4000000 in
theorem s_term {E : rhE} {A B : Nat → Nat} {C : CT} {T Tk : Nat} {Z : ZT} {u : Nat → Int32} {kp : Nat → Int32} {ik : Int32} {ps : Nat → Int32} {pm : Nat} {dd : Int32} {tx : Nat → Int32} {ty : Nat} {rw : Nat → Int64} {rm : Nat} {th : Int32} {sz : Nat} {he : Nat} {wr : Int32} {mn : Nat → Int32} {vl : Int32} {tp : Int32} {lt : Int32} {ra : Int32} {pf : Int32} {pt : Int32} {pl : Int32} {pd : Int64} {prc : Int64} {ns : Int64} {tu : Nat} {ba : Int64} {na : Int64} {ca : Nat → Int64} {bo : Nat → Int32} {tr : Nat → Int64} {tH : Int32} {asd : Nat → Int32} {pa : Nat → Int64} {tg : Nat → Int64} {sd : Int64} {sr : Int64} (h : rl C T Tk u kp ik ps pm dd tx ty rw rm) (hz : zOk Z) (aa ab ac : Int32) : StpC Value.int E A B (wC E A C Z) (wM E B u kp ik ps pm dd tx ty rw rm th sz he wr mn vl tp lt ra pf pt pl pd prc ns tu ba na ca bo tr tH asd pa tg sd sr) yX7_term cX7_term 5 (some .int) (rmL 5) yX8_term cX8_term 5 (some .int) (rmL 3) [.int aa, .int ab, .int ac] := by
  have hC := rl_cOk h
  have hI := h.2.1
  have hT6 : T ≤ 6 := hC.2.2.1
  refine ⟨_, _, fun l => c_X7_term l E A C Z aa ab ac T hC hz, fun l => c_X8_term l E B u kp ik ps pm dd tx ty rw rm th sz he wr mn vl tp lt ra pf pt pl pd prc ns tu ba na ca bo tr tH asd pa tg sd sr aa ab ac T hI.ok h.2.2.2.1.2.2.1, fun r1 w1 hp => ?_⟩
  obtain ⟨Z1, rfl, hz1, rfl⟩ := hp
  refine ⟨_, rfl, fun r2 w2 hq => ?_⟩
  obtain ⟨rfl, hs, hn⟩ := hq
  obtain ⟨e1, e2, e3⟩ := eq_term h.1 hI aa ab ac
  refine ⟨by rw [e1], ?_⟩
  generalize hY : y_term u T aa ab ac = Y at e1 e2 e3 hs hn
  obtain ⟨y1, o⟩ := Y
  cases o with
  | none =>
    first
      | (rw [e2 rfl, hn rfl]; exact Gd.of h hz1)
      | (obtain ⟨asd1, hn1⟩ := hn rfl
         rw [e2 rfl, hn1]
         exact Gd.of h hz1)
  | some u1 =>
    obtain ⟨e4, e5⟩ := e3 u1 rfl
    rw [e4, hs u1 rfl]
    exact Gd.of (C := accC C (fm u1)) (rl_did (fd := fm u1) h e5) hz1

set_option maxRecDepth 100000 in
set_option maxHeartbeats 4000000 in
theorem s_back {E : rhE} {A B : Nat → Nat} {C : CT} {T Tk : Nat} {Z : ZT} {u : Nat → Int32} {kp : Nat → Int32} {ik : Int32} {ps : Nat → Int32} {pm : Nat} {dd : Int32} {tx : Nat → Int32} {ty : Nat} {rw : Nat → Int64} {rm : Nat} {th : Int32} {sz : Nat} {he : Nat} {wr : Int32} {mn : Nat → Int32} {vl : Int32} {tp : Int32} {lt : Int32} {ra : Int32} {pf : Int32} {pt : Int32} {pl : Int32} {pd : Int64} {prc : Int64} {ns : Int64} {tu : Nat} {ba : Int64} {na : Int64} {ca : Nat → Int64} {bo : Nat → Int32} {tr : Nat → Int64} {tH : Int32} {asd : Nat → Int32} {pa : Nat → Int64} {tg : Nat → Int64} {sd : Int64} {sr : Int64} (h : rl C T Tk u kp ik ps pm dd tx ty rw rm) (hz : zOk Z) : StpC Value.int E A B (wC E A C Z) (wM E B u kp ik ps pm dd tx ty rw rm th sz he wr mn vl tp lt ra pf pt pl pd prc ns tu ba na ca bo tr tH asd pa tg sd sr) yX7_back cX7_back 1 (some .int) (rmL 5) yX8_back cX8_back 2 (some .int) (rmL 5) [] := by
  have hC := rl_cOk h
  have hI := h.2.1
  have hT6 : T ≤ 6 := hC.2.2.1
  refine ⟨_, _, fun l => c_X7_back l E A C Z T hC Tk (by rw [h.2.2.1.1]; exact h.2.2.1.2.2.2.1) h.2.2.1.2.2.2.2 hz, fun l => c_X8_back l E B u kp ik ps pm dd tx ty rw rm th sz he wr mn vl tp lt ra pf pt pl pd prc ns tu ba na ca bo tr tH asd pa tg sd sr Tk (fun q => (h.2.2.1.2.2.1 q).ok) h.2.2.2.1.2.2.1, fun r1 w1 hp => ?_⟩
  obtain ⟨Z1, rfl, hz1, rfl⟩ := hp
  refine ⟨_, rfl, fun r2 w2 hq => ?_⟩
  obtain ⟨rfl, hs, hn⟩ := hq
  obtain ⟨e1, e2, e3⟩ := eq_back (u := u) h.2.2.1.1 h.2.2.1.2.1 h.2.2.1.2.2.1
  refine ⟨by rw [e1], ?_⟩
  generalize hY : y_back kp ik Tk = Y at e1 e2 e3 hs hn
  obtain ⟨y1, o⟩ := Y
  cases o with
  | none =>
    first
      | (rw [e2 rfl, hn rfl]; exact Gd.of h hz1)
      | (obtain ⟨asd1, hn1⟩ := hn rfl
         rw [e2 rfl, hn1]
         exact Gd.of h hz1)
  | some u1 =>
    obtain ⟨e4, e5⟩ := e3 u1 rfl
    rw [e4, hs u1 rfl]
    exact Gd.of (C := accC C (fm u1)) (rl_did (fd := fm u1) h e5) hz1

set_option maxRecDepth 100000 in
set_option maxHeartbeats 4000000 in
theorem s_founds {E : rhE} {A B : Nat → Nat} {C : CT} {T Tk : Nat} {Z : ZT} {u : Nat → Int32} {kp : Nat → Int32} {ik : Int32} {ps : Nat → Int32} {pm : Nat} {dd : Int32} {tx : Nat → Int32} {ty : Nat} {rw : Nat → Int64} {rm : Nat} {th : Int32} {sz : Nat} {he : Nat} {wr : Int32} {mn : Nat → Int32} {vl : Int32} {tp : Int32} {lt : Int32} {ra : Int32} {pf : Int32} {pt : Int32} {pl : Int32} {pd : Int64} {prc : Int64} {ns : Int64} {tu : Nat} {ba : Int64} {na : Int64} {ca : Nat → Int64} {bo : Nat → Int32} {tr : Nat → Int64} {tH : Int32} {asd : Nat → Int32} {pa : Nat → Int64} {tg : Nat → Int64} {sd : Int64} {sr : Int64} (h : rl C T Tk u kp ik ps pm dd tx ty rw rm) (hz : zOk Z) : StpC Value.int E A B (wC E A C Z) (wM E B u kp ik ps pm dd tx ty rw rm th sz he wr mn vl tp lt ra pf pt pl pd prc ns tu ba na ca bo tr tH asd pa tg sd sr) yX7_founds cX7_founds 4 (some .int) (rmL 5) yX8_founds cX8_founds 4 (some .int) (rmL 5) [] := by
  have hC := rl_cOk h
  have hI := h.2.1
  have hT6 : T ≤ 6 := hC.2.2.1
  refine ⟨_, _, fun l => c_X7_founds l E A C Z T hC hz, fun l => c_X8_founds l E B u kp ik ps pm dd tx ty rw rm th sz he wr mn vl tp lt ra pf pt pl pd prc ns tu ba na ca bo tr tH asd pa tg sd sr h.2.2.2.2.2.1.2.2.1 h.2.2.2.2.2.1.2.2.2 h.2.2.2.1.2.2.1, fun r1 w1 hp => ?_⟩
  obtain ⟨Z1, rfl, hz1, rfl⟩ := hp
  refine ⟨_, rfl, fun r2 w2 hq => ?_⟩
  obtain ⟨he1, wr1, mn1, rfl, hs, hn⟩ := hq
  obtain ⟨e1, e2, e3⟩ := eq_founds h.2.2.2.2.2.1.2.2.2 h.2.2.2.2.2.1.2.2.1 h.2.2.2.2.2.1.1 h.2.2.2.2.2.1.2.1
  refine ⟨by rw [e1], ?_⟩
  generalize hY : y_founds tx ty = Y at e1 e2 e3 hs hn
  obtain ⟨y1, o⟩ := Y
  cases o with
  | none => rw [e2 rfl, hn rfl]; exact Gd.of (rl_clT h) hz1
  | some u1 =>
    obtain ⟨fd, e4, e5, e6⟩ := e3 u1 rfl
    rw [e4, hs u1 rfl]
    exact Gd.ofC (C := accC (clT C) fd) (rl_did (fd := fd) (rl_clT h) e6) e5 hz1

set_option maxRecDepth 100000 in
set_option maxHeartbeats 4000000 in
theorem s_round {E : rhE} {A B : Nat → Nat} {C : CT} {T Tk : Nat} {Z : ZT} {u : Nat → Int32} {kp : Nat → Int32} {ik : Int32} {ps : Nat → Int32} {pm : Nat} {dd : Int32} {tx : Nat → Int32} {ty : Nat} {rw : Nat → Int64} {rm : Nat} {th : Int32} {sz : Nat} {he : Nat} {wr : Int32} {mn : Nat → Int32} {vl : Int32} {tp : Int32} {lt : Int32} {ra : Int32} {pf : Int32} {pt : Int32} {pl : Int32} {pd : Int64} {prc : Int64} {ns : Int64} {tu : Nat} {ba : Int64} {na : Int64} {ca : Nat → Int64} {bo : Nat → Int32} {tr : Nat → Int64} {tH : Int32} {asd : Nat → Int32} {pa : Nat → Int64} {tg : Nat → Int64} {sd : Int64} {sr : Int64} (h : rl C T Tk u kp ik ps pm dd tx ty rw rm) (hz : zOk Z) : StpC Value.int E A B (wC E A C Z) (wM E B u kp ik ps pm dd tx ty rw rm th sz he wr mn vl tp lt ra pf pt pl pd prc ns tu ba na ca bo tr tH asd pa tg sd sr) yX7_round cX7_round 3 (some .int) (rmL 9) yX8_round cX8_round 2 (some .int) (rmL 8) [] := by
  have hC := rl_cOk h
  have hI := h.2.1
  have hT6 : T ≤ 6 := hC.2.2.1
  refine ⟨_, _, fun l => c_X7_round l E A C Z T hC hz, fun l => c_X8_round l E B u kp ik ps pm dd tx ty rw rm th sz he wr mn vl tp lt ra pf pt pl pd prc ns tu ba na ca bo tr tH asd pa tg sd sr C h.1 h.2.2.2.2.2.1.1 h.2.2.2.2.2.1.2.1 T hI h.2.2.2.2.2.1.2.2.1 h.2.2.2.2.2.1.2.2.2 h.2.2.2.1.2.2.1, fun r1 w1 hp => ?_⟩
  obtain ⟨Z1, C1, rfl, hz1, ht, rfl⟩ := hp
  refine ⟨_, rfl, fun r2 w2 hq => ?_⟩
  obtain ⟨he1, wr1, mn1, vl1, tp1, lt1, ra1, pf1, pt1, pl1, pd1, prc1, ns1, tu1, ba1, na1, ca1, tr1, tH1, asd1, rw1, rm1, rfl, hm, hcs⟩ := hq
  refine ⟨rfl, ?_⟩
  rcases hcs with ⟨e1, rfl⟩ | ⟨u1, fd, e1, e2, e3, rfl⟩
  · rw [e1] at ht
    exact Gd.of (rl_row (rl_clT h) ht hm (ln_round hT6)) hz1
  · rw [e1] at ht
    obtain ⟨g1, g2⟩ := rowTold_fst (fm u1) ht
    exact Gd.ofC (rl_row (rl_did (fd := fd) (rl_clT h) e3) g1 hm (ln_round hT6)) (fun x hx => by rw [g2]; exact e2 x hx) hz1

set_option maxRecDepth 100000 in
set_option maxHeartbeats 4000000 in
theorem s_thought {E : rhE} {A B : Nat → Nat} {C : CT} {T Tk : Nat} {Z : ZT} {u : Nat → Int32} {kp : Nat → Int32} {ik : Int32} {ps : Nat → Int32} {pm : Nat} {dd : Int32} {tx : Nat → Int32} {ty : Nat} {rw : Nat → Int64} {rm : Nat} {th : Int32} {sz : Nat} {he : Nat} {wr : Int32} {mn : Nat → Int32} {vl : Int32} {tp : Int32} {lt : Int32} {ra : Int32} {pf : Int32} {pt : Int32} {pl : Int32} {pd : Int64} {prc : Int64} {ns : Int64} {tu : Nat} {ba : Int64} {na : Int64} {ca : Nat → Int64} {bo : Nat → Int32} {tr : Nat → Int64} {tH : Int32} {asd : Nat → Int32} {pa : Nat → Int64} {tg : Nat → Int64} {sd : Int64} {sr : Int64} (h : rl C T Tk u kp ik ps pm dd tx ty rw rm) (hz : zOk Z) : StpC Value.int E A B (wC E A C Z) (wM E B u kp ik ps pm dd tx ty rw rm th sz he wr mn vl tp lt ra pf pt pl pd prc ns tu ba na ca bo tr tH asd pa tg sd sr) yX7_thought cX7_thought 4 (some .int) (rmL 9) yX8_thought cX8_thought 3 (some .int) (rmL 8) [] := by
  have hC := rl_cOk h
  have hI := h.2.1
  have hT6 : T ≤ 6 := hC.2.2.1
  refine ⟨_, _, fun l => c_X7_thought l E A C Z  T hC hz, fun l => c_X8_thought l E B u kp ik ps pm dd tx ty rw rm th sz he wr mn vl tp lt ra pf pt pl pd prc ns tu ba na ca bo tr tH asd pa tg sd sr  C h.1 h.2.2.2.2.2.1.1 h.2.2.2.2.2.1.2.1 T hI h.2.2.2.2.2.1.2.2.1 h.2.2.2.2.2.1.2.2.2, fun r1 w1 hp => ?_⟩
  obtain ⟨Z1, C1, rfl, hz1, ht, rfl⟩ := hp
  refine ⟨_, rfl, fun r2 w2 hq => ?_⟩
  obtain ⟨he1, wr1, mn1, vl1, tp1, lt1, ra1, pf1, pt1, pl1, pd1, prc1, ns1, tu1, ba1, na1, ca1, tr1, tH1, asd1, rw1, rm1, rfl, hm, e1, rfl⟩ := hq
  refine ⟨rfl, ?_⟩
  rw [e1] at ht
  exact Gd.of (rl_row (rl_clT h) ht hm (ln_thought hT6)) hz1

set_option maxRecDepth 100000 in
set_option maxHeartbeats 4000000 in
theorem s_diluted {E : rhE} {A B : Nat → Nat} {C : CT} {T Tk : Nat} {Z : ZT} {u : Nat → Int32} {kp : Nat → Int32} {ik : Int32} {ps : Nat → Int32} {pm : Nat} {dd : Int32} {tx : Nat → Int32} {ty : Nat} {rw : Nat → Int64} {rm : Nat} {th : Int32} {sz : Nat} {he : Nat} {wr : Int32} {mn : Nat → Int32} {vl : Int32} {tp : Int32} {lt : Int32} {ra : Int32} {pf : Int32} {pt : Int32} {pl : Int32} {pd : Int64} {prc : Int64} {ns : Int64} {tu : Nat} {ba : Int64} {na : Int64} {ca : Nat → Int64} {bo : Nat → Int32} {tr : Nat → Int64} {tH : Int32} {asd : Nat → Int32} {pa : Nat → Int64} {tg : Nat → Int64} {sd : Int64} {sr : Int64} (h : rl C T Tk u kp ik ps pm dd tx ty rw rm) (hz : zOk Z) (aa : Int32) : StpC Value.int E A B (wC E A C Z) (wM E B u kp ik ps pm dd tx ty rw rm th sz he wr mn vl tp lt ra pf pt pl pd prc ns tu ba na ca bo tr tH asd pa tg sd sr) yX7_diluted cX7_diluted 6 (some .int) (rmL 9) yX8_diluted cX8_diluted 9 (some .int) (rmL 8) [.int aa] := by
  have hC := rl_cOk h
  have hI := h.2.1
  have hT6 : T ≤ 6 := hC.2.2.1
  refine ⟨_, _, fun l => c_X7_diluted l E A C Z aa T hC hz, fun l => c_X8_diluted l E B u kp ik ps pm dd tx ty rw rm th sz he wr mn vl tp lt ra pf pt pl pd prc ns tu ba na ca bo tr tH asd pa tg sd sr aa C h.1 h.2.2.2.2.2.1.1 h.2.2.2.2.2.1.2.1 T hI h.2.2.2.2.2.1.2.2.1 h.2.2.2.2.2.1.2.2.2, fun r1 w1 hp => ?_⟩
  obtain ⟨Z1, C1, rfl, hz1, ht, rfl⟩ := hp
  refine ⟨_, rfl, fun r2 w2 hq => ?_⟩
  obtain ⟨he1, wr1, mn1, vl1, tp1, lt1, ra1, pf1, pt1, pl1, pd1, prc1, ns1, tu1, ba1, na1, ca1, tr1, tH1, asd1, rw1, rm1, rfl, hm, e1, rfl⟩ := hq
  refine ⟨rfl, ?_⟩
  rw [e1] at ht
  exact Gd.of (rl_row (rl_clT h) ht hm (ln_diluted hT6)) hz1

set_option maxRecDepth 100000 in
set_option maxHeartbeats 4000000 in
theorem s_threatens {E : rhE} {A B : Nat → Nat} {C : CT} {T Tk : Nat} {Z : ZT} {u : Nat → Int32} {kp : Nat → Int32} {ik : Int32} {ps : Nat → Int32} {pm : Nat} {dd : Int32} {tx : Nat → Int32} {ty : Nat} {rw : Nat → Int64} {rm : Nat} {th : Int32} {sz : Nat} {he : Nat} {wr : Int32} {mn : Nat → Int32} {vl : Int32} {tp : Int32} {lt : Int32} {ra : Int32} {pf : Int32} {pt : Int32} {pl : Int32} {pd : Int64} {prc : Int64} {ns : Int64} {tu : Nat} {ba : Int64} {na : Int64} {ca : Nat → Int64} {bo : Nat → Int32} {tr : Nat → Int64} {tH : Int32} {asd : Nat → Int32} {pa : Nat → Int64} {tg : Nat → Int64} {sd : Int64} {sr : Int64} (h : rl C T Tk u kp ik ps pm dd tx ty rw rm) (hz : zOk Z) : StpC Value.int E A B (wC E A C Z) (wM E B u kp ik ps pm dd tx ty rw rm th sz he wr mn vl tp lt ra pf pt pl pd prc ns tu ba na ca bo tr tH asd pa tg sd sr) yX7_threatens cX7_threatens 3 (some .int) (rmL 9) yX8_threatens cX8_threatens 2 (some .int) (rmL 8) [] := by
  have hC := rl_cOk h
  have hI := h.2.1
  have hT6 : T ≤ 6 := hC.2.2.1
  refine ⟨_, _, fun l => c_X7_threatens l E A C Z  T hC hz, fun l => c_X8_threatens l E B u kp ik ps pm dd tx ty rw rm th sz he wr mn vl tp lt ra pf pt pl pd prc ns tu ba na ca bo tr tH asd pa tg sd sr  C h.1 h.2.2.2.2.2.1.1 h.2.2.2.2.2.1.2.1 T hI h.2.2.2.2.2.1.2.2.1 h.2.2.2.2.2.1.2.2.2, fun r1 w1 hp => ?_⟩
  obtain ⟨Z1, C1, rfl, hz1, ht, rfl⟩ := hp
  refine ⟨_, rfl, fun r2 w2 hq => ?_⟩
  obtain ⟨he1, wr1, mn1, vl1, tp1, lt1, ra1, pf1, pt1, pl1, pd1, prc1, ns1, tu1, ba1, na1, ca1, tr1, tH1, asd1, rw1, rm1, rfl, hm, e1, rfl⟩ := hq
  refine ⟨rfl, ?_⟩
  rw [e1] at ht
  exact Gd.of (rl_row (rl_clT h) ht hm (ln_threatens hT6)) hz1

set_option maxRecDepth 100000 in
set_option maxHeartbeats 4000000 in
theorem s_sweep {E : rhE} {A B : Nat → Nat} {C : CT} {T Tk : Nat} {Z : ZT} {u : Nat → Int32} {kp : Nat → Int32} {ik : Int32} {ps : Nat → Int32} {pm : Nat} {dd : Int32} {tx : Nat → Int32} {ty : Nat} {rw : Nat → Int64} {rm : Nat} {th : Int32} {sz : Nat} {he : Nat} {wr : Int32} {mn : Nat → Int32} {vl : Int32} {tp : Int32} {lt : Int32} {ra : Int32} {pf : Int32} {pt : Int32} {pl : Int32} {pd : Int64} {prc : Int64} {ns : Int64} {tu : Nat} {ba : Int64} {na : Int64} {ca : Nat → Int64} {bo : Nat → Int32} {tr : Nat → Int64} {tH : Int32} {asd : Nat → Int32} {pa : Nat → Int64} {tg : Nat → Int64} {sd : Int64} {sr : Int64} (h : rl C T Tk u kp ik ps pm dd tx ty rw rm) (hz : zOk Z) (aa : Int32) : StpC Value.int E A B (wC E A C Z) (wM E B u kp ik ps pm dd tx ty rw rm th sz he wr mn vl tp lt ra pf pt pl pd prc ns tu ba na ca bo tr tH asd pa tg sd sr) yX7_sweep cX7_sweep 8 (some .int) (rmL 9) yX8_sweep cX8_sweep 8 (some .int) (rmL 8) [.int aa] := by
  have hC := rl_cOk h
  have hI := h.2.1
  have hT6 : T ≤ 6 := hC.2.2.1
  refine ⟨_, _, fun l => c_X7_sweep l E A C Z aa T hC hz, fun l => c_X8_sweep l E B u kp ik ps pm dd tx ty rw rm th sz he wr mn vl tp lt ra pf pt pl pd prc ns tu ba na ca bo tr tH asd pa tg sd sr aa C h.1 h.2.2.2.2.2.1.1 h.2.2.2.2.2.1.2.1 T hI h.2.2.2.2.2.1.2.2.1 h.2.2.2.2.2.1.2.2.2, fun r1 w1 hp => ?_⟩
  obtain ⟨Z1, C1, rfl, hz1, ht, rfl⟩ := hp
  refine ⟨_, rfl, fun r2 w2 hq => ?_⟩
  obtain ⟨he1, wr1, mn1, vl1, tp1, lt1, ra1, pf1, pt1, pl1, pd1, prc1, ns1, tu1, ba1, na1, ca1, tr1, tH1, asd1, rw1, rm1, rfl, hm, e1, rfl⟩ := hq
  refine ⟨rfl, ?_⟩
  rw [e1] at ht
  exact Gd.of (rl_row (rl_clT h) ht hm (ln_sweep hT6)) hz1

set_option maxRecDepth 100000 in
set_option maxHeartbeats 4000000 in
theorem s_ratchets {E : rhE} {A B : Nat → Nat} {C : CT} {T Tk : Nat} {Z : ZT} {u : Nat → Int32} {kp : Nat → Int32} {ik : Int32} {ps : Nat → Int32} {pm : Nat} {dd : Int32} {tx : Nat → Int32} {ty : Nat} {rw : Nat → Int64} {rm : Nat} {th : Int32} {sz : Nat} {he : Nat} {wr : Int32} {mn : Nat → Int32} {vl : Int32} {tp : Int32} {lt : Int32} {ra : Int32} {pf : Int32} {pt : Int32} {pl : Int32} {pd : Int64} {prc : Int64} {ns : Int64} {tu : Nat} {ba : Int64} {na : Int64} {ca : Nat → Int64} {bo : Nat → Int32} {tr : Nat → Int64} {tH : Int32} {asd : Nat → Int32} {pa : Nat → Int64} {tg : Nat → Int64} {sd : Int64} {sr : Int64} (h : rl C T Tk u kp ik ps pm dd tx ty rw rm) (hz : zOk Z) : StpC Value.int E A B (wC E A C Z) (wM E B u kp ik ps pm dd tx ty rw rm th sz he wr mn vl tp lt ra pf pt pl pd prc ns tu ba na ca bo tr tH asd pa tg sd sr) yX7_ratchets cX7_ratchets 5 (some .int) (rmL 9) yX8_ratchets cX8_ratchets 5 (some .int) (rmL 8) [] := by
  have hC := rl_cOk h
  have hI := h.2.1
  have hT6 : T ≤ 6 := hC.2.2.1
  refine ⟨_, _, fun l => c_X7_ratchets l E A C Z  T hC hz, fun l => c_X8_ratchets l E B u kp ik ps pm dd tx ty rw rm th sz he wr mn vl tp lt ra pf pt pl pd prc ns tu ba na ca bo tr tH asd pa tg sd sr  C h.1 h.2.2.2.2.2.1.1 h.2.2.2.2.2.1.2.1 T hI h.2.2.2.2.2.1.2.2.1 h.2.2.2.2.2.1.2.2.2, fun r1 w1 hp => ?_⟩
  obtain ⟨Z1, C1, rfl, hz1, ht, rfl⟩ := hp
  refine ⟨_, rfl, fun r2 w2 hq => ?_⟩
  obtain ⟨he1, wr1, mn1, vl1, tp1, lt1, ra1, pf1, pt1, pl1, pd1, prc1, ns1, tu1, ba1, na1, ca1, tr1, tH1, asd1, rw1, rm1, rfl, hm, e1, rfl⟩ := hq
  refine ⟨rfl, ?_⟩
  rw [e1] at ht
  exact Gd.of (rl_row (rl_clT h) ht hm (ln_ratchets hT6)) hz1

set_option maxRecDepth 100000 in
set_option maxHeartbeats 4000000 in
theorem s_sign {E : rhE} {A B : Nat → Nat} {C : CT} {T Tk : Nat} {Z : ZT} {u : Nat → Int32} {kp : Nat → Int32} {ik : Int32} {ps : Nat → Int32} {pm : Nat} {dd : Int32} {tx : Nat → Int32} {ty : Nat} {rw : Nat → Int64} {rm : Nat} {th : Int32} {sz : Nat} {he : Nat} {wr : Int32} {mn : Nat → Int32} {vl : Int32} {tp : Int32} {lt : Int32} {ra : Int32} {pf : Int32} {pt : Int32} {pl : Int32} {pd : Int64} {prc : Int64} {ns : Int64} {tu : Nat} {ba : Int64} {na : Int64} {ca : Nat → Int64} {bo : Nat → Int32} {tr : Nat → Int64} {tH : Int32} {asd : Nat → Int32} {pa : Nat → Int64} {tg : Nat → Int64} {sd : Int64} {sr : Int64} (h : rl C T Tk u kp ik ps pm dd tx ty rw rm) (hz : zOk Z) (aa : Int32) : StpC Value.int E A B (wC E A C Z) (wM E B u kp ik ps pm dd tx ty rw rm th sz he wr mn vl tp lt ra pf pt pl pd prc ns tu ba na ca bo tr tH asd pa tg sd sr) yX7_sign cX7_sign 2 (some .int) (rmL 1) yX8_sign cX8_sign 3 (some .int) (rmL 0) [.int aa] := by
  have hC := rl_cOk h
  have hI := h.2.1
  have hT6 : T ≤ 6 := hC.2.2.1
  refine ⟨_, _, fun l => c_X7_sign l E A C Z aa T hC hz, fun l => c_X8_sign l E B u kp ik ps pm dd tx ty rw rm th sz he wr mn vl tp lt ra pf pt pl pd prc ns tu ba na ca bo tr tH asd pa tg sd sr aa h.2.2.2.2.2.1.2.2.1, fun r1 w1 hp => ?_⟩
  obtain ⟨Z1, rfl, hz1, rfl⟩ := hp
  obtain ⟨e1, e2⟩ := rl_sign h aa
  refine ⟨_, rfl, fun r2 w2 hq => ?_⟩
  obtain ⟨rfl, rfl⟩ := hq
  exact ⟨by rw [e1], Gd.of e2 hz1⟩

set_option maxRecDepth 100000 in
set_option maxHeartbeats 4000000 in
theorem s_end {E : rhE} {A B : Nat → Nat} {C : CT} {T Tk : Nat} {Z : ZT} {u : Nat → Int32} {kp : Nat → Int32} {ik : Int32} {ps : Nat → Int32} {pm : Nat} {dd : Int32} {tx : Nat → Int32} {ty : Nat} {rw : Nat → Int64} {rm : Nat} {th : Int32} {sz : Nat} {he : Nat} {wr : Int32} {mn : Nat → Int32} {vl : Int32} {tp : Int32} {lt : Int32} {ra : Int32} {pf : Int32} {pt : Int32} {pl : Int32} {pd : Int64} {prc : Int64} {ns : Int64} {tu : Nat} {ba : Int64} {na : Int64} {ca : Nat → Int64} {bo : Nat → Int32} {tr : Nat → Int64} {tH : Int32} {asd : Nat → Int32} {pa : Nat → Int64} {tg : Nat → Int64} {sd : Int64} {sr : Int64} (h : rl C T Tk u kp ik ps pm dd tx ty rw rm) (hz : zOk Z) (aa : Int32) : StpC Value.int E A B (wC E A C Z) (wM E B u kp ik ps pm dd tx ty rw rm th sz he wr mn vl tp lt ra pf pt pl pd prc ns tu ba na ca bo tr tH asd pa tg sd sr) yX7_end cX7_end 2 (some .boolean) (rmL 1) yX8_end cX8_end 2 (some .boolean) (rmL 1) [.int aa] := by
  have hC := rl_cOk h
  have hI := h.2.1
  have hT6 : T ≤ 6 := hC.2.2.1
  refine ⟨_, _, fun l => c_X7_end l E A C Z aa T hC hz, fun l => c_X8_end l E B u kp ik ps pm dd tx ty rw rm th sz he wr mn vl tp lt ra pf pt pl pd prc ns tu ba na ca bo tr tH asd pa tg sd sr aa h.2.2.2.2.2.1.2.2.1, fun r1 w1 hp => ?_⟩
  obtain ⟨Z1, rfl, hz1, rfl⟩ := hp
  obtain ⟨e1, e2⟩ := rl_end h aa
  refine ⟨_, rfl, fun r2 w2 hq => ?_⟩
  obtain ⟨rfl, rfl⟩ := hq
  exact ⟨by rw [e1], Gd.of e2 hz1⟩

set_option maxRecDepth 100000 in
set_option maxHeartbeats 4000000 in
theorem s_keeps {E : rhE} {A B : Nat → Nat} {C : CT} {T Tk : Nat} {Z : ZT} {u : Nat → Int32} {kp : Nat → Int32} {ik : Int32} {ps : Nat → Int32} {pm : Nat} {dd : Int32} {tx : Nat → Int32} {ty : Nat} {rw : Nat → Int64} {rm : Nat} {th : Int32} {sz : Nat} {he : Nat} {wr : Int32} {mn : Nat → Int32} {vl : Int32} {tp : Int32} {lt : Int32} {ra : Int32} {pf : Int32} {pt : Int32} {pl : Int32} {pd : Int64} {prc : Int64} {ns : Int64} {tu : Nat} {ba : Int64} {na : Int64} {ca : Nat → Int64} {bo : Nat → Int32} {tr : Nat → Int64} {tH : Int32} {asd : Nat → Int32} {pa : Nat → Int64} {tg : Nat → Int64} {sd : Int64} {sr : Int64} (h : rl C T Tk u kp ik ps pm dd tx ty rw rm) (hz : zOk Z) : StpC Value.int E A B (wC E A C Z) (wM E B u kp ik ps pm dd tx ty rw rm th sz he wr mn vl tp lt ra pf pt pl pd prc ns tu ba na ca bo tr tH asd pa tg sd sr) yX7_keeps cX7_keeps 1 (some .int) (rmL 5) yX8_keeps cX8_keeps 2 (some .int) (rmL 5) [] := by
  have hC := rl_cOk h
  have hI := h.2.1
  have hT6 : T ≤ 6 := hC.2.2.1
  refine ⟨_, _, fun l => c_X7_keeps l E A C Z T hC hz, fun l => c_X8_keeps l E B u kp ik ps pm dd tx ty rw rm th sz he wr mn vl tp lt ra pf pt pl pd prc ns tu ba na ca bo tr tH asd pa tg sd sr T hI.ok, fun r1 w1 hp => ?_⟩
  obtain ⟨Z1, rfl, hz1, rfl⟩ := hp
  obtain ⟨e1, e2⟩ := rl_keeps h
  refine ⟨_, rfl, fun r2 w2 hq => ?_⟩
  obtain ⟨rfl, rfl⟩ := hq
  exact ⟨by rw [e1], Gd.of e2 hz1⟩

set_option maxRecDepth 100000 in
set_option maxHeartbeats 4000000 in
theorem s_undo {E : rhE} {A B : Nat → Nat} {C : CT} {T Tk : Nat} {Z : ZT} {u : Nat → Int32} {kp : Nat → Int32} {ik : Int32} {ps : Nat → Int32} {pm : Nat} {dd : Int32} {tx : Nat → Int32} {ty : Nat} {rw : Nat → Int64} {rm : Nat} {th : Int32} {sz : Nat} {he : Nat} {wr : Int32} {mn : Nat → Int32} {vl : Int32} {tp : Int32} {lt : Int32} {ra : Int32} {pf : Int32} {pt : Int32} {pl : Int32} {pd : Int64} {prc : Int64} {ns : Int64} {tu : Nat} {ba : Int64} {na : Int64} {ca : Nat → Int64} {bo : Nat → Int32} {tr : Nat → Int64} {tH : Int32} {asd : Nat → Int32} {pa : Nat → Int64} {tg : Nat → Int64} {sd : Int64} {sr : Int64} (h : rl C T Tk u kp ik ps pm dd tx ty rw rm) (hz : zOk Z) : StpC Value.int E A B (wC E A C Z) (wM E B u kp ik ps pm dd tx ty rw rm th sz he wr mn vl tp lt ra pf pt pl pd prc ns tu ba na ca bo tr tH asd pa tg sd sr) yX7_undo cX7_undo 1 (some .int) (rmL 3) yX8_undo cX8_undo 1 (some .int) (rmL 1) [] := by
  have hC := rl_cOk h
  have hI := h.2.1
  have hT6 : T ≤ 6 := hC.2.2.1
  refine ⟨_, _, fun l => c_X7_undo l E A C Z T hC hz, fun l => c_X8_undo l E B u kp ik ps pm dd tx ty rw rm th sz he wr mn vl tp lt ra pf pt pl pd prc ns tu ba na ca bo tr tH asd pa tg sd sr h.2.2.2.1.2.2.1, fun r1 w1 hp => ?_⟩
  obtain ⟨Z1, rfl, hz1, rfl⟩ := hp
  refine ⟨_, rfl, fun r2 w2 hq => ?_⟩
  obtain ⟨rfl, rfl⟩ := hq
  by_cases hp0 : pm = 0
  · rw [if_pos hp0, if_pos hp0, rl_undo0 h hp0]
    exact ⟨rfl, Gd.of h hz1⟩
  · rw [if_neg hp0, if_neg hp0]
    obtain ⟨e1, v, Tv, e2, e3, e4⟩ := rl_undo h hp0
    exact ⟨by rw [e1], Gd.ofU e4 e3 e2 hz1⟩