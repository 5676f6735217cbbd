theorem bg_ext (mn : Nat → Int64) (sm : Int64) (g lst lst' : Nat → Int64) : ∀ c, (bg mn sm (g, lst, 0) c).1 = (bg mn sm (g, lst', 0) c).1 ∧ (bg mn sm (g, lst, 0) c).2.2 = (bg mn sm (g, lst', 0) c).2.2 ∧ ∀ x, 1 ≤ x → x < c → (bg mn sm (g, lst, 0) c).2.1 x = (bg mn sm (g, lst', 0) c).2.1 x
  | 0 => ⟨rfl, rfl, fun x h1 h2 => by omega⟩
  | c + 1 => by
    rw [bg, bg]
    by_cases e : c = 0
    · rw [if_pos e, if_pos e]
      exact ⟨rfl, rfl, fun x h1 h2 => by omega⟩
    · rw [if_neg e, if_neg e]
      obtain ⟨h1, h2, h3⟩ := bg_ext mn sm g lst lst' c
      revert h1 h2 h3
      generalize bg mn sm (g, lst, 0) c = S
      generalize bg mn sm (g, lst', 0) c = S'
      obtain ⟨a, b, d⟩ := S
      obtain ⟨a', b', d'⟩ := S'
      intro h1 h2 h3
      dsimp only at h1 h2 h3
      subst h1 h2
      rw [bgGo, bgGo]
      dsimp only
      rw [show va_up b c 0 c = 0 from if_pos rfl, show va_up b' c 0 c = 0 from if_pos rfl]
      by_cases h : cFact a c 5 = 1
      · rw [if_pos h, if_pos h]
        refine ⟨rfl, rfl, fun x h1 h2 => ?_⟩
        dsimp only
        unfold va_up
        by_cases q : x = c
        · rw [if_pos q, if_pos q]
        · rw [if_neg q, if_neg q, if_neg q, if_neg q, h3 x h1 (by omega)]
      · rw [if_neg h, if_neg h]
        refine ⟨rfl, rfl, fun x h1 h2 => ?_⟩
        dsimp only
        unfold va_up
        by_cases q : x = c
        · rw [if_pos q, if_pos q]
        · rw [if_neg q, if_neg q, h3 x h1 (by omega)]
theorem pr_pos {p : Int64} (h1 : ¬ p < 1) (h2 : ¬ 100000000 < p) : (0 : Int32) < p.toInt32 := by
  rw [Int64.lt_iff_toInt_lt] at h1 h2
  rw [Int32.lt_iff_toInt_lt, Int64.toInt_toInt32]
  rw [show (1 : Int64).toInt = 1 by decide] at h1
  rw [show (100000000 : Int64).toInt = 100000000 by decide] at h2
  rw [show (0 : Int32).toInt = 0 by decide, Int.bmod_def]
  split <;> omega
theorem acF_171 (f : Nat → Int64) (T : Nat) (fc mn : Nat → Int64) (pr vl sm is tn fl : Int64) (hT : T < 6) : acF f T fc mn pr vl sm is tn fl 171 = (nI T + 1).toInt64 := by
  unfold acF acC
  rw [if_neg (by omega), if_neg (by omega)]
  unfold acB va_up
  rw [if_neg (by omega), if_neg (by omega), if_neg (by omega), if_neg (by omega), if_neg (by omega), if_neg (by omega), if_neg (by omega)]
  unfold acA
  rw [if_pos rfl]
theorem stl_sg (T : Nat) (hT : T ≤ 6) (vl tp : Int64) (lt : Int32) (mn : Nat → Int64) (sm : Int64) (cvs : Nat → Int64) (pA bA nA : Int64) : ∀ (k : Nat) (f : Nat → Int64) (ot : Int64) (n : Nat), ((stl T vl tp lt mn sm cvs pA bA nA k f ot n).2 = none ∧ (stl T vl tp lt mn sm cvs pA bA nA k f ot n).1 < 0) ∨ (∃ q, (stl T vl tp lt mn sm cvs pA bA nA k f ot n).2 = some q ∧ 0 < (stl T vl tp lt mn sm cvs pA bA nA k f ot n).1)
  | 0, f, ot, n => by rw [stl_0]; exact Or.inl ⟨rfl, by decide⟩
  | k + 1, f, ot, n => by
    rw [stl_s T vl tp lt mn sm cvs pA bA nA k f ot n _ _ _ _ _ _ rfl rfl rfl rfl rfl rfl]
    generalize stPr vl lt f ot = pr
    generalize stM T mn sm cvs nA bA f pr = M
    generalize stTp tp pA (stOt T M + stIs mn pr) = tp1
    by_cases h1 : pr < 1
    · rw [if_pos h1]; exact Or.inl ⟨rfl, by decide⟩
    rw [if_neg h1]
    by_cases h2 : 100000000 < pr
    · rw [if_pos h2]; exact Or.inl ⟨rfl, by decide⟩
    rw [if_neg h2]
    by_cases h3 : 1000000000 < stOt T M + stIs mn pr
    · rw [if_pos h3]; exact Or.inl ⟨rfl, by decide⟩
    rw [if_neg h3]
    by_cases h4 : 1000000000 < stOt T M + stIs mn pr + tp1
    · rw [if_pos h4]; exact Or.inl ⟨rfl, by decide⟩
    rw [if_neg h4]
    by_cases h5 : tp1 = M.1 170 ∧ M.2 = 0
    · rw [if_pos h5]; exact Or.inr ⟨_, rfl, pr_pos h1 h2⟩
    rw [if_neg h5]
    exact stl_sg T hT vl tp lt mn sm cvs pA bA nA k _ _ _
theorem dS_cases (f : Nat → Int64) (T : Nat) (hT : T ≤ 6) (vl tp : Int64) (lt : Int32) (fc mn : Nat → Int64) (sm : Int64) : ((dSettle f T vl tp lt fc mn sm).2 = none ∧ (dSettle f T vl tp lt fc mn sm).1 < 0) ∨ (∃ q, (dSettle f T vl tp lt fc mn sm).2 = some q ∧ 0 < (dSettle f T vl tp lt fc mn sm).1 ∧ (q.1 171).toInt32 = nI (T + 1) ∧ T < 6) := by
  unfold dSettle
  by_cases h1 : 6 ≤ T
  · rw [if_pos h1]; exact Or.inl ⟨rfl, by decide⟩
  rw [if_neg h1]
  by_cases h2 : 1000000000 < vl
  · rw [if_pos h2]; exact Or.inl ⟨rfl, by decide⟩
  rw [if_neg h2]
  rcases stl_sg T hT vl tp lt mn sm (row1 (fun c => cFact f c 1) (fun _ => 0) T) (f 170) (cSize f T) (cAllVotes f T) 200 f (cSize f T - f 170) 1 with ⟨a, b⟩ | ⟨q, a, b⟩
  · left
    dsimp only
    rw [a]
    exact ⟨rfl, b⟩
  · right
    dsimp only
    rw [a]
    refine ⟨_, rfl, b, ?_, by omega⟩
    dsimp only
    rw [acF_171 _ _ _ _ _ _ _ _ _ _ (by omega), Int32.toInt32_toInt64]
    exact (nI_succ T).symm
theorem dS_some {f : Nat → Int64} {T : Nat} (hT : T ≤ 6) {vl tp : Int64} {lt : Int32} {fc mn : Nat → Int64} {sm : Int64} (h : 0 ≤ (dSettle f T vl tp lt fc mn sm).1) : ∃ q, (dSettle f T vl tp lt fc mn sm).2 = some q ∧ (q.1 171).toInt32 = nI (T + 1) ∧ T < 6 := by
  rcases dS_cases f T hT vl tp lt fc mn sm with ⟨_, b⟩ | ⟨q, a, b, c, d⟩
  · exact absurd h (Int32.not_le.mpr b)
  · exact ⟨q, a, c, d⟩
theorem dS_none {f : Nat → Int64} {T : Nat} (hT : T ≤ 6) {vl tp : Int64} {lt : Int32} {fc mn : Nat → Int64} {sm : Int64} (h : ¬ 0 ≤ (dSettle f T vl tp lt fc mn sm).1) : (dSettle f T vl tp lt fc mn sm).2 = none := by
  rcases dS_cases f T hT vl tp lt fc mn sm with ⟨a, b⟩ | ⟨q, a, b, c, d⟩
  · exact a
  · exact absurd (Int32.le_of_lt b) h
/-- the house with PLAY done, and what the round makes of it -/
abbrev xBg (f : Nat → Int64) (T : Nat) (q : TS) : (Nat → Int64) × (Nat → Int64) × Int32 := bg q.2.2.2.2.1 q.2.2.2.2.2 (f, fun _ => 0, 0) T
abbrev xDS (f : Nat → Int64) (T : Nat) (q : TS) : Int32 × Option ((Nat → Int64) × Int64 × Nat × Int64) := dSettle (xBg f T q).1 T q.1 q.2.1 q.2.2.1 q.2.2.2.1 q.2.2.2.2.1 q.2.2.2.2.2
abbrev XR : Type := Int32 × CT × Option (List Int64)
def x_roundG (C : CT) (T : Nat) : Int32 × Option ((Nat → Int64) × Int64 × Nat × Int64) → XR
  | (p, none) => (p, clT C, none)
  | (p, some q) => if 1000000000 < cSize q.1 (T + 1) then (-9, clT C, none) else (p, accC (clT C) q.1, some [q.2.1, (nI q.2.2.1).toInt64, q.2.2.2])
def x_round (C : CT) (T : Nat) : XR := if 0 ≤ x_rt C then x_roundG C T (xDS C.1 T (tRound C).2.2) else (x_rt C, clT C, none)
def x_thoughtG (C : CT) (T : Nat) : Int32 × Option ((Nat → Int64) × Int64 × Nat × Int64) → XR
  | (p, none) => (p, clT C, none)
  | (p, some q) => (p, clT C, some ([q.2.1, (nI q.2.2.1).toInt64, q.2.2.2, q.1 170] ++ (List.range T).map (fun c => cFact q.1 (c + 1) 1)))
def x_thought (C : CT) (T : Nat) : XR := if 0 ≤ x_rt C then x_thoughtG C T (xDS C.1 T (tRound C).2.2) else (x_rt C, clT C, none)
def x_dilutedG (C : CT) (T : Nat) (h : Nat) : Int32 × Option ((Nat → Int64) × Int64 × Nat × Int64) → XR
  | (p, none) => (p, clT C, none)
  | (_, some q) => ((cQuot (1000 * cClaim q.1 h (T + 1)) q.2.2.2).toInt32, clT C, some [cQuot (1000 * cClaim C.1 h T) (cSize C.1 T), cClaim q.1 h (T + 1)])
def x_diluted (C : CT) (T : Nat) (h : Int32) : XR := if 0 ≤ x_rt C then (if xH h = 0 then (-1, clT C, none) else x_dilutedG C T h.toNatClampNeg (xDS C.1 T (tRound C).2.2)) else (x_rt C, clT C, none)
def x_threatens (C : CT) (T : Nat) : XR := if 0 ≤ x_rt C then ((xBg C.1 T (tRound C).2.2).2.2, clT C, some ((List.range (T - 1)).map (fun c => (xBg C.1 T (tRound C).2.2).2.1 (c + 1)))) else (x_rt C, clT C, none)
theorem pair_eq {α β : Type} {x : α × β} {b : β} (h : x.2 = b) : x = (x.1, b) := by rw [← h]

set_option maxRecDepth 100000 in
set_option maxHeartbeats 4000000 in
theorem c_X7_round (l : Launch) (E : rhE) (A : Nat → Nat) (C : CT) (Z : ZT)  (T : Nat) (hC : cOk C T) (hz : zOk Z) : Ctr l E yX7_round cX7_round 3 (some .int) (rmL 9) [.ref (A 0)] (wC E A C Z) (fun r w => ∃ Z1 C1, r = some (Value.int (x_round C T).1) ∧ zOk Z1 ∧ rowTold (x_round C T).2.1 C1 (x_round C T).2.2 ∧ w = wC E A C1 Z1) := by
  refine Ctr.of (by decide) (Nat.le_of_ble_eq_true rfl) rfl rfl 2 ?_
  intro X hX hR
  obtain ⟨hT, hT1, hT6, hnx, hud, hn, hrn⟩ := id hC
  have hC2 := clT_ok hC
  refine rh_aload_n hX dX7_round_0 rfl ?_
  refine rh_wV hX lk_X7_161 mvX7_readTerms (fun l => c_X7_readTerms l E _ _ _ T hC) ⟨rfl, rfl⟩ ⟨Nat.le_of_ble_eq_true rfl, Nat.le_of_ble_eq_true rfl⟩ [0, 1, 2, 3, 4, 5, 6, 7, 8, 9, 10, 11, 12, 13, 14, 15, 16, 17, 18, 19, 20, 21, 22, 23, 24, 25, 26, 27, 28, 29, 30, 31, 32, 33, 34, 35] rfl rfl 0 rfl dX7_round_1 rfl rfl (Nat.le_of_ble_eq_true rfl) rfl ?_
  dsimp only [List.cons_append, List.nil_append, List.set_cons_succ, List.set_cons_zero, vput]
  refine rh_istn1 hX dX7_round_4 (by decide) rfl ?_
  refine rh_iload_n hX dX7_round_5 rfl ?_
  refine rh_if_ge (tgt := 11) hX dX7_round_6 (by decide) (fun h6 => ?_) (fun h6 => ?_)
  · skip
    refine rh_aload_n hX dX7_round_11 rfl ?_
    refine rh_get hX gl_X7_54 0 dX7_round_12 rfl rfl ?_
    refine rh_aload_n hX dX7_round_15 rfl ?_
    refine rh_get hX gl_X7_12 0 dX7_round_16 rfl rfl ?_
    refine rh_aload_n hX dX7_round_19 rfl ?_
    refine rh_get hX gl_X7_47 0 dX7_round_20 rfl rfl ?_
    refine rh_callV hX lk_X7_164 mvX0_works (fun l => c_X0_works l E _ _ _ _ _ _ _ _ _ _ _ _ _ _ _ _ _ _ _ _ _ _ _ _ _ _ _ _ _ _ T hT hT6 hT1) ⟨rfl, rfl⟩ ⟨Nat.le_of_ble_eq_true rfl, Nat.le_of_ble_eq_true rfl⟩ [23, 24, 25, 26, 27, 28, 20, 21, 22, 1, 2] rfl rfl 23 rfl dX7_round_23 rfl rfl (Nat.le_of_ble_eq_true rfl) (fun r w hp hf => ?_)
    obtain ⟨f1, cvs1, nws1, pA1, bA1, nA1, pr1, is1, tn1, fl1, rfl, hok, rfl⟩ := hp
    have hB := (bg_ext (tRound C).2.2.2.2.2.2.1 (tRound C).2.2.2.2.2.2.2 C.1 Z.2.2.2.1.2.2.1 (fun _ => 0) T).1
    dsimp only [vput, List.set_cons_succ, List.set_cons_zero, Option.toList, List.cons_append, List.nil_append]
    rw [hB] at hok ⊢
    refine rh_istn2 hX dX7_round_26 (by decide) rfl ?_
    refine rh_iload_n hX dX7_round_27 rfl ?_
    refine rh_if_ge (tgt := 33) hX dX7_round_28 (by decide) (fun h28 => ?_) (fun h28 => ?_)
    · skip
      obtain ⟨q, hq, hqT, hT5⟩ := dS_some hT6 h28
      obtain ⟨rfl, rfl, rfl, rfl⟩ := hok q hq
      refine rh_aload_n hX dX7_round_33 rfl ?_
      refine rh_get hX gl_X7_16 0 dX7_round_34 rfl rfl ?_
      refine rh_aload_n hX dX7_round_37 rfl ?_
      refine rh_get hX gl_X7_54 0 dX7_round_38 rfl rfl ?_
      refine rh_get hX gl_X7_168 23 dX7_round_41 rfl rfl ?_
      refine rh_get hX gl_X7_171 24 dX7_round_44 rfl rfl ?_
      refine rh_uV hX lk_X7_174 mvX1_load (fun l => c_X1_load l E _ _ _ _ _) ⟨rfl, rfl⟩ ⟨Nat.le_of_ble_eq_true rfl, Nat.le_of_ble_eq_true rfl⟩ [3, 4, 25] rfl rfl 3 rfl dX7_round_47 rfl rfl (Nat.le_of_ble_eq_true rfl) rfl ?_
      dsimp only [List.cons_append, List.nil_append, List.set_cons_succ, List.set_cons_zero, vput]
      refine rh_aload_n hX dX7_round_50 rfl ?_
      refine rh_aW hX lk_X7_96 mvX7_accepts (fun l => c_X7_accepts l E A (C.1, C.2.1, C.2.2.1, C.2.2.2.1, C.2.2.2.2.1, C.2.2.2.2.2.1, C.2.2.2.2.2.2.1, C.2.2.2.2.2.2.2.1, 0, C.2.2.2.2.2.2.2.2.2) (q.1, (tRound C).2.1, (tRound C).2.2, (q.1, cvs1, (bg (tRound C).2.2.2.2.2.2.1 (tRound C).2.2.2.2.2.2.2 (C.1, Z.2.2.2.1.2.2.1, 0) T).2.1, nws1, (bg (tRound C).2.2.2.2.2.2.1 (tRound C).2.2.2.2.2.2.2 (C.1, Z.2.2.2.1.2.2.1, 0) T).2.2, pA1, bA1, nA1, pr1, q.2.1, (nI q.2.2.1), q.2.2.2), Z.2.2.2.2.1, Z.2.2.2.2.2.1, Z.2.2.2.2.2.2) T hC2 (T + 1) hqT (by omega)) ⟨rfl, rfl⟩ ⟨Nat.le_of_ble_eq_true rfl, Nat.le_of_ble_eq_true rfl⟩ 0 rfl dX7_round_51 rfl rfl (Nat.le_of_ble_eq_true rfl) ?_
      refine rh_if_ne (tgt := 60) hX dX7_round_54 (by decide) (fun hx => ?_) (fun hx => ?_)
      · skip
        have hx : ¬ 1000000000 < cSize q.1 (T + 1) := fun z => hx (show (if 1000000000 < cSize q.1 (T + 1) then (0 : Int32) else 1) = 0 from if_pos z)
        rw [if_neg (show ¬ 1000000000 < cSize (((q.1, (tRound C).2.1, (tRound C).2.2, (q.1, cvs1, (bg (tRound C).2.2.2.2.2.2.1 (tRound C).2.2.2.2.2.2.2 (C.1, Z.2.2.2.1.2.2.1, 0) T).2.1, nws1, (bg (tRound C).2.2.2.2.2.2.1 (tRound C).2.2.2.2.2.2.2 (C.1, Z.2.2.2.1.2.2.1, 0) T).2.2, pA1, bA1, nA1, pr1, q.2.1, (nI q.2.2.1), q.2.2.2), Z.2.2.2.2.1, Z.2.2.2.2.2.1, Z.2.2.2.2.2.2) : ZT).1) (T + 1) from hx)]
        refine rh_aload_n hX dX7_round_60 rfl ?_
        refine rh_uV hX lk_X7_178 mvX7_tellDeal (fun l => c_X7_tellDeal l E A (accC (C.1, C.2.1, C.2.2.1, C.2.2.2.1, C.2.2.2.2.1, C.2.2.2.2.2.1, C.2.2.2.2.2.2.1, C.2.2.2.2.2.2.2.1, 0, C.2.2.2.2.2.2.2.2.2) q.1) (q.1, (tRound C).2.1, (tRound C).2.2, (q.1, cvs1, (bg (tRound C).2.2.2.2.2.2.1 (tRound C).2.2.2.2.2.2.2 (C.1, Z.2.2.2.1.2.2.1, 0) T).2.1, nws1, (bg (tRound C).2.2.2.2.2.2.1 (tRound C).2.2.2.2.2.2.2 (C.1, Z.2.2.2.1.2.2.1, 0) T).2.2, pA1, bA1, nA1, pr1, q.2.1, (nI q.2.2.1), q.2.2.2), Z.2.2.2.2.1, Z.2.2.2.2.2.1, Z.2.2.2.2.2.2)) ⟨rfl, rfl⟩ ⟨Nat.le_of_ble_eq_true rfl, Nat.le_of_ble_eq_true rfl⟩ [0, 1, 2, 3, 4, 5, 6, 7, 8, 9, 10, 11, 12, 13, 14, 15, 16, 17, 18, 19, 20, 21, 22, 23, 24, 25, 26, 27, 28, 29, 30, 31, 32, 33, 34, 35] rfl rfl 0 rfl dX7_round_61 rfl rfl (Nat.le_of_ble_eq_true rfl) rfl ?_
        dsimp only [List.cons_append, List.nil_append, List.set_cons_succ, List.set_cons_zero, vput]
        refine rh_iload_n hX dX7_round_64 rfl ?_
        exact rh_iret hX hR dX7_round_65 (by simp only [List.map_cons, List.map_nil, List.cons_append, List.nil_append]) ⟨(q.1, (tRound C).2.1, (tRound C).2.2, (q.1, cvs1, (bg (tRound C).2.2.2.2.2.2.1 (tRound C).2.2.2.2.2.2.2 (C.1, Z.2.2.2.1.2.2.1, 0) T).2.1, nws1, (bg (tRound C).2.2.2.2.2.2.1 (tRound C).2.2.2.2.2.2.2 (C.1, Z.2.2.2.1.2.2.1, 0) T).2.2, pA1, bA1, nA1, pr1, q.2.1, (nI q.2.2.1), q.2.2.2), Z.2.2.2.2.1, Z.2.2.2.2.2.1, Z.2.2.2.2.2.2), tdRow (accC (C.1, C.2.1, C.2.2.1, C.2.2.2.1, C.2.2.2.2.1, C.2.2.2.2.2.1, C.2.2.2.2.2.2.1, C.2.2.2.2.2.2.2.1, 0, C.2.2.2.2.2.2.2.2.2) q.1) (q.1, (tRound C).2.1, (tRound C).2.2, (q.1, cvs1, (bg (tRound C).2.2.2.2.2.2.1 (tRound C).2.2.2.2.2.2.2 (C.1, Z.2.2.2.1.2.2.1, 0) T).2.1, nws1, (bg (tRound C).2.2.2.2.2.2.1 (tRound C).2.2.2.2.2.2.2 (C.1, Z.2.2.2.1.2.2.1, 0) T).2.2, pA1, bA1, nA1, pr1, q.2.1, (nI q.2.2.1), q.2.2.2), Z.2.2.2.2.1, Z.2.2.2.2.2.1, Z.2.2.2.2.2.2), by rw [x_round, if_pos h6, (pair_eq hq : xDS C.1 T (tRound C).2.2 = _), x_roundG, if_neg hx], hz, by rw [x_round, if_pos h6, (pair_eq hq : xDS C.1 T (tRound C).2.2 = _), x_roundG, if_neg hx]; exact ⟨_, rowOk3 _ _ _ _, rfl⟩, rfl⟩
      · skip
        have hx : 1000000000 < cSize q.1 (T + 1) := Classical.not_not.mp (fun z => absurd (show (if 1000000000 < cSize q.1 (T + 1) then (0 : Int32) else 1) = 0 from hx) (by rw [if_neg z]; decide))
        rw [if_pos (show 1000000000 < cSize (((q.1, (tRound C).2.1, (tRound C).2.2, (q.1, cvs1, (bg (tRound C).2.2.2.2.2.2.1 (tRound C).2.2.2.2.2.2.2 (C.1, Z.2.2.2.1.2.2.1, 0) T).2.1, nws1, (bg (tRound C).2.2.2.2.2.2.1 (tRound C).2.2.2.2.2.2.2 (C.1, Z.2.2.2.1.2.2.1, 0) T).2.2, pA1, bA1, nA1, pr1, q.2.1, (nI q.2.2.1), q.2.2.2), Z.2.2.2.2.1, Z.2.2.2.2.2.1, Z.2.2.2.2.2.2) : ZT).1) (T + 1) from hx)]
        refine rh_bipush hX dX7_round_57 kb_m9 ?_
        exact rh_iret hX hR dX7_round_59 (by simp only [List.map_cons, List.map_nil, List.cons_append, List.nil_append]) ⟨(q.1, (tRound C).2.1, (tRound C).2.2, (q.1, cvs1, (bg (tRound C).2.2.2.2.2.2.1 (tRound C).2.2.2.2.2.2.2 (C.1, Z.2.2.2.1.2.2.1, 0) T).2.1, nws1, (bg (tRound C).2.2.2.2.2.2.1 (tRound C).2.2.2.2.2.2.2 (C.1, Z.2.2.2.1.2.2.1, 0) T).2.2, pA1, bA1, nA1, pr1, q.2.1, (nI q.2.2.1), q.2.2.2), Z.2.2.2.2.1, Z.2.2.2.2.2.1, Z.2.2.2.2.2.2), (C.1, C.2.1, C.2.2.1, C.2.2.2.1, C.2.2.2.2.1, C.2.2.2.2.2.1, C.2.2.2.2.2.2.1, C.2.2.2.2.2.2.2.1, 0, C.2.2.2.2.2.2.2.2.2), by rw [x_round, if_pos h6, (pair_eq hq : xDS C.1 T (tRound C).2.2 = _), x_roundG, if_pos hx], hz, by rw [x_round, if_pos h6, (pair_eq hq : xDS C.1 T (tRound C).2.2 = _), x_roundG, if_pos hx]; rfl, rfl⟩
    · skip
      have hn0 := dS_none hT6 h28
      refine rh_iload_n hX dX7_round_31 rfl ?_
      exact rh_iret hX hR dX7_round_32 (by simp only [List.map_cons, List.map_nil, List.cons_append, List.nil_append]) ⟨(Z.1, (tRound C).2.1, (tRound C).2.2, (f1, cvs1, (bg (tRound C).2.2.2.2.2.2.1 (tRound C).2.2.2.2.2.2.2 (C.1, Z.2.2.2.1.2.2.1, 0) T).2.1, nws1, (bg (tRound C).2.2.2.2.2.2.1 (tRound C).2.2.2.2.2.2.2 (C.1, Z.2.2.2.1.2.2.1, 0) T).2.2, pA1, bA1, nA1, pr1, is1, tn1, fl1), Z.2.2.2.2.1, Z.2.2.2.2.2.1, Z.2.2.2.2.2.2), (C.1, C.2.1, C.2.2.1, C.2.2.2.1, C.2.2.2.2.1, C.2.2.2.2.2.1, C.2.2.2.2.2.2.1, C.2.2.2.2.2.2.2.1, 0, C.2.2.2.2.2.2.2.2.2), by rw [x_round, if_pos h6, (pair_eq hn0 : xDS C.1 T (tRound C).2.2 = _)] <;> rfl, hz, by rw [x_round, if_pos h6, (pair_eq hn0 : xDS C.1 T (tRound C).2.2 = _)] <;> rfl, rfl⟩
  · skip
    refine rh_iload_n hX dX7_round_9 rfl ?_
    exact rh_iret hX hR dX7_round_10 (by simp only [List.map_cons, List.map_nil, List.cons_append, List.nil_append]) ⟨(Z.1, (tRound C).2.1, (tRound C).2.2, Z.2.2.2), (C.1, C.2.1, C.2.2.1, C.2.2.2.1, C.2.2.2.2.1, C.2.2.2.2.2.1, C.2.2.2.2.2.2.1, C.2.2.2.2.2.2.2.1, 0, C.2.2.2.2.2.2.2.2.2), by rw [x_round, if_neg h6], hz, by rw [x_round, if_neg h6]; rfl, rfl⟩
