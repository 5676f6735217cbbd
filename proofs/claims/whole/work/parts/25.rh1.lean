theorem c_X2_notes (l : Launch) (E : rhE) (o a : Nat) (b : Nat → Nat) (p : Nat → Nat → Int64) (dd : Int32) (ud : Nat) (ho ha : Nat) (f : Nat → Int64) (k : Nat) (hk : k < 8) (hu : ud ≤ 8) : Ctr l E yX2_notes cX2_notes 2 none (rmL 2) [.ref o, .ref ho] (wP E o a b p (nI k) (nI ud) dd ++ wH E ho ha f) (One none (wP E o a b (va_up p k f) (nI ((k + 1) % 8)) (nI (if 8 < ud + 1 then 8 else ud + 1)) (dd + 1) ++ wH E ho ha f)) := by
  match k, hk with
  | 0, _ => exact c_X2_notes_0 l E o a b p dd ud ho ha f hu
  | 1, _ => exact c_X2_notes_1 l E o a b p dd ud ho ha f hu
  | 2, _ => exact c_X2_notes_2 l E o a b p dd ud ho ha f hu
  | 3, _ => exact c_X2_notes_3 l E o a b p dd ud ho ha f hu
  | 4, _ => exact c_X2_notes_4 l E o a b p dd ud ho ha f hu
  | 5, _ => exact c_X2_notes_5 l E o a b p dd ud ho ha f hu
  | 6, _ => exact c_X2_notes_6 l E o a b p dd ud ho ha f hu
  | 7, _ => exact c_X2_notes_7 l E o a b p dd ud ho ha f hu
theorem c_X2_takesBack (l : Launch) (E : rhE) (o a : Nat) (b : Nat → Nat) (p : Nat → Nat → Int64) (dd : Int32) (ud : Nat) (ho ha : Nat) (f : Nat → Int64) (k : Nat) (hk : k < 8) (hu : 1 ≤ ud) (hu8 : ud ≤ 8) : Ctr l E yX2_takesBack cX2_takesBack 2 (some .boolean) (rmL 2) [.ref o, .ref ho] (wP E o a b p (nI ((k + 1) % 8)) (nI ud) dd ++ wH E ho ha f) (One (some (.int 1)) (wP E o a b p (nI k) (nI (ud - 1)) dd ++ wH E ho ha (p k))) := by
  match k, hk with
  | 0, _ => exact c_X2_takesBack_0 l E o a b p dd ud ho ha f hu hu8
  | 1, _ => exact c_X2_takesBack_1 l E o a b p dd ud ho ha f hu hu8
  | 2, _ => exact c_X2_takesBack_2 l E o a b p dd ud ho ha f hu hu8
  | 3, _ => exact c_X2_takesBack_3 l E o a b p dd ud ho ha f hu hu8
  | 4, _ => exact c_X2_takesBack_4 l E o a b p dd ud ho ha f hu hu8
  | 5, _ => exact c_X2_takesBack_5 l E o a b p dd ud ho ha f hu hu8
  | 6, _ => exact c_X2_takesBack_6 l E o a b p dd ud ho ha f hu hu8
  | 7, _ => exact c_X2_takesBack_7 l E o a b p dd ud ho ha f hu hu8

/-! RoundHouse: what lasts (the house, what is kept, the past, THE TEXT, the ROW), and what is scratch -/
abbrev CT : Type := (Nat → Int64) × (Nat → Int64) × Int32 × (Nat → Nat → Int64) × Nat × Nat × Int32 × (Nat → Int32) × Nat × (Nat → Int64) × Nat
abbrev DT : Type := (Nat → Int64) × (Nat → Int64) × (Nat → Int64) × (Nat → Int64) × Int32 × Int64 × Int64 × Int64 × Int64 × Int64 × Int32 × Int64
abbrev ST : Type := (Nat → Int64) × (Nat → Int64) × (Nat → Int64) × (Nat → Int64) × Int64 × Nat × Int32 × Int32 × Int64 × Int64
abbrev ZT : Type := (Nat → Int64) × Nat × TS × DT × ST × (Nat → Int64) × (Nat → Int32)
abbrev wDt (E : rhE) (o ho ha ac al an : Nat) (d : DT) : va_W := wD E o ho ha ac al an d.1 d.2.1 d.2.2.1 d.2.2.2.1 d.2.2.2.2.1 d.2.2.2.2.2.1 d.2.2.2.2.2.2.1 d.2.2.2.2.2.2.2.1 d.2.2.2.2.2.2.2.2.1 d.2.2.2.2.2.2.2.2.2.1 d.2.2.2.2.2.2.2.2.2.2.1 d.2.2.2.2.2.2.2.2.2.2.2
abbrev wSt (E : rhE) (o a0 a1 a2 a3 : Nat) (d : ST) : va_W := wS E o a0 a1 a2 a3 d.1 d.2.1 d.2.2.1 d.2.2.2.1 d.2.2.2.2.1 d.2.2.2.2.2.1 d.2.2.2.2.2.2.1 d.2.2.2.2.2.2.2.1 d.2.2.2.2.2.2.2.2.1 d.2.2.2.2.2.2.2.2.2
abbrev wC (E : rhE) (A : Nat → Nat) (C : CT) (Z : ZT) : va_W := (A 0, .inr (7, [.ref (A 1), .ref (A 3), .ref (A 5), .int C.2.2.1, .ref (A 6), .ref (A 16), .ref (A 18), .ref (A 20), .ref (A 23), .ref (A 29), .ref (A 34), .ref (A 35)])) :: (wH E (A 1) (A 2) C.1 ++ (wH E (A 3) (A 4) Z.1 ++ ((A 5, aL E 172 C.2.1) :: (wP E (A 6) (A 7) (fun j => A (8 + j)) C.2.2.2.1 (nI C.2.2.2.2.1) (nI C.2.2.2.2.2.1) C.2.2.2.2.2.2.1 ++ (wX E (A 16) (A 17) C.2.2.2.2.2.2.2.1 C.2.2.2.2.2.2.2.2.1 Z.2.1 ++ (wR E (A 18) (A 19) C.2.2.2.2.2.2.2.2.2.1 C.2.2.2.2.2.2.2.2.2.2 ++ (wTs E (A 20) (A 21) (A 22) Z.2.2.1 ++ (wDt E (A 23) (A 24) (A 25) (A 26) (A 27) (A 28) Z.2.2.2.1 ++ (wSt E (A 29) (A 30) (A 31) (A 32) (A 33) Z.2.2.2.2.1 ++ [(A 34, aL E 8 Z.2.2.2.2.2.1), (A 35, aI E 8 Z.2.2.2.2.2.2)])))))))))
/-- what holds of what lasts: classes, and the bounds of the counters -/
def cOk (C : CT) (T : Nat) : Prop := (C.1 171).toInt32 = nI T ∧ 1 ≤ T ∧ T ≤ 6 ∧ C.2.2.2.2.1 < 8 ∧ C.2.2.2.2.2.1 ≤ 8 ∧ C.2.2.2.2.2.2.2.2.1 ≤ 200 ∧ C.2.2.2.2.2.2.2.2.2.2 ≤ 12
/-- of the scratch: COMMON has no preference paid -/
def zOk (Z : ZT) : Prop := Z.2.2.2.2.1.2.2.2.1 0 = 0
def accC (C : CT) (fd : Nat → Int64) : CT := (fd, C.2.1, C.2.2.1, va_up C.2.2.2.1 C.2.2.2.2.1 C.1, (C.2.2.2.2.1 + 1) % 8, (if 8 < C.2.2.2.2.2.1 + 1 then 8 else C.2.2.2.2.2.1 + 1), C.2.2.2.2.2.2.1 + 1, C.2.2.2.2.2.2.2)
/-- a deed, unless it would be too much -/
def xDeed (C : CT) (fd : Nat → Int64) (Td : Nat) (ans : Int32) : Int32 × CT := if 1000000000 < cSize fd Td then (-9, C) else (ans, accC C fd)
def xH (h : Int32) : Int32 := if h < 0 then 0 else if 8 ≤ h then 0 else 1
def xSum (s : Int32) : Int32 := if s < 0 then 0 else if 1000000000 < s.toInt64 then 0 else 1
def xUp (n : Int32) (most : Int64) : Int32 := if n < 1 then 0 else if most < n.toInt64 then 0 else 1
def xTy (T : Nat) (t : Int32) : Int32 := if t < 0 then 0 else if nI T ≤ t then 0 else 1
def xSe (T : Nat) (t : Int32) : Int32 := if t < 1 then 0 else if nI T ≤ t then 0 else 1
def xCap (n : Int64) : Int32 := (minl n 2000000000).toInt32
theorem i32_neg {x : Int32} (h : ¬ x < 0) : 0 ≤ x := by
  rw [Int32.lt_iff_toInt_lt] at h
  rw [Int32.le_iff_toInt_le]
  omega
theorem xH_1 {h : Int32} (q : ¬ xH h = 0) : ∃ d, h = nI d ∧ d < 8 := by
  unfold xH at q
  by_cases h1 : h < 0
  · rw [if_pos h1] at q; exact absurd rfl q
  · rw [if_neg h1] at q
    by_cases h2 : 8 ≤ h
    · rw [if_pos h2] at q; exact absurd rfl q
    · obtain ⟨d, rfl, hd⟩ := rn_ex (i32_neg h1)
      exact ⟨d, rfl, rn_leN (a := 8) h2 (by decide) hd⟩
theorem xTy_1 {T : Nat} {t : Int32} (hT : T ≤ 6) (q : ¬ xTy T t = 0) : ∃ d, t = nI d ∧ d < T := by
  unfold xTy at q
  by_cases h1 : t < 0
  · rw [if_pos h1] at q; exact absurd rfl q
  · rw [if_neg h1] at q
    by_cases h2 : nI T ≤ t
    · rw [if_pos h2] at q; exact absurd rfl q
    · obtain ⟨d, rfl, hd⟩ := rn_ex (i32_neg h1)
      exact ⟨d, rfl, rn_leN h2 (by omega) hd⟩
theorem xSe_1 {T : Nat} {t : Int32} (hT : T ≤ 6) (q : ¬ xSe T t = 0) : ∃ d, t = nI d ∧ 1 ≤ d ∧ d < T := by
  unfold xSe at q
  by_cases h1 : t < 1
  · rw [if_pos h1] at q; exact absurd rfl q
  · rw [if_neg h1] at q
    by_cases h2 : nI T ≤ t
    · rw [if_pos h2] at q; exact absurd rfl q
    · have h0 : ¬ t < 0 := by
        rw [Int32.lt_iff_toInt_lt] at h1 ⊢
        rw [show (1 : Int32).toInt = 1 by decide] at h1
        rw [show (0 : Int32).toInt = 0 by decide]
        omega
      obtain ⟨d, rfl, hd⟩ := rn_ex (i32_neg h0)
      refine ⟨d, rfl, ?_, rn_leN h2 (by omega) hd⟩
      rw [Int32.lt_iff_toInt_lt, nI_toInt hd, show (1 : Int32).toInt = 1 by decide] at h1
      omega

set_option maxRecDepth 100000 in
set_option maxHeartbeats 4000000 in
theorem c_X7_isHolder (l : Launch) (E : rhE) (h : Int32)  : Ctr l E yX7_isHolder cX7_isHolder 1 (some .boolean) (rmL 0) [.int h] [] (One (some (.int (xH h))) []) := by
  refine Ctr.of (by decide) (Nat.le_of_ble_eq_true rfl) rfl rfl 0 ?_
  intro X hX hR
  refine rh_iload_n hX dX7_isHolder_0 rfl ?_
  refine rh_if_lt (tgt := 14) hX dX7_isHolder_1 (by decide) (fun h1 => ?_) (fun h1 => ?_)
  · skip
    refine rh_iconst hX dX7_isHolder_14 ki_0 ?_
    exact rh_zret hX hR dX7_isHolder_15 rfl rfl ⟨by first | (rw [xH, if_pos h1]; done) | (rw [xH, if_neg h1, if_pos h7]; done) | (rw [xH, if_neg h1, if_neg h7]; done), rfl⟩
  · skip
    refine rh_iload_n hX dX7_isHolder_4 rfl ?_
    refine rh_bipush hX dX7_isHolder_5 kb_8 ?_
    refine rh_icmp_ge (tgt := 14) hX dX7_isHolder_7 (by decide) (fun h7 => ?_) (fun h7 => ?_)
    · skip
      refine rh_iconst hX dX7_isHolder_14 ki_0 ?_
      exact rh_zret hX hR dX7_isHolder_15 rfl rfl ⟨by first | (rw [xH, if_pos h1]; done) | (rw [xH, if_neg h1, if_pos h7]; done) | (rw [xH, if_neg h1, if_neg h7]; done), rfl⟩
    · skip
      refine rh_iconst hX dX7_isHolder_10 ki_1 ?_
      refine rh_goto (tgt := 15) hX dX7_isHolder_11 (by decide) ?_
      exact rh_zret hX hR dX7_isHolder_15 rfl rfl ⟨by first | (rw [xH, if_pos h1]; done) | (rw [xH, if_neg h1, if_pos h7]; done) | (rw [xH, if_neg h1, if_neg h7]; done), rfl⟩

set_option maxRecDepth 100000 in
set_option maxHeartbeats 4000000 in
theorem c_X7_isSum (l : Launch) (E : rhE) (h : Int32)  : Ctr l E yX7_isSum cX7_isSum 1 (some .boolean) (rmL 0) [.int h] [] (One (some (.int (xSum h))) []) := by
  refine Ctr.of (by decide) (Nat.le_of_ble_eq_true rfl) rfl rfl 0 ?_
  intro X hX hR
  refine rh_iload_n hX dX7_isSum_0 rfl ?_
  refine rh_if_lt (tgt := 17) hX dX7_isSum_1 (by decide) (fun h1 => ?_) (fun h1 => ?_)
  · skip
    refine rh_iconst hX dX7_isSum_17 ki_0 ?_
    exact rh_zret hX hR dX7_isSum_18 rfl rfl ⟨by first | (rw [xSum, if_pos h1]; done) | (rw [xSum, if_neg h1, if_pos h7]; done) | (rw [xSum, if_neg h1, if_neg h7]; done), rfl⟩
  · skip
    refine rh_iload_n hX dX7_isSum_4 rfl ?_
    refine rh_i2l hX dX7_isSum_5 ?_
    refine rh_ldc2 hX dX7_isSum_6 kl_X7_252 ?_
    refine rh_lgt (tgt := 17) hX dX7_isSum_9 dX7_isSum_10 (by decide) (fun h7 => ?_) (fun h7 => ?_)
    · skip
      refine rh_iconst hX dX7_isSum_17 ki_0 ?_
      exact rh_zret hX hR dX7_isSum_18 rfl rfl ⟨by first | (rw [xSum, if_pos h1]; done) | (rw [xSum, if_neg h1, if_pos h7]; done) | (rw [xSum, if_neg h1, if_neg h7]; done), rfl⟩
    · skip
      refine rh_iconst hX dX7_isSum_13 ki_1 ?_
      refine rh_goto (tgt := 18) hX dX7_isSum_14 (by decide) ?_
      exact rh_zret hX hR dX7_isSum_18 rfl rfl ⟨by first | (rw [xSum, if_pos h1]; done) | (rw [xSum, if_neg h1, if_pos h7]; done) | (rw [xSum, if_neg h1, if_neg h7]; done), rfl⟩

set_option maxRecDepth 100000 in
set_option maxHeartbeats 4000000 in
theorem c_X7_isUpTo (l : Launch) (E : rhE) (h : Int32) (mo : Int64)  : Ctr l E yX7_isUpTo cX7_isUpTo 3 (some .boolean) (rmL 0) [.int h, .long mo] [] (One (some (.int (xUp h mo))) []) := by
  refine Ctr.of (by decide) (Nat.le_of_ble_eq_true rfl) rfl rfl 0 ?_
  intro X hX hR
  refine rh_iload_n hX dX7_isUpTo_0 rfl ?_
  refine rh_iconst hX dX7_isUpTo_1 ki_1 ?_
  refine rh_icmp_lt (tgt := 16) hX dX7_isUpTo_2 (by decide) (fun h1 => ?_) (fun h1 => ?_)
  · skip
    refine rh_iconst hX dX7_isUpTo_16 ki_0 ?_
    exact rh_zret hX hR dX7_isUpTo_17 rfl rfl ⟨by first | (rw [xUp, if_pos h1]; done) | (rw [xUp, if_neg h1, if_pos h7]; done) | (rw [xUp, if_neg h1, if_neg h7]; done), rfl⟩
  · skip
    refine rh_iload_n hX dX7_isUpTo_5 rfl ?_
    refine rh_i2l hX dX7_isUpTo_6 ?_
    refine rh_lload_n hX dX7_isUpTo_7 rfl ?_
    refine rh_lgt (tgt := 16) hX dX7_isUpTo_8 dX7_isUpTo_9 (by decide) (fun h7 => ?_) (fun h7 => ?_)
    · skip
      refine rh_iconst hX dX7_isUpTo_16 ki_0 ?_
      exact rh_zret hX hR dX7_isUpTo_17 rfl rfl ⟨by first | (rw [xUp, if_pos h1]; done) | (rw [xUp, if_neg h1, if_pos h7]; done) | (rw [xUp, if_neg h1, if_neg h7]; done), rfl⟩
    · skip
      refine rh_iconst hX dX7_isUpTo_12 ki_1 ?_
      refine rh_goto (tgt := 17) hX dX7_isUpTo_13 (by decide) ?_
      exact rh_zret hX hR dX7_isUpTo_17 rfl rfl ⟨by first | (rw [xUp, if_pos h1]; done) | (rw [xUp, if_neg h1, if_pos h7]; done) | (rw [xUp, if_neg h1, if_neg h7]; done), rfl⟩

set_option maxRecDepth 100000 in
set_option maxHeartbeats 4000000 in
theorem c_X7_capped (l : Launch) (E : rhE) (n : Int64)  : Ctr l E yX7_capped cX7_capped 2 (some .int) (rmL 1) [.long n] [] (One (some (.int (xCap n))) []) := by
  refine Ctr.of (by decide) (Nat.le_of_ble_eq_true rfl) rfl rfl 0 ?_
  intro X hX hR
  refine rh_lload_n hX dX7_capped_0 rfl ?_
  refine rh_ldc2 hX dX7_capped_1 kl_X7_371 ?_
  refine rh_minl hX mm_X7_373 dX7_capped_4 (Nat.le_of_ble_eq_true rfl) (Nat.le_of_ble_eq_true rfl) ?_
  refine rh_l2i hX dX7_capped_7 ?_
  exact rh_iret hX hR dX7_capped_8 rfl ⟨rfl, rfl⟩

set_option maxRecDepth 100000 in
set_option maxHeartbeats 4000000 in
theorem c_X7_isType (l : Launch) (E : rhE) (A : Nat → Nat) (C : CT) (Z : ZT) (t : Int32) (T : Nat) (hC : cOk C T)  : Ctr l E yX7_isType cX7_isType 2 (some .boolean) (rmL 1) [.ref (A 0), .int t] (wC E A C Z) (One (some (.int (xTy T t))) (wC E A C Z)) := by
  refine Ctr.of (by decide) (Nat.le_of_ble_eq_true rfl) rfl rfl 0 ?_
  intro X hX hR
  obtain ⟨hT, hT1, hT6, hnx, hud, hn, hrn⟩ := id hC
  refine rh_iload_n hX dX7_isType_0 rfl ?_
  refine rh_if_lt (tgt := 19) hX dX7_isType_1 (by decide) (fun h1 => ?_) (fun h1 => ?_)
  · skip
    refine rh_iconst hX dX7_isType_19 ki_0 ?_
    exact rh_zret hX hR dX7_isType_20 rfl (by simp only [List.map_cons, List.map_nil, List.cons_append, List.nil_append]) ⟨by first | (rw [xTy, if_pos h1]; done) | (rw [xTy, if_neg h1, if_pos h12]; done) | (rw [xTy, if_neg h1, if_neg h12]; done), rfl⟩
  · skip
    refine rh_iload_n hX dX7_isType_4 rfl ?_
    refine rh_aload_n hX dX7_isType_5 rfl ?_
    refine rh_get hX gl_X7_12 0 dX7_isType_6 rfl rfl ?_
    refine rh_pV hX lk_X7_135 mvX1_types (fun l => c_X1_types l E _ _ _ T hT hT6) ⟨rfl, rfl⟩ ⟨Nat.le_of_ble_eq_true rfl, Nat.le_of_ble_eq_true rfl⟩ [1, 2] rfl rfl 1 rfl dX7_isType_9 rfl rfl (Nat.le_of_ble_eq_true rfl) ?_
    refine rh_icmp_ge (tgt := 19) hX dX7_isType_12 (by decide) (fun h12 => ?_) (fun h12 => ?_)
    · skip
      refine rh_iconst hX dX7_isType_19 ki_0 ?_
      exact rh_zret hX hR dX7_isType_20 rfl (by simp only [List.map_cons, List.map_nil, List.cons_append, List.nil_append]) ⟨by first | (rw [xTy, if_pos h1]; done) | (rw [xTy, if_neg h1, if_pos h12]; done) | (rw [xTy, if_neg h1, if_neg h12]; done), rfl⟩
    · skip
      refine rh_iconst hX dX7_isType_15 ki_1 ?_
      refine rh_goto (tgt := 20) hX dX7_isType_16 (by decide) ?_
      exact rh_zret hX hR dX7_isType_20 rfl (by simp only [List.map_cons, List.map_nil, List.cons_append, List.nil_append]) ⟨by first | (rw [xTy, if_pos h1]; done) | (rw [xTy, if_neg h1, if_pos h12]; done) | (rw [xTy, if_neg h1, if_neg h12]; done), rfl⟩

set_option maxRecDepth 100000 in
set_option maxHeartbeats 4000000 in
theorem c_X7_isSeries (l : Launch) (E : rhE) (A : Nat → Nat) (C : CT) (Z : ZT) (t : Int32) (T : Nat) (hC : cOk C T)  : Ctr l E yX7_isSeries cX7_isSeries 2 (some .boolean) (rmL 1) [.ref (A 0), .int t] (wC E A C Z) (One (some (.int (xSe T t))) (wC E A C Z)) := by
  refine Ctr.of (by decide) (Nat.le_of_ble_eq_true rfl) rfl rfl 0 ?_
  intro X hX hR
  obtain ⟨hT, hT1, hT6, hnx, hud, hn, hrn⟩ := id hC
  refine rh_iload_n hX dX7_isSeries_0 rfl ?_
  refine rh_iconst hX dX7_isSeries_1 ki_1 ?_
  refine rh_icmp_lt (tgt := 20) hX dX7_isSeries_2 (by decide) (fun h1 => ?_) (fun h1 => ?_)
  · skip
    refine rh_iconst hX dX7_isSeries_20 ki_0 ?_
    exact rh_zret hX hR dX7_isSeries_21 rfl (by simp only [List.map_cons, List.map_nil, List.cons_append, List.nil_append]) ⟨by first | (rw [xSe, if_pos h1]; done) | (rw [xSe, if_neg h1, if_pos h12]; done) | (rw [xSe, if_neg h1, if_neg h12]; done), rfl⟩
  · skip
    refine rh_iload_n hX dX7_isSeries_5 rfl ?_
    refine rh_aload_n hX dX7_isSeries_6 rfl ?_
    refine rh_get hX gl_X7_12 0 dX7_isSeries_7 rfl rfl ?_
    refine rh_pV hX lk_X7_135 mvX1_types (fun l => c_X1_types l E _ _ _ T hT hT6) ⟨rfl, rfl⟩ ⟨Nat.le_of_ble_eq_true rfl, Nat.le_of_ble_eq_true rfl⟩ [1, 2] rfl rfl 1 rfl dX7_isSeries_10 rfl rfl (Nat.le_of_ble_eq_true rfl) ?_
    refine rh_icmp_ge (tgt := 20) hX dX7_isSeries_13 (by decide) (fun h12 => ?_) (fun h12 => ?_)
    · skip
      refine rh_iconst hX dX7_isSeries_20 ki_0 ?_
      exact rh_zret hX hR dX7_isSeries_21 rfl (by simp only [List.map_cons, List.map_nil, List.cons_append, List.nil_append]) ⟨by first | (rw [xSe, if_pos h1]; done) | (rw [xSe, if_neg h1, if_pos h12]; done) | (rw [xSe, if_neg h1, if_neg h12]; done), rfl⟩
    · skip
      refine rh_iconst hX dX7_isSeries_16 ki_1 ?_
      refine rh_goto (tgt := 21) hX dX7_isSeries_17 (by decide) ?_
      exact rh_zret hX hR dX7_isSeries_21 rfl (by simp only [List.map_cons, List.map_nil, List.cons_append, List.nil_append]) ⟨by first | (rw [xSe, if_pos h1]; done) | (rw [xSe, if_neg h1, if_pos h12]; done) | (rw [xSe, if_neg h1, if_neg h12]; done), rfl⟩

set_option maxRecDepth 100000 in
set_option maxHeartbeats 4000000 in
theorem c_X7_beginDraft (l : Launch) (E : rhE) (A : Nat → Nat) (C : CT) (Z : ZT)  : Ctr l E yX7_beginDraft cX7_beginDraft 1 none (rmL 2) [.ref (A 0)] (wC E A C Z) (One none (wC E A C (C.1, Z.2))) := by
  refine Ctr.of (by decide) (Nat.le_of_ble_eq_true rfl) rfl rfl 0 ?_
  intro X hX hR
  refine rh_aload_n hX dX7_beginDraft_0 rfl ?_
  refine rh_get hX gl_X7_16 0 dX7_beginDraft_1 rfl rfl ?_
  refine rh_aload_n hX dX7_beginDraft_4 rfl ?_
  refine rh_get hX gl_X7_12 0 dX7_beginDraft_5 rfl rfl ?_
  refine rh_get hX gl_X7_171 1 dX7_beginDraft_8 rfl rfl ?_
  refine rh_uV hX lk_X7_174 mvX1_load (fun l => c_X1_load l E _ _ _ _ _) ⟨rfl, rfl⟩ ⟨Nat.le_of_ble_eq_true rfl, Nat.le_of_ble_eq_true rfl⟩ [3, 4, 2] rfl rfl 3 rfl dX7_beginDraft_11 rfl rfl (Nat.le_of_ble_eq_true rfl) rfl ?_
  dsimp only [List.cons_append, List.nil_append, List.set_cons_succ, List.set_cons_zero, vput]
  exact rh_vret hX hR dX7_beginDraft_14 (by simp only [List.map_cons, List.map_nil, List.cons_append, List.nil_append]) ⟨rfl, rfl⟩

set_option maxRecDepth 100000 in
set_option maxHeartbeats 4000000 in
theorem c_X7_accepts (l : Launch) (E : rhE) (A : Nat → Nat) (C : CT) (Z : ZT) (T : Nat) (hC : cOk C T) (Td : Nat) (hTd : (Z.1 171).toInt32 = nI Td) (hTd6 : Td ≤ 6)  : Ctr l E yX7_accepts cX7_accepts 1 (some .boolean) (rmL 4) [.ref (A 0)] (wC E A C Z) (One (some (.int (if 1000000000 < cSize Z.1 Td then 0 else 1))) (wC E A (if 1000000000 < cSize Z.1 Td then C else accC C Z.1) Z)) := by
  refine Ctr.of (by decide) (Nat.le_of_ble_eq_true rfl) rfl rfl 0 ?_
  intro X hX hR
  obtain ⟨hT, hT1, hT6, hnx, hud, hn, hrn⟩ := id hC
  refine rh_aload_n hX dX7_accepts_0 rfl ?_
  refine rh_get hX gl_X7_16 0 dX7_accepts_1 rfl rfl ?_
  refine rh_pV hX lk_X7_100 mvX1_size (fun l => c_X1_size l E _ _ _ Td hTd hTd6) ⟨rfl, rfl⟩ ⟨Nat.le_of_ble_eq_true rfl, Nat.le_of_ble_eq_true rfl⟩ [3, 4] rfl rfl 3 rfl dX7_accepts_4 rfl rfl (Nat.le_of_ble_eq_true rfl) ?_
  refine rh_ldc2 hX dX7_accepts_7 kl_X7_252 ?_
  refine rh_lle (tgt := 16) hX dX7_accepts_10 dX7_accepts_11 (by decide) (fun h10 => ?_) (fun h10 => ?_)
  · skip
    have h10 := rh_le64.mp h10
    refine rh_aload_n hX dX7_accepts_16 rfl ?_
    refine rh_get hX gl_X7_26 0 dX7_accepts_17 rfl rfl ?_
    refine rh_aload_n hX dX7_accepts_20 rfl ?_
    refine rh_get hX gl_X7_12 0 dX7_accepts_21 rfl rfl ?_
    refine rh_uV hX lk_X7_376 mvX2_notes (fun l => c_X2_notes l E _ _ _ _ _ C.2.2.2.2.2.1 _ _ _ C.2.2.2.2.1 hnx hud) ⟨rfl, rfl⟩ ⟨Nat.le_of_ble_eq_true rfl, Nat.le_of_ble_eq_true rfl⟩ [6, 7, 8, 9, 10, 11, 12, 13, 14, 15, 1, 2] rfl rfl 6 rfl dX7_accepts_24 rfl rfl (Nat.le_of_ble_eq_true rfl) rfl ?_
    dsimp only [List.cons_append, List.nil_append, List.set_cons_succ, List.set_cons_zero, vput]
    refine rh_aload_n hX dX7_accepts_27 rfl ?_
    refine rh_get hX gl_X7_12 0 dX7_accepts_28 rfl rfl ?_
    refine rh_aload_n hX dX7_accepts_31 rfl ?_
    refine rh_get hX gl_X7_16 0 dX7_accepts_32 rfl rfl ?_
    refine rh_get hX gl_X7_171 3 dX7_accepts_35 rfl rfl ?_
    refine rh_uV hX lk_X7_174 mvX1_load (fun l => c_X1_load l E _ _ _ _ _) ⟨rfl, rfl⟩ ⟨Nat.le_of_ble_eq_true rfl, Nat.le_of_ble_eq_true rfl⟩ [1, 2, 4] rfl rfl 1 rfl dX7_accepts_38 rfl rfl (Nat.le_of_ble_eq_true rfl) rfl ?_
    dsimp only [List.cons_append, List.nil_append, List.set_cons_succ, List.set_cons_zero, vput]
    refine rh_iconst hX dX7_accepts_41 ki_1 ?_
    exact rh_zret hX hR dX7_accepts_42 rfl (by simp only [List.map_cons, List.map_nil, List.cons_append, List.nil_append]) ⟨by rw [if_neg h10], by rw [if_neg h10]; rfl⟩
  · skip
    have h10 : 1000000000 < cSize Z.1 Td := Classical.not_not.mp (fun q => h10 (rh_le64.mpr q))
    refine rh_iconst hX dX7_accepts_14 ki_0 ?_
    exact rh_zret hX hR dX7_accepts_15 rfl (by simp only [List.map_cons, List.map_nil, List.cons_append, List.nil_append]) ⟨by rw [if_pos h10], by rw [if_pos h10]⟩
