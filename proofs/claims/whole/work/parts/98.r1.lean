theorem mRowI_lo {i : Int32} {n : Nat} (h : i < 0) : mRowI i n = false := by
  unfold mRowI
  refine decide_eq_false (fun q => ?_)
  have := Int32.lt_iff_toInt_lt.mp h
  rw [show (0 : Int32).toInt = 0 by decide] at this
  omega
theorem mRowI_hi {i : Int32} {n : Nat} (hn : n < 2 ^ 31) (h : ¬ i < nI n) : mRowI i n = false := by
  unfold mRowI
  refine decide_eq_false (fun q => h (Int32.lt_iff_toInt_lt.mpr ?_))
  rw [nI_toInt hn]
  omega
theorem mRowI_ok {i : Int32} {n : Nat} (hn : n < 2 ^ 31) (h0 : ¬ i < 0) (h : i < nI n) : mRowI i n = true ∧ i.toNatClampNeg < n := by
  have e0 : 0 ≤ i.toInt := by
    have : ¬ i.toInt < (0 : Int32).toInt := fun q => h0 (Int32.lt_iff_toInt_lt.mpr q)
    rw [show (0 : Int32).toInt = 0 by decide] at this
    omega
  have e1 := Int32.lt_iff_toInt_lt.mp h
  rw [nI_toInt hn] at e1
  obtain ⟨d, rfl, hd⟩ := nI_ex e0
  rw [← hd] at e1
  refine ⟨decide_eq_true ⟨e0, by rw [← hd]; exact e1⟩, ?_⟩
  have e2 : (nI d).toNatClampNeg = d := by
    have := nI_back h0
    have h3 := congrArg Int32.toInt this
    have hlt : (nI d).toNatClampNeg < 2 ^ 31 := by
      have := (nI d).toNatClampNeg_lt
      omega
    rw [nI_toInt hlt, ← hd] at h3
    omega
  rw [e2]
  omega

set_option maxRecDepth 100000 in
set_option maxHeartbeats 4000000 in
theorem c_X7_row (l : Launch) (hlt : l.stackTraces = false) (E : rhE) (A : Nat → Nat) (C : CT) (Z : ZT) (i : Int32) (hn : C.2.2.2.2.2.2.2.2.2.2 ≤ 12) : CtrX l E yX7_row cX7_row 2 (some .long) (rmN 6 1 6) [.ref (A 0), .int i] (wC E A C Z) (fun r w => mRowI i C.2.2.2.2.2.2.2.2.2.2 = true ∧ r = some (.long (C.2.2.2.2.2.2.2.2.2.1 i.toNatClampNeg)) ∧ w = wC E A C Z) (mRowI i C.2.2.2.2.2.2.2.2.2.2 = false) := by
  refine CtrX.of hlt (by decide) (Nat.le_of_ble_eq_true rfl) 0 ?_
  intro X hX hR
  show G X 0 [some (.ref (A 0)), some (.int i)] [] (wC E A C Z)
  refine rh_iload_n hX dX7_row_0 rfl ?_
  refine rh_if_lt hX dX7_row_1 (tgt := 15) (by decide) (fun h0 => ?_) (fun h0 => ?_)
  · exact rx_throw hX hR (mRowI_lo h0) (Nat.le_of_ble_eq_true rfl) (Nat.le_of_ble_eq_true rfl) (Nat.le_of_ble_eq_true rfl) (Nat.le_of_ble_eq_true rfl) (Nat.le_of_ble_eq_true rfl) (Nat.le_of_ble_eq_true rfl)
  · refine rh_iload_n hX dX7_row_4 rfl ?_
    refine rh_aload_n hX dX7_row_5 rfl ?_
    refine rh_get hX gl_X7_40 0 dX7_row_6 rfl rfl ?_
    refine rh_get hX gl_X7_347 18 dX7_row_9 rfl rfl ?_
    refine rh_icmp_lt hX dX7_row_12 (tgt := 26) (by decide) (fun h1 => ?_) (fun h1 => ?_)
    · obtain ⟨h2, h3⟩ := mRowI_ok (by omega) h0 h1
      refine rh_aload_n hX dX7_row_26 rfl ?_
      refine rh_get hX gl_X7_40 0 dX7_row_27 rfl rfl ?_
      refine rh_iload_n hX dX7_row_30 rfl ?_
      refine rh_pV hX (As := [.int i]) (rest := []) (wc := wR E (A 18) (A 19) C.2.2.2.2.2.2.2.2.2.1 C.2.2.2.2.2.2.2.2.2.2) (rm := rmL 0) (v := .long (C.2.2.2.2.2.2.2.2.2.1 i.toNatClampNeg)) lk_X7_368 mvX3_at (fun l => ?_) ⟨rfl, rfl⟩ ⟨Nat.le_of_ble_eq_true rfl, Nat.le_of_ble_eq_true rfl⟩ [18, 19] rfl rfl 18 rfl dX7_row_31 rfl rfl (Nat.le_of_ble_eq_true rfl) ?_
      · have := c_X3_at l E (A 18) (A 19) C.2.2.2.2.2.2.2.2.2.1 C.2.2.2.2.2.2.2.2.2.2 i.toNatClampNeg h3 hn
        rw [nI_back h0] at this
        exact this
      · exact rx_lret hX hR dX7_row_34 rfl ⟨h2, rfl, rfl⟩
    · exact rx_throw hX hR (mRowI_hi (by omega) h1) (Nat.le_of_ble_eq_true rfl) (Nat.le_of_ble_eq_true rfl) (Nat.le_of_ble_eq_true rfl) (Nat.le_of_ble_eq_true rfl) (Nat.le_of_ble_eq_true rfl) (Nat.le_of_ble_eq_true rfl)

set_option maxRecDepth 100000 in
set_option maxHeartbeats 4000000 in
theorem c_L_row (l : Launch) (hlt : l.stackTraces = false) (E : rhE) (A : Nat → Nat) (C : CT) (Z : ZT) (i : Int32) (o : Nat) (g : Nat → Int64) (hn : C.2.2.2.2.2.2.2.2.2.2 ≤ 12) : CtrW l E yL_row cL_row 4 (some .int) [(0, 8, 11, 13)] (rmN 7 1 6) [.ref (A 0), .int i, .ref o] (wC E A C Z ++ [(o, aL E 1 g)]) (fun r w => (mRowI i C.2.2.2.2.2.2.2.2.2.2 = true ∧ r = some (.int 0) ∧ w = wC E A C Z ++ [(o, aL E 1 (va_up g 0 (C.2.2.2.2.2.2.2.2.2.1 i.toNatClampNeg)))]) ∨ (mRowI i C.2.2.2.2.2.2.2.2.2.2 = false ∧ r = some (.int 1) ∧ w = wC E A C Z ++ [(o, aL E 1 g)])) := by
  refine CtrW.of hlt (by decide) (Nat.le_of_ble_eq_true rfl) 1 ?_
  intro X hXl hX hR
  show G X 0 [some (.ref (A 0)), some (.int i), some (.ref o), none] [] (wC E A C Z ++ [(o, aL E 1 g)])
  refine rh_aload_n hX dL_row_0 rfl ?_
  refine rh_iconst hX dL_row_1 ki_0 ?_
  refine rh_aload_n hX dL_row_2 rfl ?_
  refine rh_iload_n hX dL_row_3 rfl ?_
  refine rw_callX hX hR (As := [.int i]) (rest := [.int 0, .ref o]) (wc := wC E A C Z) (wr := [(o, aL E 1 g)]) (rhT_in 1054 (by decide +kernel) rfl) mvX7_row (c_X7_row X.2.1 (by rw [hXl]; exact hlt) E A C Z i hn) ⟨Nat.le_of_ble_eq_true rfl, Nat.le_of_ble_eq_true rfl⟩ rfl dL_row_4 rfl rfl (Nat.le_of_ble_eq_true rfl) (Nat.le_of_ble_eq_true rfl) (Nat.le_of_ble_eq_true rfl) rfl ⟨by decide, by decide⟩ (by decide) (rhT_in 1053 (by decide +kernel) rfl) (List.mem_filter.mpr ⟨List.mem_of_getElem? (i := 1060) (by decide +kernel), rfl⟩) (fun hpx Y q hY hRY => ?_) (fun Y r w hp hY hRY => ?_)
  · refine rh_astn3 hY dL_row_11 (by decide) rfl ?_
    refine rh_iconst hY dL_row_12 ki_1 ?_
    exact rw_iret hY hRY (Nat.le_of_ble_eq_true rfl) (Nat.le_of_ble_eq_true rfl) dL_row_13 rfl (Or.inr ⟨hpx, rfl, rfl⟩)
  · obtain ⟨h1, rfl, rfl⟩ := hp
    refine rh_lastore hY 36 0 dL_row_7 rfl rfl (by decide) (by decide) (ws' := wC E A C Z ++ [(o, aL E 1 (va_up g 0 (C.2.2.2.2.2.2.2.2.2.1 i.toNatClampNeg)))]) rfl ?_
    refine rh_goto hY (tgt := 14) dL_row_8 (by decide) ?_
    refine rh_iconst hY dL_row_14 ki_0 ?_
    exact rw_iret hY hRY (Nat.le_of_ble_eq_true rfl) (Nat.le_of_ble_eq_true rfl) dL_row_15 rfl (Or.inl ⟨h1, rfl, rfl⟩)
