set_option maxRecDepth 100000 in
set_option maxHeartbeats 4000000 in
theorem c_X8_in (l : Launch) (E : rhE) (v lo hi : Int64)  : Ctr l E yX8_in cX8_in 6 (some .boolean) (rmL 0) [.long v, .long lo, .long hi] [] (One (some (.int (xIn v lo hi))) []) := by
  refine Ctr.of (by decide) (Nat.le_of_ble_eq_true rfl) rfl rfl 0 ?_
  intro X hX hR
  refine rh_lload_n hX dX8_in_0 rfl ?_
  refine rh_lload_n hX dX8_in_1 rfl ?_
  refine rh_llt (tgt := 17) hX dX8_in_2 dX8_in_3 (by decide) (fun h3 => ?_) (fun h3 => ?_)
  · skip
    refine rh_iconst hX dX8_in_17 ki_0 ?_
    exact rh_zret hX hR dX8_in_18 rfl (by simp only [List.map_cons, List.map_nil, List.cons_append, List.nil_append]) ⟨by first | (rw [xIn, if_pos h3]; done) | (rw [xIn, if_neg h3, if_pos h10]; done) | (rw [xIn, if_neg h3, if_neg h10]; done), rfl⟩
  · skip
    refine rh_lload_n hX dX8_in_6 rfl ?_
    refine rh_lload hX dX8_in_7 rfl ?_
    refine rh_lgt (tgt := 17) hX dX8_in_9 dX8_in_10 (by decide) (fun h10 => ?_) (fun h10 => ?_)
    · skip
      refine rh_iconst hX dX8_in_17 ki_0 ?_
      exact rh_zret hX hR dX8_in_18 rfl (by simp only [List.map_cons, List.map_nil, List.cons_append, List.nil_append]) ⟨by first | (rw [xIn, if_pos h3]; done) | (rw [xIn, if_neg h3, if_pos h10]; done) | (rw [xIn, if_neg h3, if_neg h10]; done), rfl⟩
    · skip
      refine rh_iconst hX dX8_in_13 ki_1 ?_
      refine rh_goto (tgt := 18) hX dX8_in_14 (by decide) ?_
      exact rh_zret hX hR dX8_in_18 rfl (by simp only [List.map_cons, List.map_nil, List.cons_append, List.nil_append]) ⟨by first | (rw [xIn, if_pos h3]; done) | (rw [xIn, if_neg h3, if_pos h10]; done) | (rw [xIn, if_neg h3, if_neg h10]; done), rfl⟩

set_option maxRecDepth 100000 in
set_option maxHeartbeats 4000000 in
theorem c_X8_isHolder (l : Launch) (E : rhE) (h : Int32)  : Ctr l E yX8_isHolder cX8_isHolder 1 (some .boolean) (rmL 1) [.int h] [] (One (some (.int (xIn h.toInt64 0 7))) []) := by
  refine Ctr.of (by decide) (Nat.le_of_ble_eq_true rfl) rfl rfl 0 ?_
  intro X hX hR
  refine rh_iload_n hX dX8_isHolder_0 rfl ?_
  refine rh_i2l hX dX8_isHolder_1 ?_
  refine rh_lconst hX dX8_isHolder_2 kL_0 ?_
  refine rh_ldc2 hX dX8_isHolder_3 kl_X8_62 ?_
  refine rh_pS hX lk_X8_58 msX8_in (fun l => c_X8_in l E _ _ _) ⟨rfl, rfl⟩ ⟨Nat.le_of_ble_eq_true rfl, Nat.le_of_ble_eq_true rfl⟩ [] rfl rfl dX8_isHolder_6 rfl rfl (Nat.le_of_ble_eq_true rfl) ?_
  exact rh_zret hX hR dX8_isHolder_9 (xIn_nar _ _ _) (by simp only [List.map_cons, List.map_nil, List.cons_append, List.nil_append]) ⟨rfl, rfl⟩

set_option maxRecDepth 100000 in
set_option maxHeartbeats 4000000 in
theorem c_X8_isSum (l : Launch) (E : rhE) (h : Int32)  : Ctr l E yX8_isSum cX8_isSum 1 (some .boolean) (rmL 1) [.int h] [] (One (some (.int (xIn h.toInt64 0 1000000000))) []) := by
  refine Ctr.of (by decide) (Nat.le_of_ble_eq_true rfl) rfl rfl 0 ?_
  intro X hX hR
  refine rh_iload_n hX dX8_isSum_0 rfl ?_
  refine rh_i2l hX dX8_isSum_1 ?_
  refine rh_lconst hX dX8_isSum_2 kL_0 ?_
  refine rh_ldc2 hX dX8_isSum_3 kl_X8_131 ?_
  refine rh_pS hX lk_X8_58 msX8_in (fun l => c_X8_in l E _ _ _) ⟨rfl, rfl⟩ ⟨Nat.le_of_ble_eq_true rfl, Nat.le_of_ble_eq_true rfl⟩ [] rfl rfl dX8_isSum_6 rfl rfl (Nat.le_of_ble_eq_true rfl) ?_
  exact rh_zret hX hR dX8_isSum_9 (xIn_nar _ _ _) (by simp only [List.map_cons, List.map_nil, List.cons_append, List.nil_append]) ⟨rfl, rfl⟩

set_option maxRecDepth 100000 in
set_option maxHeartbeats 4000000 in
theorem c_X8_sharesOf (l : Launch) (E : rhE) (B : Nat → Nat) (u : Nat → Int32) (kp : Nat → Int32) (ik : Int32) (ps : Nat → Int32) (pm : Nat) (dd : Int32) (tx : Nat → Int32) (ty : Nat) (rw : Nat → Int64) (rm : Nat) (th : Int32) (sz : Nat) (he : Nat) (wr : Int32) (mn : Nat → Int32) (vl : Int32) (tp : Int32) (lt : Int32) (ra : Int32) (pf : Int32) (pt : Int32) (pl : Int32) (pd : Int64) (prc : Int64) (ns : Int64) (tu : Nat) (ba : Int64) (na : Int64) (ca : Nat → Int64) (bo : Nat → Int32) (tr : Nat → Int64) (tH : Int32) (asd : Nat → Int32) (pa : Nat → Int64) (tg : Nat → Int64) (sd : Int64) (sr : Int64) (h t : Nat) (hh : h < 8) (ht : t < 6) : Ctr l E yX8_sharesOf cX8_sharesOf 3 (some .int) (rmL 0) [.ref (B 0), .int (nI h), .int (nI t)] (wM E B u kp ik ps pm dd tx ty rw rm th sz he wr mn vl tp lt ra pf pt pl pd prc ns tu ba na ca bo tr tH asd pa tg sd sr) (One (some (.int (u (6 * h + t)))) (wM E B u kp ik ps pm dd tx ty rw rm th sz he wr mn vl tp lt ra pf pt pl pd prc ns tu ba na ca bo tr tH asd pa tg sd sr)) := by
  refine Ctr.of (by decide) (Nat.le_of_ble_eq_true rfl) rfl rfl 0 ?_
  intro X hX hR
  refine rh_aload_n hX dX8_sharesOf_0 rfl ?_
  refine rh_get hX gl_X8_7 0 dX8_sharesOf_1 rfl rfl ?_
  refine rh_bipush hX dX8_sharesOf_4 kb_6 ?_
  refine rh_iload_n hX dX8_sharesOf_6 rfl ?_
  refine rh_imul hX dX8_sharesOf_7 ?_
  refine rh_iload_n hX dX8_sharesOf_8 rfl ?_
  refine rh_iadd hX dX8_sharesOf_9 ?_
  refine rh_iaload hX 1 _ dX8_sharesOf_10 rfl (rn_a (rn_m rn_c6 rfl) rfl) (by omega) (by decide) ?_
  exact rh_iret hX hR dX8_sharesOf_11 (by simp only [List.map_cons, List.map_nil, List.cons_append, List.nil_append]) ⟨rfl, rfl⟩

set_option maxRecDepth 100000 in
set_option maxHeartbeats 4000000 in
theorem c_X8_converted (l : Launch) (E : rhE) (B : Nat → Nat) (u : Nat → Int32) (kp : Nat → Int32) (ik : Int32) (ps : Nat → Int32) (pm : Nat) (dd : Int32) (tx : Nat → Int32) (ty : Nat) (rw : Nat → Int64) (rm : Nat) (th : Int32) (sz : Nat) (he : Nat) (wr : Int32) (mn : Nat → Int32) (vl : Int32) (tp : Int32) (lt : Int32) (ra : Int32) (pf : Int32) (pt : Int32) (pl : Int32) (pd : Int64) (prc : Int64) (ns : Int64) (tu : Nat) (ba : Int64) (na : Int64) (ca : Nat → Int64) (bo : Nat → Int32) (tr : Nat → Int64) (tH : Int32) (asd : Nat → Int32) (pa : Nat → Int64) (tg : Nat → Int64) (sd : Int64) (sr : Int64) (n : Int32) (t : Nat) (ht : t < 6) (hc : 1 ≤ t → 0 < cFact (fm u) t 1) : Ctr l E yX8_converted cX8_converted 3 (some .long) (rmL 0) [.ref (B 0), .int n, .int (nI t)] (wM E B u kp ik ps pm dd tx ty rw rm th sz he wr mn vl tp lt ra pf pt pl pd prc ns tu ba na ca bo tr tH asd pa tg sd sr) (One (some (.long (cConv (fm u) t n.toInt64))) (wM E B u kp ik ps pm dd tx ty rw rm th sz he wr mn vl tp lt ra pf pt pl pd prc ns tu ba na ca bo tr tH asd pa tg sd sr)) := by
  refine Ctr.of (by decide) (Nat.le_of_ble_eq_true rfl) rfl rfl 0 ?_
  intro X hX hR
  refine rh_iload_n hX dX8_converted_0 rfl ?_
  refine rh_if_ne (tgt := 9) hX dX8_converted_1 (by decide) (fun h1 => ?_) (fun h1 => ?_)
  · skip
    have h1 : ¬ t = 0 := fun q => h1 (by rw [q]; rfl)
    refine rh_iload_n hX dX8_converted_9 rfl ?_
    refine rh_i2l hX dX8_converted_10 ?_
    refine rh_aload_n hX dX8_converted_11 rfl ?_
    refine rh_get hX gl_X8_7 0 dX8_converted_12 rfl rfl ?_
    refine rh_bipush hX dX8_converted_15 kb_58 ?_
    refine rh_iload_n hX dX8_converted_17 rfl ?_
    refine rh_iadd hX dX8_converted_18 ?_
    refine rh_iaload hX 1 _ dX8_converted_19 rfl (rn_a rn_c58 rfl) (by omega) (by decide) ?_
    refine rh_i2l hX dX8_converted_20 ?_
    rw [show (u (58 + t)).toInt64 = cFact (fm u) t 0 from fm_fact u (k := 0) ht (by omega)]
    refine rh_lmul hX dX8_converted_21 ?_
    refine rh_aload_n hX dX8_converted_22 rfl ?_
    refine rh_get hX gl_X8_7 0 dX8_converted_23 rfl rfl ?_
    refine rh_bipush hX dX8_converted_26 kb_64 ?_
    refine rh_iload_n hX dX8_converted_28 rfl ?_
    refine rh_iadd hX dX8_converted_29 ?_
    refine rh_iaload hX 1 _ dX8_converted_30 rfl (rn_a rn_c64 rfl) (by omega) (by decide) ?_
    refine rh_i2l hX dX8_converted_31 ?_
    rw [show (u (64 + t)).toInt64 = cFact (fm u) t 1 from fm_fact u (k := 1) ht (by omega)]
    refine rh_ldiv hX dX8_converted_32 (pos_ne (hc (by omega))) ?_
    exact rh_lret hX hR dX8_converted_33 (by simp only [List.map_cons, List.map_nil, List.cons_append, List.nil_append]) ⟨by first | (rw [mConv (fm u) n.toInt64 h1 (hc (by omega))]; done) | (rw [cConv, if_pos h1]; done), rfl⟩
  · skip
    have h1 : t = 0 := nI_z h1 (by omega)
    refine rh_iload_n hX dX8_converted_4 rfl ?_
    refine rh_i2l hX dX8_converted_5 ?_
    refine rh_goto (tgt := 33) hX dX8_converted_6 (by decide) ?_
    exact rh_lret hX hR dX8_converted_33 (by simp only [List.map_cons, List.map_nil, List.cons_append, List.nil_append]) ⟨by first | (rw [mConv (fm u) n.toInt64 h1 (hc (by omega))]; done) | (rw [cConv, if_pos h1]; done), rfl⟩

set_option maxRecDepth 100000 in
set_option maxHeartbeats 4000000 in
theorem c_X8_stakeByShares (l : Launch) (E : rhE) (B : Nat → Nat) (u : Nat → Int32) (kp : Nat → Int32) (ik : Int32) (ps : Nat → Int32) (pm : Nat) (dd : Int32) (tx : Nat → Int32) (ty : Nat) (rw : Nat → Int64) (rm : Nat) (th : Int32) (sz : Nat) (he : Nat) (wr : Int32) (mn : Nat → Int32) (vl : Int32) (tp : Int32) (lt : Int32) (ra : Int32) (pf : Int32) (pt : Int32) (pl : Int32) (pd : Int64) (prc : Int64) (ns : Int64) (tu : Nat) (ba : Int64) (na : Int64) (ca : Nat → Int64) (bo : Nat → Int32) (tr : Nat → Int64) (tH : Int32) (asd : Nat → Int32) (pa : Nat → Int64) (tg : Nat → Int64) (sd : Int64) (sr : Int64) (h : Nat) (T : Nat) (hM : mOk u T) (hh : h < 8) : Ctr l E yX8_stakeByShares cX8_stakeByShares 5 (some .long) (rmL 1) [.ref (B 0), .int (nI h)] (wM E B u kp ik ps pm dd tx ty rw rm th sz he wr mn vl tp lt ra pf pt pl pd prc ns tu ba na ca bo tr tH asd pa tg sd sr) (One (some (.long (cVotes (fm u) h T))) (wM E B u kp ik ps pm dd tx ty rw rm th sz he wr mn vl tp lt ra pf pt pl pd prc ns tu ba na ca bo tr tH asd pa tg sd sr)) := by
  refine Ctr.of (by decide) (Nat.le_of_ble_eq_true rfl) rfl rfl 3 ?_
  intro X hX hR
  obtain ⟨hT, hT1, hT6, hcv⟩ := id hM
  refine rh_lconst hX dX8_stakeByShares_0 kL_0 ?_
  refine rh_lstn2 hX dX8_stakeByShares_1 (by decide) rfl ?_
  refine rh_iconst hX dX8_stakeByShares_2 ki_0 ?_
  refine rh_ist4 hX dX8_stakeByShares_3 (by decide) rfl ?_
  refine rh_loop (P := fun i => G X 5 [some (.ref (B 0)), some (.int (nI h)), some (.long (sumF 0 (fun c => cConv (fm u) c (cHeld (fm u) h c)) i)), none, some (.int (nI i))] [] (wM E B u kp ik ps pm dd tx ty rw rm th sz he wr mn vl tp lt ra pf pt pl pd prc ns tu ba na ca bo tr tH asd pa tg sd sr)) (0) (T) (by omega) ?_ ?_
  · skip
    refine rh_iload hX dX8_stakeByShares_5 rfl ?_
    refine rh_aload_n hX dX8_stakeByShares_7 rfl ?_
    refine rh_get hX gl_X8_7 0 dX8_stakeByShares_8 rfl rfl ?_
    refine rh_bipush hX dX8_stakeByShares_11 kb_57 ?_
    refine rh_iaload hX 1 _ dX8_stakeByShares_13 rfl rn_c57 (by omega) (by decide) ?_
    refine rh_icmp_ge_t (tgt := 39) hX dX8_stakeByShares_14 (by decide) (by rw [hT]; exact nI_le (Nat.le_refl T) (by omega)) ?_
    refine rh_lload_n hX dX8_stakeByShares_39 rfl ?_
    exact rh_lret hX hR dX8_stakeByShares_40 (by simp only [List.map_cons, List.map_nil, List.cons_append, List.nil_append]) ⟨rfl, rfl⟩
  · intro i hi0 hi ih
    refine rh_iload hX dX8_stakeByShares_5 rfl ?_
    refine rh_aload_n hX dX8_stakeByShares_7 rfl ?_
    refine rh_get hX gl_X8_7 0 dX8_stakeByShares_8 rfl rfl ?_
    refine rh_bipush hX dX8_stakeByShares_11 kb_57 ?_
    refine rh_iaload hX 1 _ dX8_stakeByShares_13 rfl rn_c57 (by omega) (by decide) ?_
    refine rh_icmp_ge_f (tgt := 39) hX dX8_stakeByShares_14 (by decide) (by rw [hT]; exact nI_ge hi (by omega)) ?_
    refine rh_lload_n hX dX8_stakeByShares_17 rfl ?_
    refine rh_aload_n hX dX8_stakeByShares_18 rfl ?_
    refine rh_aload_n hX dX8_stakeByShares_19 rfl ?_
    refine rh_iload_n hX dX8_stakeByShares_20 rfl ?_
    refine rh_iload hX dX8_stakeByShares_21 rfl ?_
    refine rh_pV hX lk_X8_80 mvX8_sharesOf (fun l => c_X8_sharesOf l E _ _ _ _ _ _ _ _ _ _ _ _ _ _ _ _ _ _ _ _ _ _ _ _ _ _ _ _ _ _ _ _ _ _ _ _ _ _ h i (by omega) (by omega)) ⟨rfl, rfl⟩ ⟨Nat.le_of_ble_eq_true rfl, Nat.le_of_ble_eq_true rfl⟩ [0, 1, 2, 3, 4, 5, 6, 7, 8, 9, 10, 11, 12] rfl rfl 0 rfl dX8_stakeByShares_23 rfl rfl (Nat.le_of_ble_eq_true rfl) ?_
    refine rh_iload hX dX8_stakeByShares_26 rfl ?_
    refine rh_pV hX lk_X8_84 mvX8_converted (fun l => c_X8_converted l E _ _ _ _ _ _ _ _ _ _ _ _ _ _ _ _ _ _ _ _ _ _ _ _ _ _ _ _ _ _ _ _ _ _ _ _ _ _ _ i (by omega) (fun q => hcv i q (by omega))) ⟨rfl, rfl⟩ ⟨Nat.le_of_ble_eq_true rfl, Nat.le_of_ble_eq_true rfl⟩ [0, 1, 2, 3, 4, 5, 6, 7, 8, 9, 10, 11, 12] rfl rfl 0 rfl dX8_stakeByShares_28 rfl rfl (Nat.le_of_ble_eq_true rfl) ?_
    rw [fm_held u (h := h) (t := i) (by omega) (by omega)]
    refine rh_ladd hX dX8_stakeByShares_31 ?_
    refine rh_lstn2 hX dX8_stakeByShares_32 (by decide) rfl ?_
    refine rh_inc4 hX dX8_stakeByShares_33 (by decide) rfl (rn_i1 _) ?_
    refine rh_goto (tgt := 5) hX dX8_stakeByShares_36 (by decide) ?_
    exact ih

set_option maxRecDepth 100000 in
set_option maxHeartbeats 4000000 in
theorem c_X8_convertedType (l : Launch) (E : rhE) (B : Nat → Nat) (u : Nat → Int32) (kp : Nat → Int32) (ik : Int32) (ps : Nat → Int32) (pm : Nat) (dd : Int32) (tx : Nat → Int32) (ty : Nat) (rw : Nat → Int64) (rm : Nat) (th : Int32) (sz : Nat) (he : Nat) (wr : Int32) (mn : Nat → Int32) (vl : Int32) (tp : Int32) (lt : Int32) (ra : Int32) (pf : Int32) (pt : Int32) (pl : Int32) (pd : Int64) (prc : Int64) (ns : Int64) (tu : Nat) (ba : Int64) (na : Int64) (ca : Nat → Int64) (bo : Nat → Int32) (tr : Nat → Int64) (tH : Int32) (asd : Nat → Int32) (pa : Nat → Int64) (tg : Nat → Int64) (sd : Int64) (sr : Int64) (t : Nat) (T : Nat) (hM : mOk u T) (ht : t < T) : Ctr l E yX8_convertedType cX8_convertedType 5 (some .long) (rmL 1) [.ref (B 0), .int (nI t)] (wM E B u kp ik ps pm dd tx ty rw rm th sz he wr mn vl tp lt ra pf pt pl pd prc ns tu ba na ca bo tr tH asd pa tg sd sr) (One (some (.long (cAllConv (fm u) t))) (wM E B u kp ik ps pm dd tx ty rw rm th sz he wr mn vl tp lt ra pf pt pl pd prc ns tu ba na ca bo tr tH asd pa tg sd sr)) := by
  refine Ctr.of (by decide) (Nat.le_of_ble_eq_true rfl) rfl rfl 3 ?_
  intro X hX hR
  obtain ⟨hT, hT1, hT6, hcv⟩ := id hM
  refine rh_lconst hX dX8_convertedType_0 kL_0 ?_
  refine rh_lstn2 hX dX8_convertedType_1 (by decide) rfl ?_
  refine rh_iconst hX dX8_convertedType_2 ki_0 ?_
  refine rh_ist4 hX dX8_convertedType_3 (by decide) rfl ?_
  refine rh_loop (P := fun i => G X 5 [some (.ref (B 0)), some (.int (nI t)), some (.long (sumF 0 (fun h => cConv (fm u) t (cHeld (fm u) h t)) i)), none, some (.int (nI i))] [] (wM E B u kp ik ps pm dd tx ty rw rm th sz he wr mn vl tp lt ra pf pt pl pd prc ns tu ba na ca bo tr tH asd pa tg sd sr)) (0) (8) (by omega) ?_ ?_
  · skip
    refine rh_iload hX dX8_convertedType_5 rfl ?_
    refine rh_bipush hX dX8_convertedType_7 kb_8 ?_
    refine rh_icmp_ge_t (tgt := 33) hX dX8_convertedType_9 (by decide) (nI_le (a := 8) (b := 8) (Nat.le_refl 8) (by decide)) ?_
    refine rh_lload_n hX dX8_convertedType_33 rfl ?_
    exact rh_lret hX hR dX8_convertedType_34 (by simp only [List.map_cons, List.map_nil, List.cons_append, List.nil_append]) ⟨rfl, rfl⟩
  · intro i hi0 hi ih
    refine rh_iload hX dX8_convertedType_5 rfl ?_
    refine rh_bipush hX dX8_convertedType_7 kb_8 ?_
    refine rh_icmp_ge_f (tgt := 33) hX dX8_convertedType_9 (by decide) (nI_ge (b := 8) hi (by decide)) ?_
    refine rh_lload_n hX dX8_convertedType_12 rfl ?_
    refine rh_aload_n hX dX8_convertedType_13 rfl ?_
    refine rh_aload_n hX dX8_convertedType_14 rfl ?_
    refine rh_iload hX dX8_convertedType_15 rfl ?_
    refine rh_iload_n hX dX8_convertedType_17 rfl ?_
    refine rh_pV hX lk_X8_80 mvX8_sharesOf (fun l => c_X8_sharesOf l E _ _ _ _ _ _ _ _ _ _ _ _ _ _ _ _ _ _ _ _ _ _ _ _ _ _ _ _ _ _ _ _ _ _ _ _ _ _ i t (by omega) (by omega)) ⟨rfl, rfl⟩ ⟨Nat.le_of_ble_eq_true rfl, Nat.le_of_ble_eq_true rfl⟩ [0, 1, 2, 3, 4, 5, 6, 7, 8, 9, 10, 11, 12] rfl rfl 0 rfl dX8_convertedType_18 rfl rfl (Nat.le_of_ble_eq_true rfl) ?_
    refine rh_iload_n hX dX8_convertedType_21 rfl ?_
    refine rh_pV hX lk_X8_84 mvX8_converted (fun l => c_X8_converted l E _ _ _ _ _ _ _ _ _ _ _ _ _ _ _ _ _ _ _ _ _ _ _ _ _ _ _ _ _ _ _ _ _ _ _ _ _ _ _ t (by omega) (fun q => hcv t q (by omega))) ⟨rfl, rfl⟩ ⟨Nat.le_of_ble_eq_true rfl, Nat.le_of_ble_eq_true rfl⟩ [0, 1, 2, 3, 4, 5, 6, 7, 8, 9, 10, 11, 12] rfl rfl 0 rfl dX8_convertedType_22 rfl rfl (Nat.le_of_ble_eq_true rfl) ?_
    rw [fm_held u (h := i) (t := t) (by omega) (by omega)]
    refine rh_ladd hX dX8_convertedType_25 ?_
    refine rh_lstn2 hX dX8_convertedType_26 (by decide) rfl ?_
    refine rh_inc4 hX dX8_convertedType_27 (by decide) rfl (rn_i1 _) ?_
    refine rh_goto (tgt := 5) hX dX8_convertedType_30 (by decide) ?_
    exact ih

set_option maxRecDepth 100000 in
set_option maxHeartbeats 4000000 in
theorem c_X8_allByShares (l : Launch) (E : rhE) (B : Nat → Nat) (u : Nat → Int32) (kp : Nat → Int32) (ik : Int32) (ps : Nat → Int32) (pm : Nat) (dd : Int32) (tx : Nat → Int32) (ty : Nat) (rw : Nat → Int64) (rm : Nat) (th : Int32) (sz : Nat) (he : Nat) (wr : Int32) (mn : Nat → Int32) (vl : Int32) (tp : Int32) (lt : Int32) (ra : Int32) (pf : Int32) (pt : Int32) (pl : Int32) (pd : Int64) (prc : Int64) (ns : Int64) (tu : Nat) (ba : Int64) (na : Int64) (ca : Nat → Int64) (bo : Nat → Int32) (tr : Nat → Int64) (tH : Int32) (asd : Nat → Int32) (pa : Nat → Int64) (tg : Nat → Int64) (sd : Int64) (sr : Int64) (T : Nat) (hM : mOk u T)  : Ctr l E yX8_allByShares cX8_allByShares 4 (some .long) (rmL 2) [.ref (B 0)] (wM E B u kp ik ps pm dd tx ty rw rm th sz he wr mn vl tp lt ra pf pt pl pd prc ns tu ba na ca bo tr tH asd pa tg sd sr) (One (some (.long (cAllVotes (fm u) T))) (wM E B u kp ik ps pm dd tx ty rw rm th sz he wr mn vl tp lt ra pf pt pl pd prc ns tu ba na ca bo tr tH asd pa tg sd sr)) := by
  refine Ctr.of (by decide) (Nat.le_of_ble_eq_true rfl) rfl rfl 3 ?_
  intro X hX hR
  obtain ⟨hT, hT1, hT6, hcv⟩ := id hM
  refine rh_lconst hX dX8_allByShares_0 kL_0 ?_
  refine rh_lstn1 hX dX8_allByShares_1 (by decide) rfl ?_
  refine rh_iconst hX dX8_allByShares_2 ki_0 ?_
  refine rh_istn3 hX dX8_allByShares_3 (by decide) rfl ?_
  refine rh_loop (P := fun i => G X 4 [some (.ref (B 0)), some (.long (sumF 0 (fun h => cVotes (fm u) h T) i)), none, some (.int (nI i))] [] (wM E B u kp ik ps pm dd tx ty rw rm th sz he wr mn vl tp lt ra pf pt pl pd prc ns tu ba na ca bo tr tH asd pa tg sd sr)) (0) (8) (by omega) ?_ ?_
  · skip
    refine rh_iload_n hX dX8_allByShares_4 rfl ?_
    refine rh_bipush hX dX8_allByShares_5 kb_8 ?_
    refine rh_icmp_ge_t (tgt := 24) hX dX8_allByShares_7 (by decide) (nI_le (a := 8) (b := 8) (Nat.le_refl 8) (by decide)) ?_
    refine rh_lload_n hX dX8_allByShares_24 rfl ?_
    exact rh_lret hX hR dX8_allByShares_25 (by simp only [List.map_cons, List.map_nil, List.cons_append, List.nil_append]) ⟨rfl, rfl⟩
  · intro i hi0 hi ih
    refine rh_iload_n hX dX8_allByShares_4 rfl ?_
    refine rh_bipush hX dX8_allByShares_5 kb_8 ?_
    refine rh_icmp_ge_f (tgt := 24) hX dX8_allByShares_7 (by decide) (nI_ge (b := 8) hi (by decide)) ?_
    refine rh_lload_n hX dX8_allByShares_10 rfl ?_
    refine rh_aload_n hX dX8_allByShares_11 rfl ?_
    refine rh_iload_n hX dX8_allByShares_12 rfl ?_
    refine rh_pV hX lk_X8_88 mvX8_stakeByShares (fun l => c_X8_stakeByShares l E _ _ _ _ _ _ _ _ _ _ _ _ _ _ _ _ _ _ _ _ _ _ _ _ _ _ _ _ _ _ _ _ _ _ _ _ _ _ i T hM (by omega)) ⟨rfl, rfl⟩ ⟨Nat.le_of_ble_eq_true rfl, Nat.le_of_ble_eq_true rfl⟩ [0, 1, 2, 3, 4, 5, 6, 7, 8, 9, 10, 11, 12] rfl rfl 0 rfl dX8_allByShares_13 rfl rfl (Nat.le_of_ble_eq_true rfl) ?_
    refine rh_ladd hX dX8_allByShares_16 ?_
    refine rh_lstn1 hX dX8_allByShares_17 (by decide) rfl ?_
    refine rh_inc3 hX dX8_allByShares_18 (by decide) rfl (rn_i1 _) ?_
    refine rh_goto (tgt := 4) hX dX8_allByShares_21 (by decide) ?_
    exact ih

set_option maxRecDepth 100000 in
set_option maxHeartbeats 4000000 in
theorem c_X8_allOptions (l : Launch) (E : rhE) (B : Nat → Nat) (u : Nat → Int32) (kp : Nat → Int32) (ik : Int32) (ps : Nat → Int32) (pm : Nat) (dd : Int32) (tx : Nat → Int32) (ty : Nat) (rw : Nat → Int64) (rm : Nat) (th : Int32) (sz : Nat) (he : Nat) (wr : Int32) (mn : Nat → Int32) (vl : Int32) (tp : Int32) (lt : Int32) (ra : Int32) (pf : Int32) (pt : Int32) (pl : Int32) (pd : Int64) (prc : Int64) (ns : Int64) (tu : Nat) (ba : Int64) (na : Int64) (ca : Nat → Int64) (bo : Nat → Int32) (tr : Nat → Int64) (tH : Int32) (asd : Nat → Int32) (pa : Nat → Int64) (tg : Nat → Int64) (sd : Int64) (sr : Int64)   : Ctr l E yX8_allOptions cX8_allOptions 4 (some .long) (rmL 0) [.ref (B 0)] (wM E B u kp ik ps pm dd tx ty rw rm th sz he wr mn vl tp lt ra pf pt pl pd prc ns tu ba na ca bo tr tH asd pa tg sd sr) (One (some (.long (cAllGranted (fm u)))) (wM E B u kp ik ps pm dd tx ty rw rm th sz he wr mn vl tp lt ra pf pt pl pd prc ns tu ba na ca bo tr tH asd pa tg sd sr)) := by
  refine Ctr.of (by decide) (Nat.le_of_ble_eq_true rfl) rfl rfl 3 ?_
  intro X hX hR
  refine rh_lconst hX dX8_allOptions_0 kL_0 ?_
  refine rh_lstn1 hX dX8_allOptions_1 (by decide) rfl ?_
  refine rh_iconst hX dX8_allOptions_2 ki_0 ?_
  refine rh_istn3 hX dX8_allOptions_3 (by decide) rfl ?_
  refine rh_loop (P := fun i => G X 4 [some (.ref (B 0)), some (.long (sumF 0 (cGranted (fm u)) i)), none, some (.int (nI i))] [] (wM E B u kp ik ps pm dd tx ty rw rm th sz he wr mn vl tp lt ra pf pt pl pd prc ns tu ba na ca bo tr tH asd pa tg sd sr)) (0) (8) (by omega) ?_ ?_
  · skip
    refine rh_iload_n hX dX8_allOptions_4 rfl ?_
    refine rh_bipush hX dX8_allOptions_5 kb_8 ?_
    refine rh_icmp_ge_t (tgt := 29) hX dX8_allOptions_7 (by decide) (nI_le (a := 8) (b := 8) (Nat.le_refl 8) (by decide)) ?_
    refine rh_lload_n hX dX8_allOptions_29 rfl ?_
    exact rh_lret hX hR dX8_allOptions_30 (by simp only [List.map_cons, List.map_nil, List.cons_append, List.nil_append]) ⟨rfl, rfl⟩
  · intro i hi0 hi ih
    refine rh_iload_n hX dX8_allOptions_4 rfl ?_
    refine rh_bipush hX dX8_allOptions_5 kb_8 ?_
    refine rh_icmp_ge_f (tgt := 29) hX dX8_allOptions_7 (by decide) (nI_ge (b := 8) hi (by decide)) ?_
    refine rh_lload_n hX dX8_allOptions_10 rfl ?_
    refine rh_aload_n hX dX8_allOptions_11 rfl ?_
    refine rh_get hX gl_X8_7 0 dX8_allOptions_12 rfl rfl ?_
    refine rh_bipush hX dX8_allOptions_15 kb_48 ?_
    refine rh_iload_n hX dX8_allOptions_17 rfl ?_
    refine rh_iadd hX dX8_allOptions_18 ?_
    refine rh_iaload hX 1 _ dX8_allOptions_19 rfl (rn_a rn_c48 rfl) (by omega) (by decide) ?_
    refine rh_i2l hX dX8_allOptions_20 ?_
    rw [fm_granted u (h := i) (by omega)]
    refine rh_ladd hX dX8_allOptions_21 ?_
    refine rh_lstn1 hX dX8_allOptions_22 (by decide) rfl ?_
    refine rh_inc3 hX dX8_allOptions_23 (by decide) rfl (rn_i1 _) ?_
    refine rh_goto (tgt := 4) hX dX8_allOptions_26 (by decide) ?_
    exact ih

set_option maxRecDepth 100000 in
set_option maxHeartbeats 4000000 in
theorem c_X8_stakeOf (l : Launch) (E : rhE) (B : Nat → Nat) (u : Nat → Int32) (kp : Nat → Int32) (ik : Int32) (ps : Nat → Int32) (pm : Nat) (dd : Int32) (tx : Nat → Int32) (ty : Nat) (rw : Nat → Int64) (rm : Nat) (th : Int32) (sz : Nat) (he : Nat) (wr : Int32) (mn : Nat → Int32) (vl : Int32) (tp : Int32) (lt : Int32) (ra : Int32) (pf : Int32) (pt : Int32) (pl : Int32) (pd : Int64) (prc : Int64) (ns : Int64) (tu : Nat) (ba : Int64) (na : Int64) (ca : Nat → Int64) (bo : Nat → Int32) (tr : Nat → Int64) (tH : Int32) (asd : Nat → Int32) (pa : Nat → Int64) (tg : Nat → Int64) (sd : Int64) (sr : Int64) (h : Nat) (T : Nat) (hM : mOk u T) (hh : h < 8) : Ctr l E yX8_stakeOf cX8_stakeOf 2 (some .long) (rmL 2) [.ref (B 0), .int (nI h)] (wM E B u kp ik ps pm dd tx ty rw rm th sz he wr mn vl tp lt ra pf pt pl pd prc ns tu ba na ca bo tr tH asd pa tg sd sr) (One (some (.long (cClaim (fm u) h T))) (wM E B u kp ik ps pm dd tx ty rw rm th sz he wr mn vl tp lt ra pf pt pl pd prc ns tu ba na ca bo tr tH asd pa tg sd sr)) := by
  refine Ctr.of (by decide) (Nat.le_of_ble_eq_true rfl) rfl rfl 0 ?_
  intro X hX hR
  obtain ⟨hT, hT1, hT6, hcv⟩ := id hM
  refine rh_aload_n hX dX8_stakeOf_0 rfl ?_
  refine rh_iload_n hX dX8_stakeOf_1 rfl ?_
  refine rh_pV hX lk_X8_88 mvX8_stakeByShares (fun l => c_X8_stakeByShares l E _ _ _ _ _ _ _ _ _ _ _ _ _ _ _ _ _ _ _ _ _ _ _ _ _ _ _ _ _ _ _ _ _ _ _ _ _ _ h T hM (by omega)) ⟨rfl, rfl⟩ ⟨Nat.le_of_ble_eq_true rfl, Nat.le_of_ble_eq_true rfl⟩ [0, 1, 2, 3, 4, 5, 6, 7, 8, 9, 10, 11, 12] rfl rfl 0 rfl dX8_stakeOf_2 rfl rfl (Nat.le_of_ble_eq_true rfl) ?_
  refine rh_aload_n hX dX8_stakeOf_5 rfl ?_
  refine rh_get hX gl_X8_7 0 dX8_stakeOf_6 rfl rfl ?_
  refine rh_bipush hX dX8_stakeOf_9 kb_48 ?_
  refine rh_iload_n hX dX8_stakeOf_11 rfl ?_
  refine rh_iadd hX dX8_stakeOf_12 ?_
  refine rh_iaload hX 1 _ dX8_stakeOf_13 rfl (rn_a rn_c48 rfl) (by omega) (by decide) ?_
  refine rh_i2l hX dX8_stakeOf_14 ?_
  rw [fm_granted u (h := h) (by omega)]
  refine rh_ladd hX dX8_stakeOf_15 ?_
  exact rh_lret hX hR dX8_stakeOf_16 (by simp only [List.map_cons, List.map_nil, List.cons_append, List.nil_append]) ⟨rfl, rfl⟩

set_option maxRecDepth 100000 in
set_option maxHeartbeats 4000000 in
theorem c_X8_fullNow (l : Launch) (E : rhE) (B : Nat → Nat) (u : Nat → Int32) (kp : Nat → Int32) (ik : Int32) (ps : Nat → Int32) (pm : Nat) (dd : Int32) (tx : Nat → Int32) (ty : Nat) (rw : Nat → Int64) (rm : Nat) (th : Int32) (sz : Nat) (he : Nat) (wr : Int32) (mn : Nat → Int32) (vl : Int32) (tp : Int32) (lt : Int32) (ra : Int32) (pf : Int32) (pt : Int32) (pl : Int32) (pd : Int64) (prc : Int64) (ns : Int64) (tu : Nat) (ba : Int64) (na : Int64) (ca : Nat → Int64) (bo : Nat → Int32) (tr : Nat → Int64) (tH : Int32) (asd : Nat → Int32) (pa : Nat → Int64) (tg : Nat → Int64) (sd : Int64) (sr : Int64) (T : Nat) (hM : mOk u T)  : Ctr l E yX8_fullNow cX8_fullNow 1 (some .long) (rmL 3) [.ref (B 0)] (wM E B u kp ik ps pm dd tx ty rw rm th sz he wr mn vl tp lt ra pf pt pl pd prc ns tu ba na ca bo tr tH asd pa tg sd sr) (One (some (.long (cSize (fm u) T))) (wM E B u kp ik ps pm dd tx ty rw rm th sz he wr mn vl tp lt ra pf pt pl pd prc ns tu ba na ca bo tr tH asd pa tg sd sr)) := by
  refine Ctr.of (by decide) (Nat.le_of_ble_eq_true rfl) rfl rfl 0 ?_
  intro X hX hR
  obtain ⟨hT, hT1, hT6, hcv⟩ := id hM
  refine rh_aload_n hX dX8_fullNow_0 rfl ?_
  refine rh_pV hX lk_X8_92 mvX8_allByShares (fun l => c_X8_allByShares l E _ _ _ _ _ _ _ _ _ _ _ _ _ _ _ _ _ _ _ _ _ _ _ _ _ _ _ _ _ _ _ _ _ _ _ _ _ _ T hM) ⟨rfl, rfl⟩ ⟨Nat.le_of_ble_eq_true rfl, Nat.le_of_ble_eq_true rfl⟩ [0, 1, 2, 3, 4, 5, 6, 7, 8, 9, 10, 11, 12] rfl rfl 0 rfl dX8_fullNow_1 rfl rfl (Nat.le_of_ble_eq_true rfl) ?_
  refine rh_aload_n hX dX8_fullNow_4 rfl ?_
  refine rh_pV hX lk_X8_96 mvX8_allOptions (fun l => c_X8_allOptions l E _ _ _ _ _ _ _ _ _ _ _ _ _ _ _ _ _ _ _ _ _ _ _ _ _ _ _ _ _ _ _ _ _ _ _ _ _ _ ) ⟨rfl, rfl⟩ ⟨Nat.le_of_ble_eq_true rfl, Nat.le_of_ble_eq_true rfl⟩ [0, 1, 2, 3, 4, 5, 6, 7, 8, 9, 10, 11, 12] rfl rfl 0 rfl dX8_fullNow_5 rfl rfl (Nat.le_of_ble_eq_true rfl) ?_
  refine rh_ladd hX dX8_fullNow_8 ?_
  refine rh_aload_n hX dX8_fullNow_9 rfl ?_
  refine rh_get hX gl_X8_7 0 dX8_fullNow_10 rfl rfl ?_
  refine rh_bipush hX dX8_fullNow_13 kb_56 ?_
  refine rh_iaload hX 1 _ dX8_fullNow_15 rfl rn_c56 (by omega) (by decide) ?_
  refine rh_i2l hX dX8_fullNow_16 ?_
  rw [fm_pool u]
  refine rh_ladd hX dX8_fullNow_17 ?_
  exact rh_lret hX hR dX8_fullNow_18 (by simp only [List.map_cons, List.map_nil, List.cons_append, List.nil_append]) ⟨rfl, rfl⟩

set_option maxRecDepth 100000 in
set_option maxHeartbeats 4000000 in
theorem c_X8_allShares (l : Launch) (E : rhE) (B : Nat → Nat) (u : Nat → Int32) (kp : Nat → Int32) (ik : Int32) (ps : Nat → Int32) (pm : Nat) (dd : Int32) (tx : Nat → Int32) (ty : Nat) (rw : Nat → Int64) (rm : Nat) (th : Int32) (sz : Nat) (he : Nat) (wr : Int32) (mn : Nat → Int32) (vl : Int32) (tp : Int32) (lt : Int32) (ra : Int32) (pf : Int32) (pt : Int32) (pl : Int32) (pd : Int64) (prc : Int64) (ns : Int64) (tu : Nat) (ba : Int64) (na : Int64) (ca : Nat → Int64) (bo : Nat → Int32) (tr : Nat → Int64) (tH : Int32) (asd : Nat → Int32) (pa : Nat → Int64) (tg : Nat → Int64) (sd : Int64) (sr : Int64) (t : Nat) (ht : t < 6) : Ctr l E yX8_allShares cX8_allShares 5 (some .long) (rmL 1) [.ref (B 0), .int (nI t)] (wM E B u kp ik ps pm dd tx ty rw rm th sz he wr mn vl tp lt ra pf pt pl pd prc ns tu ba na ca bo tr tH asd pa tg sd sr) (One (some (.long (cAllHeld (fm u) t))) (wM E B u kp ik ps pm dd tx ty rw rm th sz he wr mn vl tp lt ra pf pt pl pd prc ns tu ba na ca bo tr tH asd pa tg sd sr)) := by
  refine Ctr.of (by decide) (Nat.le_of_ble_eq_true rfl) rfl rfl 3 ?_
  intro X hX hR
  refine rh_lconst hX dX8_allShares_0 kL_0 ?_
  refine rh_lstn2 hX dX8_allShares_1 (by decide) rfl ?_
  refine rh_iconst hX dX8_allShares_2 ki_0 ?_
  refine rh_ist4 hX dX8_allShares_3 (by decide) rfl ?_
  refine rh_loop (P := fun i => G X 5 [some (.ref (B 0)), some (.int (nI t)), some (.long (sumF 0 (fun h => cHeld (fm u) h t) i)), none, some (.int (nI i))] [] (wM E B u kp ik ps pm dd tx ty rw rm th sz he wr mn vl tp lt ra pf pt pl pd prc ns tu ba na ca bo tr tH asd pa tg sd sr)) (0) (8) (by omega) ?_ ?_
  · skip
    refine rh_iload hX dX8_allShares_5 rfl ?_
    refine rh_bipush hX dX8_allShares_7 kb_8 ?_
    refine rh_icmp_ge_t (tgt := 29) hX dX8_allShares_9 (by decide) (nI_le (a := 8) (b := 8) (Nat.le_refl 8) (by decide)) ?_
    refine rh_lload_n hX dX8_allShares_29 rfl ?_
    exact rh_lret hX hR dX8_allShares_30 (by simp only [List.map_cons, List.map_nil, List.cons_append, List.nil_append]) ⟨rfl, rfl⟩
  · intro i hi0 hi ih
    refine rh_iload hX dX8_allShares_5 rfl ?_
    refine rh_bipush hX dX8_allShares_7 kb_8 ?_
    refine rh_icmp_ge_f (tgt := 29) hX dX8_allShares_9 (by decide) (nI_ge (b := 8) hi (by decide)) ?_
    refine rh_lload_n hX dX8_allShares_12 rfl ?_
    refine rh_aload_n hX dX8_allShares_13 rfl ?_
    refine rh_iload hX dX8_allShares_14 rfl ?_
    refine rh_iload_n hX dX8_allShares_16 rfl ?_
    refine rh_pV hX lk_X8_80 mvX8_sharesOf (fun l => c_X8_sharesOf l E _ _ _ _ _ _ _ _ _ _ _ _ _ _ _ _ _ _ _ _ _ _ _ _ _ _ _ _ _ _ _ _ _ _ _ _ _ _ i t (by omega) (by omega)) ⟨rfl, rfl⟩ ⟨Nat.le_of_ble_eq_true rfl, Nat.le_of_ble_eq_true rfl⟩ [0, 1, 2, 3, 4, 5, 6, 7, 8, 9, 10, 11, 12] rfl rfl 0 rfl dX8_allShares_17 rfl rfl (Nat.le_of_ble_eq_true rfl) ?_
    refine rh_i2l hX dX8_allShares_20 ?_
    rw [fm_held u (h := i) (t := t) (by omega) (by omega)]
    refine rh_ladd hX dX8_allShares_21 ?_
    refine rh_lstn2 hX dX8_allShares_22 (by decide) rfl ?_
    refine rh_inc4 hX dX8_allShares_23 (by decide) rfl (rn_i1 _) ?_
    refine rh_goto (tgt := 5) hX dX8_allShares_26 (by decide) ?_
    exact ih
