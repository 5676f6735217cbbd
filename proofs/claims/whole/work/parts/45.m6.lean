theorem c_X8_isHolderH (l : Launch) (E : rhE) (h : Int32) : Ctr l E yX8_isHolder cX8_isHolder 1 (some .boolean) (rmL 1) [.int h] [] (One (some (.int (xH h))) []) := by
  have q := c_X8_isHolder l E h
  rw [xIn_H] at q
  exact q
theorem c_X8_isSumS (l : Launch) (E : rhE) (h : Int32) : Ctr l E yX8_isSum cX8_isSum 1 (some .boolean) (rmL 1) [.int h] [] (One (some (.int (xSum h))) []) := by
  have q := c_X8_isSum l E h
  rw [xIn_S] at q
  exact q
def mTold (rw : Nat → Int64) (rm : Nat) (rw1 : Nat → Int64) (rm1 : Nat) (o : Option (List Int64)) : Prop := match o with
  | none => rw1 = rw ∧ rm1 = rm
  | some l => rowOk rw1 l ∧ rm1 = l.length

set_option maxRecDepth 100000 in
set_option maxHeartbeats 4000000 in
theorem c_X8_shares (l : Launch) (E : rhE) (B : Nat → Nat) (u : Nat → Int32) (kp : Nat → Int32) (ik : Int32) (ps : Nat → Int32) (pm : Nat) (dd : Int32) (tx : Nat → Int32) (ty : Nat) (rw : Nat → Int64) (rm : Nat) (th : Int32) (sz : Nat) (he : Nat) (wr : Int32) (mn : Nat → Int32) (vl : Int32) (tp : Int32) (lt : Int32) (ra : Int32) (pf : Int32) (pt : Int32) (pl : Int32) (pd : Int64) (prc : Int64) (ns : Int64) (tu : Nat) (ba : Int64) (na : Int64) (ca : Nat → Int64) (bo : Nat → Int32) (tr : Nat → Int64) (tH : Int32) (asd : Nat → Int32) (pa : Nat → Int64) (tg : Nat → Int64) (sd : Int64) (sr : Int64) (h t : Int32) (C : CT) (hCu : C.1 = fm u) (T : Nat) (hM : mOk u T)  : Ctr l E yX8_shares cX8_shares 3 (some .int) (rmL 3) [.ref (B 0), .int h, .int t] (wM E B u kp ik ps pm dd tx ty rw rm th sz he wr mn vl tp lt ra pf pt pl pd prc ns tu ba na ca bo tr tH asd pa tg sd sr) (One (some (.int (x_shares C T h t))) (wM E B u kp ik ps pm dd tx ty rw rm 0 sz he wr mn vl tp lt ra pf pt pl pd prc ns tu ba na ca bo tr tH asd pa tg sd sr)) := by
  refine Ctr.of (by decide) (Nat.le_of_ble_eq_true rfl) rfl rfl 0 ?_
  intro X hX hR
  obtain ⟨hT, hT1, hT6, hcv⟩ := id hM
  refine rh_aload_n hX dX8_shares_0 rfl ?_
  refine rh_iconst hX dX8_shares_1 ki_0 ?_
  refine rh_put hX gl_X8_48 0 dX8_shares_2 rfl rfl rfl (Nat.le_of_ble_eq_true rfl) rfl ?_
  dsimp only [List.cons_append, List.nil_append, List.set_cons_succ, List.set_cons_zero, vput]
  refine rh_iload_n hX dX8_shares_5 rfl ?_
  refine rh_pS hX lk_X8_140 msX8_isHolder (fun l => c_X8_isHolderH l E _) ⟨rfl, rfl⟩ ⟨Nat.le_of_ble_eq_true rfl, Nat.le_of_ble_eq_true rfl⟩ [] rfl rfl dX8_shares_6 rfl rfl (Nat.le_of_ble_eq_true rfl) ?_
  refine rh_if_eq (tgt := 29) hX dX8_shares_9 (by decide) (fun h9 => ?_) (fun h9 => ?_)
  · skip
    refine rh_iconst hX dX8_shares_29 ki_m1 ?_
    exact rh_iret hX hR dX8_shares_30 (by simp only [List.map_cons, List.map_nil, List.cons_append, List.nil_append]) ⟨by first | (rw [x_shares, if_pos h9] <;> rfl) | (rw [x_shares, if_neg h9, if_pos h17] <;> rfl) | (rw [x_shares, if_neg h9, if_neg h17, nI_clamp (show hd < 2 ^ 31 by omega), nI_clamp (show td < 2 ^ 31 by omega), hCu, ← fm_held u (h := hd) (t := td) (by omega) (by omega), Int32.toInt32_toInt64] <;> rfl), rfl⟩
  · skip
    obtain ⟨hd, rfl, hdl⟩ := xH_1 h9
    refine rh_aload_n hX dX8_shares_12 rfl ?_
    refine rh_iload_n hX dX8_shares_13 rfl ?_
    refine rh_pV hX lk_X8_64 mvX8_isType (fun l => c_X8_isType l E _ _ _ _ _ _ _ _ _ _ _ _ _ _ _ _ _ _ _ _ _ _ _ _ _ _ _ _ _ _ _ _ _ _ _ _ _ _ _ T hM) ⟨rfl, rfl⟩ ⟨Nat.le_of_ble_eq_true rfl, Nat.le_of_ble_eq_true rfl⟩ [0, 1, 2, 3, 4, 5, 6, 7, 8, 9, 10, 11, 12] rfl rfl 0 rfl dX8_shares_14 rfl rfl (Nat.le_of_ble_eq_true rfl) ?_
    refine rh_if_eq (tgt := 29) hX dX8_shares_17 (by decide) (fun h17 => ?_) (fun h17 => ?_)
    · skip
      refine rh_iconst hX dX8_shares_29 ki_m1 ?_
      exact rh_iret hX hR dX8_shares_30 (by simp only [List.map_cons, List.map_nil, List.cons_append, List.nil_append]) ⟨by first | (rw [x_shares, if_pos h9] <;> rfl) | (rw [x_shares, if_neg h9, if_pos h17] <;> rfl) | (rw [x_shares, if_neg h9, if_neg h17, nI_clamp (show hd < 2 ^ 31 by omega), nI_clamp (show td < 2 ^ 31 by omega), hCu, ← fm_held u (h := hd) (t := td) (by omega) (by omega), Int32.toInt32_toInt64] <;> rfl), rfl⟩
    · skip
      obtain ⟨td, rfl, htd⟩ := xTy_1 hT6 h17
      refine rh_aload_n hX dX8_shares_20 rfl ?_
      refine rh_iload_n hX dX8_shares_21 rfl ?_
      refine rh_iload_n hX dX8_shares_22 rfl ?_
      refine rh_pV hX lk_X8_80 mvX8_sharesOf (fun l => c_X8_sharesOf l E _ _ _ _ _ _ _ _ _ _ _ _ _ _ _ _ _ _ _ _ _ _ _ _ _ _ _ _ _ _ _ _ _ _ _ _ _ _ hd td (by omega) (by omega)) ⟨rfl, rfl⟩ ⟨Nat.le_of_ble_eq_true rfl, Nat.le_of_ble_eq_true rfl⟩ [0, 1, 2, 3, 4, 5, 6, 7, 8, 9, 10, 11, 12] rfl rfl 0 rfl dX8_shares_23 rfl rfl (Nat.le_of_ble_eq_true rfl) ?_
      refine rh_goto (tgt := 30) hX dX8_shares_26 (by decide) ?_
      exact rh_iret hX hR dX8_shares_30 (by simp only [List.map_cons, List.map_nil, List.cons_append, List.nil_append]) ⟨by first | (rw [x_shares, if_pos h9] <;> rfl) | (rw [x_shares, if_neg h9, if_pos h17] <;> rfl) | (rw [x_shares, if_neg h9, if_neg h17, nI_clamp (show hd < 2 ^ 31 by omega), nI_clamp (show td < 2 ^ 31 by omega), hCu, ← fm_held u (h := hd) (t := td) (by omega) (by omega), Int32.toInt32_toInt64] <;> rfl), rfl⟩

set_option maxRecDepth 100000 in
set_option maxHeartbeats 4000000 in
theorem c_X8_options (l : Launch) (E : rhE) (B : Nat → Nat) (u : Nat → Int32) (kp : Nat → Int32) (ik : Int32) (ps : Nat → Int32) (pm : Nat) (dd : Int32) (tx : Nat → Int32) (ty : Nat) (rw : Nat → Int64) (rm : Nat) (th : Int32) (sz : Nat) (he : Nat) (wr : Int32) (mn : Nat → Int32) (vl : Int32) (tp : Int32) (lt : Int32) (ra : Int32) (pf : Int32) (pt : Int32) (pl : Int32) (pd : Int64) (prc : Int64) (ns : Int64) (tu : Nat) (ba : Int64) (na : Int64) (ca : Nat → Int64) (bo : Nat → Int32) (tr : Nat → Int64) (tH : Int32) (asd : Nat → Int32) (pa : Nat → Int64) (tg : Nat → Int64) (sd : Int64) (sr : Int64) (h : Int32) (C : CT) (hCu : C.1 = fm u) (T : Nat) (hM : mOk u T)  : Ctr l E yX8_options cX8_options 2 (some .int) (rmL 3) [.ref (B 0), .int h] (wM E B u kp ik ps pm dd tx ty rw rm th sz he wr mn vl tp lt ra pf pt pl pd prc ns tu ba na ca bo tr tH asd pa tg sd sr) (One (some (.int (x_options C h))) (wM E B u kp ik ps pm dd tx ty rw rm 0 sz he wr mn vl tp lt ra pf pt pl pd prc ns tu ba na ca bo tr tH asd pa tg sd sr)) := by
  refine Ctr.of (by decide) (Nat.le_of_ble_eq_true rfl) rfl rfl 0 ?_
  intro X hX hR
  obtain ⟨hT, hT1, hT6, hcv⟩ := id hM
  refine rh_aload_n hX dX8_options_0 rfl ?_
  refine rh_iconst hX dX8_options_1 ki_0 ?_
  refine rh_put hX gl_X8_48 0 dX8_options_2 rfl rfl rfl (Nat.le_of_ble_eq_true rfl) rfl ?_
  dsimp only [List.cons_append, List.nil_append, List.set_cons_succ, List.set_cons_zero, vput]
  refine rh_iload_n hX dX8_options_5 rfl ?_
  refine rh_pS hX lk_X8_140 msX8_isHolder (fun l => c_X8_isHolderH l E _) ⟨rfl, rfl⟩ ⟨Nat.le_of_ble_eq_true rfl, Nat.le_of_ble_eq_true rfl⟩ [] rfl rfl dX8_options_6 rfl rfl (Nat.le_of_ble_eq_true rfl) ?_
  refine rh_if_eq (tgt := 24) hX dX8_options_9 (by decide) (fun h9 => ?_) (fun h9 => ?_)
  · skip
    refine rh_iconst hX dX8_options_24 ki_m1 ?_
    exact rh_iret hX hR dX8_options_25 (by simp only [List.map_cons, List.map_nil, List.cons_append, List.nil_append]) ⟨by first | (rw [x_options, if_pos h9] <;> rfl) | (rw [x_options, if_neg h9, nI_clamp (show hd < 2 ^ 31 by omega), hCu, ← fm_granted u (h := hd) (by omega), Int32.toInt32_toInt64] <;> rfl), rfl⟩
  · skip
    obtain ⟨hd, rfl, hdl⟩ := xH_1 h9
    refine rh_aload_n hX dX8_options_12 rfl ?_
    refine rh_get hX gl_X8_7 0 dX8_options_13 rfl rfl ?_
    refine rh_bipush hX dX8_options_16 kb_48 ?_
    refine rh_iload_n hX dX8_options_18 rfl ?_
    refine rh_iadd hX dX8_options_19 ?_
    refine rh_iaload hX 1 _ dX8_options_20 rfl (rn_a rn_c48 rfl) (by omega) (by decide) ?_
    refine rh_goto (tgt := 25) hX dX8_options_21 (by decide) ?_
    exact rh_iret hX hR dX8_options_25 (by simp only [List.map_cons, List.map_nil, List.cons_append, List.nil_append]) ⟨by first | (rw [x_options, if_pos h9] <;> rfl) | (rw [x_options, if_neg h9, nI_clamp (show hd < 2 ^ 31 by omega), hCu, ← fm_granted u (h := hd) (by omega), Int32.toInt32_toInt64] <;> rfl), rfl⟩

set_option maxRecDepth 100000 in
set_option maxHeartbeats 4000000 in
theorem c_X8_stake (l : Launch) (E : rhE) (B : Nat → Nat) (u : Nat → Int32) (kp : Nat → Int32) (ik : Int32) (ps : Nat → Int32) (pm : Nat) (dd : Int32) (tx : Nat → Int32) (ty : Nat) (rw : Nat → Int64) (rm : Nat) (th : Int32) (sz : Nat) (he : Nat) (wr : Int32) (mn : Nat → Int32) (vl : Int32) (tp : Int32) (lt : Int32) (ra : Int32) (pf : Int32) (pt : Int32) (pl : Int32) (pd : Int64) (prc : Int64) (ns : Int64) (tu : Nat) (ba : Int64) (na : Int64) (ca : Nat → Int64) (bo : Nat → Int32) (tr : Nat → Int64) (tH : Int32) (asd : Nat → Int32) (pa : Nat → Int64) (tg : Nat → Int64) (sd : Int64) (sr : Int64) (h : Int32) (C : CT) (hCu : C.1 = fm u) (T : Nat) (hM : mOk u T) (hS : 0 ≤ cSize (fm u) T) (hV : 0 ≤ cAllVotes (fm u) T) : Ctr l E yX8_stake cX8_stake 2 (some .int) (rmL 5) [.ref (B 0), .int h] (wM E B u kp ik ps pm dd tx ty rw rm th sz he wr mn vl tp lt ra pf pt pl pd prc ns tu ba na ca bo tr tH asd pa tg sd sr) (fun r w => ∃ rw1 rm1, r = some (Value.int (x_stake C T h).1) ∧ mTold rw rm rw1 rm1 (x_stake C T h).2 ∧ w = (wM E B u kp ik ps pm dd tx ty rw1 rm1 0 sz he wr mn vl tp lt ra pf pt pl pd prc ns tu ba na ca bo tr tH asd pa tg sd sr)) := by
  refine Ctr.of (by decide) (Nat.le_of_ble_eq_true rfl) rfl rfl 0 ?_
  intro X hX hR
  obtain ⟨hT, hT1, hT6, hcv⟩ := id hM
  refine rh_aload_n hX dX8_stake_0 rfl ?_
  refine rh_iconst hX dX8_stake_1 ki_0 ?_
  refine rh_put hX gl_X8_48 0 dX8_stake_2 rfl rfl rfl (Nat.le_of_ble_eq_true rfl) rfl ?_
  dsimp only [List.cons_append, List.nil_append, List.set_cons_succ, List.set_cons_zero, vput]
  refine rh_iload_n hX dX8_stake_5 rfl ?_
  refine rh_pS hX lk_X8_140 msX8_isHolder (fun l => c_X8_isHolderH l E _) ⟨rfl, rfl⟩ ⟨Nat.le_of_ble_eq_true rfl, Nat.le_of_ble_eq_true rfl⟩ [] rfl rfl dX8_stake_6 rfl rfl (Nat.le_of_ble_eq_true rfl) ?_
  refine rh_if_ne (tgt := 14) hX dX8_stake_9 (by decide) (fun h9 => ?_) (fun h9 => ?_)
  · skip
    obtain ⟨hd, rfl, hdl⟩ := xH_1 h9
    refine rh_aload_n hX dX8_stake_14 rfl ?_
    refine rh_iconst hX dX8_stake_15 ki_0 ?_
    refine rh_put hX gl_X8_52 0 dX8_stake_16 rfl rfl rfl (Nat.le_of_ble_eq_true rfl) rfl ?_
    dsimp only [List.cons_append, List.nil_append, List.set_cons_succ, List.set_cons_zero, vput]
    refine rh_aload_n hX dX8_stake_19 rfl ?_
    refine rh_aload_n hX dX8_stake_20 rfl ?_
    refine rh_iload_n hX dX8_stake_21 rfl ?_
    refine rh_pV hX lk_X8_149 mvX8_stakeOf (fun l => c_X8_stakeOf l E _ _ _ _ _ _ _ _ _ _ _ _ _ _ _ _ _ _ _ _ _ _ _ _ _ _ _ _ _ _ _ _ _ _ _ _ _ _ hd T hM (by omega)) ⟨rfl, rfl⟩ ⟨Nat.le_of_ble_eq_true rfl, Nat.le_of_ble_eq_true rfl⟩ [0, 1, 2, 3, 4, 5, 6, 7, 8, 9, 10, 11, 12] rfl rfl 0 rfl dX8_stake_22 rfl rfl (Nat.le_of_ble_eq_true rfl) ?_
    refine rh_aload_n hX dX8_stake_25 rfl ?_
    refine rh_pV hX lk_X8_143 mvX8_fullNow (fun l => c_X8_fullNow l E _ _ _ _ _ _ _ _ _ _ _ _ _ _ _ _ _ _ _ _ _ _ _ _ _ _ _ _ _ _ _ _ _ _ _ _ _ _ T hM) ⟨rfl, rfl⟩ ⟨Nat.le_of_ble_eq_true rfl, Nat.le_of_ble_eq_true rfl⟩ [0, 1, 2, 3, 4, 5, 6, 7, 8, 9, 10, 11, 12] rfl rfl 0 rfl dX8_stake_26 rfl rfl (Nat.le_of_ble_eq_true rfl) ?_
    refine rh_pS hX lk_X8_305 msX8_thousandths (fun l => c_X8_thousandths l E _ _) ⟨rfl, rfl⟩ ⟨Nat.le_of_ble_eq_true rfl, Nat.le_of_ble_eq_true rfl⟩ [] rfl rfl dX8_stake_29 rfl rfl (Nat.le_of_ble_eq_true rfl) ?_
    rw [mThou _ _ hS]
    refine rh_uV hX lk_X8_299 mvX8_tell (fun l => c_X8_tell l E _ _ _ _ _ _ _ _ _ _ 0 _ _ _ _ _ _ _ _ _ _ _ _ _ _ _ _ _ _ _ _ _ _ _ _ _ _ _ _ (by omega)) ⟨rfl, rfl⟩ ⟨Nat.le_of_ble_eq_true rfl, Nat.le_of_ble_eq_true rfl⟩ [0, 1, 2, 3, 4, 5, 6, 7, 8, 9, 10, 11, 12] rfl rfl 0 rfl dX8_stake_32 rfl rfl (Nat.le_of_ble_eq_true rfl) rfl ?_
    dsimp only [List.cons_append, List.nil_append, List.set_cons_succ, List.set_cons_zero, vput]
    refine rh_aload_n hX dX8_stake_35 rfl ?_
    refine rh_aload_n hX dX8_stake_36 rfl ?_
    refine rh_iload_n hX dX8_stake_37 rfl ?_
    refine rh_pV hX lk_X8_88 mvX8_stakeByShares (fun l => c_X8_stakeByShares l E _ _ _ _ _ _ _ _ _ _ _ _ _ _ _ _ _ _ _ _ _ _ _ _ _ _ _ _ _ _ _ _ _ _ _ _ _ _ hd T hM (by omega)) ⟨rfl, rfl⟩ ⟨Nat.le_of_ble_eq_true rfl, Nat.le_of_ble_eq_true rfl⟩ [0, 1, 2, 3, 4, 5, 6, 7, 8, 9, 10, 11, 12] rfl rfl 0 rfl dX8_stake_38 rfl rfl (Nat.le_of_ble_eq_true rfl) ?_
    refine rh_aload_n hX dX8_stake_41 rfl ?_
    refine rh_pV hX lk_X8_92 mvX8_allByShares (fun l => c_X8_allByShares l E _ _ _ _ _ _ _ _ _ _ _ _ _ _ _ _ _ _ _ _ _ _ _ _ _ _ _ _ _ _ _ _ _ _ _ _ _ _ T hM) ⟨rfl, rfl⟩ ⟨Nat.le_of_ble_eq_true rfl, Nat.le_of_ble_eq_true rfl⟩ [0, 1, 2, 3, 4, 5, 6, 7, 8, 9, 10, 11, 12] rfl rfl 0 rfl dX8_stake_42 rfl rfl (Nat.le_of_ble_eq_true rfl) ?_
    refine rh_pS hX lk_X8_305 msX8_thousandths (fun l => c_X8_thousandths l E _ _) ⟨rfl, rfl⟩ ⟨Nat.le_of_ble_eq_true rfl, Nat.le_of_ble_eq_true rfl⟩ [] rfl rfl dX8_stake_45 rfl rfl (Nat.le_of_ble_eq_true rfl) ?_
    rw [mThou _ _ hV]
    refine rh_uV hX lk_X8_299 mvX8_tell (fun l => c_X8_tell l E _ _ _ _ _ _ _ _ _ _ (0 + 1) _ _ _ _ _ _ _ _ _ _ _ _ _ _ _ _ _ _ _ _ _ _ _ _ _ _ _ _ (by omega)) ⟨rfl, rfl⟩ ⟨Nat.le_of_ble_eq_true rfl, Nat.le_of_ble_eq_true rfl⟩ [0, 1, 2, 3, 4, 5, 6, 7, 8, 9, 10, 11, 12] rfl rfl 0 rfl dX8_stake_48 rfl rfl (Nat.le_of_ble_eq_true rfl) rfl ?_
    dsimp only [List.cons_append, List.nil_append, List.set_cons_succ, List.set_cons_zero, vput]
    refine rh_aload_n hX dX8_stake_51 rfl ?_
    refine rh_iload_n hX dX8_stake_52 rfl ?_
    refine rh_pV hX lk_X8_149 mvX8_stakeOf (fun l => c_X8_stakeOf l E _ _ _ _ _ _ _ _ _ _ _ _ _ _ _ _ _ _ _ _ _ _ _ _ _ _ _ _ _ _ _ _ _ _ _ _ _ _ hd T hM (by omega)) ⟨rfl, rfl⟩ ⟨Nat.le_of_ble_eq_true rfl, Nat.le_of_ble_eq_true rfl⟩ [0, 1, 2, 3, 4, 5, 6, 7, 8, 9, 10, 11, 12] rfl rfl 0 rfl dX8_stake_53 rfl rfl (Nat.le_of_ble_eq_true rfl) ?_
    refine rh_l2i hX dX8_stake_56 ?_
    exact rh_iret hX hR dX8_stake_57 (by simp only [List.map_cons, List.map_nil, List.cons_append, List.nil_append]) (by refine ⟨(va_up (va_up rw 0 _) (0 + 1) _), (0 + 1 + 1), ?ga, ?gb, rfl⟩; (case ga => rw [x_stake, if_neg h9, nI_clamp (show hd < 2 ^ 31 by omega), hCu] <;> rfl); (case gb => rw [x_stake, if_neg h9, nI_clamp (show hd < 2 ^ 31 by omega), hCu]; exact ⟨rowOk2 _ _ _, rfl⟩))
  · skip
    refine rh_iconst hX dX8_stake_12 ki_m1 ?_
    exact rh_iret hX hR dX8_stake_13 (by simp only [List.map_cons, List.map_nil, List.cons_append, List.nil_append]) (by first | exact ⟨rw, rm, by rw [x_stake, if_pos h9] <;> rfl, by rw [x_stake, if_pos h9]; exact ⟨rfl, rfl⟩, rfl⟩)

set_option maxRecDepth 100000 in
set_option maxHeartbeats 4000000 in
theorem c_X8_majority (l : Launch) (E : rhE) (B : Nat → Nat) (u : Nat → Int32) (kp : Nat → Int32) (ik : Int32) (ps : Nat → Int32) (pm : Nat) (dd : Int32) (tx : Nat → Int32) (ty : Nat) (rw : Nat → Int64) (rm : Nat) (th : Int32) (sz : Nat) (he : Nat) (wr : Int32) (mn : Nat → Int32) (vl : Int32) (tp : Int32) (lt : Int32) (ra : Int32) (pf : Int32) (pt : Int32) (pl : Int32) (pd : Int64) (prc : Int64) (ns : Int64) (tu : Nat) (ba : Int64) (na : Int64) (ca : Nat → Int64) (bo : Nat → Int32) (tr : Nat → Int64) (tH : Int32) (asd : Nat → Int32) (pa : Nat → Int64) (tg : Nat → Int64) (sd : Int64) (sr : Int64) (h : Int32) (C : CT) (hCu : C.1 = fm u) (T : Nat) (hM : mOk u T)  : Ctr l E yX8_majority cX8_majority 8 (some .int) (rmL 5) [.ref (B 0), .int h] (wM E B u kp ik ps pm dd tx ty rw rm th sz he wr mn vl tp lt ra pf pt pl pd prc ns tu ba na ca bo tr tH asd pa tg sd sr) (fun r w => ∃ rw1 rm1, r = some (Value.int (x_majority C T h).1) ∧ mTold rw rm rw1 rm1 (x_majority C T h).2 ∧ w = (wM E B u kp ik ps pm dd tx ty rw1 rm1 0 sz he wr mn vl tp lt ra pf pt pl pd prc ns tu ba na ca bo tr tH asd pa tg sd sr)) := by
  refine Ctr.of (by decide) (Nat.le_of_ble_eq_true rfl) rfl rfl 6 ?_
  intro X hX hR
  obtain ⟨hT, hT1, hT6, hcv⟩ := id hM
  refine rh_aload_n hX dX8_majority_0 rfl ?_
  refine rh_iconst hX dX8_majority_1 ki_0 ?_
  refine rh_put hX gl_X8_48 0 dX8_majority_2 rfl rfl rfl (Nat.le_of_ble_eq_true rfl) rfl ?_
  dsimp only [List.cons_append, List.nil_append, List.set_cons_succ, List.set_cons_zero, vput]
  refine rh_iload_n hX dX8_majority_5 rfl ?_
  refine rh_pS hX lk_X8_140 msX8_isHolder (fun l => c_X8_isHolderH l E _) ⟨rfl, rfl⟩ ⟨Nat.le_of_ble_eq_true rfl, Nat.le_of_ble_eq_true rfl⟩ [] rfl rfl dX8_majority_6 rfl rfl (Nat.le_of_ble_eq_true rfl) ?_
  refine rh_if_ne (tgt := 14) hX dX8_majority_9 (by decide) (fun h9 => ?_) (fun h9 => ?_)
  · skip
    obtain ⟨hd, rfl, hdl⟩ := xH_1 h9
    refine rh_aload_n hX dX8_majority_14 rfl ?_
    refine rh_pV hX lk_X8_92 mvX8_allByShares (fun l => c_X8_allByShares l E _ _ _ _ _ _ _ _ _ _ _ _ _ _ _ _ _ _ _ _ _ _ _ _ _ _ _ _ _ _ _ _ _ _ _ _ _ _ T hM) ⟨rfl, rfl⟩ ⟨Nat.le_of_ble_eq_true rfl, Nat.le_of_ble_eq_true rfl⟩ [0, 1, 2, 3, 4, 5, 6, 7, 8, 9, 10, 11, 12] rfl rfl 0 rfl dX8_majority_15 rfl rfl (Nat.le_of_ble_eq_true rfl) ?_
    refine rh_lstn2 hX dX8_majority_18 (by decide) rfl ?_
    refine rh_aload_n hX dX8_majority_19 rfl ?_
    refine rh_iload_n hX dX8_majority_20 rfl ?_
    refine rh_pV hX lk_X8_88 mvX8_stakeByShares (fun l => c_X8_stakeByShares l E _ _ _ _ _ _ _ _ _ _ _ _ _ _ _ _ _ _ _ _ _ _ _ _ _ _ _ _ _ _ _ _ _ _ _ _ _ _ hd T hM (by omega)) ⟨rfl, rfl⟩ ⟨Nat.le_of_ble_eq_true rfl, Nat.le_of_ble_eq_true rfl⟩ [0, 1, 2, 3, 4, 5, 6, 7, 8, 9, 10, 11, 12] rfl rfl 0 rfl dX8_majority_21 rfl rfl (Nat.le_of_ble_eq_true rfl) ?_
    refine rh_lst4 hX dX8_majority_24 (by decide) rfl ?_
    refine rh_lconst hX dX8_majority_26 kL_0 ?_
    refine rh_lload_n hX dX8_majority_27 rfl ?_
    refine rh_ldc2 hX dX8_majority_28 kl_X8_152 ?_
    refine rh_lload hX dX8_majority_31 rfl ?_
    refine rh_lmul hX dX8_majority_33 ?_
    refine rh_lsub hX dX8_majority_34 ?_
    refine rh_lconst hX dX8_majority_35 kL_1 ?_
    refine rh_ladd hX dX8_majority_36 ?_
    refine rh_maxl hX mm_X8_265 dX8_majority_37 (Nat.le_of_ble_eq_true rfl) (Nat.le_of_ble_eq_true rfl) ?_
    refine rh_lst6 hX dX8_majority_40 (by decide) rfl ?_
    refine rh_aload_n hX dX8_majority_42 rfl ?_
    refine rh_iconst hX dX8_majority_43 ki_0 ?_
    refine rh_put hX gl_X8_52 0 dX8_majority_44 rfl rfl rfl (Nat.le_of_ble_eq_true rfl) rfl ?_
    dsimp only [List.cons_append, List.nil_append, List.set_cons_succ, List.set_cons_zero, vput]
    refine rh_aload_n hX dX8_majority_47 rfl ?_
    refine rh_lload hX dX8_majority_48 rfl ?_
    refine rh_lload hX dX8_majority_50 rfl ?_
    refine rh_ladd hX dX8_majority_52 ?_
    refine rh_uV hX lk_X8_299 mvX8_tell (fun l => c_X8_tell l E _ _ _ _ _ _ _ _ _ _ 0 _ _ _ _ _ _ _ _ _ _ _ _ _ _ _ _ _ _ _ _ _ _ _ _ _ _ _ _ (by omega)) ⟨rfl, rfl⟩ ⟨Nat.le_of_ble_eq_true rfl, Nat.le_of_ble_eq_true rfl⟩ [0, 1, 2, 3, 4, 5, 6, 7, 8, 9, 10, 11, 12] rfl rfl 0 rfl dX8_majority_53 rfl rfl (Nat.le_of_ble_eq_true rfl) rfl ?_
    dsimp only [List.cons_append, List.nil_append, List.set_cons_succ, List.set_cons_zero, vput]
    refine rh_aload_n hX dX8_majority_56 rfl ?_
    refine rh_lload_n hX dX8_majority_57 rfl ?_
    refine rh_lload hX dX8_majority_58 rfl ?_
    refine rh_ladd hX dX8_majority_60 ?_
    refine rh_uV hX lk_X8_299 mvX8_tell (fun l => c_X8_tell l E _ _ _ _ _ _ _ _ _ _ (0 + 1) _ _ _ _ _ _ _ _ _ _ _ _ _ _ _ _ _ _ _ _ _ _ _ _ _ _ _ _ (by omega)) ⟨rfl, rfl⟩ ⟨Nat.le_of_ble_eq_true rfl, Nat.le_of_ble_eq_true rfl⟩ [0, 1, 2, 3, 4, 5, 6, 7, 8, 9, 10, 11, 12] rfl rfl 0 rfl dX8_majority_61 rfl rfl (Nat.le_of_ble_eq_true rfl) rfl ?_
    dsimp only [List.cons_append, List.nil_append, List.set_cons_succ, List.set_cons_zero, vput]
    refine rh_lload hX dX8_majority_64 rfl ?_
    refine rh_l2i hX dX8_majority_66 ?_
    exact rh_iret hX hR dX8_majority_67 (by simp only [List.map_cons, List.map_nil, List.cons_append, List.nil_append]) (by refine ⟨(va_up (va_up rw 0 _) (0 + 1) _), (0 + 1 + 1), ?ga, ?gb, rfl⟩; (case ga => rw [x_majority, if_neg h9, nI_clamp (show hd < 2 ^ 31 by omega), hCu] <;> rfl); (case gb => rw [x_majority, if_neg h9, nI_clamp (show hd < 2 ^ 31 by omega), hCu]; exact ⟨rowOk2 _ _ _, rfl⟩))
  · skip
    refine rh_iconst hX dX8_majority_12 ki_m1 ?_
    exact rh_iret hX hR dX8_majority_13 (by simp only [List.map_cons, List.map_nil, List.cons_append, List.nil_append]) (by first | exact ⟨rw, rm, by rw [x_majority, if_pos h9] <;> rfl, by rw [x_majority, if_pos h9]; exact ⟨rfl, rfl⟩, rfl⟩)

set_option maxRecDepth 100000 in
set_option maxHeartbeats 4000000 in
theorem c_X8_full (l : Launch) (E : rhE) (B : Nat → Nat) (u : Nat → Int32) (kp : Nat → Int32) (ik : Int32) (ps : Nat → Int32) (pm : Nat) (dd : Int32) (tx : Nat → Int32) (ty : Nat) (rw : Nat → Int64) (rm : Nat) (th : Int32) (sz : Nat) (he : Nat) (wr : Int32) (mn : Nat → Int32) (vl : Int32) (tp : Int32) (lt : Int32) (ra : Int32) (pf : Int32) (pt : Int32) (pl : Int32) (pd : Int64) (prc : Int64) (ns : Int64) (tu : Nat) (ba : Int64) (na : Int64) (ca : Nat → Int64) (bo : Nat → Int32) (tr : Nat → Int64) (tH : Int32) (asd : Nat → Int32) (pa : Nat → Int64) (tg : Nat → Int64) (sd : Int64) (sr : Int64)  (C : CT) (hCu : C.1 = fm u) (T : Nat) (hM : mOk u T)  : Ctr l E yX8_full cX8_full 2 (some .int) (rmL 5) [.ref (B 0)] (wM E B u kp ik ps pm dd tx ty rw rm th sz he wr mn vl tp lt ra pf pt pl pd prc ns tu ba na ca bo tr tH asd pa tg sd sr) (fun r w => ∃ rw1 rm1, r = some (Value.int (x_full C T).1) ∧ mTold rw rm rw1 rm1 (x_full C T).2 ∧ w = (wM E B u kp ik ps pm dd tx ty rw1 rm1 0 sz he wr mn vl tp lt ra pf pt pl pd prc ns tu ba na ca bo tr tH asd pa tg sd sr)) := by
  refine Ctr.of (by decide) (Nat.le_of_ble_eq_true rfl) rfl rfl 1 ?_
  intro X hX hR
  obtain ⟨hT, hT1, hT6, hcv⟩ := id hM
  refine rh_aload_n hX dX8_full_0 rfl ?_
  refine rh_iconst hX dX8_full_1 ki_0 ?_
  refine rh_put hX gl_X8_48 0 dX8_full_2 rfl rfl rfl (Nat.le_of_ble_eq_true rfl) rfl ?_
  dsimp only [List.cons_append, List.nil_append, List.set_cons_succ, List.set_cons_zero, vput]
  refine rh_aload_n hX dX8_full_5 rfl ?_
  refine rh_iconst hX dX8_full_6 ki_0 ?_
  refine rh_put hX gl_X8_52 0 dX8_full_7 rfl rfl rfl (Nat.le_of_ble_eq_true rfl) rfl ?_
  dsimp only [List.cons_append, List.nil_append, List.set_cons_succ, List.set_cons_zero, vput]
  refine rh_iconst hX dX8_full_10 ki_0 ?_
  refine rh_istn1 hX dX8_full_11 (by decide) rfl ?_
  refine (rh_loop (P := fun i => ∀ g1, rowOk g1 ((List.range i).map (fun c => cAllConv (fm u) c)) → G X 12 [some (.ref (B 0)), some (.int (nI i))] [] (wM E B u kp ik ps pm dd tx ty g1 i 0 sz he wr mn vl tp lt ra pf pt pl pd prc ns tu ba na ca bo tr tH asd pa tg sd sr)) (0) (T) (by omega) ?_ ?_) _ (rowOk_nil _)
  · intro g1 hg
    refine rh_iload_n hX dX8_full_12 rfl ?_
    refine rh_aload_n hX dX8_full_13 rfl ?_
    refine rh_get hX gl_X8_7 0 dX8_full_14 rfl rfl ?_
    refine rh_bipush hX dX8_full_17 kb_57 ?_
    refine rh_iaload hX 1 _ dX8_full_19 rfl rn_c57 (by omega) (by decide) ?_
    refine rh_icmp_ge_t (tgt := 38) hX dX8_full_20 (by decide) (by rw [hT]; exact nI_le (Nat.le_refl T) (by omega)) ?_
    refine rh_aload_n hX dX8_full_38 rfl ?_
    refine rh_aload_n hX dX8_full_39 rfl ?_
    refine rh_pV hX lk_X8_96 mvX8_allOptions (fun l => c_X8_allOptions l E _ _ _ _ _ _ _ _ _ _ _ _ _ _ _ _ _ _ _ _ _ _ _ _ _ _ _ _ _ _ _ _ _ _ _ _ _ _ ) ⟨rfl, rfl⟩ ⟨Nat.le_of_ble_eq_true rfl, Nat.le_of_ble_eq_true rfl⟩ [0, 1, 2, 3, 4, 5, 6, 7, 8, 9, 10, 11, 12] rfl rfl 0 rfl dX8_full_40 rfl rfl (Nat.le_of_ble_eq_true rfl) ?_
    refine rh_uV hX lk_X8_299 mvX8_tell (fun l => c_X8_tell l E _ _ _ _ _ _ _ _ _ _ _ _ _ _ _ _ _ _ _ _ _ _ _ _ _ _ _ _ _ _ _ _ _ _ _ _ _ _ _ (by omega)) ⟨rfl, rfl⟩ ⟨Nat.le_of_ble_eq_true rfl, Nat.le_of_ble_eq_true rfl⟩ [0, 1, 2, 3, 4, 5, 6, 7, 8, 9, 10, 11, 12] rfl rfl 0 rfl dX8_full_43 rfl rfl (Nat.le_of_ble_eq_true rfl) rfl ?_
    dsimp only [List.cons_append, List.nil_append, List.set_cons_succ, List.set_cons_zero, vput]
    refine rh_aload_n hX dX8_full_46 rfl ?_
    refine rh_aload_n hX dX8_full_47 rfl ?_
    refine rh_get hX gl_X8_7 0 dX8_full_48 rfl rfl ?_
    refine rh_bipush hX dX8_full_51 kb_56 ?_
    refine rh_iaload hX 1 _ dX8_full_53 rfl rn_c56 (by omega) (by decide) ?_
    refine rh_i2l hX dX8_full_54 ?_
    rw [fm_pool u]
    refine rh_uV hX lk_X8_299 mvX8_tell (fun l => c_X8_tell l E _ _ _ _ _ _ _ _ _ _ _ _ _ _ _ _ _ _ _ _ _ _ _ _ _ _ _ _ _ _ _ _ _ _ _ _ _ _ _ (by omega)) ⟨rfl, rfl⟩ ⟨Nat.le_of_ble_eq_true rfl, Nat.le_of_ble_eq_true rfl⟩ [0, 1, 2, 3, 4, 5, 6, 7, 8, 9, 10, 11, 12] rfl rfl 0 rfl dX8_full_55 rfl rfl (Nat.le_of_ble_eq_true rfl) rfl ?_
    dsimp only [List.cons_append, List.nil_append, List.set_cons_succ, List.set_cons_zero, vput]
    refine rh_aload_n hX dX8_full_58 rfl ?_
    refine rh_pV hX lk_X8_143 mvX8_fullNow (fun l => c_X8_fullNow l E _ _ _ _ _ _ _ _ _ _ _ _ _ _ _ _ _ _ _ _ _ _ _ _ _ _ _ _ _ _ _ _ _ _ _ _ _ _ T hM) ⟨rfl, rfl⟩ ⟨Nat.le_of_ble_eq_true rfl, Nat.le_of_ble_eq_true rfl⟩ [0, 1, 2, 3, 4, 5, 6, 7, 8, 9, 10, 11, 12] rfl rfl 0 rfl dX8_full_59 rfl rfl (Nat.le_of_ble_eq_true rfl) ?_
    refine rh_l2i hX dX8_full_62 ?_
    exact rh_iret hX hR dX8_full_63 (by simp only [List.map_cons, List.map_nil, List.cons_append, List.nil_append]) (by refine ⟨va_up (va_up g1 T _) (T + 1) _, T + 1 + 1, ?ga, ?gb, rfl⟩; (case ga => rw [x_full, hCu]); (case gb => rw [x_full, hCu]; exact ⟨rowOk_push _ (rowOk_push _ hg (by rw [List.length_map, List.length_range])) (by rw [List.length_append, List.length_map, List.length_range] <;> rfl), by rw [List.length_append, List.length_append, List.length_map, List.length_range] <;> rfl⟩))
  · intro i hi0 hi ih g1 hg
    refine rh_iload_n hX dX8_full_12 rfl ?_
    refine rh_aload_n hX dX8_full_13 rfl ?_
    refine rh_get hX gl_X8_7 0 dX8_full_14 rfl rfl ?_
    refine rh_bipush hX dX8_full_17 kb_57 ?_
    refine rh_iaload hX 1 _ dX8_full_19 rfl rn_c57 (by omega) (by decide) ?_
    refine rh_icmp_ge_f (tgt := 38) hX dX8_full_20 (by decide) (by rw [hT]; exact nI_ge hi (by omega)) ?_
    refine rh_aload_n hX dX8_full_23 rfl ?_
    refine rh_aload_n hX dX8_full_24 rfl ?_
    refine rh_iload_n hX dX8_full_25 rfl ?_
    refine rh_pV hX lk_X8_316 mvX8_convertedType (fun l => c_X8_convertedType l E _ _ _ _ _ _ _ _ _ _ _ _ _ _ _ _ _ _ _ _ _ _ _ _ _ _ _ _ _ _ _ _ _ _ _ _ _ _ i T hM (by omega)) ⟨rfl, rfl⟩ ⟨Nat.le_of_ble_eq_true rfl, Nat.le_of_ble_eq_true rfl⟩ [0, 1, 2, 3, 4, 5, 6, 7, 8, 9, 10, 11, 12] rfl rfl 0 rfl dX8_full_26 rfl rfl (Nat.le_of_ble_eq_true rfl) ?_
    refine rh_uV hX lk_X8_299 mvX8_tell (fun l => c_X8_tell l E _ _ _ _ _ _ _ _ _ _ _ _ _ _ _ _ _ _ _ _ _ _ _ _ _ _ _ _ _ _ _ _ _ _ _ _ _ _ _ (by omega)) ⟨rfl, rfl⟩ ⟨Nat.le_of_ble_eq_true rfl, Nat.le_of_ble_eq_true rfl⟩ [0, 1, 2, 3, 4, 5, 6, 7, 8, 9, 10, 11, 12] rfl rfl 0 rfl dX8_full_29 rfl rfl (Nat.le_of_ble_eq_true rfl) rfl ?_
    dsimp only [List.cons_append, List.nil_append, List.set_cons_succ, List.set_cons_zero, vput]
    refine rh_inc1 hX dX8_full_32 (by decide) rfl (rn_i1 _) ?_
    refine rh_goto (tgt := 12) hX dX8_full_35 (by decide) ?_
    exact ih _ (by rw [range_push]; exact rowOk_push _ hg (by rw [List.length_map, List.length_range]))
