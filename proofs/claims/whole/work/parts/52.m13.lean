def mExp (tx : Nat → Int32) (sz he : Nat) (wr c : Int32) : Nat × Int32 := if wr = -1 then (if mSee tx sz he = c then (he + 1, wr) else (he, mFault wr (nI he))) else (he, wr)

set_option maxRecDepth 100000 in
set_option maxHeartbeats 4000000 in
theorem c_X8_expect (l : Launch) (E : rhE) (B : Nat → Nat) (u : Nat → Int32) (kp : Nat → Int32) (ik : Int32) (ps : Nat → Int32) (pm : Nat) (dd : Int32) (tx : Nat → Int32) (ty : Nat) (rw : Nat → Int64) (rm : Nat) (th : Int32) (sz : Nat) (he : Nat) (wr : Int32) (mn : Nat → Int32) (vl : Int32) (tp : Int32) (lt : Int32) (ra : Int32) (pf : Int32) (pt : Int32) (pl : Int32) (pd : Int64) (prc : Int64) (ns : Int64) (tu : Nat) (ba : Int64) (na : Int64) (ca : Nat → Int64) (bo : Nat → Int32) (tr : Nat → Int64) (tH : Int32) (asd : Nat → Int32) (pa : Nat → Int64) (tg : Nat → Int64) (sd : Int64) (sr : Int64) (c : Int32) (hsz : sz ≤ 200) (hhe : he < 2 ^ 31) : Ctr l E yX8_expect cX8_expect 2 none (rmL 1) [.ref (B 0), .int c] (wM E B u kp ik ps pm dd tx ty rw rm th sz he wr mn vl tp lt ra pf pt pl pd prc ns tu ba na ca bo tr tH asd pa tg sd sr) (One none (wM E B u kp ik ps pm dd tx ty rw rm th sz (mExp tx sz he wr c).1 (mExp tx sz he wr c).2 mn vl tp lt ra pf pt pl pd prc ns tu ba na ca bo tr tH asd pa tg sd sr)) := by
  refine Ctr.of (by decide) (Nat.le_of_ble_eq_true rfl) rfl rfl 0 ?_
  intro X hX hR
  refine rh_aload_n hX dX8_expect_0 rfl ?_
  refine rh_get hX gl_X8_105 0 dX8_expect_1 rfl rfl ?_
  refine rh_iconst hX dX8_expect_4 ki_m1 ?_
  refine rh_icmp_eq (tgt := 9) hX dX8_expect_5 (by decide) (fun h5 => ?_) (fun h5 => ?_)
  · skip
    refine rh_aload_n hX dX8_expect_9 rfl ?_
    refine rh_pV hX lk_X8_108 mvX8_sees (fun l => c_X8_sees l E _ _ _ _ _ _ _ _ _ _ _ _ _ _ _ _ _ _ _ _ _ _ _ _ _ _ _ _ _ _ _ _ _ _ _ _ _ _ (by omega) (by omega)) ⟨rfl, rfl⟩ ⟨Nat.le_of_ble_eq_true rfl, Nat.le_of_ble_eq_true rfl⟩ [0, 1, 2, 3, 4, 5, 6, 7, 8, 9, 10, 11, 12] rfl rfl 0 rfl dX8_expect_10 rfl rfl (Nat.le_of_ble_eq_true rfl) ?_
    refine rh_iload_n hX dX8_expect_13 rfl ?_
    refine rh_icmp_ne (tgt := 30) hX dX8_expect_14 (by decide) (fun h14 => ?_) (fun h14 => ?_)
    · skip
      refine rh_aload_n hX dX8_expect_30 rfl ?_
      refine rh_aload_n hX dX8_expect_31 rfl ?_
      refine rh_get hX gl_X8_102 0 dX8_expect_32 rfl rfl ?_
      refine rh_uV hX lk_X8_112 mvX8_fault (fun l => c_X8_fault l E _ _ _ _ _ _ _ _ _ _ _ _ _ _ _ _ _ _ _ _ _ _ _ _ _ _ _ _ _ _ _ _ _ _ _ _ _ _ _) ⟨rfl, rfl⟩ ⟨Nat.le_of_ble_eq_true rfl, Nat.le_of_ble_eq_true rfl⟩ [0, 1, 2, 3, 4, 5, 6, 7, 8, 9, 10, 11, 12] rfl rfl 0 rfl dX8_expect_35 rfl rfl (Nat.le_of_ble_eq_true rfl) rfl ?_
      dsimp only [List.cons_append, List.nil_append, List.set_cons_succ, List.set_cons_zero, vput]
      exact rh_vret hX hR dX8_expect_38 (by simp only [List.map_cons, List.map_nil, List.cons_append, List.nil_append]) ⟨rfl, by first | (rw [mExp, if_pos h5, if_neg h14]; done) | (rw [mExp, if_pos h5, if_pos h14]; done)⟩
    · skip
      refine rh_aload_n hX dX8_expect_17 rfl ?_
      refine rh_dup hX dX8_expect_18 rfl ?_
      refine rh_get hX gl_X8_102 0 dX8_expect_19 rfl rfl ?_
      refine rh_iconst hX dX8_expect_22 ki_1 ?_
      refine rh_iadd hX dX8_expect_23 ?_
      rw [show nI he + 1 = nI (he + 1) from rn_add he 1]
      refine rh_put hX gl_X8_102 0 dX8_expect_24 rfl rfl rfl (Nat.le_of_ble_eq_true rfl) rfl ?_
      dsimp only [List.cons_append, List.nil_append, List.set_cons_succ, List.set_cons_zero, vput]
      refine rh_goto (tgt := 38) hX dX8_expect_27 (by decide) ?_
      exact rh_vret hX hR dX8_expect_38 (by simp only [List.map_cons, List.map_nil, List.cons_append, List.nil_append]) ⟨rfl, by first | (rw [mExp, if_pos h5, if_neg h14]; done) | (rw [mExp, if_pos h5, if_pos h14]; done)⟩
  · skip
    exact rh_vret hX hR dX8_expect_8 (by simp only [List.map_cons, List.map_nil, List.cons_append, List.nil_append]) ⟨rfl, by rw [mExp, if_neg h5]⟩
