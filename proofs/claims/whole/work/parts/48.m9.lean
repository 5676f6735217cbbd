def uHas (u : Nat → Int32) (h t : Nat) (n : Int32) : Nat → Int32 := va_up u (6 * h + t) n
def y_cancels (u : Nat → Int32) (T : Nat) (h t n : Int32) : YR := if xH h = 0 then (-1, none) else if xTy T t = 0 then (-1, none) else if n < 1 then (-1, none) else if u (6 * h.toNatClampNeg + t.toNatClampNeg) < n then (-2, none) else ((cSize (fm (uHas u h.toNatClampNeg t.toNatClampNeg (u (6 * h.toNatClampNeg + t.toNatClampNeg) - n))) T).toInt32, some (uHas u h.toNatClampNeg t.toNatClampNeg (u (6 * h.toNatClampNeg + t.toNatClampNeg) - n)))
def uLap (u : Nat → Int32) (h : Nat) (n : Int32) : Nat → Int32 := va_up (va_up u (48 + h) (u (48 + h) - n)) 56 (va_up u (48 + h) (u (48 + h) - n) 56 + n)
def y_lapses (u : Nat → Int32) (h n : Int32) : YR := if xH h = 0 then (-1, none) else if n < 1 then (-1, none) else if u (48 + h.toNatClampNeg) < n then (-2, none) else (uLap u h.toNatClampNeg n 56, some (uLap u h.toNatClampNeg n))
def uExe (u : Nat → Int32) (h : Nat) (n : Int32) : Nat → Int32 := va_up (va_up u (48 + h) (u (48 + h) - n)) (6 * h + 0) (va_up u (48 + h) (u (48 + h) - n) (6 * h + 0) + n)
def y_exercise (u : Nat → Int32) (h n : Int32) : YR := if xH h = 0 then (-1, none) else if n < 1 then (-1, none) else if u (48 + h.toNatClampNeg) < n then (-2, none) else (uExe u h.toNatClampNeg n (48 + h.toNatClampNeg), some (uExe u h.toNatClampNeg n))
def uCnv (u : Nat → Int32) (h t : Nat) (n c : Int32) : Nat → Int32 := va_up (va_up u (6 * h + t) (u (6 * h + t) - n)) (6 * h + 0) (va_up u (6 * h + t) (u (6 * h + t) - n) (6 * h + 0) + c)
def y_converts (u : Nat → Int32) (T : Nat) (h t n : Int32) : YR := if xH h = 0 then (-1, none) else if xSe T t = 0 then (-1, none) else if n < 1 then (-1, none) else if u (6 * h.toNatClampNeg + t.toNatClampNeg) < n then (-2, none) else ((cConv (fm u) t.toNatClampNeg n.toInt64).toInt32, some (uCnv u h.toNatClampNeg t.toNatClampNeg n (cConv (fm u) t.toNatClampNeg n.toInt64).toInt32))

set_option maxRecDepth 100000 in
set_option maxHeartbeats 4000000 in
theorem c_X8_cancels (l : Launch) (E : rhE) (B : Nat → Nat) (u : Nat → Int32) (kp : Nat → Int32) (ik : Int32) (ps : Nat → Int32) (pm : Nat) (dd : Int32) (tx : Nat → Int32) (ty : Nat) (rw : Nat → Int64) (rm : Nat) (th : Int32) (sz : Nat) (he : Nat) (wr : Int32) (mn : Nat → Int32) (vl : Int32) (tp : Int32) (lt : Int32) (ra : Int32) (pf : Int32) (pt : Int32) (pl : Int32) (pd : Int64) (prc : Int64) (ns : Int64) (tu : Nat) (ba : Int64) (na : Int64) (ca : Nat → Int64) (bo : Nat → Int32) (tr : Nat → Int64) (tH : Int32) (asd : Nat → Int32) (pa : Nat → Int64) (tg : Nat → Int64) (sd : Int64) (sr : Int64) (h t n : Int32) (T : Nat) (hM : mOk u T) (hpm : pm ≤ 8)  : Ctr l E yX8_cancels cX8_cancels 4 (some .int) (rmL 6) [.ref (B 0), .int h, .int t, .int n] (wM E B u kp ik ps pm dd tx ty rw rm th sz he wr mn vl tp lt ra pf pt pl pd prc ns tu ba na ca bo tr tH asd pa tg sd sr) (fun r w => r = some (Value.int (y_cancels u T h t n).1) ∧ (∀ u1, (y_cancels u T h t n).2 = some u1 → w = (wM E B u1 kp ik (psDid ps pm u) (pmDid pm) (dd + 1) tx ty rw rm 0 sz he wr mn vl tp lt ra pf pt pl pd prc ns tu ba na ca bo tr tH u pa tg sd sr)) ∧ ((y_cancels u T h t n).2 = none → w = (wM E B u kp ik ps pm dd tx ty rw rm 0 sz he wr mn vl tp lt ra pf pt pl pd prc ns tu ba na ca bo tr tH asd pa tg sd sr))) := by
  refine Ctr.of (by decide) (Nat.le_of_ble_eq_true rfl) rfl rfl 0 ?_
  intro X hX hR
  obtain ⟨hT, hT1, hT6, hcv⟩ := id hM
  refine rh_aload_n hX dX8_cancels_0 rfl ?_
  refine rh_iconst hX dX8_cancels_1 ki_0 ?_
  refine rh_put hX gl_X8_48 0 dX8_cancels_2 rfl rfl rfl (Nat.le_of_ble_eq_true rfl) rfl ?_
  dsimp only [List.cons_append, List.nil_append, List.set_cons_succ, List.set_cons_zero, vput]
  refine rh_iload_n hX dX8_cancels_5 rfl ?_
  refine rh_pS hX lk_X8_140 msX8_isHolder (fun l => c_X8_isHolderH l E _) ⟨rfl, rfl⟩ ⟨Nat.le_of_ble_eq_true rfl, Nat.le_of_ble_eq_true rfl⟩ [] rfl rfl dX8_cancels_6 rfl rfl (Nat.le_of_ble_eq_true rfl) ?_
  refine rh_if_eq (tgt := 25) hX dX8_cancels_9 (by decide) (fun h9 => ?_) (fun h9 => ?_)
  · skip
    refine rh_iconst hX dX8_cancels_25 ki_m1 ?_
    exact rh_iret hX hR dX8_cancels_26 (by simp only [List.map_cons, List.map_nil, List.cons_append, List.nil_append]) (by first | exact ⟨by rw [y_cancels, if_pos h9] <;> rfl, (fun z hz => by rw [y_cancels, if_pos h9] at hz; cases hz), fun _ => rfl⟩ | exact ⟨by rw [y_cancels, if_neg h9, if_pos h17] <;> rfl, (fun z hz => by rw [y_cancels, if_neg h9, if_pos h17] at hz; cases hz), fun _ => rfl⟩ | exact ⟨by rw [y_cancels, if_neg h9, if_neg h17, if_pos h22] <;> rfl, (fun z hz => by rw [y_cancels, if_neg h9, if_neg h17, if_pos h22] at hz; cases hz), fun _ => rfl⟩)
  · skip
    obtain ⟨hd, rfl, hdl⟩ := xH_1 h9
    refine rh_aload_n hX dX8_cancels_12 rfl ?_
    refine rh_iload_n hX dX8_cancels_13 rfl ?_
    refine rh_pV hX lk_X8_64 mvX8_isType (fun l => c_X8_isType l E _ _ _ _ _ _ _ _ _ _ _ _ _ _ _ _ _ _ _ _ _ _ _ _ _ _ _ _ _ _ _ _ _ _ _ _ _ _ _ T hM) ⟨rfl, rfl⟩ ⟨Nat.le_of_ble_eq_true rfl, Nat.le_of_ble_eq_true rfl⟩ [0, 1, 2, 3, 4, 5, 6, 7, 8, 9, 10, 11, 12] rfl rfl 0 rfl dX8_cancels_14 rfl rfl (Nat.le_of_ble_eq_true rfl) ?_
    refine rh_if_eq (tgt := 25) hX dX8_cancels_17 (by decide) (fun h17 => ?_) (fun h17 => ?_)
    · skip
      refine rh_iconst hX dX8_cancels_25 ki_m1 ?_
      exact rh_iret hX hR dX8_cancels_26 (by simp only [List.map_cons, List.map_nil, List.cons_append, List.nil_append]) (by first | exact ⟨by rw [y_cancels, if_pos h9] <;> rfl, (fun z hz => by rw [y_cancels, if_pos h9] at hz; cases hz), fun _ => rfl⟩ | exact ⟨by rw [y_cancels, if_neg h9, if_pos h17] <;> rfl, (fun z hz => by rw [y_cancels, if_neg h9, if_pos h17] at hz; cases hz), fun _ => rfl⟩ | exact ⟨by rw [y_cancels, if_neg h9, if_neg h17, if_pos h22] <;> rfl, (fun z hz => by rw [y_cancels, if_neg h9, if_neg h17, if_pos h22] at hz; cases hz), fun _ => rfl⟩)
    · skip
      obtain ⟨td, rfl, htd⟩ := xTy_1 hT6 h17
      refine rh_iload_n hX dX8_cancels_20 rfl ?_
      refine rh_iconst hX dX8_cancels_21 ki_1 ?_
      refine rh_icmp_ge (tgt := 27) hX dX8_cancels_22 (by decide) (fun h22 => ?_) (fun h22 => ?_)
      · skip
        have h22 : ¬ n < 1 := Int32.not_lt.mpr h22
        refine rh_aload_n hX dX8_cancels_27 rfl ?_
        refine rh_iload_n hX dX8_cancels_28 rfl ?_
        refine rh_iload_n hX dX8_cancels_29 rfl ?_
        refine rh_pV hX lk_X8_80 mvX8_sharesOf (fun l => c_X8_sharesOf l E _ _ _ _ _ _ _ _ _ _ _ _ _ _ _ _ _ _ _ _ _ _ _ _ _ _ _ _ _ _ _ _ _ _ _ _ _ _ hd td (by omega) (by omega)) ⟨rfl, rfl⟩ ⟨Nat.le_of_ble_eq_true rfl, Nat.le_of_ble_eq_true rfl⟩ [0, 1, 2, 3, 4, 5, 6, 7, 8, 9, 10, 11, 12] rfl rfl 0 rfl dX8_cancels_30 rfl rfl (Nat.le_of_ble_eq_true rfl) ?_
        refine rh_iload_n hX dX8_cancels_33 rfl ?_
        refine rh_icmp_ge (tgt := 40) hX dX8_cancels_34 (by decide) (fun h34 => ?_) (fun h34 => ?_)
        · skip
          have h34 : ¬ u (6 * hd + td) < n := Int32.not_lt.mpr h34
          refine rh_aload_n hX dX8_cancels_40 rfl ?_
          refine rh_uV hX lk_X8_133 mvX8_does (fun l => c_X8_does l E _ _ _ _ _ _ _ _ _ _ _ _ _ _ _ _ _ _ _ _ _ _ _ _ _ _ _ _ _ _ _ _ _ _ _ _ _ _ (by omega)) ⟨rfl, rfl⟩ ⟨Nat.le_of_ble_eq_true rfl, Nat.le_of_ble_eq_true rfl⟩ [0, 1, 2, 3, 4, 5, 6, 7, 8, 9, 10, 11, 12] rfl rfl 0 rfl dX8_cancels_41 rfl rfl (Nat.le_of_ble_eq_true rfl) rfl ?_
          dsimp only [List.cons_append, List.nil_append, List.set_cons_succ, List.set_cons_zero, vput]
          refine rh_aload_n hX dX8_cancels_44 rfl ?_
          refine rh_iload_n hX dX8_cancels_45 rfl ?_
          refine rh_iload_n hX dX8_cancels_46 rfl ?_
          refine rh_aload_n hX dX8_cancels_47 rfl ?_
          refine rh_iload_n hX dX8_cancels_48 rfl ?_
          refine rh_iload_n hX dX8_cancels_49 rfl ?_
          refine rh_pV hX lk_X8_80 mvX8_sharesOf (fun l => c_X8_sharesOf l E _ _ _ _ _ _ _ _ _ _ _ _ _ _ _ _ _ _ _ _ _ _ _ _ _ _ _ _ _ _ _ _ _ _ _ _ _ _ hd td (by omega) (by omega)) ⟨rfl, rfl⟩ ⟨Nat.le_of_ble_eq_true rfl, Nat.le_of_ble_eq_true rfl⟩ [0, 1, 2, 3, 4, 5, 6, 7, 8, 9, 10, 11, 12] rfl rfl 0 rfl dX8_cancels_50 rfl rfl (Nat.le_of_ble_eq_true rfl) ?_
          refine rh_iload_n hX dX8_cancels_53 rfl ?_
          refine rh_isub hX dX8_cancels_54 ?_
          refine rh_uV hX lk_X8_136 mvX8_has (fun l => c_X8_has l E _ _ _ _ _ _ _ _ _ _ _ _ _ _ _ _ _ _ _ _ _ _ _ _ _ _ _ _ _ _ _ _ _ _ _ _ _ _ hd td _ (by omega) (by omega)) ⟨rfl, rfl⟩ ⟨Nat.le_of_ble_eq_true rfl, Nat.le_of_ble_eq_true rfl⟩ [0, 1, 2, 3, 4, 5, 6, 7, 8, 9, 10, 11, 12] rfl rfl 0 rfl dX8_cancels_55 rfl rfl (Nat.le_of_ble_eq_true rfl) rfl ?_
          dsimp only [List.cons_append, List.nil_append, List.set_cons_succ, List.set_cons_zero, vput]
          refine rh_aload_n hX dX8_cancels_58 rfl ?_
          refine rh_pV hX lk_X8_143 mvX8_fullNow (fun l => c_X8_fullNow l E _ _ _ _ _ _ _ _ _ _ _ _ _ _ _ _ _ _ _ _ _ _ _ _ _ _ _ _ _ _ _ _ _ _ _ _ _ _ T (mOk_up hM (by omega) (by omega))) ⟨rfl, rfl⟩ ⟨Nat.le_of_ble_eq_true rfl, Nat.le_of_ble_eq_true rfl⟩ [0, 1, 2, 3, 4, 5, 6, 7, 8, 9, 10, 11, 12] rfl rfl 0 rfl dX8_cancels_59 rfl rfl (Nat.le_of_ble_eq_true rfl) ?_
          refine rh_l2i hX dX8_cancels_62 ?_
          exact rh_iret hX hR dX8_cancels_63 (by simp only [List.map_cons, List.map_nil, List.cons_append, List.nil_append]) ⟨by rw [y_cancels, if_neg h9, if_neg h17, if_neg h22, nI_clamp (show hd < 2 ^ 31 by omega), nI_clamp (show td < 2 ^ 31 by omega), if_neg h34] <;> rfl, (fun z hz => by rw [y_cancels, if_neg h9, if_neg h17, if_neg h22, nI_clamp (show hd < 2 ^ 31 by omega), nI_clamp (show td < 2 ^ 31 by omega), if_neg h34] at hz; cases hz; rfl), (fun hz => by rw [y_cancels, if_neg h9, if_neg h17, if_neg h22, nI_clamp (show hd < 2 ^ 31 by omega), nI_clamp (show td < 2 ^ 31 by omega), if_neg h34] at hz; cases hz)⟩
        · skip
          have h34 : u (6 * hd + td) < n := Int32.not_le.mp h34
          refine rh_bipush hX dX8_cancels_37 kb_m2 ?_
          exact rh_iret hX hR dX8_cancels_39 (by simp only [List.map_cons, List.map_nil, List.cons_append, List.nil_append]) (by first | exact ⟨by rw [y_cancels, if_neg h9, if_neg h17, if_neg h22, nI_clamp (show hd < 2 ^ 31 by omega), nI_clamp (show td < 2 ^ 31 by omega), if_pos h34] <;> rfl, (fun z hz => by rw [y_cancels, if_neg h9, if_neg h17, if_neg h22, nI_clamp (show hd < 2 ^ 31 by omega), nI_clamp (show td < 2 ^ 31 by omega), if_pos h34] at hz; cases hz), fun _ => rfl⟩)
      · skip
        have h22 : n < 1 := Int32.not_le.mp h22
        refine rh_iconst hX dX8_cancels_25 ki_m1 ?_
        exact rh_iret hX hR dX8_cancels_26 (by simp only [List.map_cons, List.map_nil, List.cons_append, List.nil_append]) (by first | exact ⟨by rw [y_cancels, if_pos h9] <;> rfl, (fun z hz => by rw [y_cancels, if_pos h9] at hz; cases hz), fun _ => rfl⟩ | exact ⟨by rw [y_cancels, if_neg h9, if_pos h17] <;> rfl, (fun z hz => by rw [y_cancels, if_neg h9, if_pos h17] at hz; cases hz), fun _ => rfl⟩ | exact ⟨by rw [y_cancels, if_neg h9, if_neg h17, if_pos h22] <;> rfl, (fun z hz => by rw [y_cancels, if_neg h9, if_neg h17, if_pos h22] at hz; cases hz), fun _ => rfl⟩)

set_option maxRecDepth 100000 in
set_option maxHeartbeats 4000000 in
theorem c_X8_lapses (l : Launch) (E : rhE) (B : Nat → Nat) (u : Nat → Int32) (kp : Nat → Int32) (ik : Int32) (ps : Nat → Int32) (pm : Nat) (dd : Int32) (tx : Nat → Int32) (ty : Nat) (rw : Nat → Int64) (rm : Nat) (th : Int32) (sz : Nat) (he : Nat) (wr : Int32) (mn : Nat → Int32) (vl : Int32) (tp : Int32) (lt : Int32) (ra : Int32) (pf : Int32) (pt : Int32) (pl : Int32) (pd : Int64) (prc : Int64) (ns : Int64) (tu : Nat) (ba : Int64) (na : Int64) (ca : Nat → Int64) (bo : Nat → Int32) (tr : Nat → Int64) (tH : Int32) (asd : Nat → Int32) (pa : Nat → Int64) (tg : Nat → Int64) (sd : Int64) (sr : Int64) (h n : Int32) (T : Nat) (hM : mOk u T) (hpm : pm ≤ 8)  : Ctr l E yX8_lapses cX8_lapses 3 (some .int) (rmL 6) [.ref (B 0), .int h, .int n] (wM E B u kp ik ps pm dd tx ty rw rm th sz he wr mn vl tp lt ra pf pt pl pd prc ns tu ba na ca bo tr tH asd pa tg sd sr) (fun r w => r = some (Value.int (y_lapses u h n).1) ∧ (∀ u1, (y_lapses u h n).2 = some u1 → w = (wM E B u1 kp ik (psDid ps pm u) (pmDid pm) (dd + 1) tx ty rw rm 0 sz he wr mn vl tp lt ra pf pt pl pd prc ns tu ba na ca bo tr tH u pa tg sd sr)) ∧ ((y_lapses u h n).2 = none → w = (wM E B u kp ik ps pm dd tx ty rw rm 0 sz he wr mn vl tp lt ra pf pt pl pd prc ns tu ba na ca bo tr tH asd pa tg sd sr))) := by
  refine Ctr.of (by decide) (Nat.le_of_ble_eq_true rfl) rfl rfl 0 ?_
  intro X hX hR
  obtain ⟨hT, hT1, hT6, hcv⟩ := id hM
  refine rh_aload_n hX dX8_lapses_0 rfl ?_
  refine rh_iconst hX dX8_lapses_1 ki_0 ?_
  refine rh_put hX gl_X8_48 0 dX8_lapses_2 rfl rfl rfl (Nat.le_of_ble_eq_true rfl) rfl ?_
  dsimp only [List.cons_append, List.nil_append, List.set_cons_succ, List.set_cons_zero, vput]
  refine rh_iload_n hX dX8_lapses_5 rfl ?_
  refine rh_pS hX lk_X8_140 msX8_isHolder (fun l => c_X8_isHolderH l E _) ⟨rfl, rfl⟩ ⟨Nat.le_of_ble_eq_true rfl, Nat.le_of_ble_eq_true rfl⟩ [] rfl rfl dX8_lapses_6 rfl rfl (Nat.le_of_ble_eq_true rfl) ?_
  refine rh_if_eq (tgt := 17) hX dX8_lapses_9 (by decide) (fun h9 => ?_) (fun h9 => ?_)
  · skip
    refine rh_iconst hX dX8_lapses_17 ki_m1 ?_
    exact rh_iret hX hR dX8_lapses_18 (by simp only [List.map_cons, List.map_nil, List.cons_append, List.nil_append]) (by first | exact ⟨by rw [y_lapses, if_pos h9] <;> rfl, (fun z hz => by rw [y_lapses, if_pos h9] at hz; cases hz), fun _ => rfl⟩ | exact ⟨by rw [y_lapses, if_neg h9, if_pos h14] <;> rfl, (fun z hz => by rw [y_lapses, if_neg h9, if_pos h14] at hz; cases hz), fun _ => rfl⟩)
  · skip
    obtain ⟨hd, rfl, hdl⟩ := xH_1 h9
    refine rh_iload_n hX dX8_lapses_12 rfl ?_
    refine rh_iconst hX dX8_lapses_13 ki_1 ?_
    refine rh_icmp_ge (tgt := 19) hX dX8_lapses_14 (by decide) (fun h14 => ?_) (fun h14 => ?_)
    · skip
      have h14 : ¬ n < 1 := Int32.not_lt.mpr h14
      refine rh_aload_n hX dX8_lapses_19 rfl ?_
      refine rh_get hX gl_X8_7 0 dX8_lapses_20 rfl rfl ?_
      refine rh_bipush hX dX8_lapses_23 kb_48 ?_
      refine rh_iload_n hX dX8_lapses_25 rfl ?_
      refine rh_iadd hX dX8_lapses_26 ?_
      refine rh_iaload hX 1 _ dX8_lapses_27 rfl (rn_a rn_c48 rfl) (by omega) (by decide) ?_
      refine rh_iload_n hX dX8_lapses_28 rfl ?_
      refine rh_icmp_ge (tgt := 35) hX dX8_lapses_29 (by decide) (fun h29 => ?_) (fun h29 => ?_)
      · skip
        have h29 : ¬ u (48 + hd) < n := Int32.not_lt.mpr h29
        refine rh_aload_n hX dX8_lapses_35 rfl ?_
        refine rh_uV hX lk_X8_133 mvX8_does (fun l => c_X8_does l E _ _ _ _ _ _ _ _ _ _ _ _ _ _ _ _ _ _ _ _ _ _ _ _ _ _ _ _ _ _ _ _ _ _ _ _ _ _ (by omega)) ⟨rfl, rfl⟩ ⟨Nat.le_of_ble_eq_true rfl, Nat.le_of_ble_eq_true rfl⟩ [0, 1, 2, 3, 4, 5, 6, 7, 8, 9, 10, 11, 12] rfl rfl 0 rfl dX8_lapses_36 rfl rfl (Nat.le_of_ble_eq_true rfl) rfl ?_
        dsimp only [List.cons_append, List.nil_append, List.set_cons_succ, List.set_cons_zero, vput]
        refine rh_aload_n hX dX8_lapses_39 rfl ?_
        refine rh_get hX gl_X8_7 0 dX8_lapses_40 rfl rfl ?_
        refine rh_bipush hX dX8_lapses_43 kb_48 ?_
        refine rh_iload_n hX dX8_lapses_45 rfl ?_
        refine rh_iadd hX dX8_lapses_46 ?_
        refine rh_dup2 hX dX8_lapses_47 rfl rfl ?_
        refine rh_iaload hX 1 _ dX8_lapses_48 rfl (rn_a rn_c48 rfl) (by omega) (by decide) ?_
        refine rh_iload_n hX dX8_lapses_49 rfl ?_
        refine rh_isub hX dX8_lapses_50 ?_
        refine rh_iastore hX 1 _ dX8_lapses_51 rfl (rn_a rn_c48 rfl) (by omega) (by decide) rfl ?_
        dsimp only [List.cons_append, List.nil_append, List.set_cons_succ, List.set_cons_zero, vput]
        refine rh_aload_n hX dX8_lapses_52 rfl ?_
        refine rh_get hX gl_X8_7 0 dX8_lapses_53 rfl rfl ?_
        refine rh_bipush hX dX8_lapses_56 kb_56 ?_
        refine rh_dup2 hX dX8_lapses_58 rfl rfl ?_
        refine rh_iaload hX 1 _ dX8_lapses_59 rfl rn_c56 (by omega) (by decide) ?_
        refine rh_iload_n hX dX8_lapses_60 rfl ?_
        refine rh_iadd hX dX8_lapses_61 ?_
        refine rh_iastore hX 1 _ dX8_lapses_62 rfl rn_c56 (by omega) (by decide) rfl ?_
        dsimp only [List.cons_append, List.nil_append, List.set_cons_succ, List.set_cons_zero, vput]
        refine rh_aload_n hX dX8_lapses_63 rfl ?_
        refine rh_get hX gl_X8_7 0 dX8_lapses_64 rfl rfl ?_
        refine rh_bipush hX dX8_lapses_67 kb_56 ?_
        refine rh_iaload hX 1 _ dX8_lapses_69 rfl rn_c56 (by omega) (by decide) ?_
        exact rh_iret hX hR dX8_lapses_70 (by simp only [List.map_cons, List.map_nil, List.cons_append, List.nil_append]) ⟨by rw [y_lapses, if_neg h9, if_neg h14, nI_clamp (show hd < 2 ^ 31 by omega), if_neg h29] <;> rfl, (fun z hz => by rw [y_lapses, if_neg h9, if_neg h14, nI_clamp (show hd < 2 ^ 31 by omega), if_neg h29] at hz; cases hz; rfl), (fun hz => by rw [y_lapses, if_neg h9, if_neg h14, nI_clamp (show hd < 2 ^ 31 by omega), if_neg h29] at hz; cases hz)⟩
      · skip
        have h29 : u (48 + hd) < n := Int32.not_le.mp h29
        refine rh_bipush hX dX8_lapses_32 kb_m2 ?_
        exact rh_iret hX hR dX8_lapses_34 (by simp only [List.map_cons, List.map_nil, List.cons_append, List.nil_append]) (by first | exact ⟨by rw [y_lapses, if_neg h9, if_neg h14, nI_clamp (show hd < 2 ^ 31 by omega), if_pos h29] <;> rfl, (fun z hz => by rw [y_lapses, if_neg h9, if_neg h14, nI_clamp (show hd < 2 ^ 31 by omega), if_pos h29] at hz; cases hz), fun _ => rfl⟩)
    · skip
      have h14 : n < 1 := Int32.not_le.mp h14
      refine rh_iconst hX dX8_lapses_17 ki_m1 ?_
      exact rh_iret hX hR dX8_lapses_18 (by simp only [List.map_cons, List.map_nil, List.cons_append, List.nil_append]) (by first | exact ⟨by rw [y_lapses, if_pos h9] <;> rfl, (fun z hz => by rw [y_lapses, if_pos h9] at hz; cases hz), fun _ => rfl⟩ | exact ⟨by rw [y_lapses, if_neg h9, if_pos h14] <;> rfl, (fun z hz => by rw [y_lapses, if_neg h9, if_pos h14] at hz; cases hz), fun _ => rfl⟩)

set_option maxRecDepth 100000 in
set_option maxHeartbeats 4000000 in
theorem c_X8_exercise (l : Launch) (E : rhE) (B : Nat → Nat) (u : Nat → Int32) (kp : Nat → Int32) (ik : Int32) (ps : Nat → Int32) (pm : Nat) (dd : Int32) (tx : Nat → Int32) (ty : Nat) (rw : Nat → Int64) (rm : Nat) (th : Int32) (sz : Nat) (he : Nat) (wr : Int32) (mn : Nat → Int32) (vl : Int32) (tp : Int32) (lt : Int32) (ra : Int32) (pf : Int32) (pt : Int32) (pl : Int32) (pd : Int64) (prc : Int64) (ns : Int64) (tu : Nat) (ba : Int64) (na : Int64) (ca : Nat → Int64) (bo : Nat → Int32) (tr : Nat → Int64) (tH : Int32) (asd : Nat → Int32) (pa : Nat → Int64) (tg : Nat → Int64) (sd : Int64) (sr : Int64) (h n : Int32) (T : Nat) (hM : mOk u T) (hpm : pm ≤ 8)  : Ctr l E yX8_exercise cX8_exercise 3 (some .int) (rmL 6) [.ref (B 0), .int h, .int n] (wM E B u kp ik ps pm dd tx ty rw rm th sz he wr mn vl tp lt ra pf pt pl pd prc ns tu ba na ca bo tr tH asd pa tg sd sr) (fun r w => r = some (Value.int (y_exercise u h n).1) ∧ (∀ u1, (y_exercise u h n).2 = some u1 → w = (wM E B u1 kp ik (psDid ps pm u) (pmDid pm) (dd + 1) tx ty rw rm 0 sz he wr mn vl tp lt ra pf pt pl pd prc ns tu ba na ca bo tr tH u pa tg sd sr)) ∧ ((y_exercise u h n).2 = none → w = (wM E B u kp ik ps pm dd tx ty rw rm 0 sz he wr mn vl tp lt ra pf pt pl pd prc ns tu ba na ca bo tr tH asd pa tg sd sr))) := by
  refine Ctr.of (by decide) (Nat.le_of_ble_eq_true rfl) rfl rfl 0 ?_
  intro X hX hR
  obtain ⟨hT, hT1, hT6, hcv⟩ := id hM
  refine rh_aload_n hX dX8_exercise_0 rfl ?_
  refine rh_iconst hX dX8_exercise_1 ki_0 ?_
  refine rh_put hX gl_X8_48 0 dX8_exercise_2 rfl rfl rfl (Nat.le_of_ble_eq_true rfl) rfl ?_
  dsimp only [List.cons_append, List.nil_append, List.set_cons_succ, List.set_cons_zero, vput]
  refine rh_iload_n hX dX8_exercise_5 rfl ?_
  refine rh_pS hX lk_X8_140 msX8_isHolder (fun l => c_X8_isHolderH l E _) ⟨rfl, rfl⟩ ⟨Nat.le_of_ble_eq_true rfl, Nat.le_of_ble_eq_true rfl⟩ [] rfl rfl dX8_exercise_6 rfl rfl (Nat.le_of_ble_eq_true rfl) ?_
  refine rh_if_eq (tgt := 17) hX dX8_exercise_9 (by decide) (fun h9 => ?_) (fun h9 => ?_)
  · skip
    refine rh_iconst hX dX8_exercise_17 ki_m1 ?_
    exact rh_iret hX hR dX8_exercise_18 (by simp only [List.map_cons, List.map_nil, List.cons_append, List.nil_append]) (by first | exact ⟨by rw [y_exercise, if_pos h9] <;> rfl, (fun z hz => by rw [y_exercise, if_pos h9] at hz; cases hz), fun _ => rfl⟩ | exact ⟨by rw [y_exercise, if_neg h9, if_pos h14] <;> rfl, (fun z hz => by rw [y_exercise, if_neg h9, if_pos h14] at hz; cases hz), fun _ => rfl⟩)
  · skip
    obtain ⟨hd, rfl, hdl⟩ := xH_1 h9
    refine rh_iload_n hX dX8_exercise_12 rfl ?_
    refine rh_iconst hX dX8_exercise_13 ki_1 ?_
    refine rh_icmp_ge (tgt := 19) hX dX8_exercise_14 (by decide) (fun h14 => ?_) (fun h14 => ?_)
    · skip
      have h14 : ¬ n < 1 := Int32.not_lt.mpr h14
      refine rh_aload_n hX dX8_exercise_19 rfl ?_
      refine rh_get hX gl_X8_7 0 dX8_exercise_20 rfl rfl ?_
      refine rh_bipush hX dX8_exercise_23 kb_48 ?_
      refine rh_iload_n hX dX8_exercise_25 rfl ?_
      refine rh_iadd hX dX8_exercise_26 ?_
      refine rh_iaload hX 1 _ dX8_exercise_27 rfl (rn_a rn_c48 rfl) (by omega) (by decide) ?_
      refine rh_iload_n hX dX8_exercise_28 rfl ?_
      refine rh_icmp_ge (tgt := 35) hX dX8_exercise_29 (by decide) (fun h29 => ?_) (fun h29 => ?_)
      · skip
        have h29 : ¬ u (48 + hd) < n := Int32.not_lt.mpr h29
        refine rh_aload_n hX dX8_exercise_35 rfl ?_
        refine rh_uV hX lk_X8_133 mvX8_does (fun l => c_X8_does l E _ _ _ _ _ _ _ _ _ _ _ _ _ _ _ _ _ _ _ _ _ _ _ _ _ _ _ _ _ _ _ _ _ _ _ _ _ _ (by omega)) ⟨rfl, rfl⟩ ⟨Nat.le_of_ble_eq_true rfl, Nat.le_of_ble_eq_true rfl⟩ [0, 1, 2, 3, 4, 5, 6, 7, 8, 9, 10, 11, 12] rfl rfl 0 rfl dX8_exercise_36 rfl rfl (Nat.le_of_ble_eq_true rfl) rfl ?_
        dsimp only [List.cons_append, List.nil_append, List.set_cons_succ, List.set_cons_zero, vput]
        refine rh_aload_n hX dX8_exercise_39 rfl ?_
        refine rh_get hX gl_X8_7 0 dX8_exercise_40 rfl rfl ?_
        refine rh_bipush hX dX8_exercise_43 kb_48 ?_
        refine rh_iload_n hX dX8_exercise_45 rfl ?_
        refine rh_iadd hX dX8_exercise_46 ?_
        refine rh_dup2 hX dX8_exercise_47 rfl rfl ?_
        refine rh_iaload hX 1 _ dX8_exercise_48 rfl (rn_a rn_c48 rfl) (by omega) (by decide) ?_
        refine rh_iload_n hX dX8_exercise_49 rfl ?_
        refine rh_isub hX dX8_exercise_50 ?_
        refine rh_iastore hX 1 _ dX8_exercise_51 rfl (rn_a rn_c48 rfl) (by omega) (by decide) rfl ?_
        dsimp only [List.cons_append, List.nil_append, List.set_cons_succ, List.set_cons_zero, vput]
        refine rh_aload_n hX dX8_exercise_52 rfl ?_
        refine rh_iload_n hX dX8_exercise_53 rfl ?_
        refine rh_iconst hX dX8_exercise_54 ki_0 ?_
        refine rh_aload_n hX dX8_exercise_55 rfl ?_
        refine rh_iload_n hX dX8_exercise_56 rfl ?_
        refine rh_iconst hX dX8_exercise_57 ki_0 ?_
        refine rh_pV hX lk_X8_80 mvX8_sharesOf (fun l => c_X8_sharesOf l E _ _ _ _ _ _ _ _ _ _ _ _ _ _ _ _ _ _ _ _ _ _ _ _ _ _ _ _ _ _ _ _ _ _ _ _ _ _ hd 0 (by omega) (by omega)) ⟨rfl, rfl⟩ ⟨Nat.le_of_ble_eq_true rfl, Nat.le_of_ble_eq_true rfl⟩ [0, 1, 2, 3, 4, 5, 6, 7, 8, 9, 10, 11, 12] rfl rfl 0 rfl dX8_exercise_58 rfl rfl (Nat.le_of_ble_eq_true rfl) ?_
        refine rh_iload_n hX dX8_exercise_61 rfl ?_
        refine rh_iadd hX dX8_exercise_62 ?_
        refine rh_uV hX lk_X8_136 mvX8_has (fun l => c_X8_has l E _ _ _ _ _ _ _ _ _ _ _ _ _ _ _ _ _ _ _ _ _ _ _ _ _ _ _ _ _ _ _ _ _ _ _ _ _ _ hd 0 _ (by omega) (by omega)) ⟨rfl, rfl⟩ ⟨Nat.le_of_ble_eq_true rfl, Nat.le_of_ble_eq_true rfl⟩ [0, 1, 2, 3, 4, 5, 6, 7, 8, 9, 10, 11, 12] rfl rfl 0 rfl dX8_exercise_63 rfl rfl (Nat.le_of_ble_eq_true rfl) rfl ?_
        dsimp only [List.cons_append, List.nil_append, List.set_cons_succ, List.set_cons_zero, vput]
        refine rh_aload_n hX dX8_exercise_66 rfl ?_
        refine rh_get hX gl_X8_7 0 dX8_exercise_67 rfl rfl ?_
        refine rh_bipush hX dX8_exercise_70 kb_48 ?_
        refine rh_iload_n hX dX8_exercise_72 rfl ?_
        refine rh_iadd hX dX8_exercise_73 ?_
        refine rh_iaload hX 1 _ dX8_exercise_74 rfl (rn_a rn_c48 rfl) (by omega) (by decide) ?_
        exact rh_iret hX hR dX8_exercise_75 (by simp only [List.map_cons, List.map_nil, List.cons_append, List.nil_append]) ⟨by rw [y_exercise, if_neg h9, if_neg h14, nI_clamp (show hd < 2 ^ 31 by omega), if_neg h29] <;> rfl, (fun z hz => by rw [y_exercise, if_neg h9, if_neg h14, nI_clamp (show hd < 2 ^ 31 by omega), if_neg h29] at hz; cases hz; rfl), (fun hz => by rw [y_exercise, if_neg h9, if_neg h14, nI_clamp (show hd < 2 ^ 31 by omega), if_neg h29] at hz; cases hz)⟩
      · skip
        have h29 : u (48 + hd) < n := Int32.not_le.mp h29
        refine rh_bipush hX dX8_exercise_32 kb_m2 ?_
        exact rh_iret hX hR dX8_exercise_34 (by simp only [List.map_cons, List.map_nil, List.cons_append, List.nil_append]) (by first | exact ⟨by rw [y_exercise, if_neg h9, if_neg h14, nI_clamp (show hd < 2 ^ 31 by omega), if_pos h29] <;> rfl, (fun z hz => by rw [y_exercise, if_neg h9, if_neg h14, nI_clamp (show hd < 2 ^ 31 by omega), if_pos h29] at hz; cases hz), fun _ => rfl⟩)
    · skip
      have h14 : n < 1 := Int32.not_le.mp h14
      refine rh_iconst hX dX8_exercise_17 ki_m1 ?_
      exact rh_iret hX hR dX8_exercise_18 (by simp only [List.map_cons, List.map_nil, List.cons_append, List.nil_append]) (by first | exact ⟨by rw [y_exercise, if_pos h9] <;> rfl, (fun z hz => by rw [y_exercise, if_pos h9] at hz; cases hz), fun _ => rfl⟩ | exact ⟨by rw [y_exercise, if_neg h9, if_pos h14] <;> rfl, (fun z hz => by rw [y_exercise, if_neg h9, if_pos h14] at hz; cases hz), fun _ => rfl⟩)

set_option maxRecDepth 100000 in
set_option maxHeartbeats 4000000 in
theorem c_X8_converts (l : Launch) (E : rhE) (B : Nat → Nat) (u : Nat → Int32) (kp : Nat → Int32) (ik : Int32) (ps : Nat → Int32) (pm : Nat) (dd : Int32) (tx : Nat → Int32) (ty : Nat) (rw : Nat → Int64) (rm : Nat) (th : Int32) (sz : Nat) (he : Nat) (wr : Int32) (mn : Nat → Int32) (vl : Int32) (tp : Int32) (lt : Int32) (ra : Int32) (pf : Int32) (pt : Int32) (pl : Int32) (pd : Int64) (prc : Int64) (ns : Int64) (tu : Nat) (ba : Int64) (na : Int64) (ca : Nat → Int64) (bo : Nat → Int32) (tr : Nat → Int64) (tH : Int32) (asd : Nat → Int32) (pa : Nat → Int64) (tg : Nat → Int64) (sd : Int64) (sr : Int64) (h t n : Int32) (T : Nat) (hM : mOk u T) (hpm : pm ≤ 8)  : Ctr l E yX8_converts cX8_converts 5 (some .int) (rmL 6) [.ref (B 0), .int h, .int t, .int n] (wM E B u kp ik ps pm dd tx ty rw rm th sz he wr mn vl tp lt ra pf pt pl pd prc ns tu ba na ca bo tr tH asd pa tg sd sr) (fun r w => r = some (Value.int (y_converts u T h t n).1) ∧ (∀ u1, (y_converts u T h t n).2 = some u1 → w = (wM E B u1 kp ik (psDid ps pm u) (pmDid pm) (dd + 1) tx ty rw rm 0 sz he wr mn vl tp lt ra pf pt pl pd prc ns tu ba na ca bo tr tH u pa tg sd sr)) ∧ ((y_converts u T h t n).2 = none → w = (wM E B u kp ik ps pm dd tx ty rw rm 0 sz he wr mn vl tp lt ra pf pt pl pd prc ns tu ba na ca bo tr tH asd pa tg sd sr))) := by
  refine Ctr.of (by decide) (Nat.le_of_ble_eq_true rfl) rfl rfl 1 ?_
  intro X hX hR
  obtain ⟨hT, hT1, hT6, hcv⟩ := id hM
  refine rh_aload_n hX dX8_converts_0 rfl ?_
  refine rh_iconst hX dX8_converts_1 ki_0 ?_
  refine rh_put hX gl_X8_48 0 dX8_converts_2 rfl rfl rfl (Nat.le_of_ble_eq_true rfl) rfl ?_
  dsimp only [List.cons_append, List.nil_append, List.set_cons_succ, List.set_cons_zero, vput]
  refine rh_iload_n hX dX8_converts_5 rfl ?_
  refine rh_pS hX lk_X8_140 msX8_isHolder (fun l => c_X8_isHolderH l E _) ⟨rfl, rfl⟩ ⟨Nat.le_of_ble_eq_true rfl, Nat.le_of_ble_eq_true rfl⟩ [] rfl rfl dX8_converts_6 rfl rfl (Nat.le_of_ble_eq_true rfl) ?_
  refine rh_if_eq (tgt := 25) hX dX8_converts_9 (by decide) (fun h9 => ?_) (fun h9 => ?_)
  · skip
    refine rh_iconst hX dX8_converts_25 ki_m1 ?_
    exact rh_iret hX hR dX8_converts_26 (by simp only [List.map_cons, List.map_nil, List.cons_append, List.nil_append]) (by first | exact ⟨by rw [y_converts, if_pos h9] <;> rfl, (fun z hz => by rw [y_converts, if_pos h9] at hz; cases hz), fun _ => rfl⟩ | exact ⟨by rw [y_converts, if_neg h9, if_pos h17] <;> rfl, (fun z hz => by rw [y_converts, if_neg h9, if_pos h17] at hz; cases hz), fun _ => rfl⟩ | exact ⟨by rw [y_converts, if_neg h9, if_neg h17, if_pos h22] <;> rfl, (fun z hz => by rw [y_converts, if_neg h9, if_neg h17, if_pos h22] at hz; cases hz), fun _ => rfl⟩)
  · skip
    obtain ⟨hd, rfl, hdl⟩ := xH_1 h9
    refine rh_aload_n hX dX8_converts_12 rfl ?_
    refine rh_iload_n hX dX8_converts_13 rfl ?_
    refine rh_pV hX lk_X8_162 mvX8_isRound (fun l => c_X8_isRound l E _ _ _ _ _ _ _ _ _ _ _ _ _ _ _ _ _ _ _ _ _ _ _ _ _ _ _ _ _ _ _ _ _ _ _ _ _ _ _ T hM) ⟨rfl, rfl⟩ ⟨Nat.le_of_ble_eq_true rfl, Nat.le_of_ble_eq_true rfl⟩ [0, 1, 2, 3, 4, 5, 6, 7, 8, 9, 10, 11, 12] rfl rfl 0 rfl dX8_converts_14 rfl rfl (Nat.le_of_ble_eq_true rfl) ?_
    refine rh_if_eq (tgt := 25) hX dX8_converts_17 (by decide) (fun h17 => ?_) (fun h17 => ?_)
    · skip
      refine rh_iconst hX dX8_converts_25 ki_m1 ?_
      exact rh_iret hX hR dX8_converts_26 (by simp only [List.map_cons, List.map_nil, List.cons_append, List.nil_append]) (by first | exact ⟨by rw [y_converts, if_pos h9] <;> rfl, (fun z hz => by rw [y_converts, if_pos h9] at hz; cases hz), fun _ => rfl⟩ | exact ⟨by rw [y_converts, if_neg h9, if_pos h17] <;> rfl, (fun z hz => by rw [y_converts, if_neg h9, if_pos h17] at hz; cases hz), fun _ => rfl⟩ | exact ⟨by rw [y_converts, if_neg h9, if_neg h17, if_pos h22] <;> rfl, (fun z hz => by rw [y_converts, if_neg h9, if_neg h17, if_pos h22] at hz; cases hz), fun _ => rfl⟩)
    · skip
      obtain ⟨td, rfl, htd1, htd⟩ := xSe_1 hT6 h17
      refine rh_iload_n hX dX8_converts_20 rfl ?_
      refine rh_iconst hX dX8_converts_21 ki_1 ?_
      refine rh_icmp_ge (tgt := 27) hX dX8_converts_22 (by decide) (fun h22 => ?_) (fun h22 => ?_)
      · skip
        have h22 : ¬ n < 1 := Int32.not_lt.mpr h22
        refine rh_aload_n hX dX8_converts_27 rfl ?_
        refine rh_iload_n hX dX8_converts_28 rfl ?_
        refine rh_iload_n hX dX8_converts_29 rfl ?_
        refine rh_pV hX lk_X8_80 mvX8_sharesOf (fun l => c_X8_sharesOf l E _ _ _ _ _ _ _ _ _ _ _ _ _ _ _ _ _ _ _ _ _ _ _ _ _ _ _ _ _ _ _ _ _ _ _ _ _ _ hd td (by omega) (by omega)) ⟨rfl, rfl⟩ ⟨Nat.le_of_ble_eq_true rfl, Nat.le_of_ble_eq_true rfl⟩ [0, 1, 2, 3, 4, 5, 6, 7, 8, 9, 10, 11, 12] rfl rfl 0 rfl dX8_converts_30 rfl rfl (Nat.le_of_ble_eq_true rfl) ?_
        refine rh_iload_n hX dX8_converts_33 rfl ?_
        refine rh_icmp_ge (tgt := 40) hX dX8_converts_34 (by decide) (fun h34 => ?_) (fun h34 => ?_)
        · skip
          have h34 : ¬ u (6 * hd + td) < n := Int32.not_lt.mpr h34
          refine rh_aload_n hX dX8_converts_40 rfl ?_
          refine rh_uV hX lk_X8_133 mvX8_does (fun l => c_X8_does l E _ _ _ _ _ _ _ _ _ _ _ _ _ _ _ _ _ _ _ _ _ _ _ _ _ _ _ _ _ _ _ _ _ _ _ _ _ _ (by omega)) ⟨rfl, rfl⟩ ⟨Nat.le_of_ble_eq_true rfl, Nat.le_of_ble_eq_true rfl⟩ [0, 1, 2, 3, 4, 5, 6, 7, 8, 9, 10, 11, 12] rfl rfl 0 rfl dX8_converts_41 rfl rfl (Nat.le_of_ble_eq_true rfl) rfl ?_
          dsimp only [List.cons_append, List.nil_append, List.set_cons_succ, List.set_cons_zero, vput]
          refine rh_aload_n hX dX8_converts_44 rfl ?_
          refine rh_iload_n hX dX8_converts_45 rfl ?_
          refine rh_iload_n hX dX8_converts_46 rfl ?_
          refine rh_pV hX lk_X8_84 mvX8_converted (fun l => c_X8_converted l E _ _ _ _ _ _ _ _ _ _ _ _ _ _ _ _ _ _ _ _ _ _ _ _ _ _ _ _ _ _ _ _ _ _ _ _ _ _ _ td (by omega) (fun q => hcv td q (by omega))) ⟨rfl, rfl⟩ ⟨Nat.le_of_ble_eq_true rfl, Nat.le_of_ble_eq_true rfl⟩ [0, 1, 2, 3, 4, 5, 6, 7, 8, 9, 10, 11, 12] rfl rfl 0 rfl dX8_converts_47 rfl rfl (Nat.le_of_ble_eq_true rfl) ?_
          refine rh_l2i hX dX8_converts_50 ?_
          refine rh_ist4 hX dX8_converts_51 (by decide) rfl ?_
          refine rh_aload_n hX dX8_converts_53 rfl ?_
          refine rh_iload_n hX dX8_converts_54 rfl ?_
          refine rh_iload_n hX dX8_converts_55 rfl ?_
          refine rh_aload_n hX dX8_converts_56 rfl ?_
          refine rh_iload_n hX dX8_converts_57 rfl ?_
          refine rh_iload_n hX dX8_converts_58 rfl ?_
          refine rh_pV hX lk_X8_80 mvX8_sharesOf (fun l => c_X8_sharesOf l E _ _ _ _ _ _ _ _ _ _ _ _ _ _ _ _ _ _ _ _ _ _ _ _ _ _ _ _ _ _ _ _ _ _ _ _ _ _ hd td (by omega) (by omega)) ⟨rfl, rfl⟩ ⟨Nat.le_of_ble_eq_true rfl, Nat.le_of_ble_eq_true rfl⟩ [0, 1, 2, 3, 4, 5, 6, 7, 8, 9, 10, 11, 12] rfl rfl 0 rfl dX8_converts_59 rfl rfl (Nat.le_of_ble_eq_true rfl) ?_
          refine rh_iload_n hX dX8_converts_62 rfl ?_
          refine rh_isub hX dX8_converts_63 ?_
          refine rh_uV hX lk_X8_136 mvX8_has (fun l => c_X8_has l E _ _ _ _ _ _ _ _ _ _ _ _ _ _ _ _ _ _ _ _ _ _ _ _ _ _ _ _ _ _ _ _ _ _ _ _ _ _ hd td _ (by omega) (by omega)) ⟨rfl, rfl⟩ ⟨Nat.le_of_ble_eq_true rfl, Nat.le_of_ble_eq_true rfl⟩ [0, 1, 2, 3, 4, 5, 6, 7, 8, 9, 10, 11, 12] rfl rfl 0 rfl dX8_converts_64 rfl rfl (Nat.le_of_ble_eq_true rfl) rfl ?_
          dsimp only [List.cons_append, List.nil_append, List.set_cons_succ, List.set_cons_zero, vput]
          refine rh_aload_n hX dX8_converts_67 rfl ?_
          refine rh_iload_n hX dX8_converts_68 rfl ?_
          refine rh_iconst hX dX8_converts_69 ki_0 ?_
          refine rh_aload_n hX dX8_converts_70 rfl ?_
          refine rh_iload_n hX dX8_converts_71 rfl ?_
          refine rh_iconst hX dX8_converts_72 ki_0 ?_
          refine rh_pV hX lk_X8_80 mvX8_sharesOf (fun l => c_X8_sharesOf l E _ _ _ _ _ _ _ _ _ _ _ _ _ _ _ _ _ _ _ _ _ _ _ _ _ _ _ _ _ _ _ _ _ _ _ _ _ _ hd 0 (by omega) (by omega)) ⟨rfl, rfl⟩ ⟨Nat.le_of_ble_eq_true rfl, Nat.le_of_ble_eq_true rfl⟩ [0, 1, 2, 3, 4, 5, 6, 7, 8, 9, 10, 11, 12] rfl rfl 0 rfl dX8_converts_73 rfl rfl (Nat.le_of_ble_eq_true rfl) ?_
          refine rh_iload hX dX8_converts_76 rfl ?_
          refine rh_iadd hX dX8_converts_78 ?_
          refine rh_uV hX lk_X8_136 mvX8_has (fun l => c_X8_has l E _ _ _ _ _ _ _ _ _ _ _ _ _ _ _ _ _ _ _ _ _ _ _ _ _ _ _ _ _ _ _ _ _ _ _ _ _ _ hd 0 _ (by omega) (by omega)) ⟨rfl, rfl⟩ ⟨Nat.le_of_ble_eq_true rfl, Nat.le_of_ble_eq_true rfl⟩ [0, 1, 2, 3, 4, 5, 6, 7, 8, 9, 10, 11, 12] rfl rfl 0 rfl dX8_converts_79 rfl rfl (Nat.le_of_ble_eq_true rfl) rfl ?_
          dsimp only [List.cons_append, List.nil_append, List.set_cons_succ, List.set_cons_zero, vput]
          refine rh_iload hX dX8_converts_82 rfl ?_
          exact rh_iret hX hR dX8_converts_84 (by simp only [List.map_cons, List.map_nil, List.cons_append, List.nil_append]) ⟨by rw [y_converts, if_neg h9, if_neg h17, if_neg h22, nI_clamp (show hd < 2 ^ 31 by omega), nI_clamp (show td < 2 ^ 31 by omega), if_neg h34] <;> rfl, (fun z hz => by rw [y_converts, if_neg h9, if_neg h17, if_neg h22, nI_clamp (show hd < 2 ^ 31 by omega), nI_clamp (show td < 2 ^ 31 by omega), if_neg h34] at hz; cases hz; rfl), (fun hz => by rw [y_converts, if_neg h9, if_neg h17, if_neg h22, nI_clamp (show hd < 2 ^ 31 by omega), nI_clamp (show td < 2 ^ 31 by omega), if_neg h34] at hz; cases hz)⟩
        · skip
          have h34 : u (6 * hd + td) < n := Int32.not_le.mp h34
          refine rh_bipush hX dX8_converts_37 kb_m2 ?_
          exact rh_iret hX hR dX8_converts_39 (by simp only [List.map_cons, List.map_nil, List.cons_append, List.nil_append]) (by first | exact ⟨by rw [y_converts, if_neg h9, if_neg h17, if_neg h22, nI_clamp (show hd < 2 ^ 31 by omega), nI_clamp (show td < 2 ^ 31 by omega), if_pos h34] <;> rfl, (fun z hz => by rw [y_converts, if_neg h9, if_neg h17, if_neg h22, nI_clamp (show hd < 2 ^ 31 by omega), nI_clamp (show td < 2 ^ 31 by omega), if_pos h34] at hz; cases hz), fun _ => rfl⟩)
      · skip
        have h22 : n < 1 := Int32.not_le.mp h22
        refine rh_iconst hX dX8_converts_25 ki_m1 ?_
        exact rh_iret hX hR dX8_converts_26 (by simp only [List.map_cons, List.map_nil, List.cons_append, List.nil_append]) (by first | exact ⟨by rw [y_converts, if_pos h9] <;> rfl, (fun z hz => by rw [y_converts, if_pos h9] at hz; cases hz), fun _ => rfl⟩ | exact ⟨by rw [y_converts, if_neg h9, if_pos h17] <;> rfl, (fun z hz => by rw [y_converts, if_neg h9, if_pos h17] at hz; cases hz), fun _ => rfl⟩ | exact ⟨by rw [y_converts, if_neg h9, if_neg h17, if_pos h22] <;> rfl, (fun z hz => by rw [y_converts, if_neg h9, if_neg h17, if_pos h22] at hz; cases hz), fun _ => rfl⟩)
