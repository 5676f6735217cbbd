/-- THE TEXT emptied -/
def clT (C : CT) : CT := (C.1, C.2.1, C.2.2.1, C.2.2.2.1, C.2.2.2.2.1, C.2.2.2.2.2.1, C.2.2.2.2.2.2.1, C.2.2.2.2.2.2.2.1, 0, C.2.2.2.2.2.2.2.2.2)
theorem clT_ok {C : CT} {T : Nat} (h : cOk C T) : cOk (clT C) T := ⟨h.1, h.2.1, h.2.2.1, h.2.2.2.1, h.2.2.2.2.1, Nat.zero_le _, h.2.2.2.2.2.2⟩
abbrev tNums (C : CT) : Bool × Nat × (Nat → Int64) := rNums C.2.2.2.2.2.2.2.1 C.2.2.2.2.2.2.2.2.1
abbrev tRound (C : CT) : Bool × Nat × TS := rrF C.2.2.2.2.2.2.2.1 C.2.2.2.2.2.2.2.2.1
def fdL (g : Nat → Int64) : Nat → Nat → Int64
  | 0 => cInit
  | i + 1 => va_up (fdL g i) (0 + i * 6 + 0) (cHeld (fdL g i) i 0 + g i)
termination_by i => i
theorem fdL_0 (g : Nat → Int64) : fdL g 0 = cInit := by rw [fdL]
theorem fdL_s (g : Nat → Int64) (i : Nat) : fdL g (i + 1) = va_up (fdL g i) (0 + i * 6 + 0) (cHeld (fdL g i) i 0 + g i) := by rw [fdL]
theorem fdL_at (g : Nat → Int64) (x : Nat) (hx : 48 ≤ x) : ∀ i, i ≤ 8 → fdL g i x = cInit x
  | 0, _ => by rw [fdL_0]
  | i + 1, h => by
    rw [fdL_s]
    unfold va_up
    rw [if_neg (by omega), fdL_at g x hx i (by omega)]
theorem fdL_T (g : Nat → Int64) (i : Nat) (h : i ≤ 8) : (fdL g i 171).toInt32 = nI 1 := by
  rw [fdL_at g 171 (by decide) i h]
  rfl
def x_founds (C : CT) : Int32 × CT := if (tNums C).1 = true then xDeed (clT C) (fdL (tNums C).2.2 8) 1 (cSize (fdL (tNums C).2.2 8) 1).toInt32 else (-21 - nI (tNums C).2.1, clT C)
def x_rt (C : CT) : Int32 := if (tRound C).1 = true then 0 else -21 - nI (tRound C).2.1

set_option maxRecDepth 100000 in
set_option maxHeartbeats 4000000 in
theorem c_X7_founds (l : Launch) (E : rhE) (A : Nat → Nat) (C : CT) (Z : ZT) (T : Nat) (hC : cOk C T) (hz : zOk Z) : Ctr l E yX7_founds cX7_founds 4 (some .int) (rmL 5) [.ref (A 0)] (wC E A C Z) (fun r w => ∃ Z1, r = some (Value.int (x_founds C).1) ∧ zOk Z1 ∧ w = wC E A (x_founds C).2 Z1) := by
  refine Ctr.of (by decide) (Nat.le_of_ble_eq_true rfl) rfl rfl 3 ?_
  intro X hX hR
  obtain ⟨hT, hT1, hT6, hnx, hud, hn, hrn⟩ := id hC
  refine rh_aload_n hX dX7_founds_0 rfl ?_
  refine rh_get hX gl_X7_33 0 dX7_founds_1 rfl rfl ?_
  refine rh_aload_n hX dX7_founds_4 rfl ?_
  refine rh_get hX gl_X7_65 0 dX7_founds_5 rfl rfl ?_
  refine rh_wV hX lk_X7_80 mvX6_readsNumbers (fun l => c_X6_readsNumbers l E _ _ _ _ _ _ _ (by omega)) ⟨rfl, rfl⟩ ⟨Nat.le_of_ble_eq_true rfl, Nat.le_of_ble_eq_true rfl⟩ [16, 17, 34] rfl rfl 16 rfl dX7_founds_8 rfl rfl (Nat.le_of_ble_eq_true rfl) rfl ?_
  dsimp only [List.cons_append, List.nil_append, List.set_cons_succ, List.set_cons_zero, vput]
  refine rh_istn1 hX dX7_founds_11 (by decide) rfl ?_
  refine rh_aload_n hX dX7_founds_12 rfl ?_
  refine rh_get hX gl_X7_33 0 dX7_founds_13 rfl rfl ?_
  refine rh_pV hX lk_X7_84 mvX6_position (fun l => c_X6_position l E _ _ _ _ _) ⟨rfl, rfl⟩ ⟨Nat.le_of_ble_eq_true rfl, Nat.le_of_ble_eq_true rfl⟩ [16, 17] rfl rfl 16 rfl dX7_founds_16 rfl rfl (Nat.le_of_ble_eq_true rfl) ?_
  refine rh_istn2 hX dX7_founds_19 (by decide) rfl ?_
  refine rh_aload_n hX dX7_founds_20 rfl ?_
  refine rh_get hX gl_X7_33 0 dX7_founds_21 rfl rfl ?_
  refine rh_uV hX lk_X7_88 mvX6_clear (fun l => c_X6_clear l E _ _ _ _ _) ⟨rfl, rfl⟩ ⟨Nat.le_of_ble_eq_true rfl, Nat.le_of_ble_eq_true rfl⟩ [16, 17] rfl rfl 16 rfl dX7_founds_24 rfl rfl (Nat.le_of_ble_eq_true rfl) rfl ?_
  dsimp only [List.cons_append, List.nil_append, List.set_cons_succ, List.set_cons_zero, vput]
  refine rh_iload_n hX dX7_founds_27 rfl ?_
  refine rh_if_ne (tgt := 36) hX dX7_founds_28 (by decide) (fun h28 => ?_) (fun h28 => ?_)
  · skip
    have hg : (tNums C).1 = true := Classical.not_not.mp (fun q => h28 (if_neg q))
    refine rh_aload_n hX dX7_founds_36 rfl ?_
    refine rh_get hX gl_X7_16 0 dX7_founds_37 rfl rfl ?_
    refine rh_uV hX lk_X7_91 mvX1_clear (fun l => c_X1_clear l E _ _ _) ⟨rfl, rfl⟩ ⟨Nat.le_of_ble_eq_true rfl, Nat.le_of_ble_eq_true rfl⟩ [3, 4] rfl rfl 3 rfl dX7_founds_40 rfl rfl (Nat.le_of_ble_eq_true rfl) rfl ?_
    dsimp only [List.cons_append, List.nil_append, List.set_cons_succ, List.set_cons_zero, vput]
    refine rh_iconst hX dX7_founds_43 ki_0 ?_
    refine rh_istn3 hX dX7_founds_44 (by decide) rfl ?_
    suffices hP0 : G X 45 [some (.ref (A 0)), some (.int (if (tNums C).1 = true then 1 else 0)), some (.int (nI (tNums C).2.1)), some (.int 0)] [] (wC E A (clT C) ((fdL (tNums C).2.2 0), (tNums C).2.1, Z.2.2.1, Z.2.2.2.1, Z.2.2.2.2.1, (tNums C).2.2, Z.2.2.2.2.2.2)) by rw [fdL_0] at hP0; exact hP0
    refine rh_loop (P := fun i => G X 45 [some (.ref (A 0)), some (.int (if (tNums C).1 = true then 1 else 0)), some (.int (nI (tNums C).2.1)), some (.int (nI i))] [] (wC E A (clT C) ((fdL (tNums C).2.2 i), (tNums C).2.1, Z.2.2.1, Z.2.2.2.1, Z.2.2.2.2.1, (tNums C).2.2, Z.2.2.2.2.2.2))) (0) (8) (by omega) ?_ ?_
    · skip
      have hTd : ((fdL (tNums C).2.2 8) 171).toInt32 = nI 1 := fdL_T _ 8 (Nat.le_refl 8)
      refine rh_iload_n hX dX7_founds_45 rfl ?_
      refine rh_bipush hX dX7_founds_46 kb_8 ?_
      refine rh_icmp_ge_t (tgt := 72) hX dX7_founds_48 (by decide) (nI_le (a := 8) (b := 8) (Nat.le_refl 8) (by decide)) ?_
      refine rh_aload_n hX dX7_founds_72 rfl ?_
      refine rh_aW hX lk_X7_96 mvX7_accepts (fun l => c_X7_accepts l E A (clT C) ((fdL (tNums C).2.2 8), (tNums C).2.1, Z.2.2.1, Z.2.2.2.1, Z.2.2.2.2.1, (tNums C).2.2, Z.2.2.2.2.2.2) T (clT_ok hC) 1 hTd (by omega)) ⟨rfl, rfl⟩ ⟨Nat.le_of_ble_eq_true rfl, Nat.le_of_ble_eq_true rfl⟩ 0 rfl dX7_founds_73 rfl rfl (Nat.le_of_ble_eq_true rfl) ?_
      refine rh_if_eq (tgt := 90) hX dX7_founds_76 (by decide) (fun hx => ?_) (fun hx => ?_)
      · skip
        have hx : 1000000000 < cSize (fdL (tNums C).2.2 8) 1 := Classical.not_not.mp (fun q => absurd (show (if 1000000000 < cSize (fdL (tNums C).2.2 8) 1 then (0 : Int32) else 1) = 0 from hx) (by rw [if_neg q]; decide))
        rw [if_pos (show 1000000000 < cSize ((((fdL (tNums C).2.2 8), (tNums C).2.1, Z.2.2.1, Z.2.2.2.1, Z.2.2.2.2.1, (tNums C).2.2, Z.2.2.2.2.2.2) : ZT).1) 1 from hx)]
        refine rh_bipush hX dX7_founds_90 kb_m9 ?_
        exact rh_iret hX hR dX7_founds_92 (by simp only [List.map_cons, List.map_nil, List.cons_append, List.nil_append]) (by first | exact ⟨((fdL (tNums C).2.2 8), (tNums C).2.1, Z.2.2.1, Z.2.2.2.1, Z.2.2.2.2.1, (tNums C).2.2, Z.2.2.2.2.2.2), by rw [x_founds, if_pos hg, xDeed, if_neg hx] <;> rfl, hz, by rw [x_founds, if_pos hg, xDeed, if_neg hx] <;> rfl⟩ | exact ⟨((fdL (tNums C).2.2 8), (tNums C).2.1, Z.2.2.1, Z.2.2.2.1, Z.2.2.2.2.1, (tNums C).2.2, Z.2.2.2.2.2.2), by rw [x_founds, if_pos hg, xDeed, if_pos hx] <;> rfl, hz, by rw [x_founds, if_pos hg, xDeed, if_pos hx] <;> rfl⟩)
      · skip
        have hx : ¬ 1000000000 < cSize (fdL (tNums C).2.2 8) 1 := fun q => hx (show (if 1000000000 < cSize (fdL (tNums C).2.2 8) 1 then (0 : Int32) else 1) = 0 from if_pos q)
        rw [if_neg (show ¬ 1000000000 < cSize ((((fdL (tNums C).2.2 8), (tNums C).2.1, Z.2.2.1, Z.2.2.2.1, Z.2.2.2.2.1, (tNums C).2.2, Z.2.2.2.2.2.2) : ZT).1) 1 from hx)]
        refine rh_aload_n hX dX7_founds_79 rfl ?_
        refine rh_get hX gl_X7_12 0 dX7_founds_80 rfl rfl ?_
        refine rh_pV hX lk_X7_100 mvX1_size (fun l => c_X1_size l E _ _ _ 1 hTd (by omega)) ⟨rfl, rfl⟩ ⟨Nat.le_of_ble_eq_true rfl, Nat.le_of_ble_eq_true rfl⟩ [1, 2] rfl rfl 1 rfl dX7_founds_83 rfl rfl (Nat.le_of_ble_eq_true rfl) ?_
        refine rh_l2i hX dX7_founds_86 ?_
        refine rh_goto (tgt := 92) hX dX7_founds_87 (by decide) ?_
        exact rh_iret hX hR dX7_founds_92 (by simp only [List.map_cons, List.map_nil, List.cons_append, List.nil_append]) (by first | exact ⟨((fdL (tNums C).2.2 8), (tNums C).2.1, Z.2.2.1, Z.2.2.2.1, Z.2.2.2.2.1, (tNums C).2.2, Z.2.2.2.2.2.2), by rw [x_founds, if_pos hg, xDeed, if_neg hx] <;> rfl, hz, by rw [x_founds, if_pos hg, xDeed, if_neg hx] <;> rfl⟩ | exact ⟨((fdL (tNums C).2.2 8), (tNums C).2.1, Z.2.2.1, Z.2.2.2.1, Z.2.2.2.2.1, (tNums C).2.2, Z.2.2.2.2.2.2), by rw [x_founds, if_pos hg, xDeed, if_pos hx] <;> rfl, hz, by rw [x_founds, if_pos hg, xDeed, if_pos hx] <;> rfl⟩)
    · intro i hi0 hi ih
      refine rh_iload_n hX dX7_founds_45 rfl ?_
      refine rh_bipush hX dX7_founds_46 kb_8 ?_
      refine rh_icmp_ge_f (tgt := 72) hX dX7_founds_48 (by decide) (nI_ge (b := 8) hi (by decide)) ?_
      refine rh_aload_n hX dX7_founds_51 rfl ?_
      refine rh_get hX gl_X7_16 0 dX7_founds_52 rfl rfl ?_
      refine rh_iload_n hX dX7_founds_55 rfl ?_
      refine rh_iconst hX dX7_founds_56 ki_0 ?_
      refine rh_aload_n hX dX7_founds_57 rfl ?_
      refine rh_get hX gl_X7_65 0 dX7_founds_58 rfl rfl ?_
      refine rh_iload_n hX dX7_founds_61 rfl ?_
      refine rh_laload hX 34 _ dX7_founds_62 rfl rfl (by omega) (by decide) ?_
      refine rh_uV hX lk_X7_92 mvX1_addHeld (fun l => c_X1_addHeld l E _ _ _ i 0 _ (by omega) (by omega)) ⟨rfl, rfl⟩ ⟨Nat.le_of_ble_eq_true rfl, Nat.le_of_ble_eq_true rfl⟩ [3, 4] rfl rfl 3 rfl dX7_founds_63 rfl rfl (Nat.le_of_ble_eq_true rfl) rfl ?_
      dsimp only [List.cons_append, List.nil_append, List.set_cons_succ, List.set_cons_zero, vput]
      refine rh_inc3 hX dX7_founds_66 (by decide) rfl (rn_i1 _) ?_
      refine rh_goto (tgt := 45) hX dX7_founds_69 (by decide) ?_
      rw [fdL_s] at ih
      exact ih
  · skip
    have hg : ¬ (tNums C).1 = true := fun q => absurd h28 (by rw [if_pos q]; decide)
    refine rh_bipush hX dX7_founds_31 kb_m21 ?_
    refine rh_iload_n hX dX7_founds_33 rfl ?_
    refine rh_isub hX dX7_founds_34 ?_
    exact rh_iret hX hR dX7_founds_35 (by simp only [List.map_cons, List.map_nil, List.cons_append, List.nil_append]) ⟨(Z.1, (tNums C).2.1, Z.2.2.1, Z.2.2.2.1, Z.2.2.2.2.1, (tNums C).2.2, Z.2.2.2.2.2.2), by rw [x_founds, if_neg hg], hz, by rw [x_founds, if_neg hg]; rfl⟩

set_option maxRecDepth 100000 in
set_option maxHeartbeats 4000000 in
theorem c_X7_readTerms (l : Launch) (E : rhE) (A : Nat → Nat) (C : CT) (Z : ZT) (T : Nat) (hC : cOk C T)  : Ctr l E yX7_readTerms cX7_readTerms 3 (some .int) (rmL 8) [.ref (A 0)] (wC E A C Z) (One (some (.int (x_rt C))) (wC E A (C.1, C.2.1, C.2.2.1, C.2.2.2.1, C.2.2.2.2.1, C.2.2.2.2.2.1, C.2.2.2.2.2.2.1, C.2.2.2.2.2.2.2.1, 0, C.2.2.2.2.2.2.2.2.2) (Z.1, (tRound C).2.1, (tRound C).2.2, Z.2.2.2))) := by
  refine Ctr.of (by decide) (Nat.le_of_ble_eq_true rfl) rfl rfl 2 ?_
  intro X hX hR
  obtain ⟨hT, hT1, hT6, hnx, hud, hn, hrn⟩ := id hC
  refine rh_aload_n hX dX7_readTerms_0 rfl ?_
  refine rh_get hX gl_X7_33 0 dX7_readTerms_1 rfl rfl ?_
  refine rh_aload_n hX dX7_readTerms_4 rfl ?_
  refine rh_get hX gl_X7_47 0 dX7_readTerms_5 rfl rfl ?_
  refine rh_wV hX lk_X7_379 mvX6_readsRound (fun l => c_X6_readsRound l E _ _ _ _ _ _ _ _ _ (by omega)) ⟨rfl, rfl⟩ ⟨Nat.le_of_ble_eq_true rfl, Nat.le_of_ble_eq_true rfl⟩ [16, 17, 20, 21, 22] rfl rfl 16 rfl dX7_readTerms_8 rfl rfl (Nat.le_of_ble_eq_true rfl) rfl ?_
  dsimp only [List.cons_append, List.nil_append, List.set_cons_succ, List.set_cons_zero, vput]
  refine rh_istn1 hX dX7_readTerms_11 (by decide) rfl ?_
  refine rh_aload_n hX dX7_readTerms_12 rfl ?_
  refine rh_get hX gl_X7_33 0 dX7_readTerms_13 rfl rfl ?_
  refine rh_pV hX lk_X7_84 mvX6_position (fun l => c_X6_position l E _ _ _ _ _) ⟨rfl, rfl⟩ ⟨Nat.le_of_ble_eq_true rfl, Nat.le_of_ble_eq_true rfl⟩ [16, 17] rfl rfl 16 rfl dX7_readTerms_16 rfl rfl (Nat.le_of_ble_eq_true rfl) ?_
  refine rh_istn2 hX dX7_readTerms_19 (by decide) rfl ?_
  refine rh_aload_n hX dX7_readTerms_20 rfl ?_
  refine rh_get hX gl_X7_33 0 dX7_readTerms_21 rfl rfl ?_
  refine rh_uV hX lk_X7_88 mvX6_clear (fun l => c_X6_clear l E _ _ _ _ _) ⟨rfl, rfl⟩ ⟨Nat.le_of_ble_eq_true rfl, Nat.le_of_ble_eq_true rfl⟩ [16, 17] rfl rfl 16 rfl dX7_readTerms_24 rfl rfl (Nat.le_of_ble_eq_true rfl) rfl ?_
  dsimp only [List.cons_append, List.nil_append, List.set_cons_succ, List.set_cons_zero, vput]
  refine rh_iload_n hX dX7_readTerms_27 rfl ?_
  refine rh_if_eq (tgt := 35) hX dX7_readTerms_28 (by decide) (fun h28 => ?_) (fun h28 => ?_)
  · skip
    have hg : ¬ (tRound C).1 = true := fun q => absurd h28 (by rw [if_pos q]; decide)
    refine rh_bipush hX dX7_readTerms_35 kb_m21 ?_
    refine rh_iload_n hX dX7_readTerms_37 rfl ?_
    refine rh_isub hX dX7_readTerms_38 ?_
    exact rh_iret hX hR dX7_readTerms_39 (by simp only [List.map_cons, List.map_nil, List.cons_append, List.nil_append]) ⟨by first | (rw [x_rt, if_pos hg]; done) | (rw [x_rt, if_neg hg]; done), rfl⟩
  · skip
    have hg : (tRound C).1 = true := Classical.not_not.mp (fun q => h28 (if_neg q))
    refine rh_iconst hX dX7_readTerms_31 ki_0 ?_
    refine rh_goto (tgt := 39) hX dX7_readTerms_32 (by decide) ?_
    exact rh_iret hX hR dX7_readTerms_39 (by simp only [List.map_cons, List.map_nil, List.cons_append, List.nil_append]) ⟨by first | (rw [x_rt, if_pos hg]; done) | (rw [x_rt, if_neg hg]; done), rfl⟩

abbrev tdRow (C : CT) (Z : ZT) : CT := setRow C (va_up (va_up (va_up C.2.2.2.2.2.2.2.2.2.1 0 Z.2.2.2.1.2.2.2.2.2.2.2.2.2.1) (0 + 1) Z.2.2.2.1.2.2.2.2.2.2.2.2.2.2.1.toInt64) (0 + 1 + 1) Z.2.2.2.1.2.2.2.2.2.2.2.2.2.2.2) (0 + 1 + 1 + 1)

set_option maxRecDepth 100000 in
set_option maxHeartbeats 4000000 in
theorem c_X7_tellDeal (l : Launch) (E : rhE) (A : Nat → Nat) (C : CT) (Z : ZT)  : Ctr l E yX7_tellDeal cX7_tellDeal 1 none (rmL 1) [.ref (A 0)] (wC E A C Z) (One none (wC E A (tdRow C Z) Z)) := by
  refine Ctr.of (by decide) (Nat.le_of_ble_eq_true rfl) rfl rfl 0 ?_
  intro X hX hR
  refine rh_aload_n hX dX7_tellDeal_0 rfl ?_
  refine rh_get hX gl_X7_40 0 dX7_tellDeal_1 rfl rfl ?_
  refine rh_uV hX lk_X7_184 mvX3_clear (fun l => c_X3_clear l E _ _ _ _) ⟨rfl, rfl⟩ ⟨Nat.le_of_ble_eq_true rfl, Nat.le_of_ble_eq_true rfl⟩ [18, 19] rfl rfl 18 rfl dX7_tellDeal_4 rfl rfl (Nat.le_of_ble_eq_true rfl) rfl ?_
  dsimp only [List.cons_append, List.nil_append, List.set_cons_succ, List.set_cons_zero, vput]
  refine rh_aload_n hX dX7_tellDeal_7 rfl ?_
  refine rh_get hX gl_X7_40 0 dX7_tellDeal_8 rfl rfl ?_
  refine rh_aload_n hX dX7_tellDeal_11 rfl ?_
  refine rh_get hX gl_X7_54 0 dX7_tellDeal_12 rfl rfl ?_
  refine rh_get hX gl_X7_383 23 dX7_tellDeal_15 rfl rfl ?_
  refine rh_uV hX lk_X7_181 mvX3_tell (fun l => c_X3_tell l E _ _ _ 0 _ (by omega)) ⟨rfl, rfl⟩ ⟨Nat.le_of_ble_eq_true rfl, Nat.le_of_ble_eq_true rfl⟩ [18, 19] rfl rfl 18 rfl dX7_tellDeal_18 rfl rfl (Nat.le_of_ble_eq_true rfl) rfl ?_
  dsimp only [List.cons_append, List.nil_append, List.set_cons_succ, List.set_cons_zero, vput]
  refine rh_aload_n hX dX7_tellDeal_21 rfl ?_
  refine rh_get hX gl_X7_40 0 dX7_tellDeal_22 rfl rfl ?_
  refine rh_aload_n hX dX7_tellDeal_25 rfl ?_
  refine rh_get hX gl_X7_54 0 dX7_tellDeal_26 rfl rfl ?_
  refine rh_get hX gl_X7_386 23 dX7_tellDeal_29 rfl rfl ?_
  refine rh_i2l hX dX7_tellDeal_32 ?_
  refine rh_uV hX lk_X7_181 mvX3_tell (fun l => c_X3_tell l E _ _ _ (0 + 1) _ (by omega)) ⟨rfl, rfl⟩ ⟨Nat.le_of_ble_eq_true rfl, Nat.le_of_ble_eq_true rfl⟩ [18, 19] rfl rfl 18 rfl dX7_tellDeal_33 rfl rfl (Nat.le_of_ble_eq_true rfl) rfl ?_
  dsimp only [List.cons_append, List.nil_append, List.set_cons_succ, List.set_cons_zero, vput]
  refine rh_aload_n hX dX7_tellDeal_36 rfl ?_
  refine rh_get hX gl_X7_40 0 dX7_tellDeal_37 rfl rfl ?_
  refine rh_aload_n hX dX7_tellDeal_40 rfl ?_
  refine rh_get hX gl_X7_54 0 dX7_tellDeal_41 rfl rfl ?_
  refine rh_get hX gl_X7_191 23 dX7_tellDeal_44 rfl rfl ?_
  refine rh_uV hX lk_X7_181 mvX3_tell (fun l => c_X3_tell l E _ _ _ (0 + 1 + 1) _ (by omega)) ⟨rfl, rfl⟩ ⟨Nat.le_of_ble_eq_true rfl, Nat.le_of_ble_eq_true rfl⟩ [18, 19] rfl rfl 18 rfl dX7_tellDeal_47 rfl rfl (Nat.le_of_ble_eq_true rfl) rfl ?_
  dsimp only [List.cons_append, List.nil_append, List.set_cons_succ, List.set_cons_zero, vput]
  exact rh_vret hX hR dX7_tellDeal_50 (by simp only [List.map_cons, List.map_nil, List.cons_append, List.nil_append]) ⟨rfl, rfl⟩
