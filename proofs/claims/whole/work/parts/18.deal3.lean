/-- the new class: its terms so far -/
def acA (f : Nat → Int64) (T : Nat) (fc : Nat → Int64) (w : Nat) : Nat → Int64 := fun x => if x = 171 then (nI T + 1).toInt64 else if 104 + T * 11 + 2 ≤ x ∧ x < 104 + T * 11 + w then fc (x - (104 + T * 11)) else f x
theorem acA_2 (f : Nat → Int64) (T : Nat) (fc : Nat → Int64) : va_up f 171 (nI T + 1).toInt64 = acA f T fc 2 := by
  funext x
  unfold va_up acA
  by_cases e : x = 171
  · rw [if_pos e, if_pos e]
  · rw [if_neg e, if_neg e, if_neg (by omega)]
theorem acA_s (f : Nat → Int64) (T : Nat) (fc : Nat → Int64) (w : Nat) (hT : T < 6) (h2 : 2 ≤ w) (hw : w < 6) : va_up (acA f T fc w) (104 + T * 11 + w) (fc w) = acA f T fc (w + 1) := by
  funext x
  unfold va_up acA
  by_cases e : x = 104 + T * 11 + w
  · rw [if_pos e, if_neg (by omega), if_pos (by omega), e, show 104 + T * 11 + w - (104 + T * 11) = w by omega]
  · rw [if_neg e]
    by_cases h1 : x = 171
    · rw [if_pos h1, if_pos h1]
    · rw [if_neg h1, if_neg h1]
      by_cases h : 104 + T * 11 + 2 ≤ x ∧ x < 104 + T * 11 + w
      · rw [if_pos h, if_pos (by omega)]
      · rw [if_neg h, if_neg (by omega)]
def acB (f : Nat → Int64) (T : Nat) (fc : Nat → Int64) (pr vl sm is tn fl : Int64) : Nat → Int64 := va_up (va_up (va_up (va_up (va_up (va_up (va_up (acA f T fc 6) (104 + T * 11 + 0) pr) (104 + T * 11 + 1) pr) (104 + T * 11 + 6) vl) (104 + T * 11 + 7) sm) (104 + T * 11 + 8) is) (104 + T * 11 + 9) tn) (104 + T * 11 + 10) fl
def acC (fB : Nat → Int64) (T : Nat) (nws mn : Nat → Int64) (i : Nat) : Nat → Int64 := fun x => if x < 48 ∧ x % 6 = T ∧ x / 6 < i then fB x + nws (x / 6) else if 48 ≤ x ∧ x < 96 ∧ (x - 48) % 6 = T ∧ (x - 48) / 6 < i then mn ((x - 48) / 6) else fB x
theorem acC_0 (fB : Nat → Int64) (T : Nat) (nws mn : Nat → Int64) : acC fB T nws mn 0 = fB := by
  funext x
  unfold acC
  rw [if_neg (by omega), if_neg (by omega)]
theorem acC_s (fB : Nat → Int64) (T : Nat) (nws mn : Nat → Int64) (i : Nat) (hT : T < 6) (hi : i < 8) : va_up (va_up (acC fB T nws mn i) (0 + i * 6 + T) (cHeld (acC fB T nws mn i) i T + nws i)) (48 + i * 6 + T) (mn i) = acC fB T nws mn (i + 1) := by
  have e0 : cHeld (acC fB T nws mn i) i T = fB (0 + i * 6 + T) := by
    unfold cHeld acC
    rw [if_neg (by omega), if_neg (by omega)]
  rw [e0]
  funext x
  unfold va_up acC
  by_cases x1 : x = 48 + i * 6 + T
  · rw [if_pos x1, if_neg (by omega), if_pos (by omega), x1, show (48 + i * 6 + T - 48) / 6 = i by omega]
  · rw [if_neg x1]
    by_cases x0 : x = 0 + i * 6 + T
    · rw [if_pos x0, if_pos (by omega), x0, show (0 + i * 6 + T) / 6 = i by omega]
    · rw [if_neg x0]
      by_cases h : x < 48 ∧ x % 6 = T ∧ x / 6 < i
      · rw [if_pos h, if_pos (by omega)]
      · rw [if_neg h, if_neg (show ¬ (x < 48 ∧ x % 6 = T ∧ x / 6 < i + 1) by omega)]
        by_cases h2 : 48 ≤ x ∧ x < 96 ∧ (x - 48) % 6 = T ∧ (x - 48) / 6 < i
        · rw [if_pos h2, if_pos (by omega)]
        · rw [if_neg h2, if_neg (by omega)]
/-- the house behind a round -/
def acF (f : Nat → Int64) (T : Nat) (fc mn : Nat → Int64) (pr vl sm is tn fl : Int64) : Nat → Int64 := acC (acB f T fc pr vl sm is tn fl) T (fun h => cQuot (10000 * mn h) pr) mn 8

set_option maxRecDepth 100000 in
set_option maxHeartbeats 4000000 in
theorem c_X0_addsClass (l : Launch) (E : rhE) (o ho ha ac al an : Nat) (f cvs lst : Nat → Int64) (ls : Int32) (pA bA nA pr is : Int64) (tn : Int32) (fl : Int64) (to ta tb : Nat) (vl tp : Int64) (lt : Int32) (fc mn : Nat → Int64) (sm : Int64) (T : Nat) (hT : (f 171).toInt32 = nI T) (hT6 : T ≤ 6) (hT1 : 1 ≤ T) (hT5 : T < 6) : Ctr l E yX0_addsClass cX0_addsClass 4 none (rmL 2) [.ref o, .ref to] (wD E o ho ha ac al an f cvs lst (fun h => cQuot (10000 * mn h) pr) ls pA bA nA pr is tn fl ++ wT E to ta tb vl tp lt fc mn sm) (One none (wD E o ho ha ac al an (acF f T fc mn pr vl sm is tn.toInt64 fl) cvs lst (fun h => cQuot (10000 * mn h) pr) ls pA bA nA pr is tn fl ++ wT E to ta tb vl tp lt fc mn sm)) := by
  refine Ctr.of (by decide) (Nat.le_of_ble_eq_true rfl) rfl rfl 2 ?_
  intro X hX hR
  refine rh_aload_n hX dX0_addsClass_0 rfl ?_
  refine rh_get hX gl_X0_12 0 dX0_addsClass_1 rfl rfl ?_
  refine rh_wV hX lk_X0_171 mvX1_addType (fun l => c_X1_addType l E _ _ _ T hT hT6 hT1 hT5) ⟨rfl, rfl⟩ ⟨Nat.le_of_ble_eq_true rfl, Nat.le_of_ble_eq_true rfl⟩ [1, 2] rfl rfl 1 rfl dX0_addsClass_4 rfl rfl (Nat.le_of_ble_eq_true rfl) rfl ?_
  dsimp only [List.cons_append, List.nil_append, List.set_cons_succ, List.set_cons_zero, vput]
  refine rh_istn2 hX dX0_addsClass_7 (by decide) rfl ?_
  refine rh_iload_n hX dX0_addsClass_8 rfl ?_
  refine rh_iconst hX dX0_addsClass_9 ki_1 ?_
  refine rh_icmp_ge_t (tgt := 14) hX dX0_addsClass_10 (by decide) (nI_le (a := 1) hT1 (by omega)) ?_
  refine rh_iconst hX dX0_addsClass_14 ki_2 ?_
  refine rh_istn3 hX dX0_addsClass_15 (by decide) rfl ?_
  rw [acA_2 f T fc]
  refine rh_loop (P := fun w => G X 16 [some (.ref o), some (.ref to), some (.int (nI T)), some (.int (nI w))] [] (wD E o ho ha ac al an (acA f T fc w) cvs lst (fun h => cQuot (10000 * mn h) pr) ls pA bA nA pr is tn fl ++ wT E to ta tb vl tp lt fc mn sm)) (2) (6) (by omega) ?_ ?_
  · skip
    refine rh_iload_n hX dX0_addsClass_16 rfl ?_
    refine rh_iconst hX dX0_addsClass_17 ki_5 ?_
    refine rh_icmp_gt_t (tgt := 42) hX dX0_addsClass_18 (by decide) (by decide) ?_
    refine rh_aload_n hX dX0_addsClass_42 rfl ?_
    refine rh_get hX gl_X0_12 0 dX0_addsClass_43 rfl rfl ?_
    refine rh_iload_n hX dX0_addsClass_46 rfl ?_
    refine rh_iconst hX dX0_addsClass_47 ki_0 ?_
    refine rh_aload_n hX dX0_addsClass_48 rfl ?_
    refine rh_get hX gl_X0_117 0 dX0_addsClass_49 rfl rfl ?_
    refine rh_uV hX lk_X0_87 mvX1_setFact (fun l => c_X1_setFact l E _ _ _ _ 0 _ (by omega) (by omega)) ⟨rfl, rfl⟩ ⟨Nat.le_of_ble_eq_true rfl, Nat.le_of_ble_eq_true rfl⟩ [1, 2] rfl rfl 1 rfl dX0_addsClass_52 rfl rfl (Nat.le_of_ble_eq_true rfl) rfl ?_
    dsimp only [List.cons_append, List.nil_append, List.set_cons_succ, List.set_cons_zero, vput]
    refine rh_aload_n hX dX0_addsClass_55 rfl ?_
    refine rh_get hX gl_X0_12 0 dX0_addsClass_56 rfl rfl ?_
    refine rh_iload_n hX dX0_addsClass_59 rfl ?_
    refine rh_iconst hX dX0_addsClass_60 ki_1 ?_
    refine rh_aload_n hX dX0_addsClass_61 rfl ?_
    refine rh_get hX gl_X0_117 0 dX0_addsClass_62 rfl rfl ?_
    refine rh_uV hX lk_X0_87 mvX1_setFact (fun l => c_X1_setFact l E _ _ _ _ 1 _ (by omega) (by omega)) ⟨rfl, rfl⟩ ⟨Nat.le_of_ble_eq_true rfl, Nat.le_of_ble_eq_true rfl⟩ [1, 2] rfl rfl 1 rfl dX0_addsClass_65 rfl rfl (Nat.le_of_ble_eq_true rfl) rfl ?_
    dsimp only [List.cons_append, List.nil_append, List.set_cons_succ, List.set_cons_zero, vput]
    refine rh_aload_n hX dX0_addsClass_68 rfl ?_
    refine rh_get hX gl_X0_12 0 dX0_addsClass_69 rfl rfl ?_
    refine rh_iload_n hX dX0_addsClass_72 rfl ?_
    refine rh_bipush hX dX0_addsClass_73 kb_6 ?_
    refine rh_aload_n hX dX0_addsClass_75 rfl ?_
    refine rh_get hX gl_X0_90 6 dX0_addsClass_76 rfl rfl ?_
    refine rh_uV hX lk_X0_87 mvX1_setFact (fun l => c_X1_setFact l E _ _ _ _ 6 _ (by omega) (by omega)) ⟨rfl, rfl⟩ ⟨Nat.le_of_ble_eq_true rfl, Nat.le_of_ble_eq_true rfl⟩ [1, 2] rfl rfl 1 rfl dX0_addsClass_79 rfl rfl (Nat.le_of_ble_eq_true rfl) rfl ?_
    dsimp only [List.cons_append, List.nil_append, List.set_cons_succ, List.set_cons_zero, vput]
    refine rh_aload_n hX dX0_addsClass_82 rfl ?_
    refine rh_get hX gl_X0_12 0 dX0_addsClass_83 rfl rfl ?_
    refine rh_iload_n hX dX0_addsClass_86 rfl ?_
    refine rh_bipush hX dX0_addsClass_87 kb_7 ?_
    refine rh_aload_n hX dX0_addsClass_89 rfl ?_
    refine rh_get hX gl_X0_71 6 dX0_addsClass_90 rfl rfl ?_
    refine rh_uV hX lk_X0_87 mvX1_setFact (fun l => c_X1_setFact l E _ _ _ _ 7 _ (by omega) (by omega)) ⟨rfl, rfl⟩ ⟨Nat.le_of_ble_eq_true rfl, Nat.le_of_ble_eq_true rfl⟩ [1, 2] rfl rfl 1 rfl dX0_addsClass_93 rfl rfl (Nat.le_of_ble_eq_true rfl) rfl ?_
    dsimp only [List.cons_append, List.nil_append, List.set_cons_succ, List.set_cons_zero, vput]
    refine rh_aload_n hX dX0_addsClass_96 rfl ?_
    refine rh_get hX gl_X0_12 0 dX0_addsClass_97 rfl rfl ?_
    refine rh_iload_n hX dX0_addsClass_100 rfl ?_
    refine rh_bipush hX dX0_addsClass_101 kb_8 ?_
    refine rh_aload_n hX dX0_addsClass_103 rfl ?_
    refine rh_get hX gl_X0_133 0 dX0_addsClass_104 rfl rfl ?_
    refine rh_uV hX lk_X0_87 mvX1_setFact (fun l => c_X1_setFact l E _ _ _ _ 8 _ (by omega) (by omega)) ⟨rfl, rfl⟩ ⟨Nat.le_of_ble_eq_true rfl, Nat.le_of_ble_eq_true rfl⟩ [1, 2] rfl rfl 1 rfl dX0_addsClass_107 rfl rfl (Nat.le_of_ble_eq_true rfl) rfl ?_
    dsimp only [List.cons_append, List.nil_append, List.set_cons_succ, List.set_cons_zero, vput]
    refine rh_aload_n hX dX0_addsClass_110 rfl ?_
    refine rh_get hX gl_X0_12 0 dX0_addsClass_111 rfl rfl ?_
    refine rh_iload_n hX dX0_addsClass_114 rfl ?_
    refine rh_bipush hX dX0_addsClass_115 kb_9 ?_
    refine rh_aload_n hX dX0_addsClass_117 rfl ?_
    refine rh_get hX gl_X0_104 0 dX0_addsClass_118 rfl rfl ?_
    refine rh_i2l hX dX0_addsClass_121 ?_
    refine rh_uV hX lk_X0_87 mvX1_setFact (fun l => c_X1_setFact l E _ _ _ _ 9 _ (by omega) (by omega)) ⟨rfl, rfl⟩ ⟨Nat.le_of_ble_eq_true rfl, Nat.le_of_ble_eq_true rfl⟩ [1, 2] rfl rfl 1 rfl dX0_addsClass_122 rfl rfl (Nat.le_of_ble_eq_true rfl) rfl ?_
    dsimp only [List.cons_append, List.nil_append, List.set_cons_succ, List.set_cons_zero, vput]
    refine rh_aload_n hX dX0_addsClass_125 rfl ?_
    refine rh_get hX gl_X0_12 0 dX0_addsClass_126 rfl rfl ?_
    refine rh_iload_n hX dX0_addsClass_129 rfl ?_
    refine rh_bipush hX dX0_addsClass_130 kb_10 ?_
    refine rh_aload_n hX dX0_addsClass_132 rfl ?_
    refine rh_get hX gl_X0_147 0 dX0_addsClass_133 rfl rfl ?_
    refine rh_uV hX lk_X0_87 mvX1_setFact (fun l => c_X1_setFact l E _ _ _ _ 10 _ (by omega) (by omega)) ⟨rfl, rfl⟩ ⟨Nat.le_of_ble_eq_true rfl, Nat.le_of_ble_eq_true rfl⟩ [1, 2] rfl rfl 1 rfl dX0_addsClass_136 rfl rfl (Nat.le_of_ble_eq_true rfl) rfl ?_
    dsimp only [List.cons_append, List.nil_append, List.set_cons_succ, List.set_cons_zero, vput]
    refine rh_iconst hX dX0_addsClass_139 ki_0 ?_
    refine rh_istn3 hX dX0_addsClass_140 (by decide) rfl ?_
    rw [show va_up (va_up (va_up (va_up (va_up (va_up (va_up (acA f T fc 6) (104 + T * 11 + 0) pr) (104 + T * 11 + 1) pr) (104 + T * 11 + 6) vl) (104 + T * 11 + 7) sm) (104 + T * 11 + 8) is) (104 + T * 11 + 9) tn.toInt64) (104 + T * 11 + 10) fl = acC (acB f T fc pr vl sm is tn.toInt64 fl) T (fun h => cQuot (10000 * mn h) pr) mn 0 from (acC_0 _ _ _ _).symm]
    refine rh_loop (P := fun i => G X 141 [some (.ref o), some (.ref to), some (.int (nI T)), some (.int (nI i))] [] (wD E o ho ha ac al an (acC (acB f T fc pr vl sm is tn.toInt64 fl) T (fun h => cQuot (10000 * mn h) pr) mn i) cvs lst (fun h => cQuot (10000 * mn h) pr) ls pA bA nA pr is tn fl ++ wT E to ta tb vl tp lt fc mn sm)) (0) (8) (by omega) ?_ ?_
    · skip
      refine rh_iload_n hX dX0_addsClass_141 rfl ?_
      refine rh_bipush hX dX0_addsClass_142 kb_8 ?_
      refine rh_icmp_ge_t (tgt := 183) hX dX0_addsClass_144 (by decide) (nI_le (a := 8) (b := 8) (Nat.le_refl 8) (by decide)) ?_
      exact rh_vret hX hR dX0_addsClass_183 (by simp only [List.map_cons, List.map_nil, List.cons_append, List.nil_append]) ⟨rfl, rfl⟩
    · intro i hi0 hi ih
      refine rh_iload_n hX dX0_addsClass_141 rfl ?_
      refine rh_bipush hX dX0_addsClass_142 kb_8 ?_
      refine rh_icmp_ge_f (tgt := 183) hX dX0_addsClass_144 (by decide) (nI_ge (b := 8) hi (by decide)) ?_
      refine rh_aload_n hX dX0_addsClass_147 rfl ?_
      refine rh_get hX gl_X0_12 0 dX0_addsClass_148 rfl rfl ?_
      refine rh_iload_n hX dX0_addsClass_151 rfl ?_
      refine rh_iload_n hX dX0_addsClass_152 rfl ?_
      refine rh_aload_n hX dX0_addsClass_153 rfl ?_
      refine rh_get hX gl_X0_25 0 dX0_addsClass_154 rfl rfl ?_
      refine rh_iload_n hX dX0_addsClass_157 rfl ?_
      refine rh_laload hX 5 _ dX0_addsClass_158 rfl rfl (by omega) (by decide) ?_
      refine rh_uV hX lk_X0_79 mvX1_addHeld (fun l => c_X1_addHeld l E _ _ _ _ _ _ (by omega) (by omega)) ⟨rfl, rfl⟩ ⟨Nat.le_of_ble_eq_true rfl, Nat.le_of_ble_eq_true rfl⟩ [1, 2] rfl rfl 1 rfl dX0_addsClass_159 rfl rfl (Nat.le_of_ble_eq_true rfl) rfl ?_
      dsimp only [List.cons_append, List.nil_append, List.set_cons_succ, List.set_cons_zero, vput]
      refine rh_aload_n hX dX0_addsClass_162 rfl ?_
      refine rh_get hX gl_X0_12 0 dX0_addsClass_163 rfl rfl ?_
      refine rh_iload_n hX dX0_addsClass_166 rfl ?_
      refine rh_iload_n hX dX0_addsClass_167 rfl ?_
      refine rh_aload_n hX dX0_addsClass_168 rfl ?_
      refine rh_get hX gl_X0_66 6 dX0_addsClass_169 rfl rfl ?_
      refine rh_iload_n hX dX0_addsClass_172 rfl ?_
      refine rh_laload hX 8 _ dX0_addsClass_173 rfl rfl (by omega) (by decide) ?_
      refine rh_uV hX lk_X0_177 mvX1_setGiven (fun l => c_X1_setGiven l E _ _ _ _ _ _ (by omega) (by omega)) ⟨rfl, rfl⟩ ⟨Nat.le_of_ble_eq_true rfl, Nat.le_of_ble_eq_true rfl⟩ [1, 2] rfl rfl 1 rfl dX0_addsClass_174 rfl rfl (Nat.le_of_ble_eq_true rfl) rfl ?_
      dsimp only [List.cons_append, List.nil_append, List.set_cons_succ, List.set_cons_zero, vput]
      refine rh_inc3 hX dX0_addsClass_177 (by decide) rfl (rn_i1 _) ?_
      refine rh_goto (tgt := 141) hX dX0_addsClass_180 (by decide) ?_
      rw [show va_up (va_up (acC (acB f T fc pr vl sm is tn.toInt64 fl) T (fun h => cQuot (10000 * mn h) pr) mn i) (0 + i * 6 + T) (cHeld (acC (acB f T fc pr vl sm is tn.toInt64 fl) T (fun h => cQuot (10000 * mn h) pr) mn i) i T + cQuot (10000 * mn i) pr)) (48 + i * 6 + T) (mn i) = acC (acB f T fc pr vl sm is tn.toInt64 fl) T (fun h => cQuot (10000 * mn h) pr) mn (i + 1) from acC_s (acB f T fc pr vl sm is tn.toInt64 fl) T (fun h => cQuot (10000 * mn h) pr) mn i hT5 hi]
      exact ih
  · intro w hw0 hw ihw
    refine rh_iload_n hX dX0_addsClass_16 rfl ?_
    refine rh_iconst hX dX0_addsClass_17 ki_5 ?_
    refine rh_icmp_gt_f (tgt := 42) hX dX0_addsClass_18 (by decide) (nI_nlt (b := w) (a := 5) (by omega) (by decide)) ?_
    refine rh_aload_n hX dX0_addsClass_21 rfl ?_
    refine rh_get hX gl_X0_12 0 dX0_addsClass_22 rfl rfl ?_
    refine rh_iload_n hX dX0_addsClass_25 rfl ?_
    refine rh_iload_n hX dX0_addsClass_26 rfl ?_
    refine rh_aload_n hX dX0_addsClass_27 rfl ?_
    refine rh_get hX gl_X0_174 6 dX0_addsClass_28 rfl rfl ?_
    refine rh_iload_n hX dX0_addsClass_31 rfl ?_
    refine rh_laload hX 7 _ dX0_addsClass_32 rfl rfl (by omega) (by decide) ?_
    refine rh_uV hX lk_X0_87 mvX1_setFact (fun l => c_X1_setFact l E _ _ _ _ _ _ (by omega) (by omega)) ⟨rfl, rfl⟩ ⟨Nat.le_of_ble_eq_true rfl, Nat.le_of_ble_eq_true rfl⟩ [1, 2] rfl rfl 1 rfl dX0_addsClass_33 rfl rfl (Nat.le_of_ble_eq_true rfl) rfl ?_
    dsimp only [List.cons_append, List.nil_append, List.set_cons_succ, List.set_cons_zero, vput]
    refine rh_inc3 hX dX0_addsClass_36 (by decide) rfl (rn_i1 _) ?_
    refine rh_goto (tgt := 16) hX dX0_addsClass_39 (by decide) ?_
    rw [acA_s f T fc w hT5 hw0 hw]
    exact ihw

/-! a turn, in pieces -/
def stPr (vl : Int64) (lt : Int32) (f : Nat → Int64) (ot : Int64) : Int64 := cQuot (10000 * vl) (if lt = 0 then ot + f 170 else ot)
def stIs (mn : Nat → Int64) (pr : Int64) : Int64 := sumF 0 (fun h => cQuot (10000 * mn h) pr) 8
def stM (T : Nat) (mn : Nat → Int64) (sm : Int64) (cvs : Nat → Int64) (nA bA : Int64) (f : Nat → Int64) (pr : Int64) : (Nat → Int64) × Int32 := mc cvs pr (stIs mn pr) sm nA bA (f, 0) T
def stOt (T : Nat) (M : (Nat → Int64) × Int32) : Int64 := cSize M.1 T - M.1 170
def stTp (tp pA rest : Int64) : Int64 := maxl pA (cTop tp rest)
/-- turns till the price stands: the answer, and behind a good one the house, P, N, TURNS, FULL -/
def stl (T : Nat) (vl tp : Int64) (lt : Int32) (mn : Nat → Int64) (sm : Int64) (cvs : Nat → Int64) (pA bA nA : Int64) : Nat → (Nat → Int64) → Int64 → Nat → Int32 × Option ((Nat → Int64) × Int64 × Int64 × Nat × Int64)
  | 0, _, _, _ => (-4, none)
  | k + 1, f, ot, n => if stPr vl lt f ot < 1 then (-3, none) else if 100000000 < stPr vl lt f ot then (-3, none) else if 1000000000 < stOt T (stM T mn sm cvs nA bA f (stPr vl lt f ot)) + stIs mn (stPr vl lt f ot) then (-9, none) else if 1000000000 < stOt T (stM T mn sm cvs nA bA f (stPr vl lt f ot)) + stIs mn (stPr vl lt f ot) + stTp tp pA (stOt T (stM T mn sm cvs nA bA f (stPr vl lt f ot)) + stIs mn (stPr vl lt f ot)) then (-9, none) else if stTp tp pA (stOt T (stM T mn sm cvs nA bA f (stPr vl lt f ot)) + stIs mn (stPr vl lt f ot)) = (stM T mn sm cvs nA bA f (stPr vl lt f ot)).1 170 ∧ (stM T mn sm cvs nA bA f (stPr vl lt f ot)).2 = 0 then ((stPr vl lt f ot).toInt32, some ((stM T mn sm cvs nA bA f (stPr vl lt f ot)).1, stPr vl lt f ot, stIs mn (stPr vl lt f ot), n, stOt T (stM T mn sm cvs nA bA f (stPr vl lt f ot)) + stIs mn (stPr vl lt f ot) + stTp tp pA (stOt T (stM T mn sm cvs nA bA f (stPr vl lt f ot)) + stIs mn (stPr vl lt f ot)))) else stl T vl tp lt mn sm cvs pA bA nA k (va_up (stM T mn sm cvs nA bA f (stPr vl lt f ot)).1 170 (stTp tp pA (stOt T (stM T mn sm cvs nA bA f (stPr vl lt f ot)) + stIs mn (stPr vl lt f ot)))) (stOt T (stM T mn sm cvs nA bA f (stPr vl lt f ot))) (n + 1)
termination_by k => k
theorem stl_0 (T : Nat) (vl tp : Int64) (lt : Int32) (mn : Nat → Int64) (sm : Int64) (cvs : Nat → Int64) (pA bA nA : Int64) (f : Nat → Int64) (ot : Int64) (n : Nat) : stl T vl tp lt mn sm cvs pA bA nA 0 f ot n = (-4, none) := by rw [stl]
theorem stl_s (T : Nat) (vl tp : Int64) (lt : Int32) (mn : Nat → Int64) (sm : Int64) (cvs : Nat → Int64) (pA bA nA : Int64) (k : Nat) (f : Nat → Int64) (ot : Int64) (n : Nat) (pr is ot1 tp1 fl : Int64) (M : (Nat → Int64) × Int32) (h1 : pr = stPr vl lt f ot) (h2 : is = stIs mn pr) (h3 : M = stM T mn sm cvs nA bA f pr) (h4 : ot1 = stOt T M) (h5 : tp1 = stTp tp pA (ot1 + is)) (h6 : fl = ot1 + is + tp1) : stl T vl tp lt mn sm cvs pA bA nA (k + 1) f ot n = if pr < 1 then (-3, none) else if 100000000 < pr then (-3, none) else if 1000000000 < ot1 + is then (-9, none) else if 1000000000 < fl then (-9, none) else if tp1 = M.1 170 ∧ M.2 = 0 then (pr.toInt32, some (M.1, pr, is, n, fl)) else stl T vl tp lt mn sm cvs pA bA nA k (va_up M.1 170 tp1) ot1 (n + 1) := by
  subst h6 h5 h4 h3 h2 h1
  rw [stl]
/-- a round worked out on a house: the answer, and behind a good one the house, N, TURNS, FULL -/
def dSettle (f : Nat → Int64) (T : Nat) (vl tp : Int64) (lt : Int32) (fc mn : Nat → Int64) (sm : Int64) : Int32 × Option ((Nat → Int64) × Int64 × Nat × Int64) := if 6 ≤ T then (-2, none) else if 1000000000 < vl then (-3, none) else ((stl T vl tp lt mn sm (row1 (fun c => cFact f c 1) (fun _ => 0) T) (f 170) (cSize f T) (cAllVotes f T) 200 f (cSize f T - f 170) 1).1, (stl T vl tp lt mn sm (row1 (fun c => cFact f c 1) (fun _ => 0) T) (f 170) (cSize f T) (cAllVotes f T) 200 f (cSize f T - f 170) 1).2.map (fun q => (acF q.1 T fc mn q.2.1 vl sm q.2.2.1 (nI q.2.2.2.1).toInt64 q.2.2.2.2, q.2.2.1, q.2.2.2.1, q.2.2.2.2)))
