/-- the ROW: its object, its numbers -/
abbrev wR (E : rhE) (o a : Nat) (g : Nat → Int64) (n : Nat) : va_W := [(o, .inr (3, [.ref a, .int (nI n)])), (a, aL E 12 g)]
def cHas (g : Nat → Int64) (v : Int64) : Nat → Bool
  | 0 => false
  | n + 1 => cHas g v n || decide (g n = v)
theorem cHas_lt {g : Nat → Int64} {v : Int64} {i : Nat} (h : g i = v) : ∀ n, i < n → cHas g v n = true
  | 0, hn => absurd hn (by omega)
  | n + 1, hn => by
    unfold cHas
    by_cases e : i = n
    · subst e; simp [h]
    · rw [cHas_lt h n (by omega)]; rfl

set_option maxRecDepth 100000 in
set_option maxHeartbeats 4000000 in
theorem c_X3_clear (l : Launch) (E : rhE) (o a : Nat) (g : Nat → Int64) (n : Nat)  : Ctr l E yX3_clear cX3_clear 1 none (rmL 0) [.ref o] (wR E o a g n) (One none (wR E o a g 0)) := by
  refine Ctr.of (by decide) (Nat.le_of_ble_eq_true rfl) rfl rfl 0 ?_
  intro X hX hR
  refine rh_aload_n hX dX3_clear_0 rfl ?_
  refine rh_iconst hX dX3_clear_1 ki_0 ?_
  refine rh_put hX gl_X3_13 0 dX3_clear_2 rfl rfl rfl (Nat.le_of_ble_eq_true rfl) rfl ?_
  dsimp only [List.cons_append, List.nil_append, List.set_cons_succ, List.set_cons_zero, vput]
  exact rh_vret hX hR dX3_clear_5 rfl ⟨rfl, rfl⟩

set_option maxRecDepth 100000 in
set_option maxHeartbeats 4000000 in
theorem c_X3_tell (l : Launch) (E : rhE) (o a : Nat) (g : Nat → Int64) (n : Nat) (v : Int64) (hn : n < 12) : Ctr l E yX3_tell cX3_tell 3 none (rmL 0) [.ref o, .long v] (wR E o a g n) (One none (wR E o a (va_up g n v) (n + 1))) := by
  refine Ctr.of (by decide) (Nat.le_of_ble_eq_true rfl) rfl rfl 0 ?_
  intro X hX hR
  refine rh_aload_n hX dX3_tell_0 rfl ?_
  refine rh_get hX gl_X3_13 0 dX3_tell_1 rfl rfl ?_
  refine rh_aload_n hX dX3_tell_4 rfl ?_
  refine rh_get hX gl_X3_7 0 dX3_tell_5 rfl rfl ?_
  refine rh_alen (v := nI 12) hX 1 1 dX3_tell_8 rfl rfl rfl ?_
  refine rh_icmp_ge_f (tgt := 32) hX dX3_tell_9 (by decide) (nI_ge hn (by decide)) ?_
  refine rh_aload_n hX dX3_tell_12 rfl ?_
  refine rh_get hX gl_X3_7 0 dX3_tell_13 rfl rfl ?_
  refine rh_aload_n hX dX3_tell_16 rfl ?_
  refine rh_get hX gl_X3_13 0 dX3_tell_17 rfl rfl ?_
  refine rh_lload_n hX dX3_tell_20 rfl ?_
  refine rh_lastore hX 1 _ dX3_tell_21 rfl rfl (by omega) (by decide) rfl ?_
  dsimp only [List.cons_append, List.nil_append, List.set_cons_succ, List.set_cons_zero, vput]
  refine rh_aload_n hX dX3_tell_22 rfl ?_
  refine rh_dup hX dX3_tell_23 rfl ?_
  refine rh_get hX gl_X3_13 0 dX3_tell_24 rfl rfl ?_
  refine rh_iconst hX dX3_tell_27 ki_1 ?_
  refine rh_iadd hX dX3_tell_28 ?_
  rw [show nI n + 1 = nI (n + 1) from (nI_succ n).symm]
  refine rh_put hX gl_X3_13 0 dX3_tell_29 rfl rfl rfl (Nat.le_of_ble_eq_true rfl) rfl ?_
  dsimp only [List.cons_append, List.nil_append, List.set_cons_succ, List.set_cons_zero, vput]
  exact rh_vret hX hR dX3_tell_32 rfl ⟨rfl, rfl⟩

set_option maxRecDepth 100000 in
set_option maxHeartbeats 4000000 in
theorem c_X3_has (l : Launch) (E : rhE) (o a : Nat) (g : Nat → Int64) (n : Nat) (v : Int64) (hn : n ≤ 12) : Ctr l E yX3_has cX3_has 4 (some .boolean) (rmL 0) [.ref o, .long v] (wR E o a g n) (One (some (.int (if cHas g v n = true then 1 else 0))) (wR E o a g n)) := by
  refine Ctr.of (by decide) (Nat.le_of_ble_eq_true rfl) rfl rfl 1 ?_
  intro X hX hR
  refine rh_iconst hX dX3_has_0 ki_0 ?_
  refine rh_istn3 hX dX3_has_1 (by decide) rfl ?_
  refine (rh_loop (P := fun i => cHas g v i = false → G X 2 [some (.ref o), some (.long v), none, some (.int (nI i))] [] (wR E o a g n)) (0) (n) (by omega) ?_ ?_) rfl
  · intro hH
    refine rh_iload_n hX dX3_has_2 rfl ?_
    refine rh_aload_n hX dX3_has_3 rfl ?_
    refine rh_get hX gl_X3_13 0 dX3_has_4 rfl rfl ?_
    refine rh_icmp_ge_t (tgt := 29) hX dX3_has_7 (by decide) (nI_le (Nat.le_refl n) (by omega)) ?_
    refine rh_iconst hX dX3_has_29 ki_0 ?_
    exact rh_zret hX hR dX3_has_30 rfl rfl ⟨by rw [hH]; rfl, rfl⟩
  · intro i hi0 hi ih hH
    refine rh_iload_n hX dX3_has_2 rfl ?_
    refine rh_aload_n hX dX3_has_3 rfl ?_
    refine rh_get hX gl_X3_13 0 dX3_has_4 rfl rfl ?_
    refine rh_icmp_ge_f (tgt := 29) hX dX3_has_7 (by decide) (nI_ge hi (by omega)) ?_
    refine rh_aload_n hX dX3_has_10 rfl ?_
    refine rh_get hX gl_X3_7 0 dX3_has_11 rfl rfl ?_
    refine rh_iload_n hX dX3_has_14 rfl ?_
    refine rh_laload hX 1 _ dX3_has_15 rfl rfl (by omega) (by decide) ?_
    refine rh_lload_n hX dX3_has_16 rfl ?_
    refine rh_lne (tgt := 23) hX dX3_has_17 dX3_has_18 (by decide) (fun h17 => ?_) (fun h17 => ?_)
    · skip
      refine rh_inc3 hX dX3_has_23 (by decide) rfl (rn_i1 _) ?_
      refine rh_goto (tgt := 2) hX dX3_has_26 (by decide) ?_
      exact ih (by unfold cHas; rw [hH]; simp [h17])
    · skip
      refine rh_iconst hX dX3_has_21 ki_1 ?_
      exact rh_zret hX hR dX3_has_22 rfl rfl ⟨by rw [if_pos (cHas_lt h17 n hi)], rfl⟩

set_option maxRecDepth 100000 in
set_option maxHeartbeats 4000000 in
theorem c_X3_at (l : Launch) (E : rhE) (o a : Nat) (g : Nat → Int64) (n : Nat) (k : Nat) (hk : k < n) (hn : n ≤ 12) : Ctr l E yX3_at cX3_at 2 (some .long) (rmL 0) [.ref o, .int (nI k)] (wR E o a g n) (One (some (.long (g k))) (wR E o a g n)) := by
  refine Ctr.of (by decide) (Nat.le_of_ble_eq_true rfl) rfl rfl 0 ?_
  intro X hX hR
  refine rh_iload_n hX dX3_at_0 rfl ?_
  refine rh_if_lt_f (tgt := 21) hX dX3_at_1 (by decide) (nI_pos (by omega)) ?_
  refine rh_iload_n hX dX3_at_4 rfl ?_
  refine rh_aload_n hX dX3_at_5 rfl ?_
  refine rh_get hX gl_X3_13 0 dX3_at_6 rfl rfl ?_
  refine rh_icmp_ge_f (tgt := 21) hX dX3_at_9 (by decide) (nI_ge hk (by omega)) ?_
  refine rh_aload_n hX dX3_at_12 rfl ?_
  refine rh_get hX gl_X3_7 0 dX3_at_13 rfl rfl ?_
  refine rh_iload_n hX dX3_at_16 rfl ?_
  refine rh_laload hX 1 _ dX3_at_17 rfl rfl (by omega) (by decide) ?_
  refine rh_goto (tgt := 22) hX dX3_at_18 (by decide) ?_
  exact rh_lret hX hR dX3_at_22 rfl ⟨rfl, rfl⟩

/-- TERMS of a round: the object, facts, money -/
abbrev wT (E : rhE) (o a b : Nat) (vl tp : Int64) (lt : Int32) (fc mn : Nat → Int64) (sm : Int64) : va_W := [(o, .inr (5, [.long vl, .long tp, .int lt, .ref a, .ref b, .long sm])), (a, aL E 11 fc), (b, aL E 8 mn)]
def cFc0 : Nat → Int64 := fun x => if x = 3 then 10 else 0

set_option maxRecDepth 100000 in
set_option maxHeartbeats 4000000 in
theorem c_X5_clear (l : Launch) (E : rhE) (o a b : Nat) (vl tp : Int64) (lt : Int32) (fc mn : Nat → Int64) (sm : Int64)  : Ctr l E yX5_clear cX5_clear 2 none (rmL 0) [.ref o] (wT E o a b vl tp lt fc mn sm) (One none (wT E o a b 0 0 0 cFc0 (fun _ => 0) 0)) := by
  refine Ctr.of (by decide) (Nat.le_of_ble_eq_true rfl) rfl rfl 1 ?_
  intro X hX hR
  refine rh_aload_n hX dX5_clear_0 rfl ?_
  refine rh_lconst hX dX5_clear_1 kL_0 ?_
  refine rh_put hX gl_X5_18 0 dX5_clear_2 rfl rfl rfl (Nat.le_of_ble_eq_true rfl) rfl ?_
  dsimp only [List.cons_append, List.nil_append, List.set_cons_succ, List.set_cons_zero, vput]
  refine rh_aload_n hX dX5_clear_5 rfl ?_
  refine rh_lconst hX dX5_clear_6 kL_0 ?_
  refine rh_put hX gl_X5_22 0 dX5_clear_7 rfl rfl rfl (Nat.le_of_ble_eq_true rfl) rfl ?_
  dsimp only [List.cons_append, List.nil_append, List.set_cons_succ, List.set_cons_zero, vput]
  refine rh_aload_n hX dX5_clear_10 rfl ?_
  refine rh_iconst hX dX5_clear_11 ki_0 ?_
  refine rh_put hX gl_X5_25 0 dX5_clear_12 rfl rfl rfl (Nat.le_of_ble_eq_true rfl) rfl ?_
  dsimp only [List.cons_append, List.nil_append, List.set_cons_succ, List.set_cons_zero, vput]
  refine rh_aload_n hX dX5_clear_15 rfl ?_
  refine rh_lconst hX dX5_clear_16 kL_0 ?_
  refine rh_put hX gl_X5_29 0 dX5_clear_17 rfl rfl rfl (Nat.le_of_ble_eq_true rfl) rfl ?_
  dsimp only [List.cons_append, List.nil_append, List.set_cons_succ, List.set_cons_zero, vput]
  refine rh_iconst hX dX5_clear_20 ki_0 ?_
  refine rh_istn1 hX dX5_clear_21 (by decide) rfl ?_
  refine rh_loop (P := fun i => G X 22 [some (.ref o), some (.int (nI i))] [] (wT E o a b 0 0 0 (fun x => if x < i then 0 else fc x) mn 0)) (0) (11) (by omega) ?_ ?_
  · skip
    refine rh_iload_n hX dX5_clear_22 rfl ?_
    refine rh_bipush hX dX5_clear_23 kb_11 ?_
    refine rh_icmp_ge_t (tgt := 41) hX dX5_clear_25 (by decide) (nI_le (a := 11) (b := 11) (Nat.le_refl 11) (by decide)) ?_
    refine rh_aload_n hX dX5_clear_41 rfl ?_
    refine rh_get hX gl_X5_9 0 dX5_clear_42 rfl rfl ?_
    refine rh_iconst hX dX5_clear_45 ki_3 ?_
    refine rh_ldc2 hX dX5_clear_46 kl_X5_32 ?_
    refine rh_lastore hX 1 _ dX5_clear_49 rfl rn_c3 (by omega) (by decide) rfl ?_
    dsimp only [List.cons_append, List.nil_append, List.set_cons_succ, List.set_cons_zero, vput]
    refine rh_iconst hX dX5_clear_50 ki_0 ?_
    refine rh_istn1 hX dX5_clear_51 (by decide) rfl ?_
    refine rh_ext (q := 1) (g := cFc0) rfl (fun j hj => ?_) rfl ?_
    · unfold cFc0 va_up
      by_cases e : j = 3
      · rw [if_pos e, if_pos e]
      · rw [if_neg e, if_neg e]
        show 0 = (if j < 11 then 0 else fc j)
        rw [if_pos hj]
    dsimp only [List.set_cons_succ, List.set_cons_zero]
    refine rh_loop (P := fun j => G X 52 [some (.ref o), some (.int (nI j))] [] (wT E o a b 0 0 0 cFc0 (fun x => if x < j then 0 else mn x) 0)) (0) (8) (by omega) ?_ ?_
    · skip
      refine rh_iload_n hX dX5_clear_52 rfl ?_
      refine rh_bipush hX dX5_clear_53 kb_8 ?_
      refine rh_icmp_ge_t (tgt := 71) hX dX5_clear_55 (by decide) (nI_le (a := 8) (b := 8) (Nat.le_refl 8) (by decide)) ?_
      refine rh_ext (q := 2) (g := fun _ => 0) rfl (fun j hj => ?_) rfl ?_
      · show 0 = (if j < 8 then 0 else mn j)
        rw [if_pos hj]
      dsimp only [List.set_cons_succ, List.set_cons_zero]
      exact rh_vret hX hR dX5_clear_71 rfl ⟨rfl, rfl⟩
    · intro j hj0 hj ihj
      refine rh_iload_n hX dX5_clear_52 rfl ?_
      refine rh_bipush hX dX5_clear_53 kb_8 ?_
      refine rh_icmp_ge_f (tgt := 71) hX dX5_clear_55 (by decide) (nI_ge (b := 8) hj (by decide)) ?_
      refine rh_aload_n hX dX5_clear_58 rfl ?_
      refine rh_get hX gl_X5_15 0 dX5_clear_59 rfl rfl ?_
      refine rh_iload_n hX dX5_clear_62 rfl ?_
      refine rh_lconst hX dX5_clear_63 kL_0 ?_
      refine rh_lastore hX 2 _ dX5_clear_64 rfl rfl (by omega) (by decide) rfl ?_
      dsimp only [List.cons_append, List.nil_append, List.set_cons_succ, List.set_cons_zero, vput]
      refine rh_inc1 hX dX5_clear_65 (by decide) rfl (rn_i1 _) ?_
      refine rh_goto (tgt := 52) hX dX5_clear_68 (by decide) ?_
      rw [clear_step]
      exact ihj
  · intro i hi0 hi ih
    refine rh_iload_n hX dX5_clear_22 rfl ?_
    refine rh_bipush hX dX5_clear_23 kb_11 ?_
    refine rh_icmp_ge_f (tgt := 41) hX dX5_clear_25 (by decide) (nI_ge (b := 11) hi (by decide)) ?_
    refine rh_aload_n hX dX5_clear_28 rfl ?_
    refine rh_get hX gl_X5_9 0 dX5_clear_29 rfl rfl ?_
    refine rh_iload_n hX dX5_clear_32 rfl ?_
    refine rh_lconst hX dX5_clear_33 kL_0 ?_
    refine rh_lastore hX 1 _ dX5_clear_34 rfl rfl (by omega) (by decide) rfl ?_
    dsimp only [List.cons_append, List.nil_append, List.set_cons_succ, List.set_cons_zero, vput]
    refine rh_inc1 hX dX5_clear_35 (by decide) rfl (rn_i1 _) ?_
    refine rh_goto (tgt := 22) hX dX5_clear_38 (by decide) ?_
    rw [clear_step]
    exact ih

set_option maxRecDepth 100000 in
set_option maxHeartbeats 4000000 in
theorem c_X5_puts (l : Launch) (E : rhE) (o a b : Nat) (vl tp : Int64) (lt : Int32) (fc mn : Nat → Int64) (sm : Int64) (h : Nat) (n : Int64) (hh : h < 8) : Ctr l E yX5_puts cX5_puts 4 none (rmL 0) [.ref o, .int (nI h), .long n] (wT E o a b vl tp lt fc mn sm) (One none (wT E o a b vl tp lt fc (va_up mn h n) (sm + n))) := by
  refine Ctr.of (by decide) (Nat.le_of_ble_eq_true rfl) rfl rfl 0 ?_
  intro X hX hR
  refine rh_aload_n hX dX5_puts_0 rfl ?_
  refine rh_get hX gl_X5_15 0 dX5_puts_1 rfl rfl ?_
  refine rh_iload_n hX dX5_puts_4 rfl ?_
  refine rh_lload_n hX dX5_puts_5 rfl ?_
  refine rh_lastore hX 2 _ dX5_puts_6 rfl rfl (by omega) (by decide) rfl ?_
  dsimp only [List.cons_append, List.nil_append, List.set_cons_succ, List.set_cons_zero, vput]
  refine rh_aload_n hX dX5_puts_7 rfl ?_
  refine rh_dup hX dX5_puts_8 rfl ?_
  refine rh_get hX gl_X5_29 0 dX5_puts_9 rfl rfl ?_
  refine rh_lload_n hX dX5_puts_12 rfl ?_
  refine rh_ladd hX dX5_puts_13 ?_
  refine rh_put hX gl_X5_29 0 dX5_puts_14 rfl rfl rfl (Nat.le_of_ble_eq_true rfl) rfl ?_
  dsimp only [List.cons_append, List.nil_append, List.set_cons_succ, List.set_cons_zero, vput]
  exact rh_vret hX hR dX5_puts_17 rfl ⟨rfl, rfl⟩

/-- the houses ahead of the latest deeds -/
abbrev aR (E : rhE) (n : Nat) (b : Nat → Nat) : va_E := .inl (E.2.1 4, n, .inr (.inr (.inr (.inr (fun j => some (b j))))))
abbrev wP (E : rhE) (o a : Nat) (b : Nat → Nat) (p : Nat → Nat → Int64) (nx ud dd : Int32) : va_W := [(o, .inr (2, [.ref a, .int nx, .int ud, .int dd])), (a, aR E 8 b), (b 0, aL E 172 (p 0)), (b 1, aL E 172 (p 1)), (b 2, aL E 172 (p 2)), (b 3, aL E 172 (p 3)), (b 4, aL E 172 (p 4)), (b 5, aL E 172 (p 5)), (b 6, aL E 172 (p 6)), (b 7, aL E 172 (p 7))]
theorem nI_rem8 (n : Nat) (hn : n < 2 ^ 31) : nI n - nI n / 8 * 8 = nI (n % 8) := by
  have h1 : nI n / 8 = nI (n / 8) := by
    apply Int32.toInt_inj.mp
    rw [Int32.toInt_div_of_ne_right _ _ (by decide), nI_toInt hn, nI_toInt (by omega)]
    show Int.tdiv (n : Int) 8 = _
    rw [Int.tdiv_eq_ediv_of_nonneg (by omega)]
    omega
  rw [h1, show (8 : Int32) = nI 8 from rfl, rn_mul, rn_sub (by omega)]
  congr 1
  omega
theorem nI_min8 (n : Nat) (hn : n < 2 ^ 31) : (if (8 : Int32) < nI n then (8 : Int32) else nI n) = nI (if 8 < n then 8 else n) := by
  by_cases h : 8 < n
  · rw [if_pos (show (8 : Int32) < nI n from nI_lt (a := 8) h hn), if_pos h]; rfl
  · rw [if_neg (show ¬ (8 : Int32) < nI n from nI_nlt (b := n) (a := 8) (by omega) (by decide)), if_neg h]

set_option maxRecDepth 100000 in
set_option maxHeartbeats 4000000 in
theorem c_X2_notes_0 (l : Launch) (E : rhE) (o a : Nat) (b : Nat → Nat) (p : Nat → Nat → Int64) (dd : Int32) (ud : Nat) (ho ha : Nat) (f : Nat → Int64) (hu : ud ≤ 8) : Ctr l E yX2_notes cX2_notes 2 none (rmL 2) [.ref o, .ref ho] (wP E o a b p (nI 0) (nI ud) dd ++ wH E ho ha f) (One none (wP E o a b (va_up p 0 f) (nI 1) (nI (if 8 < ud + 1 then 8 else ud + 1)) (dd + 1) ++ wH E ho ha f)) := by
  refine Ctr.of (by decide) (Nat.le_of_ble_eq_true rfl) rfl rfl 0 ?_
  intro X hX hR
  refine rh_aload_n hX dX2_notes_0 rfl ?_
  refine rh_aload_n hX dX2_notes_1 rfl ?_
  refine rh_get hX gl_X2_11 0 dX2_notes_2 rfl rfl ?_
  refine rh_aload_n hX dX2_notes_5 rfl ?_
  refine rh_get hX gl_X2_16 0 dX2_notes_6 rfl rfl ?_
  refine rh_aaload hX 1 0 dX2_notes_9 rfl (show nI 0 = nI 0 from rfl) (by decide) (by decide) ?_
  refine rh_uV hX lk_X2_20 mvX1_saveTo (fun l => c_X1_saveTo l E _ _ _ _ _) ⟨rfl, rfl⟩ ⟨Nat.le_of_ble_eq_true rfl, Nat.le_of_ble_eq_true rfl⟩ [10, 11, 2] rfl rfl 10 rfl dX2_notes_10 rfl rfl (Nat.le_of_ble_eq_true rfl) rfl ?_
  dsimp only [List.cons_append, List.nil_append, List.set_cons_succ, List.set_cons_zero, vput]
  refine rh_aload_n hX dX2_notes_13 rfl ?_
  refine rh_aload_n hX dX2_notes_14 rfl ?_
  refine rh_get hX gl_X2_16 0 dX2_notes_15 rfl rfl ?_
  refine rh_iconst hX dX2_notes_18 ki_1 ?_
  refine rh_iadd hX dX2_notes_19 ?_
  refine rh_bipush hX dX2_notes_20 kb_8 ?_
  refine rh_irem hX dX2_notes_22 (by decide) ?_
  rw [show nI 0 + 1 = nI (0 + 1) from (nI_succ 0).symm, nI_rem8 _ (by decide), show (0 + 1) % 8 = 1 from rfl]
  refine rh_put hX gl_X2_16 0 dX2_notes_23 rfl rfl rfl (Nat.le_of_ble_eq_true rfl) rfl ?_
  dsimp only [List.cons_append, List.nil_append, List.set_cons_succ, List.set_cons_zero, vput]
  refine rh_aload_n hX dX2_notes_26 rfl ?_
  refine rh_aload_n hX dX2_notes_27 rfl ?_
  refine rh_get hX gl_X2_26 0 dX2_notes_28 rfl rfl ?_
  refine rh_iconst hX dX2_notes_31 ki_1 ?_
  refine rh_iadd hX dX2_notes_32 ?_
  refine rh_bipush hX dX2_notes_33 kb_8 ?_
  refine rh_mini hX mm_X2_29 dX2_notes_35 (Nat.le_of_ble_eq_true rfl) (Nat.le_of_ble_eq_true rfl) ?_
  rw [show nI ud + 1 = nI (ud + 1) from (nI_succ ud).symm, nI_min8 (ud + 1) (by omega)]
  refine rh_put hX gl_X2_26 0 dX2_notes_38 rfl rfl rfl (Nat.le_of_ble_eq_true rfl) rfl ?_
  dsimp only [List.cons_append, List.nil_append, List.set_cons_succ, List.set_cons_zero, vput]
  refine rh_aload_n hX dX2_notes_41 rfl ?_
  refine rh_dup hX dX2_notes_42 rfl ?_
  refine rh_get hX gl_X2_35 0 dX2_notes_43 rfl rfl ?_
  refine rh_iconst hX dX2_notes_46 ki_1 ?_
  refine rh_iadd hX dX2_notes_47 ?_
  refine rh_put hX gl_X2_35 0 dX2_notes_48 rfl rfl rfl (Nat.le_of_ble_eq_true rfl) rfl ?_
  dsimp only [List.cons_append, List.nil_append, List.set_cons_succ, List.set_cons_zero, vput]
  exact rh_vret hX hR dX2_notes_51 rfl ⟨rfl, rfl⟩

set_option maxRecDepth 100000 in
set_option maxHeartbeats 4000000 in
theorem c_X2_takesBack_0 (l : Launch) (E : rhE) (o a : Nat) (b : Nat → Nat) (p : Nat → Nat → Int64) (dd : Int32) (ud : Nat) (ho ha : Nat) (f : Nat → Int64) (hu : 1 ≤ ud) (hu8 : ud ≤ 8) : Ctr l E yX2_takesBack cX2_takesBack 2 (some .boolean) (rmL 2) [.ref o, .ref ho] (wP E o a b p (nI 1) (nI ud) dd ++ wH E ho ha f) (One (some (.int 1)) (wP E o a b p (nI 0) (nI (ud - 1)) dd ++ wH E ho ha (p 0))) := by
  refine Ctr.of (by decide) (Nat.le_of_ble_eq_true rfl) rfl rfl 0 ?_
  intro X hX hR
  refine rh_aload_n hX dX2_takesBack_0 rfl ?_
  refine rh_get hX gl_X2_26 0 dX2_takesBack_1 rfl rfl ?_
  refine rh_if_ne_t (tgt := 9) hX dX2_takesBack_4 (by decide) (nI_ne0 (by omega) (by omega)) ?_
  refine rh_aload_n hX dX2_takesBack_9 rfl ?_
  refine rh_aload_n hX dX2_takesBack_10 rfl ?_
  refine rh_get hX gl_X2_16 0 dX2_takesBack_11 rfl rfl ?_
  refine rh_bipush hX dX2_takesBack_14 kb_8 ?_
  refine rh_iadd hX dX2_takesBack_16 ?_
  refine rh_iconst hX dX2_takesBack_17 ki_1 ?_
  refine rh_isub hX dX2_takesBack_18 ?_
  refine rh_bipush hX dX2_takesBack_19 kb_8 ?_
  refine rh_irem hX dX2_takesBack_21 (by decide) ?_
  rw [show (nI 1 + 8 - 1 - (nI 1 + 8 - 1) / 8 * 8 : Int32) = nI 0 by decide]
  refine rh_put hX gl_X2_16 0 dX2_takesBack_22 rfl rfl rfl (Nat.le_of_ble_eq_true rfl) rfl ?_
  dsimp only [List.cons_append, List.nil_append, List.set_cons_succ, List.set_cons_zero, vput]
  refine rh_aload_n hX dX2_takesBack_25 rfl ?_
  refine rh_dup hX dX2_takesBack_26 rfl ?_
  refine rh_get hX gl_X2_26 0 dX2_takesBack_27 rfl rfl ?_
  refine rh_iconst hX dX2_takesBack_30 ki_1 ?_
  refine rh_isub hX dX2_takesBack_31 ?_
  rw [show nI ud - 1 = nI (ud - 1) from rn_sub (b := 1) hu]
  refine rh_put hX gl_X2_26 0 dX2_takesBack_32 rfl rfl rfl (Nat.le_of_ble_eq_true rfl) rfl ?_
  dsimp only [List.cons_append, List.nil_append, List.set_cons_succ, List.set_cons_zero, vput]
  refine rh_aload_n hX dX2_takesBack_35 rfl ?_
  refine rh_aload_n hX dX2_takesBack_36 rfl ?_
  refine rh_get hX gl_X2_11 0 dX2_takesBack_37 rfl rfl ?_
  refine rh_aload_n hX dX2_takesBack_40 rfl ?_
  refine rh_get hX gl_X2_16 0 dX2_takesBack_41 rfl rfl ?_
  refine rh_aaload hX 1 0 dX2_takesBack_44 rfl (show nI 0 = nI 0 from rfl) (by decide) (by decide) ?_
  refine rh_uV hX lk_X2_38 mvX1_load (fun l => c_X1_load l E _ _ _ _ _) ⟨rfl, rfl⟩ ⟨Nat.le_of_ble_eq_true rfl, Nat.le_of_ble_eq_true rfl⟩ [10, 11, 2] rfl rfl 10 rfl dX2_takesBack_45 rfl rfl (Nat.le_of_ble_eq_true rfl) rfl ?_
  dsimp only [List.cons_append, List.nil_append, List.set_cons_succ, List.set_cons_zero, vput]
  refine rh_iconst hX dX2_takesBack_48 ki_1 ?_
  exact rh_zret hX hR dX2_takesBack_49 rfl rfl ⟨rfl, rfl⟩

set_option maxRecDepth 100000 in
set_option maxHeartbeats 4000000 in
theorem c_X2_notes_1 (l : Launch) (E : rhE) (o a : Nat) (b : Nat → Nat) (p : Nat → Nat → Int64) (dd : Int32) (ud : Nat) (ho ha : Nat) (f : Nat → Int64) (hu : ud ≤ 8) : Ctr l E yX2_notes cX2_notes 2 none (rmL 2) [.ref o, .ref ho] (wP E o a b p (nI 1) (nI ud) dd ++ wH E ho ha f) (One none (wP E o a b (va_up p 1 f) (nI 2) (nI (if 8 < ud + 1 then 8 else ud + 1)) (dd + 1) ++ wH E ho ha f)) := by
  refine Ctr.of (by decide) (Nat.le_of_ble_eq_true rfl) rfl rfl 0 ?_
  intro X hX hR
  refine rh_aload_n hX dX2_notes_0 rfl ?_
  refine rh_aload_n hX dX2_notes_1 rfl ?_
  refine rh_get hX gl_X2_11 0 dX2_notes_2 rfl rfl ?_
  refine rh_aload_n hX dX2_notes_5 rfl ?_
  refine rh_get hX gl_X2_16 0 dX2_notes_6 rfl rfl ?_
  refine rh_aaload hX 1 1 dX2_notes_9 rfl (show nI 1 = nI 1 from rfl) (by decide) (by decide) ?_
  refine rh_uV hX lk_X2_20 mvX1_saveTo (fun l => c_X1_saveTo l E _ _ _ _ _) ⟨rfl, rfl⟩ ⟨Nat.le_of_ble_eq_true rfl, Nat.le_of_ble_eq_true rfl⟩ [10, 11, 3] rfl rfl 10 rfl dX2_notes_10 rfl rfl (Nat.le_of_ble_eq_true rfl) rfl ?_
  dsimp only [List.cons_append, List.nil_append, List.set_cons_succ, List.set_cons_zero, vput]
  refine rh_aload_n hX dX2_notes_13 rfl ?_
  refine rh_aload_n hX dX2_notes_14 rfl ?_
  refine rh_get hX gl_X2_16 0 dX2_notes_15 rfl rfl ?_
  refine rh_iconst hX dX2_notes_18 ki_1 ?_
  refine rh_iadd hX dX2_notes_19 ?_
  refine rh_bipush hX dX2_notes_20 kb_8 ?_
  refine rh_irem hX dX2_notes_22 (by decide) ?_
  rw [show nI 1 + 1 = nI (1 + 1) from (nI_succ 1).symm, nI_rem8 _ (by decide), show (1 + 1) % 8 = 2 from rfl]
  refine rh_put hX gl_X2_16 0 dX2_notes_23 rfl rfl rfl (Nat.le_of_ble_eq_true rfl) rfl ?_
  dsimp only [List.cons_append, List.nil_append, List.set_cons_succ, List.set_cons_zero, vput]
  refine rh_aload_n hX dX2_notes_26 rfl ?_
  refine rh_aload_n hX dX2_notes_27 rfl ?_
  refine rh_get hX gl_X2_26 0 dX2_notes_28 rfl rfl ?_
  refine rh_iconst hX dX2_notes_31 ki_1 ?_
  refine rh_iadd hX dX2_notes_32 ?_
  refine rh_bipush hX dX2_notes_33 kb_8 ?_
  refine rh_mini hX mm_X2_29 dX2_notes_35 (Nat.le_of_ble_eq_true rfl) (Nat.le_of_ble_eq_true rfl) ?_
  rw [show nI ud + 1 = nI (ud + 1) from (nI_succ ud).symm, nI_min8 (ud + 1) (by omega)]
  refine rh_put hX gl_X2_26 0 dX2_notes_38 rfl rfl rfl (Nat.le_of_ble_eq_true rfl) rfl ?_
  dsimp only [List.cons_append, List.nil_append, List.set_cons_succ, List.set_cons_zero, vput]
  refine rh_aload_n hX dX2_notes_41 rfl ?_
  refine rh_dup hX dX2_notes_42 rfl ?_
  refine rh_get hX gl_X2_35 0 dX2_notes_43 rfl rfl ?_
  refine rh_iconst hX dX2_notes_46 ki_1 ?_
  refine rh_iadd hX dX2_notes_47 ?_
  refine rh_put hX gl_X2_35 0 dX2_notes_48 rfl rfl rfl (Nat.le_of_ble_eq_true rfl) rfl ?_
  dsimp only [List.cons_append, List.nil_append, List.set_cons_succ, List.set_cons_zero, vput]
  exact rh_vret hX hR dX2_notes_51 rfl ⟨rfl, rfl⟩

set_option maxRecDepth 100000 in
set_option maxHeartbeats 4000000 in
theorem c_X2_takesBack_1 (l : Launch) (E : rhE) (o a : Nat) (b : Nat → Nat) (p : Nat → Nat → Int64) (dd : Int32) (ud : Nat) (ho ha : Nat) (f : Nat → Int64) (hu : 1 ≤ ud) (hu8 : ud ≤ 8) : Ctr l E yX2_takesBack cX2_takesBack 2 (some .boolean) (rmL 2) [.ref o, .ref ho] (wP E o a b p (nI 2) (nI ud) dd ++ wH E ho ha f) (One (some (.int 1)) (wP E o a b p (nI 1) (nI (ud - 1)) dd ++ wH E ho ha (p 1))) := by
  refine Ctr.of (by decide) (Nat.le_of_ble_eq_true rfl) rfl rfl 0 ?_
  intro X hX hR
  refine rh_aload_n hX dX2_takesBack_0 rfl ?_
  refine rh_get hX gl_X2_26 0 dX2_takesBack_1 rfl rfl ?_
  refine rh_if_ne_t (tgt := 9) hX dX2_takesBack_4 (by decide) (nI_ne0 (by omega) (by omega)) ?_
  refine rh_aload_n hX dX2_takesBack_9 rfl ?_
  refine rh_aload_n hX dX2_takesBack_10 rfl ?_
  refine rh_get hX gl_X2_16 0 dX2_takesBack_11 rfl rfl ?_
  refine rh_bipush hX dX2_takesBack_14 kb_8 ?_
  refine rh_iadd hX dX2_takesBack_16 ?_
  refine rh_iconst hX dX2_takesBack_17 ki_1 ?_
  refine rh_isub hX dX2_takesBack_18 ?_
  refine rh_bipush hX dX2_takesBack_19 kb_8 ?_
  refine rh_irem hX dX2_takesBack_21 (by decide) ?_
  rw [show (nI 2 + 8 - 1 - (nI 2 + 8 - 1) / 8 * 8 : Int32) = nI 1 by decide]
  refine rh_put hX gl_X2_16 0 dX2_takesBack_22 rfl rfl rfl (Nat.le_of_ble_eq_true rfl) rfl ?_
  dsimp only [List.cons_append, List.nil_append, List.set_cons_succ, List.set_cons_zero, vput]
  refine rh_aload_n hX dX2_takesBack_25 rfl ?_
  refine rh_dup hX dX2_takesBack_26 rfl ?_
  refine rh_get hX gl_X2_26 0 dX2_takesBack_27 rfl rfl ?_
  refine rh_iconst hX dX2_takesBack_30 ki_1 ?_
  refine rh_isub hX dX2_takesBack_31 ?_
  rw [show nI ud - 1 = nI (ud - 1) from rn_sub (b := 1) hu]
  refine rh_put hX gl_X2_26 0 dX2_takesBack_32 rfl rfl rfl (Nat.le_of_ble_eq_true rfl) rfl ?_
  dsimp only [List.cons_append, List.nil_append, List.set_cons_succ, List.set_cons_zero, vput]
  refine rh_aload_n hX dX2_takesBack_35 rfl ?_
  refine rh_aload_n hX dX2_takesBack_36 rfl ?_
  refine rh_get hX gl_X2_11 0 dX2_takesBack_37 rfl rfl ?_
  refine rh_aload_n hX dX2_takesBack_40 rfl ?_
  refine rh_get hX gl_X2_16 0 dX2_takesBack_41 rfl rfl ?_
  refine rh_aaload hX 1 1 dX2_takesBack_44 rfl (show nI 1 = nI 1 from rfl) (by decide) (by decide) ?_
  refine rh_uV hX lk_X2_38 mvX1_load (fun l => c_X1_load l E _ _ _ _ _) ⟨rfl, rfl⟩ ⟨Nat.le_of_ble_eq_true rfl, Nat.le_of_ble_eq_true rfl⟩ [10, 11, 3] rfl rfl 10 rfl dX2_takesBack_45 rfl rfl (Nat.le_of_ble_eq_true rfl) rfl ?_
  dsimp only [List.cons_append, List.nil_append, List.set_cons_succ, List.set_cons_zero, vput]
  refine rh_iconst hX dX2_takesBack_48 ki_1 ?_
  exact rh_zret hX hR dX2_takesBack_49 rfl rfl ⟨rfl, rfl⟩

set_option maxRecDepth 100000 in
set_option maxHeartbeats 4000000 in
theorem c_X2_notes_2 (l : Launch) (E : rhE) (o a : Nat) (b : Nat → Nat) (p : Nat → Nat → Int64) (dd : Int32) (ud : Nat) (ho ha : Nat) (f : Nat → Int64) (hu : ud ≤ 8) : Ctr l E yX2_notes cX2_notes 2 none (rmL 2) [.ref o, .ref ho] (wP E o a b p (nI 2) (nI ud) dd ++ wH E ho ha f) (One none (wP E o a b (va_up p 2 f) (nI 3) (nI (if 8 < ud + 1 then 8 else ud + 1)) (dd + 1) ++ wH E ho ha f)) := by
  refine Ctr.of (by decide) (Nat.le_of_ble_eq_true rfl) rfl rfl 0 ?_
  intro X hX hR
  refine rh_aload_n hX dX2_notes_0 rfl ?_
  refine rh_aload_n hX dX2_notes_1 rfl ?_
  refine rh_get hX gl_X2_11 0 dX2_notes_2 rfl rfl ?_
  refine rh_aload_n hX dX2_notes_5 rfl ?_
  refine rh_get hX gl_X2_16 0 dX2_notes_6 rfl rfl ?_
  refine rh_aaload hX 1 2 dX2_notes_9 rfl (show nI 2 = nI 2 from rfl) (by decide) (by decide) ?_
  refine rh_uV hX lk_X2_20 mvX1_saveTo (fun l => c_X1_saveTo l E _ _ _ _ _) ⟨rfl, rfl⟩ ⟨Nat.le_of_ble_eq_true rfl, Nat.le_of_ble_eq_true rfl⟩ [10, 11, 4] rfl rfl 10 rfl dX2_notes_10 rfl rfl (Nat.le_of_ble_eq_true rfl) rfl ?_
  dsimp only [List.cons_append, List.nil_append, List.set_cons_succ, List.set_cons_zero, vput]
  refine rh_aload_n hX dX2_notes_13 rfl ?_
  refine rh_aload_n hX dX2_notes_14 rfl ?_
  refine rh_get hX gl_X2_16 0 dX2_notes_15 rfl rfl ?_
  refine rh_iconst hX dX2_notes_18 ki_1 ?_
  refine rh_iadd hX dX2_notes_19 ?_
  refine rh_bipush hX dX2_notes_20 kb_8 ?_
  refine rh_irem hX dX2_notes_22 (by decide) ?_
  rw [show nI 2 + 1 = nI (2 + 1) from (nI_succ 2).symm, nI_rem8 _ (by decide), show (2 + 1) % 8 = 3 from rfl]
  refine rh_put hX gl_X2_16 0 dX2_notes_23 rfl rfl rfl (Nat.le_of_ble_eq_true rfl) rfl ?_
  dsimp only [List.cons_append, List.nil_append, List.set_cons_succ, List.set_cons_zero, vput]
  refine rh_aload_n hX dX2_notes_26 rfl ?_
  refine rh_aload_n hX dX2_notes_27 rfl ?_
  refine rh_get hX gl_X2_26 0 dX2_notes_28 rfl rfl ?_
  refine rh_iconst hX dX2_notes_31 ki_1 ?_
  refine rh_iadd hX dX2_notes_32 ?_
  refine rh_bipush hX dX2_notes_33 kb_8 ?_
  refine rh_mini hX mm_X2_29 dX2_notes_35 (Nat.le_of_ble_eq_true rfl) (Nat.le_of_ble_eq_true rfl) ?_
  rw [show nI ud + 1 = nI (ud + 1) from (nI_succ ud).symm, nI_min8 (ud + 1) (by omega)]
  refine rh_put hX gl_X2_26 0 dX2_notes_38 rfl rfl rfl (Nat.le_of_ble_eq_true rfl) rfl ?_
  dsimp only [List.cons_append, List.nil_append, List.set_cons_succ, List.set_cons_zero, vput]
  refine rh_aload_n hX dX2_notes_41 rfl ?_
  refine rh_dup hX dX2_notes_42 rfl ?_
  refine rh_get hX gl_X2_35 0 dX2_notes_43 rfl rfl ?_
  refine rh_iconst hX dX2_notes_46 ki_1 ?_
  refine rh_iadd hX dX2_notes_47 ?_
  refine rh_put hX gl_X2_35 0 dX2_notes_48 rfl rfl rfl (Nat.le_of_ble_eq_true rfl) rfl ?_
  dsimp only [List.cons_append, List.nil_append, List.set_cons_succ, List.set_cons_zero, vput]
  exact rh_vret hX hR dX2_notes_51 rfl ⟨rfl, rfl⟩

set_option maxRecDepth 100000 in
set_option maxHeartbeats 4000000 in
theorem c_X2_takesBack_2 (l : Launch) (E : rhE) (o a : Nat) (b : Nat → Nat) (p : Nat → Nat → Int64) (dd : Int32) (ud : Nat) (ho ha : Nat) (f : Nat → Int64) (hu : 1 ≤ ud) (hu8 : ud ≤ 8) : Ctr l E yX2_takesBack cX2_takesBack 2 (some .boolean) (rmL 2) [.ref o, .ref ho] (wP E o a b p (nI 3) (nI ud) dd ++ wH E ho ha f) (One (some (.int 1)) (wP E o a b p (nI 2) (nI (ud - 1)) dd ++ wH E ho ha (p 2))) := by
  refine Ctr.of (by decide) (Nat.le_of_ble_eq_true rfl) rfl rfl 0 ?_
  intro X hX hR
  refine rh_aload_n hX dX2_takesBack_0 rfl ?_
  refine rh_get hX gl_X2_26 0 dX2_takesBack_1 rfl rfl ?_
  refine rh_if_ne_t (tgt := 9) hX dX2_takesBack_4 (by decide) (nI_ne0 (by omega) (by omega)) ?_
  refine rh_aload_n hX dX2_takesBack_9 rfl ?_
  refine rh_aload_n hX dX2_takesBack_10 rfl ?_
  refine rh_get hX gl_X2_16 0 dX2_takesBack_11 rfl rfl ?_
  refine rh_bipush hX dX2_takesBack_14 kb_8 ?_
  refine rh_iadd hX dX2_takesBack_16 ?_
  refine rh_iconst hX dX2_takesBack_17 ki_1 ?_
  refine rh_isub hX dX2_takesBack_18 ?_
  refine rh_bipush hX dX2_takesBack_19 kb_8 ?_
  refine rh_irem hX dX2_takesBack_21 (by decide) ?_
  rw [show (nI 3 + 8 - 1 - (nI 3 + 8 - 1) / 8 * 8 : Int32) = nI 2 by decide]
  refine rh_put hX gl_X2_16 0 dX2_takesBack_22 rfl rfl rfl (Nat.le_of_ble_eq_true rfl) rfl ?_
  dsimp only [List.cons_append, List.nil_append, List.set_cons_succ, List.set_cons_zero, vput]
  refine rh_aload_n hX dX2_takesBack_25 rfl ?_
  refine rh_dup hX dX2_takesBack_26 rfl ?_
  refine rh_get hX gl_X2_26 0 dX2_takesBack_27 rfl rfl ?_
  refine rh_iconst hX dX2_takesBack_30 ki_1 ?_
  refine rh_isub hX dX2_takesBack_31 ?_
  rw [show nI ud - 1 = nI (ud - 1) from rn_sub (b := 1) hu]
  refine rh_put hX gl_X2_26 0 dX2_takesBack_32 rfl rfl rfl (Nat.le_of_ble_eq_true rfl) rfl ?_
  dsimp only [List.cons_append, List.nil_append, List.set_cons_succ, List.set_cons_zero, vput]
  refine rh_aload_n hX dX2_takesBack_35 rfl ?_
  refine rh_aload_n hX dX2_takesBack_36 rfl ?_
  refine rh_get hX gl_X2_11 0 dX2_takesBack_37 rfl rfl ?_
  refine rh_aload_n hX dX2_takesBack_40 rfl ?_
  refine rh_get hX gl_X2_16 0 dX2_takesBack_41 rfl rfl ?_
  refine rh_aaload hX 1 2 dX2_takesBack_44 rfl (show nI 2 = nI 2 from rfl) (by decide) (by decide) ?_
  refine rh_uV hX lk_X2_38 mvX1_load (fun l => c_X1_load l E _ _ _ _ _) ⟨rfl, rfl⟩ ⟨Nat.le_of_ble_eq_true rfl, Nat.le_of_ble_eq_true rfl⟩ [10, 11, 4] rfl rfl 10 rfl dX2_takesBack_45 rfl rfl (Nat.le_of_ble_eq_true rfl) rfl ?_
  dsimp only [List.cons_append, List.nil_append, List.set_cons_succ, List.set_cons_zero, vput]
  refine rh_iconst hX dX2_takesBack_48 ki_1 ?_
  exact rh_zret hX hR dX2_takesBack_49 rfl rfl ⟨rfl, rfl⟩

set_option maxRecDepth 100000 in
set_option maxHeartbeats 4000000 in
theorem c_X2_notes_3 (l : Launch) (E : rhE) (o a : Nat) (b : Nat → Nat) (p : Nat → Nat → Int64) (dd : Int32) (ud : Nat) (ho ha : Nat) (f : Nat → Int64) (hu : ud ≤ 8) : Ctr l E yX2_notes cX2_notes 2 none (rmL 2) [.ref o, .ref ho] (wP E o a b p (nI 3) (nI ud) dd ++ wH E ho ha f) (One none (wP E o a b (va_up p 3 f) (nI 4) (nI (if 8 < ud + 1 then 8 else ud + 1)) (dd + 1) ++ wH E ho ha f)) := by
  refine Ctr.of (by decide) (Nat.le_of_ble_eq_true rfl) rfl rfl 0 ?_
  intro X hX hR
  refine rh_aload_n hX dX2_notes_0 rfl ?_
  refine rh_aload_n hX dX2_notes_1 rfl ?_
  refine rh_get hX gl_X2_11 0 dX2_notes_2 rfl rfl ?_
  refine rh_aload_n hX dX2_notes_5 rfl ?_
  refine rh_get hX gl_X2_16 0 dX2_notes_6 rfl rfl ?_
  refine rh_aaload hX 1 3 dX2_notes_9 rfl (show nI 3 = nI 3 from rfl) (by decide) (by decide) ?_
  refine rh_uV hX lk_X2_20 mvX1_saveTo (fun l => c_X1_saveTo l E _ _ _ _ _) ⟨rfl, rfl⟩ ⟨Nat.le_of_ble_eq_true rfl, Nat.le_of_ble_eq_true rfl⟩ [10, 11, 5] rfl rfl 10 rfl dX2_notes_10 rfl rfl (Nat.le_of_ble_eq_true rfl) rfl ?_
  dsimp only [List.cons_append, List.nil_append, List.set_cons_succ, List.set_cons_zero, vput]
  refine rh_aload_n hX dX2_notes_13 rfl ?_
  refine rh_aload_n hX dX2_notes_14 rfl ?_
  refine rh_get hX gl_X2_16 0 dX2_notes_15 rfl rfl ?_
  refine rh_iconst hX dX2_notes_18 ki_1 ?_
  refine rh_iadd hX dX2_notes_19 ?_
  refine rh_bipush hX dX2_notes_20 kb_8 ?_
  refine rh_irem hX dX2_notes_22 (by decide) ?_
  rw [show nI 3 + 1 = nI (3 + 1) from (nI_succ 3).symm, nI_rem8 _ (by decide), show (3 + 1) % 8 = 4 from rfl]
  refine rh_put hX gl_X2_16 0 dX2_notes_23 rfl rfl rfl (Nat.le_of_ble_eq_true rfl) rfl ?_
  dsimp only [List.cons_append, List.nil_append, List.set_cons_succ, List.set_cons_zero, vput]
  refine rh_aload_n hX dX2_notes_26 rfl ?_
  refine rh_aload_n hX dX2_notes_27 rfl ?_
  refine rh_get hX gl_X2_26 0 dX2_notes_28 rfl rfl ?_
  refine rh_iconst hX dX2_notes_31 ki_1 ?_
  refine rh_iadd hX dX2_notes_32 ?_
  refine rh_bipush hX dX2_notes_33 kb_8 ?_
  refine rh_mini hX mm_X2_29 dX2_notes_35 (Nat.le_of_ble_eq_true rfl) (Nat.le_of_ble_eq_true rfl) ?_
  rw [show nI ud + 1 = nI (ud + 1) from (nI_succ ud).symm, nI_min8 (ud + 1) (by omega)]
  refine rh_put hX gl_X2_26 0 dX2_notes_38 rfl rfl rfl (Nat.le_of_ble_eq_true rfl) rfl ?_
  dsimp only [List.cons_append, List.nil_append, List.set_cons_succ, List.set_cons_zero, vput]
  refine rh_aload_n hX dX2_notes_41 rfl ?_
  refine rh_dup hX dX2_notes_42 rfl ?_
  refine rh_get hX gl_X2_35 0 dX2_notes_43 rfl rfl ?_
  refine rh_iconst hX dX2_notes_46 ki_1 ?_
  refine rh_iadd hX dX2_notes_47 ?_
  refine rh_put hX gl_X2_35 0 dX2_notes_48 rfl rfl rfl (Nat.le_of_ble_eq_true rfl) rfl ?_
  dsimp only [List.cons_append, List.nil_append, List.set_cons_succ, List.set_cons_zero, vput]
  exact rh_vret hX hR dX2_notes_51 rfl ⟨rfl, rfl⟩

set_option maxRecDepth 100000 in
set_option maxHeartbeats 4000000 in
theorem c_X2_takesBack_3 (l : Launch) (E : rhE) (o a : Nat) (b : Nat → Nat) (p : Nat → Nat → Int64) (dd : Int32) (ud : Nat) (ho ha : Nat) (f : Nat → Int64) (hu : 1 ≤ ud) (hu8 : ud ≤ 8) : Ctr l E yX2_takesBack cX2_takesBack 2 (some .boolean) (rmL 2) [.ref o, .ref ho] (wP E o a b p (nI 4) (nI ud) dd ++ wH E ho ha f) (One (some (.int 1)) (wP E o a b p (nI 3) (nI (ud - 1)) dd ++ wH E ho ha (p 3))) := by
  refine Ctr.of (by decide) (Nat.le_of_ble_eq_true rfl) rfl rfl 0 ?_
  intro X hX hR
  refine rh_aload_n hX dX2_takesBack_0 rfl ?_
  refine rh_get hX gl_X2_26 0 dX2_takesBack_1 rfl rfl ?_
  refine rh_if_ne_t (tgt := 9) hX dX2_takesBack_4 (by decide) (nI_ne0 (by omega) (by omega)) ?_
  refine rh_aload_n hX dX2_takesBack_9 rfl ?_
  refine rh_aload_n hX dX2_takesBack_10 rfl ?_
  refine rh_get hX gl_X2_16 0 dX2_takesBack_11 rfl rfl ?_
  refine rh_bipush hX dX2_takesBack_14 kb_8 ?_
  refine rh_iadd hX dX2_takesBack_16 ?_
  refine rh_iconst hX dX2_takesBack_17 ki_1 ?_
  refine rh_isub hX dX2_takesBack_18 ?_
  refine rh_bipush hX dX2_takesBack_19 kb_8 ?_
  refine rh_irem hX dX2_takesBack_21 (by decide) ?_
  rw [show (nI 4 + 8 - 1 - (nI 4 + 8 - 1) / 8 * 8 : Int32) = nI 3 by decide]
  refine rh_put hX gl_X2_16 0 dX2_takesBack_22 rfl rfl rfl (Nat.le_of_ble_eq_true rfl) rfl ?_
  dsimp only [List.cons_append, List.nil_append, List.set_cons_succ, List.set_cons_zero, vput]
  refine rh_aload_n hX dX2_takesBack_25 rfl ?_
  refine rh_dup hX dX2_takesBack_26 rfl ?_
  refine rh_get hX gl_X2_26 0 dX2_takesBack_27 rfl rfl ?_
  refine rh_iconst hX dX2_takesBack_30 ki_1 ?_
  refine rh_isub hX dX2_takesBack_31 ?_
  rw [show nI ud - 1 = nI (ud - 1) from rn_sub (b := 1) hu]
  refine rh_put hX gl_X2_26 0 dX2_takesBack_32 rfl rfl rfl (Nat.le_of_ble_eq_true rfl) rfl ?_
  dsimp only [List.cons_append, List.nil_append, List.set_cons_succ, List.set_cons_zero, vput]
  refine rh_aload_n hX dX2_takesBack_35 rfl ?_
  refine rh_aload_n hX dX2_takesBack_36 rfl ?_
  refine rh_get hX gl_X2_11 0 dX2_takesBack_37 rfl rfl ?_
  refine rh_aload_n hX dX2_takesBack_40 rfl ?_
  refine rh_get hX gl_X2_16 0 dX2_takesBack_41 rfl rfl ?_
  refine rh_aaload hX 1 3 dX2_takesBack_44 rfl (show nI 3 = nI 3 from rfl) (by decide) (by decide) ?_
  refine rh_uV hX lk_X2_38 mvX1_load (fun l => c_X1_load l E _ _ _ _ _) ⟨rfl, rfl⟩ ⟨Nat.le_of_ble_eq_true rfl, Nat.le_of_ble_eq_true rfl⟩ [10, 11, 5] rfl rfl 10 rfl dX2_takesBack_45 rfl rfl (Nat.le_of_ble_eq_true rfl) rfl ?_
  dsimp only [List.cons_append, List.nil_append, List.set_cons_succ, List.set_cons_zero, vput]
  refine rh_iconst hX dX2_takesBack_48 ki_1 ?_
  exact rh_zret hX hR dX2_takesBack_49 rfl rfl ⟨rfl, rfl⟩

set_option maxRecDepth 100000 in
set_option maxHeartbeats 4000000 in
theorem c_X2_notes_4 (l : Launch) (E : rhE) (o a : Nat) (b : Nat → Nat) (p : Nat → Nat → Int64) (dd : Int32) (ud : Nat) (ho ha : Nat) (f : Nat → Int64) (hu : ud ≤ 8) : Ctr l E yX2_notes cX2_notes 2 none (rmL 2) [.ref o, .ref ho] (wP E o a b p (nI 4) (nI ud) dd ++ wH E ho ha f) (One none (wP E o a b (va_up p 4 f) (nI 5) (nI (if 8 < ud + 1 then 8 else ud + 1)) (dd + 1) ++ wH E ho ha f)) := by
  refine Ctr.of (by decide) (Nat.le_of_ble_eq_true rfl) rfl rfl 0 ?_
  intro X hX hR
  refine rh_aload_n hX dX2_notes_0 rfl ?_
  refine rh_aload_n hX dX2_notes_1 rfl ?_
  refine rh_get hX gl_X2_11 0 dX2_notes_2 rfl rfl ?_
  refine rh_aload_n hX dX2_notes_5 rfl ?_
  refine rh_get hX gl_X2_16 0 dX2_notes_6 rfl rfl ?_
  refine rh_aaload hX 1 4 dX2_notes_9 rfl (show nI 4 = nI 4 from rfl) (by decide) (by decide) ?_
  refine rh_uV hX lk_X2_20 mvX1_saveTo (fun l => c_X1_saveTo l E _ _ _ _ _) ⟨rfl, rfl⟩ ⟨Nat.le_of_ble_eq_true rfl, Nat.le_of_ble_eq_true rfl⟩ [10, 11, 6] rfl rfl 10 rfl dX2_notes_10 rfl rfl (Nat.le_of_ble_eq_true rfl) rfl ?_
  dsimp only [List.cons_append, List.nil_append, List.set_cons_succ, List.set_cons_zero, vput]
  refine rh_aload_n hX dX2_notes_13 rfl ?_
  refine rh_aload_n hX dX2_notes_14 rfl ?_
  refine rh_get hX gl_X2_16 0 dX2_notes_15 rfl rfl ?_
  refine rh_iconst hX dX2_notes_18 ki_1 ?_
  refine rh_iadd hX dX2_notes_19 ?_
  refine rh_bipush hX dX2_notes_20 kb_8 ?_
  refine rh_irem hX dX2_notes_22 (by decide) ?_
  rw [show nI 4 + 1 = nI (4 + 1) from (nI_succ 4).symm, nI_rem8 _ (by decide), show (4 + 1) % 8 = 5 from rfl]
  refine rh_put hX gl_X2_16 0 dX2_notes_23 rfl rfl rfl (Nat.le_of_ble_eq_true rfl) rfl ?_
  dsimp only [List.cons_append, List.nil_append, List.set_cons_succ, List.set_cons_zero, vput]
  refine rh_aload_n hX dX2_notes_26 rfl ?_
  refine rh_aload_n hX dX2_notes_27 rfl ?_
  refine rh_get hX gl_X2_26 0 dX2_notes_28 rfl rfl ?_
  refine rh_iconst hX dX2_notes_31 ki_1 ?_
  refine rh_iadd hX dX2_notes_32 ?_
  refine rh_bipush hX dX2_notes_33 kb_8 ?_
  refine rh_mini hX mm_X2_29 dX2_notes_35 (Nat.le_of_ble_eq_true rfl) (Nat.le_of_ble_eq_true rfl) ?_
  rw [show nI ud + 1 = nI (ud + 1) from (nI_succ ud).symm, nI_min8 (ud + 1) (by omega)]
  refine rh_put hX gl_X2_26 0 dX2_notes_38 rfl rfl rfl (Nat.le_of_ble_eq_true rfl) rfl ?_
  dsimp only [List.cons_append, List.nil_append, List.set_cons_succ, List.set_cons_zero, vput]
  refine rh_aload_n hX dX2_notes_41 rfl ?_
  refine rh_dup hX dX2_notes_42 rfl ?_
  refine rh_get hX gl_X2_35 0 dX2_notes_43 rfl rfl ?_
  refine rh_iconst hX dX2_notes_46 ki_1 ?_
  refine rh_iadd hX dX2_notes_47 ?_
  refine rh_put hX gl_X2_35 0 dX2_notes_48 rfl rfl rfl (Nat.le_of_ble_eq_true rfl) rfl ?_
  dsimp only [List.cons_append, List.nil_append, List.set_cons_succ, List.set_cons_zero, vput]
  exact rh_vret hX hR dX2_notes_51 rfl ⟨rfl, rfl⟩

set_option maxRecDepth 100000 in
set_option maxHeartbeats 4000000 in
theorem c_X2_takesBack_4 (l : Launch) (E : rhE) (o a : Nat) (b : Nat → Nat) (p : Nat → Nat → Int64) (dd : Int32) (ud : Nat) (ho ha : Nat) (f : Nat → Int64) (hu : 1 ≤ ud) (hu8 : ud ≤ 8) : Ctr l E yX2_takesBack cX2_takesBack 2 (some .boolean) (rmL 2) [.ref o, .ref ho] (wP E o a b p (nI 5) (nI ud) dd ++ wH E ho ha f) (One (some (.int 1)) (wP E o a b p (nI 4) (nI (ud - 1)) dd ++ wH E ho ha (p 4))) := by
  refine Ctr.of (by decide) (Nat.le_of_ble_eq_true rfl) rfl rfl 0 ?_
  intro X hX hR
  refine rh_aload_n hX dX2_takesBack_0 rfl ?_
  refine rh_get hX gl_X2_26 0 dX2_takesBack_1 rfl rfl ?_
  refine rh_if_ne_t (tgt := 9) hX dX2_takesBack_4 (by decide) (nI_ne0 (by omega) (by omega)) ?_
  refine rh_aload_n hX dX2_takesBack_9 rfl ?_
  refine rh_aload_n hX dX2_takesBack_10 rfl ?_
  refine rh_get hX gl_X2_16 0 dX2_takesBack_11 rfl rfl ?_
  refine rh_bipush hX dX2_takesBack_14 kb_8 ?_
  refine rh_iadd hX dX2_takesBack_16 ?_
  refine rh_iconst hX dX2_takesBack_17 ki_1 ?_
  refine rh_isub hX dX2_takesBack_18 ?_
  refine rh_bipush hX dX2_takesBack_19 kb_8 ?_
  refine rh_irem hX dX2_takesBack_21 (by decide) ?_
  rw [show (nI 5 + 8 - 1 - (nI 5 + 8 - 1) / 8 * 8 : Int32) = nI 4 by decide]
  refine rh_put hX gl_X2_16 0 dX2_takesBack_22 rfl rfl rfl (Nat.le_of_ble_eq_true rfl) rfl ?_
  dsimp only [List.cons_append, List.nil_append, List.set_cons_succ, List.set_cons_zero, vput]
  refine rh_aload_n hX dX2_takesBack_25 rfl ?_
  refine rh_dup hX dX2_takesBack_26 rfl ?_
  refine rh_get hX gl_X2_26 0 dX2_takesBack_27 rfl rfl ?_
  refine rh_iconst hX dX2_takesBack_30 ki_1 ?_
  refine rh_isub hX dX2_takesBack_31 ?_
  rw [show nI ud - 1 = nI (ud - 1) from rn_sub (b := 1) hu]
  refine rh_put hX gl_X2_26 0 dX2_takesBack_32 rfl rfl rfl (Nat.le_of_ble_eq_true rfl) rfl ?_
  dsimp only [List.cons_append, List.nil_append, List.set_cons_succ, List.set_cons_zero, vput]
  refine rh_aload_n hX dX2_takesBack_35 rfl ?_
  refine rh_aload_n hX dX2_takesBack_36 rfl ?_
  refine rh_get hX gl_X2_11 0 dX2_takesBack_37 rfl rfl ?_
  refine rh_aload_n hX dX2_takesBack_40 rfl ?_
  refine rh_get hX gl_X2_16 0 dX2_takesBack_41 rfl rfl ?_
  refine rh_aaload hX 1 4 dX2_takesBack_44 rfl (show nI 4 = nI 4 from rfl) (by decide) (by decide) ?_
  refine rh_uV hX lk_X2_38 mvX1_load (fun l => c_X1_load l E _ _ _ _ _) ⟨rfl, rfl⟩ ⟨Nat.le_of_ble_eq_true rfl, Nat.le_of_ble_eq_true rfl⟩ [10, 11, 6] rfl rfl 10 rfl dX2_takesBack_45 rfl rfl (Nat.le_of_ble_eq_true rfl) rfl ?_
  dsimp only [List.cons_append, List.nil_append, List.set_cons_succ, List.set_cons_zero, vput]
  refine rh_iconst hX dX2_takesBack_48 ki_1 ?_
  exact rh_zret hX hR dX2_takesBack_49 rfl rfl ⟨rfl, rfl⟩

set_option maxRecDepth 100000 in
set_option maxHeartbeats 4000000 in
theorem c_X2_notes_5 (l : Launch) (E : rhE) (o a : Nat) (b : Nat → Nat) (p : Nat → Nat → Int64) (dd : Int32) (ud : Nat) (ho ha : Nat) (f : Nat → Int64) (hu : ud ≤ 8) : Ctr l E yX2_notes cX2_notes 2 none (rmL 2) [.ref o, .ref ho] (wP E o a b p (nI 5) (nI ud) dd ++ wH E ho ha f) (One none (wP E o a b (va_up p 5 f) (nI 6) (nI (if 8 < ud + 1 then 8 else ud + 1)) (dd + 1) ++ wH E ho ha f)) := by
  refine Ctr.of (by decide) (Nat.le_of_ble_eq_true rfl) rfl rfl 0 ?_
  intro X hX hR
  refine rh_aload_n hX dX2_notes_0 rfl ?_
  refine rh_aload_n hX dX2_notes_1 rfl ?_
  refine rh_get hX gl_X2_11 0 dX2_notes_2 rfl rfl ?_
  refine rh_aload_n hX dX2_notes_5 rfl ?_
  refine rh_get hX gl_X2_16 0 dX2_notes_6 rfl rfl ?_
  refine rh_aaload hX 1 5 dX2_notes_9 rfl (show nI 5 = nI 5 from rfl) (by decide) (by decide) ?_
  refine rh_uV hX lk_X2_20 mvX1_saveTo (fun l => c_X1_saveTo l E _ _ _ _ _) ⟨rfl, rfl⟩ ⟨Nat.le_of_ble_eq_true rfl, Nat.le_of_ble_eq_true rfl⟩ [10, 11, 7] rfl rfl 10 rfl dX2_notes_10 rfl rfl (Nat.le_of_ble_eq_true rfl) rfl ?_
  dsimp only [List.cons_append, List.nil_append, List.set_cons_succ, List.set_cons_zero, vput]
  refine rh_aload_n hX dX2_notes_13 rfl ?_
  refine rh_aload_n hX dX2_notes_14 rfl ?_
  refine rh_get hX gl_X2_16 0 dX2_notes_15 rfl rfl ?_
  refine rh_iconst hX dX2_notes_18 ki_1 ?_
  refine rh_iadd hX dX2_notes_19 ?_
  refine rh_bipush hX dX2_notes_20 kb_8 ?_
  refine rh_irem hX dX2_notes_22 (by decide) ?_
  rw [show nI 5 + 1 = nI (5 + 1) from (nI_succ 5).symm, nI_rem8 _ (by decide), show (5 + 1) % 8 = 6 from rfl]
  refine rh_put hX gl_X2_16 0 dX2_notes_23 rfl rfl rfl (Nat.le_of_ble_eq_true rfl) rfl ?_
  dsimp only [List.cons_append, List.nil_append, List.set_cons_succ, List.set_cons_zero, vput]
  refine rh_aload_n hX dX2_notes_26 rfl ?_
  refine rh_aload_n hX dX2_notes_27 rfl ?_
  refine rh_get hX gl_X2_26 0 dX2_notes_28 rfl rfl ?_
  refine rh_iconst hX dX2_notes_31 ki_1 ?_
  refine rh_iadd hX dX2_notes_32 ?_
  refine rh_bipush hX dX2_notes_33 kb_8 ?_
  refine rh_mini hX mm_X2_29 dX2_notes_35 (Nat.le_of_ble_eq_true rfl) (Nat.le_of_ble_eq_true rfl) ?_
  rw [show nI ud + 1 = nI (ud + 1) from (nI_succ ud).symm, nI_min8 (ud + 1) (by omega)]
  refine rh_put hX gl_X2_26 0 dX2_notes_38 rfl rfl rfl (Nat.le_of_ble_eq_true rfl) rfl ?_
  dsimp only [List.cons_append, List.nil_append, List.set_cons_succ, List.set_cons_zero, vput]
  refine rh_aload_n hX dX2_notes_41 rfl ?_
  refine rh_dup hX dX2_notes_42 rfl ?_
  refine rh_get hX gl_X2_35 0 dX2_notes_43 rfl rfl ?_
  refine rh_iconst hX dX2_notes_46 ki_1 ?_
  refine rh_iadd hX dX2_notes_47 ?_
  refine rh_put hX gl_X2_35 0 dX2_notes_48 rfl rfl rfl (Nat.le_of_ble_eq_true rfl) rfl ?_
  dsimp only [List.cons_append, List.nil_append, List.set_cons_succ, List.set_cons_zero, vput]
  exact rh_vret hX hR dX2_notes_51 rfl ⟨rfl, rfl⟩

set_option maxRecDepth 100000 in
set_option maxHeartbeats 4000000 in
theorem c_X2_takesBack_5 (l : Launch) (E : rhE) (o a : Nat) (b : Nat → Nat) (p : Nat → Nat → Int64) (dd : Int32) (ud : Nat) (ho ha : Nat) (f : Nat → Int64) (hu : 1 ≤ ud) (hu8 : ud ≤ 8) : Ctr l E yX2_takesBack cX2_takesBack 2 (some .boolean) (rmL 2) [.ref o, .ref ho] (wP E o a b p (nI 6) (nI ud) dd ++ wH E ho ha f) (One (some (.int 1)) (wP E o a b p (nI 5) (nI (ud - 1)) dd ++ wH E ho ha (p 5))) := by
  refine Ctr.of (by decide) (Nat.le_of_ble_eq_true rfl) rfl rfl 0 ?_
  intro X hX hR
  refine rh_aload_n hX dX2_takesBack_0 rfl ?_
  refine rh_get hX gl_X2_26 0 dX2_takesBack_1 rfl rfl ?_
  refine rh_if_ne_t (tgt := 9) hX dX2_takesBack_4 (by decide) (nI_ne0 (by omega) (by omega)) ?_
  refine rh_aload_n hX dX2_takesBack_9 rfl ?_
  refine rh_aload_n hX dX2_takesBack_10 rfl ?_
  refine rh_get hX gl_X2_16 0 dX2_takesBack_11 rfl rfl ?_
  refine rh_bipush hX dX2_takesBack_14 kb_8 ?_
  refine rh_iadd hX dX2_takesBack_16 ?_
  refine rh_iconst hX dX2_takesBack_17 ki_1 ?_
  refine rh_isub hX dX2_takesBack_18 ?_
  refine rh_bipush hX dX2_takesBack_19 kb_8 ?_
  refine rh_irem hX dX2_takesBack_21 (by decide) ?_
  rw [show (nI 6 + 8 - 1 - (nI 6 + 8 - 1) / 8 * 8 : Int32) = nI 5 by decide]
  refine rh_put hX gl_X2_16 0 dX2_takesBack_22 rfl rfl rfl (Nat.le_of_ble_eq_true rfl) rfl ?_
  dsimp only [List.cons_append, List.nil_append, List.set_cons_succ, List.set_cons_zero, vput]
  refine rh_aload_n hX dX2_takesBack_25 rfl ?_
  refine rh_dup hX dX2_takesBack_26 rfl ?_
  refine rh_get hX gl_X2_26 0 dX2_takesBack_27 rfl rfl ?_
  refine rh_iconst hX dX2_takesBack_30 ki_1 ?_
  refine rh_isub hX dX2_takesBack_31 ?_
  rw [show nI ud - 1 = nI (ud - 1) from rn_sub (b := 1) hu]
  refine rh_put hX gl_X2_26 0 dX2_takesBack_32 rfl rfl rfl (Nat.le_of_ble_eq_true rfl) rfl ?_
  dsimp only [List.cons_append, List.nil_append, List.set_cons_succ, List.set_cons_zero, vput]
  refine rh_aload_n hX dX2_takesBack_35 rfl ?_
  refine rh_aload_n hX dX2_takesBack_36 rfl ?_
  refine rh_get hX gl_X2_11 0 dX2_takesBack_37 rfl rfl ?_
  refine rh_aload_n hX dX2_takesBack_40 rfl ?_
  refine rh_get hX gl_X2_16 0 dX2_takesBack_41 rfl rfl ?_
  refine rh_aaload hX 1 5 dX2_takesBack_44 rfl (show nI 5 = nI 5 from rfl) (by decide) (by decide) ?_
  refine rh_uV hX lk_X2_38 mvX1_load (fun l => c_X1_load l E _ _ _ _ _) ⟨rfl, rfl⟩ ⟨Nat.le_of_ble_eq_true rfl, Nat.le_of_ble_eq_true rfl⟩ [10, 11, 7] rfl rfl 10 rfl dX2_takesBack_45 rfl rfl (Nat.le_of_ble_eq_true rfl) rfl ?_
  dsimp only [List.cons_append, List.nil_append, List.set_cons_succ, List.set_cons_zero, vput]
  refine rh_iconst hX dX2_takesBack_48 ki_1 ?_
  exact rh_zret hX hR dX2_takesBack_49 rfl rfl ⟨rfl, rfl⟩

set_option maxRecDepth 100000 in
set_option maxHeartbeats 4000000 in
theorem c_X2_notes_6 (l : Launch) (E : rhE) (o a : Nat) (b : Nat → Nat) (p : Nat → Nat → Int64) (dd : Int32) (ud : Nat) (ho ha : Nat) (f : Nat → Int64) (hu : ud ≤ 8) : Ctr l E yX2_notes cX2_notes 2 none (rmL 2) [.ref o, .ref ho] (wP E o a b p (nI 6) (nI ud) dd ++ wH E ho ha f) (One none (wP E o a b (va_up p 6 f) (nI 7) (nI (if 8 < ud + 1 then 8 else ud + 1)) (dd + 1) ++ wH E ho ha f)) := by
  refine Ctr.of (by decide) (Nat.le_of_ble_eq_true rfl) rfl rfl 0 ?_
  intro X hX hR
  refine rh_aload_n hX dX2_notes_0 rfl ?_
  refine rh_aload_n hX dX2_notes_1 rfl ?_
  refine rh_get hX gl_X2_11 0 dX2_notes_2 rfl rfl ?_
  refine rh_aload_n hX dX2_notes_5 rfl ?_
  refine rh_get hX gl_X2_16 0 dX2_notes_6 rfl rfl ?_
  refine rh_aaload hX 1 6 dX2_notes_9 rfl (show nI 6 = nI 6 from rfl) (by decide) (by decide) ?_
  refine rh_uV hX lk_X2_20 mvX1_saveTo (fun l => c_X1_saveTo l E _ _ _ _ _) ⟨rfl, rfl⟩ ⟨Nat.le_of_ble_eq_true rfl, Nat.le_of_ble_eq_true rfl⟩ [10, 11, 8] rfl rfl 10 rfl dX2_notes_10 rfl rfl (Nat.le_of_ble_eq_true rfl) rfl ?_
  dsimp only [List.cons_append, List.nil_append, List.set_cons_succ, List.set_cons_zero, vput]
  refine rh_aload_n hX dX2_notes_13 rfl ?_
  refine rh_aload_n hX dX2_notes_14 rfl ?_
  refine rh_get hX gl_X2_16 0 dX2_notes_15 rfl rfl ?_
  refine rh_iconst hX dX2_notes_18 ki_1 ?_
  refine rh_iadd hX dX2_notes_19 ?_
  refine rh_bipush hX dX2_notes_20 kb_8 ?_
  refine rh_irem hX dX2_notes_22 (by decide) ?_
  rw [show nI 6 + 1 = nI (6 + 1) from (nI_succ 6).symm, nI_rem8 _ (by decide), show (6 + 1) % 8 = 7 from rfl]
  refine rh_put hX gl_X2_16 0 dX2_notes_23 rfl rfl rfl (Nat.le_of_ble_eq_true rfl) rfl ?_
  dsimp only [List.cons_append, List.nil_append, List.set_cons_succ, List.set_cons_zero, vput]
  refine rh_aload_n hX dX2_notes_26 rfl ?_
  refine rh_aload_n hX dX2_notes_27 rfl ?_
  refine rh_get hX gl_X2_26 0 dX2_notes_28 rfl rfl ?_
  refine rh_iconst hX dX2_notes_31 ki_1 ?_
  refine rh_iadd hX dX2_notes_32 ?_
  refine rh_bipush hX dX2_notes_33 kb_8 ?_
  refine rh_mini hX mm_X2_29 dX2_notes_35 (Nat.le_of_ble_eq_true rfl) (Nat.le_of_ble_eq_true rfl) ?_
  rw [show nI ud + 1 = nI (ud + 1) from (nI_succ ud).symm, nI_min8 (ud + 1) (by omega)]
  refine rh_put hX gl_X2_26 0 dX2_notes_38 rfl rfl rfl (Nat.le_of_ble_eq_true rfl) rfl ?_
  dsimp only [List.cons_append, List.nil_append, List.set_cons_succ, List.set_cons_zero, vput]
  refine rh_aload_n hX dX2_notes_41 rfl ?_
  refine rh_dup hX dX2_notes_42 rfl ?_
  refine rh_get hX gl_X2_35 0 dX2_notes_43 rfl rfl ?_
  refine rh_iconst hX dX2_notes_46 ki_1 ?_
  refine rh_iadd hX dX2_notes_47 ?_
  refine rh_put hX gl_X2_35 0 dX2_notes_48 rfl rfl rfl (Nat.le_of_ble_eq_true rfl) rfl ?_
  dsimp only [List.cons_append, List.nil_append, List.set_cons_succ, List.set_cons_zero, vput]
  exact rh_vret hX hR dX2_notes_51 rfl ⟨rfl, rfl⟩

set_option maxRecDepth 100000 in
set_option maxHeartbeats 4000000 in
theorem c_X2_takesBack_6 (l : Launch) (E : rhE) (o a : Nat) (b : Nat → Nat) (p : Nat → Nat → Int64) (dd : Int32) (ud : Nat) (ho ha : Nat) (f : Nat → Int64) (hu : 1 ≤ ud) (hu8 : ud ≤ 8) : Ctr l E yX2_takesBack cX2_takesBack 2 (some .boolean) (rmL 2) [.ref o, .ref ho] (wP E o a b p (nI 7) (nI ud) dd ++ wH E ho ha f) (One (some (.int 1)) (wP E o a b p (nI 6) (nI (ud - 1)) dd ++ wH E ho ha (p 6))) := by
  refine Ctr.of (by decide) (Nat.le_of_ble_eq_true rfl) rfl rfl 0 ?_
  intro X hX hR
  refine rh_aload_n hX dX2_takesBack_0 rfl ?_
  refine rh_get hX gl_X2_26 0 dX2_takesBack_1 rfl rfl ?_
  refine rh_if_ne_t (tgt := 9) hX dX2_takesBack_4 (by decide) (nI_ne0 (by omega) (by omega)) ?_
  refine rh_aload_n hX dX2_takesBack_9 rfl ?_
  refine rh_aload_n hX dX2_takesBack_10 rfl ?_
  refine rh_get hX gl_X2_16 0 dX2_takesBack_11 rfl rfl ?_
  refine rh_bipush hX dX2_takesBack_14 kb_8 ?_
  refine rh_iadd hX dX2_takesBack_16 ?_
  refine rh_iconst hX dX2_takesBack_17 ki_1 ?_
  refine rh_isub hX dX2_takesBack_18 ?_
  refine rh_bipush hX dX2_takesBack_19 kb_8 ?_
  refine rh_irem hX dX2_takesBack_21 (by decide) ?_
  rw [show (nI 7 + 8 - 1 - (nI 7 + 8 - 1) / 8 * 8 : Int32) = nI 6 by decide]
  refine rh_put hX gl_X2_16 0 dX2_takesBack_22 rfl rfl rfl (Nat.le_of_ble_eq_true rfl) rfl ?_
  dsimp only [List.cons_append, List.nil_append, List.set_cons_succ, List.set_cons_zero, vput]
  refine rh_aload_n hX dX2_takesBack_25 rfl ?_
  refine rh_dup hX dX2_takesBack_26 rfl ?_
  refine rh_get hX gl_X2_26 0 dX2_takesBack_27 rfl rfl ?_
  refine rh_iconst hX dX2_takesBack_30 ki_1 ?_
  refine rh_isub hX dX2_takesBack_31 ?_
  rw [show nI ud - 1 = nI (ud - 1) from rn_sub (b := 1) hu]
  refine rh_put hX gl_X2_26 0 dX2_takesBack_32 rfl rfl rfl (Nat.le_of_ble_eq_true rfl) rfl ?_
  dsimp only [List.cons_append, List.nil_append, List.set_cons_succ, List.set_cons_zero, vput]
  refine rh_aload_n hX dX2_takesBack_35 rfl ?_
  refine rh_aload_n hX dX2_takesBack_36 rfl ?_
  refine rh_get hX gl_X2_11 0 dX2_takesBack_37 rfl rfl ?_
  refine rh_aload_n hX dX2_takesBack_40 rfl ?_
  refine rh_get hX gl_X2_16 0 dX2_takesBack_41 rfl rfl ?_
  refine rh_aaload hX 1 6 dX2_takesBack_44 rfl (show nI 6 = nI 6 from rfl) (by decide) (by decide) ?_
  refine rh_uV hX lk_X2_38 mvX1_load (fun l => c_X1_load l E _ _ _ _ _) ⟨rfl, rfl⟩ ⟨Nat.le_of_ble_eq_true rfl, Nat.le_of_ble_eq_true rfl⟩ [10, 11, 8] rfl rfl 10 rfl dX2_takesBack_45 rfl rfl (Nat.le_of_ble_eq_true rfl) rfl ?_
  dsimp only [List.cons_append, List.nil_append, List.set_cons_succ, List.set_cons_zero, vput]
  refine rh_iconst hX dX2_takesBack_48 ki_1 ?_
  exact rh_zret hX hR dX2_takesBack_49 rfl rfl ⟨rfl, rfl⟩

set_option maxRecDepth 100000 in
set_option maxHeartbeats 4000000 in
theorem c_X2_notes_7 (l : Launch) (E : rhE) (o a : Nat) (b : Nat → Nat) (p : Nat → Nat → Int64) (dd : Int32) (ud : Nat) (ho ha : Nat) (f : Nat → Int64) (hu : ud ≤ 8) : Ctr l E yX2_notes cX2_notes 2 none (rmL 2) [.ref o, .ref ho] (wP E o a b p (nI 7) (nI ud) dd ++ wH E ho ha f) (One none (wP E o a b (va_up p 7 f) (nI 0) (nI (if 8 < ud + 1 then 8 else ud + 1)) (dd + 1) ++ wH E ho ha f)) := by
  refine Ctr.of (by decide) (Nat.le_of_ble_eq_true rfl) rfl rfl 0 ?_
  intro X hX hR
  refine rh_aload_n hX dX2_notes_0 rfl ?_
  refine rh_aload_n hX dX2_notes_1 rfl ?_
  refine rh_get hX gl_X2_11 0 dX2_notes_2 rfl rfl ?_
  refine rh_aload_n hX dX2_notes_5 rfl ?_
  refine rh_get hX gl_X2_16 0 dX2_notes_6 rfl rfl ?_
  refine rh_aaload hX 1 7 dX2_notes_9 rfl (show nI 7 = nI 7 from rfl) (by decide) (by decide) ?_
  refine rh_uV hX lk_X2_20 mvX1_saveTo (fun l => c_X1_saveTo l E _ _ _ _ _) ⟨rfl, rfl⟩ ⟨Nat.le_of_ble_eq_true rfl, Nat.le_of_ble_eq_true rfl⟩ [10, 11, 9] rfl rfl 10 rfl dX2_notes_10 rfl rfl (Nat.le_of_ble_eq_true rfl) rfl ?_
  dsimp only [List.cons_append, List.nil_append, List.set_cons_succ, List.set_cons_zero, vput]
  refine rh_aload_n hX dX2_notes_13 rfl ?_
  refine rh_aload_n hX dX2_notes_14 rfl ?_
  refine rh_get hX gl_X2_16 0 dX2_notes_15 rfl rfl ?_
  refine rh_iconst hX dX2_notes_18 ki_1 ?_
  refine rh_iadd hX dX2_notes_19 ?_
  refine rh_bipush hX dX2_notes_20 kb_8 ?_
  refine rh_irem hX dX2_notes_22 (by decide) ?_
  rw [show nI 7 + 1 = nI (7 + 1) from (nI_succ 7).symm, nI_rem8 _ (by decide), show (7 + 1) % 8 = 0 from rfl]
  refine rh_put hX gl_X2_16 0 dX2_notes_23 rfl rfl rfl (Nat.le_of_ble_eq_true rfl) rfl ?_
  dsimp only [List.cons_append, List.nil_append, List.set_cons_succ, List.set_cons_zero, vput]
  refine rh_aload_n hX dX2_notes_26 rfl ?_
  refine rh_aload_n hX dX2_notes_27 rfl ?_
  refine rh_get hX gl_X2_26 0 dX2_notes_28 rfl rfl ?_
  refine rh_iconst hX dX2_notes_31 ki_1 ?_
  refine rh_iadd hX dX2_notes_32 ?_
  refine rh_bipush hX dX2_notes_33 kb_8 ?_
  refine rh_mini hX mm_X2_29 dX2_notes_35 (Nat.le_of_ble_eq_true rfl) (Nat.le_of_ble_eq_true rfl) ?_
  rw [show nI ud + 1 = nI (ud + 1) from (nI_succ ud).symm, nI_min8 (ud + 1) (by omega)]
  refine rh_put hX gl_X2_26 0 dX2_notes_38 rfl rfl rfl (Nat.le_of_ble_eq_true rfl) rfl ?_
  dsimp only [List.cons_append, List.nil_append, List.set_cons_succ, List.set_cons_zero, vput]
  refine rh_aload_n hX dX2_notes_41 rfl ?_
  refine rh_dup hX dX2_notes_42 rfl ?_
  refine rh_get hX gl_X2_35 0 dX2_notes_43 rfl rfl ?_
  refine rh_iconst hX dX2_notes_46 ki_1 ?_
  refine rh_iadd hX dX2_notes_47 ?_
  refine rh_put hX gl_X2_35 0 dX2_notes_48 rfl rfl rfl (Nat.le_of_ble_eq_true rfl) rfl ?_
  dsimp only [List.cons_append, List.nil_append, List.set_cons_succ, List.set_cons_zero, vput]
  exact rh_vret hX hR dX2_notes_51 rfl ⟨rfl, rfl⟩

set_option maxRecDepth 100000 in
set_option maxHeartbeats 4000000 in
theorem c_X2_takesBack_7 (l : Launch) (E : rhE) (o a : Nat) (b : Nat → Nat) (p : Nat → Nat → Int64) (dd : Int32) (ud : Nat) (ho ha : Nat) (f : Nat → Int64) (hu : 1 ≤ ud) (hu8 : ud ≤ 8) : Ctr l E yX2_takesBack cX2_takesBack 2 (some .boolean) (rmL 2) [.ref o, .ref ho] (wP E o a b p (nI 0) (nI ud) dd ++ wH E ho ha f) (One (some (.int 1)) (wP E o a b p (nI 7) (nI (ud - 1)) dd ++ wH E ho ha (p 7))) := by
  refine Ctr.of (by decide) (Nat.le_of_ble_eq_true rfl) rfl rfl 0 ?_
  intro X hX hR
  refine rh_aload_n hX dX2_takesBack_0 rfl ?_
  refine rh_get hX gl_X2_26 0 dX2_takesBack_1 rfl rfl ?_
  refine rh_if_ne_t (tgt := 9) hX dX2_takesBack_4 (by decide) (nI_ne0 (by omega) (by omega)) ?_
  refine rh_aload_n hX dX2_takesBack_9 rfl ?_
  refine rh_aload_n hX dX2_takesBack_10 rfl ?_
  refine rh_get hX gl_X2_16 0 dX2_takesBack_11 rfl rfl ?_
  refine rh_bipush hX dX2_takesBack_14 kb_8 ?_
  refine rh_iadd hX dX2_takesBack_16 ?_
  refine rh_iconst hX dX2_takesBack_17 ki_1 ?_
  refine rh_isub hX dX2_takesBack_18 ?_
  refine rh_bipush hX dX2_takesBack_19 kb_8 ?_
  refine rh_irem hX dX2_takesBack_21 (by decide) ?_
  rw [show (nI 0 + 8 - 1 - (nI 0 + 8 - 1) / 8 * 8 : Int32) = nI 7 by decide]
  refine rh_put hX gl_X2_16 0 dX2_takesBack_22 rfl rfl rfl (Nat.le_of_ble_eq_true rfl) rfl ?_
  dsimp only [List.cons_append, List.nil_append, List.set_cons_succ, List.set_cons_zero, vput]
  refine rh_aload_n hX dX2_takesBack_25 rfl ?_
  refine rh_dup hX dX2_takesBack_26 rfl ?_
  refine rh_get hX gl_X2_26 0 dX2_takesBack_27 rfl rfl ?_
  refine rh_iconst hX dX2_takesBack_30 ki_1 ?_
  refine rh_isub hX dX2_takesBack_31 ?_
  rw [show nI ud - 1 = nI (ud - 1) from rn_sub (b := 1) hu]
  refine rh_put hX gl_X2_26 0 dX2_takesBack_32 rfl rfl rfl (Nat.le_of_ble_eq_true rfl) rfl ?_
  dsimp only [List.cons_append, List.nil_append, List.set_cons_succ, List.set_cons_zero, vput]
  refine rh_aload_n hX dX2_takesBack_35 rfl ?_
  refine rh_aload_n hX dX2_takesBack_36 rfl ?_
  refine rh_get hX gl_X2_11 0 dX2_takesBack_37 rfl rfl ?_
  refine rh_aload_n hX dX2_takesBack_40 rfl ?_
  refine rh_get hX gl_X2_16 0 dX2_takesBack_41 rfl rfl ?_
  refine rh_aaload hX 1 7 dX2_takesBack_44 rfl (show nI 7 = nI 7 from rfl) (by decide) (by decide) ?_
  refine rh_uV hX lk_X2_38 mvX1_load (fun l => c_X1_load l E _ _ _ _ _) ⟨rfl, rfl⟩ ⟨Nat.le_of_ble_eq_true rfl, Nat.le_of_ble_eq_true rfl⟩ [10, 11, 9] rfl rfl 10 rfl dX2_takesBack_45 rfl rfl (Nat.le_of_ble_eq_true rfl) rfl ?_
  dsimp only [List.cons_append, List.nil_append, List.set_cons_succ, List.set_cons_zero, vput]
  refine rh_iconst hX dX2_takesBack_48 ki_1 ?_
  exact rh_zret hX hR dX2_takesBack_49 rfl rfl ⟨rfl, rfl⟩

theorem c_X2_takesBack_no (l : Launch) (E : rhE) (o a : Nat) (b : Nat → Nat) (p : Nat → Nat → Int64) (nx dd : Int32) (ho ha : Nat) (f : Nat → Int64) : Ctr l E yX2_takesBack cX2_takesBack 2 (some .boolean) (rmL 2) [.ref o, .ref ho] (wP E o a b p nx 0 dd ++ wH E ho ha f) (One (some (.int 0)) (wP E o a b p nx 0 dd ++ wH E ho ha f)) := by
  refine Ctr.of (by decide) (Nat.le_of_ble_eq_true rfl) rfl rfl 0 ?_
  intro X hX hR
  refine rh_aload_n hX dX2_takesBack_0 rfl ?_
  refine rh_get hX gl_X2_26 0 dX2_takesBack_1 rfl rfl ?_
  refine rh_if_ne_f (tgt := 9) hX dX2_takesBack_4 (by decide) rfl ?_
  refine rh_iconst hX dX2_takesBack_7 ki_0 ?_
  exact rh_zret hX hR dX2_takesBack_8 rfl rfl ⟨rfl, rfl⟩
