/-- TERMS by one value: VALUE, TOP, LATE, facts, money, all of it -/
abbrev TS : Type := Int64 × Int64 × Int32 × (Nat → Int64) × (Nat → Int64) × Int64
abbrev wTs (E : rhE) (o a b : Nat) (q : TS) : va_W := wT E o a b q.1 q.2.1 q.2.2.1 q.2.2.2.1 q.2.2.2.2.1 q.2.2.2.2.2
def tsTp (q : TS) (v : Int64) : TS := (q.1, v, q.2.2)
def tsFc (q : TS) (i : Nat) (v : Int64) : TS := (q.1, q.2.1, q.2.2.1, va_up q.2.2.2.1 i v, q.2.2.2.2)
/-- what stands behind a word of the terms -/
def rbF (s : Nat → Int32) (n w k : Nat) (q : TS) : Bool × Nat × TS :=
  if w = 0 then (if tk s n k 32 = true then (decide (0 ≤ (rdN s n (k + 1) 0 500).1), (rdN s n (k + 1) 0 500).2, tsTp q (rdN s n (k + 1) 0 500).1) else (false, k, q))
  else if w = 1 then (true, k, (q.1, q.2.1, 1, q.2.2.2))
  else if w = 5 then (if tk s n k 32 = true then (decide (0 ≤ (rdN s n (k + 1) 0 50).1), (rdN s n (k + 1) 0 50).2, tsFc q 3 (rdN s n (k + 1) 0 50).1) else (false, k, q))
  else if w = 6 then (true, k, tsFc q 4 1)
  else if w = 7 then (true, k, tsFc q 5 1)
  else (true, k, tsFc q 2 (nI w - 2 + 1).toInt64)
theorem rbF_0t {s : Nat → Int32} {n k : Nat} {q : TS} (h : tk s n k 32 = true) : rbF s n 0 k q = (decide (0 ≤ (rdN s n (k + 1) 0 500).1), (rdN s n (k + 1) 0 500).2, tsTp q (rdN s n (k + 1) 0 500).1) := by rw [rbF, if_pos rfl, if_pos h]
theorem rbF_0f {s : Nat → Int32} {n k : Nat} {q : TS} (h : ¬ tk s n k 32 = true) : rbF s n 0 k q = (false, k, q) := by rw [rbF, if_pos rfl, if_neg h]
theorem rbF_5t {s : Nat → Int32} {n k : Nat} {q : TS} (h : tk s n k 32 = true) : rbF s n 5 k q = (decide (0 ≤ (rdN s n (k + 1) 0 50).1), (rdN s n (k + 1) 0 50).2, tsFc q 3 (rdN s n (k + 1) 0 50).1) := by rw [rbF, if_neg (by decide), if_neg (by decide), if_pos rfl, if_pos h]
theorem rbF_5f {s : Nat → Int32} {n k : Nat} {q : TS} (h : ¬ tk s n k 32 = true) : rbF s n 5 k q = (false, k, q) := by rw [rbF, if_neg (by decide), if_neg (by decide), if_pos rfl, if_neg h]
theorem tk_lt {s : Nat → Int32} {n k : Nat} {c : Int32} (h : tk s n k c = true) : k < n := by
  unfold tk at h
  simp only [Bool.and_eq_true, decide_eq_true_eq] at h
  exact h.1
theorem rbF_le (s : Nat → Int32) (n w k : Nat) (q : TS) (hk : k ≤ n) : (rbF s n w k q).2.1 ≤ n := by
  unfold rbF
  split
  · split
    · rename_i h; exact (rdN_le s n (k + 1) 0 500 (tk_lt h) (by decide)).2
    · exact hk
  · split
    · exact hk
    · split
      · split
        · rename_i h; exact (rdN_le s n (k + 1) 0 50 (tk_lt h) (by decide)).2
        · exact hk
      · split
        · exact hk
        · split
          · exact hk
          · exact hk

set_option maxRecDepth 100000 in
set_option maxHeartbeats 4000000 in
theorem c_X6_readsBehind_0 (l : Launch) (E : rhE) (o a : Nat) (s : Nat → Int32) (n k to ta tb : Nat) (q : TS) (hk : k ≤ n) (hn : n ≤ 200) : Ctr l E yX6_readsBehind cX6_readsBehind 3 (some .boolean) (rmL 2) [.ref o, .int (nI 0), .ref to] (wX E o a s n k ++ wTs E to ta tb q) (One (some (.int (if (rbF s n 0 k q).1 = true then 1 else 0))) (wX E o a s n (rbF s n 0 k q).2.1 ++ wTs E to ta tb (rbF s n 0 k q).2.2)) := by
  refine Ctr.of (by decide) (Nat.le_of_ble_eq_true rfl) rfl rfl 0 ?_
  intro X hX hR
  refine rh_iload_n hX dX6_readsBehind_0 rfl ?_
  refine rh_tabIn (tgt := 48) (off := 47) hX dX6_readsBehind_1 (by decide) (by decide) (by decide) (by decide) ?_
  refine rh_aload_n hX dX6_readsBehind_48 rfl ?_
  refine rh_bipush hX dX6_readsBehind_49 kb_32 ?_
  refine rh_wV hX lk_X6_31 mvX6_takes (fun l => c_X6_takes l E _ _ _ _ _ _ (by omega) (by omega)) ⟨rfl, rfl⟩ ⟨Nat.le_of_ble_eq_true rfl, Nat.le_of_ble_eq_true rfl⟩ [0, 1] rfl rfl 0 rfl dX6_readsBehind_51 rfl rfl (Nat.le_of_ble_eq_true rfl) rfl ?_
  dsimp only [List.cons_append, List.nil_append, List.set_cons_succ, List.set_cons_zero, vput]
  refine rh_if_ne (tgt := 59) hX dX6_readsBehind_54 (by decide) (fun hc => ?_) (fun hc => ?_)
  · skip
    have hc : tk s n k 32 = true := Classical.not_not.mp (fun q => hc (if_neg q))
    have hkl := tk_lt hc
    rw [tkN, if_pos hc]
    refine rh_aload_n hX dX6_readsBehind_59 rfl ?_
    refine rh_aload_n hX dX6_readsBehind_60 rfl ?_
    refine rh_iconst hX dX6_readsBehind_61 ki_0 ?_
    refine rh_ldc2 hX dX6_readsBehind_62 kl_X6_104 ?_
    refine rh_wV hX lk_X6_44 mvX6_readNumber (fun l => c_X6_readNumber l E _ _ _ _ _ _ _ (by omega) (by omega) (by decide)) ⟨rfl, rfl⟩ ⟨Nat.le_of_ble_eq_true rfl, Nat.le_of_ble_eq_true rfl⟩ [0, 1] rfl rfl 0 rfl dX6_readsBehind_65 rfl rfl (Nat.le_of_ble_eq_true rfl) rfl ?_
    dsimp only [List.cons_append, List.nil_append, List.set_cons_succ, List.set_cons_zero, vput]
    refine rh_put hX gl_X6_106 2 dX6_readsBehind_68 rfl rfl rfl (Nat.le_of_ble_eq_true rfl) rfl ?_
    dsimp only [List.cons_append, List.nil_append, List.set_cons_succ, List.set_cons_zero, vput]
    refine rh_aload_n hX dX6_readsBehind_71 rfl ?_
    refine rh_get hX gl_X6_106 2 dX6_readsBehind_72 rfl rfl ?_
    refine rh_lconst hX dX6_readsBehind_75 kL_0 ?_
    refine rh_llt (tgt := 84) hX dX6_readsBehind_76 dX6_readsBehind_77 (by decide) (fun h76 => ?_) (fun h76 => ?_)
    · skip
      refine rh_iconst hX dX6_readsBehind_84 ki_0 ?_
      exact rh_zret hX hR dX6_readsBehind_85 rfl (by simp only [List.map_cons, List.map_nil, List.cons_append, List.nil_append]) ⟨by rw [rbF_0t hc]; first | (rw [decide_eq_false (fun q => rh_le64.mp q h76)]; rfl) | (rw [decide_eq_true (rh_le64.mpr h76)]; rfl), by rw [rbF_0t hc]; rfl⟩
    · skip
      refine rh_iconst hX dX6_readsBehind_80 ki_1 ?_
      refine rh_goto (tgt := 85) hX dX6_readsBehind_81 (by decide) ?_
      exact rh_zret hX hR dX6_readsBehind_85 rfl (by simp only [List.map_cons, List.map_nil, List.cons_append, List.nil_append]) ⟨by rw [rbF_0t hc]; first | (rw [decide_eq_false (fun q => rh_le64.mp q h76)]; rfl) | (rw [decide_eq_true (rh_le64.mpr h76)]; rfl), by rw [rbF_0t hc]; rfl⟩
  · skip
    have hc : ¬ tk s n k 32 = true := fun q => by rw [if_pos q] at hc; exact absurd hc (by decide)
    rw [tkN, if_neg hc]
    refine rh_iconst hX dX6_readsBehind_57 ki_0 ?_
    exact rh_zret hX hR dX6_readsBehind_58 rfl (by simp only [List.map_cons, List.map_nil, List.cons_append, List.nil_append]) ⟨by rw [rbF_0f hc]; rfl, by rw [rbF_0f hc]; rfl⟩

set_option maxRecDepth 100000 in
set_option maxHeartbeats 4000000 in
theorem c_X6_readsBehind_1 (l : Launch) (E : rhE) (o a : Nat) (s : Nat → Int32) (n k to ta tb : Nat) (q : TS) (hk : k ≤ n) (hn : n ≤ 200) : Ctr l E yX6_readsBehind cX6_readsBehind 3 (some .boolean) (rmL 2) [.ref o, .int (nI 1), .ref to] (wX E o a s n k ++ wTs E to ta tb q) (One (some (.int (if (rbF s n 1 k q).1 = true then 1 else 0))) (wX E o a s n (rbF s n 1 k q).2.1 ++ wTs E to ta tb (rbF s n 1 k q).2.2)) := by
  refine Ctr.of (by decide) (Nat.le_of_ble_eq_true rfl) rfl rfl 0 ?_
  intro X hX hR
  refine rh_iload_n hX dX6_readsBehind_0 rfl ?_
  refine rh_tabIn (tgt := 86) (off := 85) hX dX6_readsBehind_1 (by decide) (by decide) (by decide) (by decide) ?_
  refine rh_aload_n hX dX6_readsBehind_86 rfl ?_
  refine rh_iconst hX dX6_readsBehind_87 ki_1 ?_
  refine rh_put hX gl_X6_109 2 dX6_readsBehind_88 rfl rfl rfl (Nat.le_of_ble_eq_true rfl) rfl ?_
  dsimp only [List.cons_append, List.nil_append, List.set_cons_succ, List.set_cons_zero, vput]
  refine rh_iconst hX dX6_readsBehind_91 ki_1 ?_
  exact rh_zret hX hR dX6_readsBehind_92 rfl (by simp only [List.map_cons, List.map_nil, List.cons_append, List.nil_append]) ⟨by rw [rbF]; rfl, by rw [rbF]; rfl⟩

set_option maxRecDepth 100000 in
set_option maxHeartbeats 4000000 in
theorem c_X6_readsBehind_2 (l : Launch) (E : rhE) (o a : Nat) (s : Nat → Int32) (n k to ta tb : Nat) (q : TS) (hk : k ≤ n) (hn : n ≤ 200) : Ctr l E yX6_readsBehind cX6_readsBehind 3 (some .boolean) (rmL 2) [.ref o, .int (nI 2), .ref to] (wX E o a s n k ++ wTs E to ta tb q) (One (some (.int (if (rbF s n 2 k q).1 = true then 1 else 0))) (wX E o a s n (rbF s n 2 k q).2.1 ++ wTs E to ta tb (rbF s n 2 k q).2.2)) := by
  refine Ctr.of (by decide) (Nat.le_of_ble_eq_true rfl) rfl rfl 0 ?_
  intro X hX hR
  refine rh_iload_n hX dX6_readsBehind_0 rfl ?_
  refine rh_tabIn (tgt := 153) (off := 152) hX dX6_readsBehind_1 (by decide) (by decide) (by decide) (by decide) ?_
  refine rh_aload_n hX dX6_readsBehind_153 rfl ?_
  refine rh_get hX gl_X6_112 2 dX6_readsBehind_154 rfl rfl ?_
  refine rh_iconst hX dX6_readsBehind_157 ki_2 ?_
  refine rh_iload_n hX dX6_readsBehind_158 rfl ?_
  refine rh_iconst hX dX6_readsBehind_159 ki_2 ?_
  refine rh_isub hX dX6_readsBehind_160 ?_
  refine rh_iconst hX dX6_readsBehind_161 ki_1 ?_
  refine rh_iadd hX dX6_readsBehind_162 ?_
  refine rh_i2l hX dX6_readsBehind_163 ?_
  refine rh_lastore hX 3 _ dX6_readsBehind_164 rfl rn_c2 (by omega) (by decide) rfl ?_
  dsimp only [List.cons_append, List.nil_append, List.set_cons_succ, List.set_cons_zero, vput]
  refine rh_iconst hX dX6_readsBehind_165 ki_1 ?_
  exact rh_zret hX hR dX6_readsBehind_166 rfl (by simp only [List.map_cons, List.map_nil, List.cons_append, List.nil_append]) ⟨by rw [rbF]; rfl, by rw [rbF]; rfl⟩

set_option maxRecDepth 100000 in
set_option maxHeartbeats 4000000 in
theorem c_X6_readsBehind_3 (l : Launch) (E : rhE) (o a : Nat) (s : Nat → Int32) (n k to ta tb : Nat) (q : TS) (hk : k ≤ n) (hn : n ≤ 200) : Ctr l E yX6_readsBehind cX6_readsBehind 3 (some .boolean) (rmL 2) [.ref o, .int (nI 3), .ref to] (wX E o a s n k ++ wTs E to ta tb q) (One (some (.int (if (rbF s n 3 k q).1 = true then 1 else 0))) (wX E o a s n (rbF s n 3 k q).2.1 ++ wTs E to ta tb (rbF s n 3 k q).2.2)) := by
  refine Ctr.of (by decide) (Nat.le_of_ble_eq_true rfl) rfl rfl 0 ?_
  intro X hX hR
  refine rh_iload_n hX dX6_readsBehind_0 rfl ?_
  refine rh_tabIn (tgt := 153) (off := 152) hX dX6_readsBehind_1 (by decide) (by decide) (by decide) (by decide) ?_
  refine rh_aload_n hX dX6_readsBehind_153 rfl ?_
  refine rh_get hX gl_X6_112 2 dX6_readsBehind_154 rfl rfl ?_
  refine rh_iconst hX dX6_readsBehind_157 ki_2 ?_
  refine rh_iload_n hX dX6_readsBehind_158 rfl ?_
  refine rh_iconst hX dX6_readsBehind_159 ki_2 ?_
  refine rh_isub hX dX6_readsBehind_160 ?_
  refine rh_iconst hX dX6_readsBehind_161 ki_1 ?_
  refine rh_iadd hX dX6_readsBehind_162 ?_
  refine rh_i2l hX dX6_readsBehind_163 ?_
  refine rh_lastore hX 3 _ dX6_readsBehind_164 rfl rn_c2 (by omega) (by decide) rfl ?_
  dsimp only [List.cons_append, List.nil_append, List.set_cons_succ, List.set_cons_zero, vput]
  refine rh_iconst hX dX6_readsBehind_165 ki_1 ?_
  exact rh_zret hX hR dX6_readsBehind_166 rfl (by simp only [List.map_cons, List.map_nil, List.cons_append, List.nil_append]) ⟨by rw [rbF]; rfl, by rw [rbF]; rfl⟩

set_option maxRecDepth 100000 in
set_option maxHeartbeats 4000000 in
theorem c_X6_readsBehind_4 (l : Launch) (E : rhE) (o a : Nat) (s : Nat → Int32) (n k to ta tb : Nat) (q : TS) (hk : k ≤ n) (hn : n ≤ 200) : Ctr l E yX6_readsBehind cX6_readsBehind 3 (some .boolean) (rmL 2) [.ref o, .int (nI 4), .ref to] (wX E o a s n k ++ wTs E to ta tb q) (One (some (.int (if (rbF s n 4 k q).1 = true then 1 else 0))) (wX E o a s n (rbF s n 4 k q).2.1 ++ wTs E to ta tb (rbF s n 4 k q).2.2)) := by
  refine Ctr.of (by decide) (Nat.le_of_ble_eq_true rfl) rfl rfl 0 ?_
  intro X hX hR
  refine rh_iload_n hX dX6_readsBehind_0 rfl ?_
  refine rh_tabIn (tgt := 153) (off := 152) hX dX6_readsBehind_1 (by decide) (by decide) (by decide) (by decide) ?_
  refine rh_aload_n hX dX6_readsBehind_153 rfl ?_
  refine rh_get hX gl_X6_112 2 dX6_readsBehind_154 rfl rfl ?_
  refine rh_iconst hX dX6_readsBehind_157 ki_2 ?_
  refine rh_iload_n hX dX6_readsBehind_158 rfl ?_
  refine rh_iconst hX dX6_readsBehind_159 ki_2 ?_
  refine rh_isub hX dX6_readsBehind_160 ?_
  refine rh_iconst hX dX6_readsBehind_161 ki_1 ?_
  refine rh_iadd hX dX6_readsBehind_162 ?_
  refine rh_i2l hX dX6_readsBehind_163 ?_
  refine rh_lastore hX 3 _ dX6_readsBehind_164 rfl rn_c2 (by omega) (by decide) rfl ?_
  dsimp only [List.cons_append, List.nil_append, List.set_cons_succ, List.set_cons_zero, vput]
  refine rh_iconst hX dX6_readsBehind_165 ki_1 ?_
  exact rh_zret hX hR dX6_readsBehind_166 rfl (by simp only [List.map_cons, List.map_nil, List.cons_append, List.nil_append]) ⟨by rw [rbF]; rfl, by rw [rbF]; rfl⟩

set_option maxRecDepth 100000 in
set_option maxHeartbeats 4000000 in
theorem c_X6_readsBehind_5 (l : Launch) (E : rhE) (o a : Nat) (s : Nat → Int32) (n k to ta tb : Nat) (q : TS) (hk : k ≤ n) (hn : n ≤ 200) : Ctr l E yX6_readsBehind cX6_readsBehind 3 (some .boolean) (rmL 2) [.ref o, .int (nI 5), .ref to] (wX E o a s n k ++ wTs E to ta tb q) (One (some (.int (if (rbF s n 5 k q).1 = true then 1 else 0))) (wX E o a s n (rbF s n 5 k q).2.1 ++ wTs E to ta tb (rbF s n 5 k q).2.2)) := by
  refine Ctr.of (by decide) (Nat.le_of_ble_eq_true rfl) rfl rfl 0 ?_
  intro X hX hR
  refine rh_iload_n hX dX6_readsBehind_0 rfl ?_
  refine rh_tabIn (tgt := 93) (off := 92) hX dX6_readsBehind_1 (by decide) (by decide) (by decide) (by decide) ?_
  refine rh_aload_n hX dX6_readsBehind_93 rfl ?_
  refine rh_bipush hX dX6_readsBehind_94 kb_32 ?_
  refine rh_wV hX lk_X6_31 mvX6_takes (fun l => c_X6_takes l E _ _ _ _ _ _ (by omega) (by omega)) ⟨rfl, rfl⟩ ⟨Nat.le_of_ble_eq_true rfl, Nat.le_of_ble_eq_true rfl⟩ [0, 1] rfl rfl 0 rfl dX6_readsBehind_96 rfl rfl (Nat.le_of_ble_eq_true rfl) rfl ?_
  dsimp only [List.cons_append, List.nil_append, List.set_cons_succ, List.set_cons_zero, vput]
  refine rh_if_ne (tgt := 104) hX dX6_readsBehind_99 (by decide) (fun hc => ?_) (fun hc => ?_)
  · skip
    have hc : tk s n k 32 = true := Classical.not_not.mp (fun q => hc (if_neg q))
    have hkl := tk_lt hc
    rw [tkN, if_pos hc]
    refine rh_aload_n hX dX6_readsBehind_104 rfl ?_
    refine rh_get hX gl_X6_112 2 dX6_readsBehind_105 rfl rfl ?_
    refine rh_iconst hX dX6_readsBehind_108 ki_3 ?_
    refine rh_aload_n hX dX6_readsBehind_109 rfl ?_
    refine rh_iconst hX dX6_readsBehind_110 ki_0 ?_
    refine rh_ldc2 hX dX6_readsBehind_111 kl_X6_116 ?_
    refine rh_wV hX lk_X6_44 mvX6_readNumber (fun l => c_X6_readNumber l E _ _ _ _ _ _ _ (by omega) (by omega) (by decide)) ⟨rfl, rfl⟩ ⟨Nat.le_of_ble_eq_true rfl, Nat.le_of_ble_eq_true rfl⟩ [0, 1] rfl rfl 0 rfl dX6_readsBehind_114 rfl rfl (Nat.le_of_ble_eq_true rfl) rfl ?_
    dsimp only [List.cons_append, List.nil_append, List.set_cons_succ, List.set_cons_zero, vput]
    refine rh_lastore hX 3 _ dX6_readsBehind_117 rfl rn_c3 (by omega) (by decide) rfl ?_
    dsimp only [List.cons_append, List.nil_append, List.set_cons_succ, List.set_cons_zero, vput]
    refine rh_aload_n hX dX6_readsBehind_118 rfl ?_
    refine rh_get hX gl_X6_112 2 dX6_readsBehind_119 rfl rfl ?_
    refine rh_iconst hX dX6_readsBehind_122 ki_3 ?_
    refine rh_laload hX 3 _ dX6_readsBehind_123 rfl rn_c3 (by omega) (by decide) ?_
    refine rh_lconst hX dX6_readsBehind_124 kL_0 ?_
    rw [vu_eq]
    refine rh_llt (tgt := 133) hX dX6_readsBehind_125 dX6_readsBehind_126 (by decide) (fun h125 => ?_) (fun h125 => ?_)
    · skip
      refine rh_iconst hX dX6_readsBehind_133 ki_0 ?_
      exact rh_zret hX hR dX6_readsBehind_134 rfl (by simp only [List.map_cons, List.map_nil, List.cons_append, List.nil_append]) ⟨by rw [rbF_5t hc]; first | (rw [decide_eq_false (fun q => rh_le64.mp q h125)]; rfl) | (rw [decide_eq_true (rh_le64.mpr h125)]; rfl), by rw [rbF_5t hc]; rfl⟩
    · skip
      refine rh_iconst hX dX6_readsBehind_129 ki_1 ?_
      refine rh_goto (tgt := 134) hX dX6_readsBehind_130 (by decide) ?_
      exact rh_zret hX hR dX6_readsBehind_134 rfl (by simp only [List.map_cons, List.map_nil, List.cons_append, List.nil_append]) ⟨by rw [rbF_5t hc]; first | (rw [decide_eq_false (fun q => rh_le64.mp q h125)]; rfl) | (rw [decide_eq_true (rh_le64.mpr h125)]; rfl), by rw [rbF_5t hc]; rfl⟩
  · skip
    have hc : ¬ tk s n k 32 = true := fun q => by rw [if_pos q] at hc; exact absurd hc (by decide)
    rw [tkN, if_neg hc]
    refine rh_iconst hX dX6_readsBehind_102 ki_0 ?_
    exact rh_zret hX hR dX6_readsBehind_103 rfl (by simp only [List.map_cons, List.map_nil, List.cons_append, List.nil_append]) ⟨by rw [rbF_5f hc]; rfl, by rw [rbF_5f hc]; rfl⟩

set_option maxRecDepth 100000 in
set_option maxHeartbeats 4000000 in
theorem c_X6_readsBehind_6 (l : Launch) (E : rhE) (o a : Nat) (s : Nat → Int32) (n k to ta tb : Nat) (q : TS) (hk : k ≤ n) (hn : n ≤ 200) : Ctr l E yX6_readsBehind cX6_readsBehind 3 (some .boolean) (rmL 2) [.ref o, .int (nI 6), .ref to] (wX E o a s n k ++ wTs E to ta tb q) (One (some (.int (if (rbF s n 6 k q).1 = true then 1 else 0))) (wX E o a s n (rbF s n 6 k q).2.1 ++ wTs E to ta tb (rbF s n 6 k q).2.2)) := by
  refine Ctr.of (by decide) (Nat.le_of_ble_eq_true rfl) rfl rfl 0 ?_
  intro X hX hR
  refine rh_iload_n hX dX6_readsBehind_0 rfl ?_
  refine rh_tabIn (tgt := 135) (off := 134) hX dX6_readsBehind_1 (by decide) (by decide) (by decide) (by decide) ?_
  refine rh_aload_n hX dX6_readsBehind_135 rfl ?_
  refine rh_get hX gl_X6_112 2 dX6_readsBehind_136 rfl rfl ?_
  refine rh_iconst hX dX6_readsBehind_139 ki_4 ?_
  refine rh_lconst hX dX6_readsBehind_140 kL_1 ?_
  refine rh_lastore hX 3 _ dX6_readsBehind_141 rfl rn_c4 (by omega) (by decide) rfl ?_
  dsimp only [List.cons_append, List.nil_append, List.set_cons_succ, List.set_cons_zero, vput]
  refine rh_iconst hX dX6_readsBehind_142 ki_1 ?_
  exact rh_zret hX hR dX6_readsBehind_143 rfl (by simp only [List.map_cons, List.map_nil, List.cons_append, List.nil_append]) ⟨by rw [rbF]; rfl, by rw [rbF]; rfl⟩

set_option maxRecDepth 100000 in
set_option maxHeartbeats 4000000 in
theorem c_X6_readsBehind_7 (l : Launch) (E : rhE) (o a : Nat) (s : Nat → Int32) (n k to ta tb : Nat) (q : TS) (hk : k ≤ n) (hn : n ≤ 200) : Ctr l E yX6_readsBehind cX6_readsBehind 3 (some .boolean) (rmL 2) [.ref o, .int (nI 7), .ref to] (wX E o a s n k ++ wTs E to ta tb q) (One (some (.int (if (rbF s n 7 k q).1 = true then 1 else 0))) (wX E o a s n (rbF s n 7 k q).2.1 ++ wTs E to ta tb (rbF s n 7 k q).2.2)) := by
  refine Ctr.of (by decide) (Nat.le_of_ble_eq_true rfl) rfl rfl 0 ?_
  intro X hX hR
  refine rh_iload_n hX dX6_readsBehind_0 rfl ?_
  refine rh_tabIn (tgt := 144) (off := 143) hX dX6_readsBehind_1 (by decide) (by decide) (by decide) (by decide) ?_
  refine rh_aload_n hX dX6_readsBehind_144 rfl ?_
  refine rh_get hX gl_X6_112 2 dX6_readsBehind_145 rfl rfl ?_
  refine rh_iconst hX dX6_readsBehind_148 ki_5 ?_
  refine rh_lconst hX dX6_readsBehind_149 kL_1 ?_
  refine rh_lastore hX 3 _ dX6_readsBehind_150 rfl rn_c5 (by omega) (by decide) rfl ?_
  dsimp only [List.cons_append, List.nil_append, List.set_cons_succ, List.set_cons_zero, vput]
  refine rh_iconst hX dX6_readsBehind_151 ki_1 ?_
  exact rh_zret hX hR dX6_readsBehind_152 rfl (by simp only [List.map_cons, List.map_nil, List.cons_append, List.nil_append]) ⟨by rw [rbF]; rfl, by rw [rbF]; rfl⟩

theorem c_X6_readsBehind (l : Launch) (E : rhE) (o a : Nat) (s : Nat → Int32) (n k to ta tb : Nat) (q : TS) (w : Nat) (hk : k ≤ n) (hn : n ≤ 200) (hw : w < 8) : Ctr l E yX6_readsBehind cX6_readsBehind 3 (some .boolean) (rmL 2) [.ref o, .int (nI w), .ref to] (wX E o a s n k ++ wTs E to ta tb q) (One (some (.int (if (rbF s n w k q).1 = true then 1 else 0))) (wX E o a s n (rbF s n w k q).2.1 ++ wTs E to ta tb (rbF s n w k q).2.2)) := by
  match w, hw with
  | 0, _ => exact c_X6_readsBehind_0 l E o a s n k to ta tb q hk hn
  | 1, _ => exact c_X6_readsBehind_1 l E o a s n k to ta tb q hk hn
  | 2, _ => exact c_X6_readsBehind_2 l E o a s n k to ta tb q hk hn
  | 3, _ => exact c_X6_readsBehind_3 l E o a s n k to ta tb q hk hn
  | 4, _ => exact c_X6_readsBehind_4 l E o a s n k to ta tb q hk hn
  | 5, _ => exact c_X6_readsBehind_5 l E o a s n k to ta tb q hk hn
  | 6, _ => exact c_X6_readsBehind_6 l E o a s n k to ta tb q hk hn
  | 7, _ => exact c_X6_readsBehind_7 l E o a s n k to ta tb q hk hn
