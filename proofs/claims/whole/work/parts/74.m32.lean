def mFn (tx : Nat → Int32) (sz he : Nat) : Int32 × Nat × Int32 := mNum tx sz he (-1) 0 999999999
/-- numbers with commas: m may come still -/
def mFd (tx : Nat → Int32) (sz : Nat) : Nat → Nat → Nat → Int32 → (Nat → Int32) → Int32 × (Nat → Int32)
  | 0, _, he, wr, mn => (mEnd sz he wr, mn)
  | m + 1, h, he, wr, mn => if wr = -1 then (if mSee tx sz he = 44 then mFd tx sz m (h + 1) (mFn tx sz (he + 1)).2.1 (mFn tx sz (he + 1)).2.2 (va_up mn h (mFn tx sz (he + 1)).1) else (mEnd sz he wr, mn)) else (mEnd sz he wr, mn)
termination_by m => m
theorem mFd_0 (tx : Nat → Int32) (sz h he : Nat) (wr : Int32) (mn : Nat → Int32) : mFd tx sz 0 h he wr mn = (mEnd sz he wr, mn) := by rw [mFd]
theorem mFd_s (tx : Nat → Int32) (sz m h he : Nat) (wr : Int32) (mn : Nat → Int32) : mFd tx sz (m + 1) h he wr mn = if wr = -1 then (if mSee tx sz he = 44 then mFd tx sz m (h + 1) (mFn tx sz (he + 1)).2.1 (mFn tx sz (he + 1)).2.2 (va_up mn h (mFn tx sz (he + 1)).1) else (mEnd sz he wr, mn)) else (mEnd sz he wr, mn) := by rw [mFd]
def mFa (tx : Nat → Int32) (sz : Nat) : Int32 × (Nat → Int32) := if sz = 0 then (-1, fun _ => 0) else mFd tx sz 7 1 (mFn tx sz 0).2.1 (mFn tx sz 0).2.2 (va_up (fun _ => 0) 0 (mFn tx sz 0).1)
def fdS (mn : Nat → Int32) : Int64 := sumF 0 (fun h => (mn h).toInt64) 8
def fdU (mn : Nat → Int32) (i : Nat) : Nat → Int32 := fun x => if x < 48 ∧ x % 6 = 0 ∧ x / 6 < i then mn (x / 6) else if x = 57 then 1 else 0
theorem fdU_0 (mn : Nat → Int32) : fdU mn 0 = va_up (fun _ => 0) 57 1 := by
  funext x
  unfold fdU va_up
  rw [if_neg (by omega)]
theorem fdU_s (mn : Nat → Int32) {i : Nat} (hi : i < 8) : va_up (fdU mn i) (6 * i + 0) (mn i) = fdU mn (i + 1) := by
  funext x
  unfold va_up fdU
  by_cases e : x = 6 * i + 0
  · rw [if_pos e, if_pos (by omega), show x / 6 = i by omega]
  · rw [if_neg e]
    by_cases a : x < 48 ∧ x % 6 = 0 ∧ x / 6 < i
    · rw [if_pos a, if_pos (by omega)]
    · rw [if_neg a, if_neg (c := x < 48 ∧ x % 6 = 0 ∧ x / 6 < i + 1) (by omega)]
def y_founds (tx : Nat → Int32) (n : Nat) : YR := if (mFa tx n).1 = -1 then (if 1000000000 < fdS (mFa tx n).2 then (-9, none) else ((fdS (mFa tx n).2).toInt32, some (fdU (mFa tx n).2 8))) else (-21 - (mFa tx n).1, none)

set_option maxRecDepth 100000 in
set_option maxHeartbeats 4000000 in
theorem c_X8_founds (l : Launch) (E : rhE) (B : Nat → Nat) (u : Nat → Int32) (kp : Nat → Int32) (ik : Int32) (ps : Nat → Int32) (pm : Nat) (dd : Int32) (tx : Nat → Int32) (ty : Nat) (rw : Nat → Int64) (rm : Nat) (th : Int32) (sz : Nat) (he : Nat) (wr : Int32) (mn : Nat → Int32) (vl : Int32) (tp : Int32) (lt : Int32) (ra : Int32) (pf : Int32) (pt : Int32) (pl : Int32) (pd : Int64) (prc : Int64) (ns : Int64) (tu : Nat) (ba : Int64) (na : Int64) (ca : Nat → Int64) (bo : Nat → Int32) (tr : Nat → Int64) (tH : Int32) (asd : Nat → Int32) (pa : Nat → Int64) (tg : Nat → Int64) (sd : Int64) (sr : Int64) (hty : ty ≤ 200) (hbt : byteOk tx ty) (hpm : pm ≤ 8) : Ctr l E yX8_founds cX8_founds 4 (some .int) (rmL 5) [.ref (B 0)] (wM E B u kp ik ps pm dd tx ty rw rm th sz he wr mn vl tp lt ra pf pt pl pd prc ns tu ba na ca bo tr tH asd pa tg sd sr) (fun r w => ∃ he1 wr1 mn1, r = some (Value.int (y_founds tx ty).1) ∧ (∀ u1, (y_founds tx ty).2 = some u1 → w = (wM E B u1 kp ik (psDid ps pm u) (pmDid pm) (dd + 1) tx 0 rw rm 0 ty he1 wr1 mn1 vl tp lt ra pf pt pl pd prc ns tu ba na ca bo tr tH u pa tg sd sr)) ∧ ((y_founds tx ty).2 = none → w = (wM E B u kp ik ps pm dd tx 0 rw rm 0 ty he1 wr1 mn1 vl tp lt ra pf pt pl pd prc ns tu ba na ca bo tr tH asd pa tg sd sr))) := by
  refine Ctr.of (by decide) (Nat.le_of_ble_eq_true rfl) rfl rfl 3 ?_
  intro X hX hR
  have hJ : ∀ (he2 : Nat) (wr2 : Int32) (mn2 : Nat → Int32), (mFa tx ty) = (wr2, mn2) → G X 133 [some (.ref (B 0)), none, none, none] [] (wM E B u kp ik ps pm dd tx 0 rw rm 0 ty he2 wr2 mn2 vl tp lt ra pf pt pl pd prc ns tu ba na ca bo tr tH asd pa tg sd sr) := by
    intro he2 wr2 mn2 hfa2
    refine rh_aload_n hX dX8_founds_133 rfl ?_
    refine rh_get hX gl_X8_105 0 dX8_founds_134 rfl rfl ?_
    refine rh_iconst hX dX8_founds_137 ki_m1 ?_
    refine rh_icmp_eq (tgt := 149) hX dX8_founds_138 (by decide) (fun h138 => ?_) (fun h138 => ?_)
    · skip
      refine rh_lconst hX dX8_founds_149 kL_0 ?_
      refine rh_lstn1 hX dX8_founds_150 (by decide) rfl ?_
      refine rh_iconst hX dX8_founds_151 ki_0 ?_
      refine rh_istn3 hX dX8_founds_152 (by decide) rfl ?_
      refine rh_loop (P := fun i => G X 153 [some (.ref (B 0)), some (.long (sumF 0 (fun h => (mn2 h).toInt64) i)), none, some (.int (nI i))] [] (wM E B u kp ik ps pm dd tx 0 rw rm 0 ty he2 wr2 mn2 vl tp lt ra pf pt pl pd prc ns tu ba na ca bo tr tH asd pa tg sd sr)) (0) (8) (by omega) ?_ ?_
      · skip
        refine rh_iload_n hX dX8_founds_153 rfl ?_
        refine rh_bipush hX dX8_founds_154 kb_8 ?_
        refine rh_icmp_ge_t (tgt := 175) hX dX8_founds_156 (by decide) (nI_le (a := 8) (b := 8) (Nat.le_refl 8) (by decide)) ?_
        refine rh_lload_n hX dX8_founds_175 rfl ?_
        refine rh_ldc2 hX dX8_founds_176 kl_X8_131 ?_
        refine rh_lle (tgt := 186) hX dX8_founds_179 dX8_founds_180 (by decide) (fun h180 => ?_) (fun h180 => ?_)
        · skip
          have h180 : fdS mn2 ≤ 1000000000 := h180
          have h180 : ¬ 1000000000 < fdS mn2 := fun q => by rw [z_lt] at q; rw [z_le] at h180; omega
          refine rh_aload_n hX dX8_founds_186 rfl ?_
          refine rh_uV hX lk_X8_133 mvX8_does (fun l => c_X8_does l E _ _ _ _ _ _ _ _ _ _ _ _ _ _ _ _ _ _ _ _ _ _ _ _ _ _ _ _ _ _ _ _ _ _ _ _ _ _ (by omega)) ⟨rfl, rfl⟩ ⟨Nat.le_of_ble_eq_true rfl, Nat.le_of_ble_eq_true rfl⟩ [0, 1, 2, 3, 4, 5, 6, 7, 8, 9, 10, 11, 12] rfl rfl 0 rfl dX8_founds_187 rfl rfl (Nat.le_of_ble_eq_true rfl) rfl ?_
          dsimp only [List.cons_append, List.nil_append, List.set_cons_succ, List.set_cons_zero, vput]
          refine rh_iconst hX dX8_founds_190 ki_0 ?_
          refine rh_istn3 hX dX8_founds_191 (by decide) rfl ?_
          suffices hP0 : G X 192 [some (.ref (B 0)), some (.long (fdS mn2)), none, some (.int 0)] [] (wM E B (rowTI (fun _ => 0) u 0) kp ik (psDid ps pm u) (pmDid pm) (dd + 1) tx 0 rw rm 0 ty he2 wr2 mn2 vl tp lt ra pf pt pl pd prc ns tu ba na ca bo tr tH u pa tg sd sr) by rw [rowTI_0] at hP0; exact hP0
          refine rh_loop (P := fun j => G X 192 [some (.ref (B 0)), some (.long (fdS mn2)), none, some (.int (nI j))] [] (wM E B (rowTI (fun _ => 0) u j) kp ik (psDid ps pm u) (pmDid pm) (dd + 1) tx 0 rw rm 0 ty he2 wr2 mn2 vl tp lt ra pf pt pl pd prc ns tu ba na ca bo tr tH u pa tg sd sr)) (0) (172) (by omega) ?_ ?_
          · skip
            refine rh_extI (q := 1) (g := (fun _ => 0)) rfl (fun j hj => rowTI_lt (fun _ => 0) u 172 j hj) rfl ?_
            dsimp only [List.cons_append, List.nil_append, List.set_cons_succ, List.set_cons_zero]
            refine rh_iload_n hX dX8_founds_192 rfl ?_
            refine rh_sipush hX dX8_founds_193 ks_172 ?_
            refine rh_icmp_ge_t (tgt := 212) hX dX8_founds_196 (by decide) (nI_le (a := 172) (b := 172) (Nat.le_refl 172) (by decide)) ?_
            refine rh_aload_n hX dX8_founds_212 rfl ?_
            refine rh_get hX gl_X8_7 0 dX8_founds_213 rfl rfl ?_
            refine rh_bipush hX dX8_founds_216 kb_57 ?_
            refine rh_iconst hX dX8_founds_218 ki_1 ?_
            refine rh_iastore hX 1 57 dX8_founds_219 rfl rn_c57 (by omega) (by decide) rfl ?_
            dsimp only [List.cons_append, List.nil_append, List.set_cons_succ, List.set_cons_zero, vput]
            refine rh_iconst hX dX8_founds_220 ki_0 ?_
            refine rh_istn3 hX dX8_founds_221 (by decide) rfl ?_
            suffices hP1 : G X 222 [some (.ref (B 0)), some (.long (fdS mn2)), none, some (.int 0)] [] (wM E B (fdU mn2 0) kp ik (psDid ps pm u) (pmDid pm) (dd + 1) tx 0 rw rm 0 ty he2 wr2 mn2 vl tp lt ra pf pt pl pd prc ns tu ba na ca bo tr tH u pa tg sd sr) by rw [fdU_0] at hP1; exact hP1
            refine rh_loop (P := fun k => G X 222 [some (.ref (B 0)), some (.long (fdS mn2)), none, some (.int (nI k))] [] (wM E B (fdU mn2 k) kp ik (psDid ps pm u) (pmDid pm) (dd + 1) tx 0 rw rm 0 ty he2 wr2 mn2 vl tp lt ra pf pt pl pd prc ns tu ba na ca bo tr tH u pa tg sd sr)) (0) (8) (by omega) ?_ ?_
            · skip
              refine rh_iload_n hX dX8_founds_222 rfl ?_
              refine rh_bipush hX dX8_founds_223 kb_8 ?_
              refine rh_icmp_ge_t (tgt := 246) hX dX8_founds_225 (by decide) (nI_le (a := 8) (b := 8) (Nat.le_refl 8) (by decide)) ?_
              refine rh_lload_n hX dX8_founds_246 rfl ?_
              refine rh_l2i hX dX8_founds_247 ?_
              exact rh_iret hX hR dX8_founds_248 (by simp only [List.map_cons, List.map_nil, List.cons_append, List.nil_append]) ⟨he2, wr2, mn2, by rw [y_founds, hfa2, if_pos h138, if_neg h180], (fun z hz => by rw [y_founds, hfa2, if_pos h138, if_neg h180] at hz; cases hz; rfl), (fun hz => by rw [y_founds, hfa2, if_pos h138, if_neg h180] at hz; cases hz)⟩
            · intro k hk0 hk ihk
              refine rh_iload_n hX dX8_founds_222 rfl ?_
              refine rh_bipush hX dX8_founds_223 kb_8 ?_
              refine rh_icmp_ge_f (tgt := 246) hX dX8_founds_225 (by decide) (nI_ge (b := 8) hk (by decide)) ?_
              refine rh_aload_n hX dX8_founds_228 rfl ?_
              refine rh_iload_n hX dX8_founds_229 rfl ?_
              refine rh_iconst hX dX8_founds_230 ki_0 ?_
              refine rh_aload_n hX dX8_founds_231 rfl ?_
              refine rh_get hX gl_X8_27 0 dX8_founds_232 rfl rfl ?_
              refine rh_iload_n hX dX8_founds_235 rfl ?_
              refine rh_iaload hX 6 k dX8_founds_236 rfl rfl (by omega) (by decide) ?_
              refine rh_uV hX lk_X8_136 mvX8_has (fun l => c_X8_has l E _ _ _ _ _ _ _ _ _ _ _ _ _ _ _ _ _ _ _ _ _ _ _ _ _ _ _ _ _ _ _ _ _ _ _ _ _ _ k 0 _ (by omega) (by omega)) ⟨rfl, rfl⟩ ⟨Nat.le_of_ble_eq_true rfl, Nat.le_of_ble_eq_true rfl⟩ [0, 1, 2, 3, 4, 5, 6, 7, 8, 9, 10, 11, 12] rfl rfl 0 rfl dX8_founds_237 rfl rfl (Nat.le_of_ble_eq_true rfl) rfl ?_
              dsimp only [List.cons_append, List.nil_append, List.set_cons_succ, List.set_cons_zero, vput]
              refine rh_inc3 hX dX8_founds_240 (by decide) rfl (rn_i1 _) ?_
              refine rh_goto (tgt := 222) hX dX8_founds_243 (by decide) ?_
              rw [← fdU_s mn2 hk] at ihk
              exact ihk
          · intro j hj0 hj ihj
            refine rh_iload_n hX dX8_founds_192 rfl ?_
            refine rh_sipush hX dX8_founds_193 ks_172 ?_
            refine rh_icmp_ge_f (tgt := 212) hX dX8_founds_196 (by decide) (nI_ge (b := 172) hj (by decide)) ?_
            refine rh_aload_n hX dX8_founds_199 rfl ?_
            refine rh_get hX gl_X8_7 0 dX8_founds_200 rfl rfl ?_
            refine rh_iload_n hX dX8_founds_203 rfl ?_
            refine rh_iconst hX dX8_founds_204 ki_0 ?_
            refine rh_iastore hX 1 _ dX8_founds_205 rfl rfl (by omega) (by decide) rfl ?_
            dsimp only [List.cons_append, List.nil_append, List.set_cons_succ, List.set_cons_zero, vput]
            refine rh_inc3 hX dX8_founds_206 (by decide) rfl (rn_i1 _) ?_
            refine rh_goto (tgt := 192) hX dX8_founds_209 (by decide) ?_
            rw [← rowTI_s (fun _ => 0)] at ihj
            exact ihj
        · skip
          have h180 : ¬ fdS mn2 ≤ 1000000000 := h180
          have h180 : 1000000000 < fdS mn2 := by rw [z_lt]; rw [z_le] at h180; omega
          refine rh_bipush hX dX8_founds_183 kb_m9 ?_
          exact rh_iret hX hR dX8_founds_185 (by simp only [List.map_cons, List.map_nil, List.cons_append, List.nil_append]) ⟨he2, wr2, mn2, by rw [y_founds, hfa2, if_pos h138, if_pos h180], (fun z hz => by rw [y_founds, hfa2, if_pos h138, if_pos h180] at hz; cases hz), fun _ => rfl⟩
      · intro i hi0 hi ih
        refine rh_iload_n hX dX8_founds_153 rfl ?_
        refine rh_bipush hX dX8_founds_154 kb_8 ?_
        refine rh_icmp_ge_f (tgt := 175) hX dX8_founds_156 (by decide) (nI_ge (b := 8) hi (by decide)) ?_
        refine rh_lload_n hX dX8_founds_159 rfl ?_
        refine rh_aload_n hX dX8_founds_160 rfl ?_
        refine rh_get hX gl_X8_27 0 dX8_founds_161 rfl rfl ?_
        refine rh_iload_n hX dX8_founds_164 rfl ?_
        refine rh_iaload hX 6 i dX8_founds_165 rfl rfl (by omega) (by decide) ?_
        refine rh_i2l hX dX8_founds_166 ?_
        refine rh_ladd hX dX8_founds_167 ?_
        refine rh_lstn1 hX dX8_founds_168 (by decide) rfl ?_
        refine rh_inc3 hX dX8_founds_169 (by decide) rfl (rn_i1 _) ?_
        refine rh_goto (tgt := 153) hX dX8_founds_172 (by decide) ?_
        exact ih
    · skip
      refine rh_bipush hX dX8_founds_141 kb_m21 ?_
      refine rh_aload_n hX dX8_founds_143 rfl ?_
      refine rh_get hX gl_X8_105 0 dX8_founds_144 rfl rfl ?_
      refine rh_isub hX dX8_founds_147 ?_
      exact rh_iret hX hR dX8_founds_148 (by simp only [List.map_cons, List.map_nil, List.cons_append, List.nil_append]) ⟨he2, wr2, mn2, by rw [y_founds, hfa2, if_neg h138], (fun z hz => by rw [y_founds, hfa2, if_neg h138] at hz; cases hz), fun _ => rfl⟩
  refine rh_aload_n hX dX8_founds_0 rfl ?_
  refine rh_iconst hX dX8_founds_1 ki_0 ?_
  refine rh_put hX gl_X8_48 0 dX8_founds_2 rfl rfl rfl (Nat.le_of_ble_eq_true rfl) rfl ?_
  dsimp only [List.cons_append, List.nil_append, List.set_cons_succ, List.set_cons_zero, vput]
  refine rh_aload_n hX dX8_founds_5 rfl ?_
  refine rh_uV hX lk_X8_122 mvX8_begin (fun l => c_X8_begin l E _ _ _ _ _ _ _ _ _ _ _ _ _ _ _ _ _ _ _ _ _ _ _ _ _ _ _ _ _ _ _ _ _ _ _ _ _ _ ) ⟨rfl, rfl⟩ ⟨Nat.le_of_ble_eq_true rfl, Nat.le_of_ble_eq_true rfl⟩ [0, 1, 2, 3, 4, 5, 6, 7, 8, 9, 10, 11, 12] rfl rfl 0 rfl dX8_founds_6 rfl rfl (Nat.le_of_ble_eq_true rfl) rfl ?_
  dsimp only [List.cons_append, List.nil_append, List.set_cons_succ, List.set_cons_zero, vput]
  refine rh_iconst hX dX8_founds_9 ki_0 ?_
  refine rh_istn1 hX dX8_founds_10 (by decide) rfl ?_
  suffices hP0 : G X 11 [some (.ref (B 0)), some (.int 0), none, none] [] (wM E B u kp ik ps pm dd tx 0 rw rm 0 ty 0 (-1) (rowTI (fun _ => 0) mn 0) vl tp lt ra pf pt pl pd prc ns tu ba na ca bo tr tH asd pa tg sd sr) by rw [rowTI_0] at hP0; exact hP0
  refine rh_loop (P := fun i => G X 11 [some (.ref (B 0)), some (.int (nI i)), none, none] [] (wM E B u kp ik ps pm dd tx 0 rw rm 0 ty 0 (-1) (rowTI (fun _ => 0) mn i) vl tp lt ra pf pt pl pd prc ns tu ba na ca bo tr tH asd pa tg sd sr)) (0) (8) (by omega) ?_ ?_
  · skip
    refine rh_extI (q := 6) (g := (fun _ => 0)) rfl (fun j hj => rowTI_lt (fun _ => 0) mn 8 j hj) rfl ?_
    dsimp only [List.cons_append, List.nil_append, List.set_cons_succ, List.set_cons_zero]
    refine rh_iload_n hX dX8_founds_11 rfl ?_
    refine rh_bipush hX dX8_founds_12 kb_8 ?_
    refine rh_icmp_ge_t (tgt := 30) hX dX8_founds_14 (by decide) (nI_le (a := 8) (b := 8) (Nat.le_refl 8) (by decide)) ?_
    refine rh_aload_n hX dX8_founds_30 rfl ?_
    refine rh_get hX gl_X8_99 0 dX8_founds_31 rfl rfl ?_
    refine rh_if_le (tgt := 133) hX dX8_founds_34 (by decide) (fun h34 => ?_) (fun h34 => ?_)
    · skip
      have h34 : ty = 0 := by have := rn_leI (b := 0) h34 (by omega) (by decide); omega
      have hfa : (mFa tx ty) = (-1, fun _ => 0) := by rw [mFa, if_pos h34]
      first | exact rh_wk (by exact ⟨rfl, trivial⟩) (hJ _ _ _ hfa) | exact rh_wk (by exact ⟨rfl, trivial⟩) (hJ _ _ _ (by rw [← hE, mEnd, if_neg h111])) | exact rh_wk (by exact ⟨rfl, trivial⟩) (hJ _ _ _ (by rw [← hE, mEnd, if_pos h111, if_neg h122])) | exact rh_wk (by exact ⟨rfl, trivial⟩) (hJ _ _ _ (by rw [← hE, mEnd, if_pos h111, if_pos h122]))
    · skip
      have h34 : 0 < ty := rn_leN (b := 0) h34 (by omega) (by decide)
      have hfa : (mFa tx ty) = mFd tx ty 7 1 (mFn tx ty 0).2.1 (mFn tx ty 0).2.2 (va_up (fun _ => 0) 0 (mFn tx ty 0).1) := by rw [mFa, if_neg (by omega)]
      refine rh_aload_n hX dX8_founds_37 rfl ?_
      refine rh_get hX gl_X8_27 0 dX8_founds_38 rfl rfl ?_
      refine rh_iconst hX dX8_founds_41 ki_0 ?_
      refine rh_aload_n hX dX8_founds_42 rfl ?_
      refine rh_iconst hX dX8_founds_43 ki_0 ?_
      refine rh_ldc2 hX dX8_founds_44 kl_X8_125 ?_
      refine rh_wV hX lk_X8_127 mvX8_number (fun l => c_X8_number l E _ _ _ _ _ _ _ _ _ _ _ _ _ 0 _ _ _ _ _ _ _ _ _ _ _ _ _ _ _ _ _ _ _ _ _ _ _ _ 0 999999999 (by omega) (by omega)) ⟨rfl, rfl⟩ ⟨Nat.le_of_ble_eq_true rfl, Nat.le_of_ble_eq_true rfl⟩ [0, 1, 2, 3, 4, 5, 6, 7, 8, 9, 10, 11, 12] rfl rfl 0 rfl dX8_founds_47 rfl rfl (Nat.le_of_ble_eq_true rfl) rfl ?_
      dsimp only [List.cons_append, List.nil_append, List.set_cons_succ, List.set_cons_zero, vput]
      rw [show mNum tx ty 0 (-1) 0 999999999 = mFn tx ty 0 from rfl]
      have hl0 : (mFn tx ty 0).2.1 ≤ ty := mNum_le (by omega)
      refine rh_iastore hX 6 0 dX8_founds_50 rfl rn_c0 (by omega) (by decide) rfl ?_
      dsimp only [List.cons_append, List.nil_append, List.set_cons_succ, List.set_cons_zero, vput]
      refine rh_iconst hX dX8_founds_51 ki_1 ?_
      refine rh_istn1 hX dX8_founds_52 (by decide) rfl ?_
      refine (rh_loop (P := fun h => ∀ (he1 : Nat) (wr1 : Int32) (mn1 : Nat → Int32), (mFd tx ty (8 - h) h he1 wr1 mn1 = (mFa tx ty) ∧ he1 ≤ ty) → G X 53 [some (.ref (B 0)), some (.int (nI h)), none, none] [] (wM E B u kp ik ps pm dd tx 0 rw rm 0 ty he1 wr1 mn1 vl tp lt ra pf pt pl pd prc ns tu ba na ca bo tr tH asd pa tg sd sr)) (1) (8) (by omega) ?_ ?_) _ _ _ ⟨hfa.symm, hl0⟩
      · intro he1 wr1 mn1 hH
        have hhe := hH.2
        have hE := hH.1
        rw [Nat.sub_self, mFd_0] at hE
        refine rh_aload_n hX dX8_founds_53 rfl ?_
        refine rh_get hX gl_X8_105 0 dX8_founds_54 rfl rfl ?_
        refine rh_iconst hX dX8_founds_57 ki_m1 ?_
        refine rh_icmp_ne (tgt := 106) hX dX8_founds_58 (by decide) (fun h58 => ?_) (fun h58 => ?_)
        · skip
          have hE : (mEnd ty he1 wr1, mn1) = (mFa tx ty) := by first | exact hE | (rw [if_neg h58] at hE; exact hE)
          refine rh_aload_n hX dX8_founds_106 rfl ?_
          refine rh_get hX gl_X8_105 0 dX8_founds_107 rfl rfl ?_
          refine rh_iconst hX dX8_founds_110 ki_m1 ?_
          refine rh_icmp_ne (tgt := 133) hX dX8_founds_111 (by decide) (fun h111 => ?_) (fun h111 => ?_)
          · skip
            first | exact rh_wk (by exact ⟨rfl, trivial⟩) (hJ _ _ _ hfa) | exact rh_wk (by exact ⟨rfl, trivial⟩) (hJ _ _ _ (by rw [← hE, mEnd, if_neg h111])) | exact rh_wk (by exact ⟨rfl, trivial⟩) (hJ _ _ _ (by rw [← hE, mEnd, if_pos h111, if_neg h122])) | exact rh_wk (by exact ⟨rfl, trivial⟩) (hJ _ _ _ (by rw [← hE, mEnd, if_pos h111, if_pos h122]))
          · skip
            refine rh_aload_n hX dX8_founds_114 rfl ?_
            refine rh_get hX gl_X8_102 0 dX8_founds_115 rfl rfl ?_
            refine rh_aload_n hX dX8_founds_118 rfl ?_
            refine rh_get hX gl_X8_99 0 dX8_founds_119 rfl rfl ?_
            refine rh_icmp_ge (tgt := 133) hX dX8_founds_122 (by decide) (fun h122 => ?_) (fun h122 => ?_)
            · skip
              have h122 := Nat.not_lt.mpr (rn_leI h122 (by omega) (by omega))
              first | exact rh_wk (by exact ⟨rfl, trivial⟩) (hJ _ _ _ hfa) | exact rh_wk (by exact ⟨rfl, trivial⟩) (hJ _ _ _ (by rw [← hE, mEnd, if_neg h111])) | exact rh_wk (by exact ⟨rfl, trivial⟩) (hJ _ _ _ (by rw [← hE, mEnd, if_pos h111, if_neg h122])) | exact rh_wk (by exact ⟨rfl, trivial⟩) (hJ _ _ _ (by rw [← hE, mEnd, if_pos h111, if_pos h122]))
            · skip
              have h122 := rn_leN h122 (by omega) (by omega)
              refine rh_aload_n hX dX8_founds_125 rfl ?_
              refine rh_aload_n hX dX8_founds_126 rfl ?_
              refine rh_get hX gl_X8_102 0 dX8_founds_127 rfl rfl ?_
              refine rh_uV hX lk_X8_112 mvX8_fault (fun l => c_X8_fault l E _ _ _ _ _ _ _ _ _ _ _ _ _ _ _ _ _ _ _ _ _ _ _ _ _ _ _ _ _ _ _ _ _ _ _ _ _ _ _) ⟨rfl, rfl⟩ ⟨Nat.le_of_ble_eq_true rfl, Nat.le_of_ble_eq_true rfl⟩ [0, 1, 2, 3, 4, 5, 6, 7, 8, 9, 10, 11, 12] rfl rfl 0 rfl dX8_founds_130 rfl rfl (Nat.le_of_ble_eq_true rfl) rfl ?_
              dsimp only [List.cons_append, List.nil_append, List.set_cons_succ, List.set_cons_zero, vput]
              first | exact rh_wk (by exact ⟨rfl, trivial⟩) (hJ _ _ _ hfa) | exact rh_wk (by exact ⟨rfl, trivial⟩) (hJ _ _ _ (by rw [← hE, mEnd, if_neg h111])) | exact rh_wk (by exact ⟨rfl, trivial⟩) (hJ _ _ _ (by rw [← hE, mEnd, if_pos h111, if_neg h122])) | exact rh_wk (by exact ⟨rfl, trivial⟩) (hJ _ _ _ (by rw [← hE, mEnd, if_pos h111, if_pos h122]))
        · skip
          refine rh_aload_n hX dX8_founds_61 rfl ?_
          refine rh_pV hX lk_X8_108 mvX8_sees (fun l => c_X8_sees l E _ _ _ _ _ _ _ _ _ _ _ _ _ _ _ _ _ _ _ _ _ _ _ _ _ _ _ _ _ _ _ _ _ _ _ _ _ _ (by omega) (by omega)) ⟨rfl, rfl⟩ ⟨Nat.le_of_ble_eq_true rfl, Nat.le_of_ble_eq_true rfl⟩ [0, 1, 2, 3, 4, 5, 6, 7, 8, 9, 10, 11, 12] rfl rfl 0 rfl dX8_founds_62 rfl rfl (Nat.le_of_ble_eq_true rfl) ?_
          refine rh_bipush hX dX8_founds_65 kb_44 ?_
          refine rh_icmp_ne (tgt := 106) hX dX8_founds_67 (by decide) (fun h67 => ?_) (fun h67 => ?_)
          · skip
            have hE : (mEnd ty he1 wr1, mn1) = (mFa tx ty) := by first | exact hE | (rw [if_pos h58, if_neg h67] at hE; exact hE)
            refine rh_aload_n hX dX8_founds_106 rfl ?_
            refine rh_get hX gl_X8_105 0 dX8_founds_107 rfl rfl ?_
            refine rh_iconst hX dX8_founds_110 ki_m1 ?_
            refine rh_icmp_ne (tgt := 133) hX dX8_founds_111 (by decide) (fun h111 => ?_) (fun h111 => ?_)
            · skip
              first | exact rh_wk (by exact ⟨rfl, trivial⟩) (hJ _ _ _ hfa) | exact rh_wk (by exact ⟨rfl, trivial⟩) (hJ _ _ _ (by rw [← hE, mEnd, if_neg h111])) | exact rh_wk (by exact ⟨rfl, trivial⟩) (hJ _ _ _ (by rw [← hE, mEnd, if_pos h111, if_neg h122])) | exact rh_wk (by exact ⟨rfl, trivial⟩) (hJ _ _ _ (by rw [← hE, mEnd, if_pos h111, if_pos h122]))
            · skip
              refine rh_aload_n hX dX8_founds_114 rfl ?_
              refine rh_get hX gl_X8_102 0 dX8_founds_115 rfl rfl ?_
              refine rh_aload_n hX dX8_founds_118 rfl ?_
              refine rh_get hX gl_X8_99 0 dX8_founds_119 rfl rfl ?_
              refine rh_icmp_ge (tgt := 133) hX dX8_founds_122 (by decide) (fun h122 => ?_) (fun h122 => ?_)
              · skip
                have h122 := Nat.not_lt.mpr (rn_leI h122 (by omega) (by omega))
                first | exact rh_wk (by exact ⟨rfl, trivial⟩) (hJ _ _ _ hfa) | exact rh_wk (by exact ⟨rfl, trivial⟩) (hJ _ _ _ (by rw [← hE, mEnd, if_neg h111])) | exact rh_wk (by exact ⟨rfl, trivial⟩) (hJ _ _ _ (by rw [← hE, mEnd, if_pos h111, if_neg h122])) | exact rh_wk (by exact ⟨rfl, trivial⟩) (hJ _ _ _ (by rw [← hE, mEnd, if_pos h111, if_pos h122]))
              · skip
                have h122 := rn_leN h122 (by omega) (by omega)
                refine rh_aload_n hX dX8_founds_125 rfl ?_
                refine rh_aload_n hX dX8_founds_126 rfl ?_
                refine rh_get hX gl_X8_102 0 dX8_founds_127 rfl rfl ?_
                refine rh_uV hX lk_X8_112 mvX8_fault (fun l => c_X8_fault l E _ _ _ _ _ _ _ _ _ _ _ _ _ _ _ _ _ _ _ _ _ _ _ _ _ _ _ _ _ _ _ _ _ _ _ _ _ _ _) ⟨rfl, rfl⟩ ⟨Nat.le_of_ble_eq_true rfl, Nat.le_of_ble_eq_true rfl⟩ [0, 1, 2, 3, 4, 5, 6, 7, 8, 9, 10, 11, 12] rfl rfl 0 rfl dX8_founds_130 rfl rfl (Nat.le_of_ble_eq_true rfl) rfl ?_
                dsimp only [List.cons_append, List.nil_append, List.set_cons_succ, List.set_cons_zero, vput]
                first | exact rh_wk (by exact ⟨rfl, trivial⟩) (hJ _ _ _ hfa) | exact rh_wk (by exact ⟨rfl, trivial⟩) (hJ _ _ _ (by rw [← hE, mEnd, if_neg h111])) | exact rh_wk (by exact ⟨rfl, trivial⟩) (hJ _ _ _ (by rw [← hE, mEnd, if_pos h111, if_neg h122])) | exact rh_wk (by exact ⟨rfl, trivial⟩) (hJ _ _ _ (by rw [← hE, mEnd, if_pos h111, if_pos h122]))
          · skip
            have hlt := mSee_lt (tx := tx) (n := ty) (p := he1) (by rw [h67]; decide)
            refine rh_iload_n hX dX8_founds_70 rfl ?_
            refine rh_bipush hX dX8_founds_71 kb_8 ?_
            refine rh_icmp_ge_t (tgt := 106) hX dX8_founds_73 (by decide) (nI_le (a := 8) (b := 8) (Nat.le_refl 8) (by decide)) ?_
            refine rh_aload_n hX dX8_founds_106 rfl ?_
            refine rh_get hX gl_X8_105 0 dX8_founds_107 rfl rfl ?_
            refine rh_iconst hX dX8_founds_110 ki_m1 ?_
            refine rh_icmp_ne (tgt := 133) hX dX8_founds_111 (by decide) (fun h111 => ?_) (fun h111 => ?_)
            · skip
              first | exact rh_wk (by exact ⟨rfl, trivial⟩) (hJ _ _ _ hfa) | exact rh_wk (by exact ⟨rfl, trivial⟩) (hJ _ _ _ (by rw [← hE, mEnd, if_neg h111])) | exact rh_wk (by exact ⟨rfl, trivial⟩) (hJ _ _ _ (by rw [← hE, mEnd, if_pos h111, if_neg h122])) | exact rh_wk (by exact ⟨rfl, trivial⟩) (hJ _ _ _ (by rw [← hE, mEnd, if_pos h111, if_pos h122]))
            · skip
              refine rh_aload_n hX dX8_founds_114 rfl ?_
              refine rh_get hX gl_X8_102 0 dX8_founds_115 rfl rfl ?_
              refine rh_aload_n hX dX8_founds_118 rfl ?_
              refine rh_get hX gl_X8_99 0 dX8_founds_119 rfl rfl ?_
              refine rh_icmp_ge (tgt := 133) hX dX8_founds_122 (by decide) (fun h122 => ?_) (fun h122 => ?_)
              · skip
                have h122 := Nat.not_lt.mpr (rn_leI h122 (by omega) (by omega))
                first | exact rh_wk (by exact ⟨rfl, trivial⟩) (hJ _ _ _ hfa) | exact rh_wk (by exact ⟨rfl, trivial⟩) (hJ _ _ _ (by rw [← hE, mEnd, if_neg h111])) | exact rh_wk (by exact ⟨rfl, trivial⟩) (hJ _ _ _ (by rw [← hE, mEnd, if_pos h111, if_neg h122])) | exact rh_wk (by exact ⟨rfl, trivial⟩) (hJ _ _ _ (by rw [← hE, mEnd, if_pos h111, if_pos h122]))
              · skip
                have h122 := rn_leN h122 (by omega) (by omega)
                refine rh_aload_n hX dX8_founds_125 rfl ?_
                refine rh_aload_n hX dX8_founds_126 rfl ?_
                refine rh_get hX gl_X8_102 0 dX8_founds_127 rfl rfl ?_
                refine rh_uV hX lk_X8_112 mvX8_fault (fun l => c_X8_fault l E _ _ _ _ _ _ _ _ _ _ _ _ _ _ _ _ _ _ _ _ _ _ _ _ _ _ _ _ _ _ _ _ _ _ _ _ _ _ _) ⟨rfl, rfl⟩ ⟨Nat.le_of_ble_eq_true rfl, Nat.le_of_ble_eq_true rfl⟩ [0, 1, 2, 3, 4, 5, 6, 7, 8, 9, 10, 11, 12] rfl rfl 0 rfl dX8_founds_130 rfl rfl (Nat.le_of_ble_eq_true rfl) rfl ?_
                dsimp only [List.cons_append, List.nil_append, List.set_cons_succ, List.set_cons_zero, vput]
                first | exact rh_wk (by exact ⟨rfl, trivial⟩) (hJ _ _ _ hfa) | exact rh_wk (by exact ⟨rfl, trivial⟩) (hJ _ _ _ (by rw [← hE, mEnd, if_neg h111])) | exact rh_wk (by exact ⟨rfl, trivial⟩) (hJ _ _ _ (by rw [← hE, mEnd, if_pos h111, if_neg h122])) | exact rh_wk (by exact ⟨rfl, trivial⟩) (hJ _ _ _ (by rw [← hE, mEnd, if_pos h111, if_pos h122]))
      · intro h hh0 hh ihh he1 wr1 mn1 hH
        have hhe := hH.2
        have hE := hH.1
        rw [show 8 - h = (8 - (h + 1)) + 1 by omega, mFd_s] at hE
        refine rh_aload_n hX dX8_founds_53 rfl ?_
        refine rh_get hX gl_X8_105 0 dX8_founds_54 rfl rfl ?_
        refine rh_iconst hX dX8_founds_57 ki_m1 ?_
        refine rh_icmp_ne (tgt := 106) hX dX8_founds_58 (by decide) (fun h58 => ?_) (fun h58 => ?_)
        · skip
          have hE : (mEnd ty he1 wr1, mn1) = (mFa tx ty) := by first | exact hE | (rw [if_neg h58] at hE; exact hE)
          refine rh_aload_n hX dX8_founds_106 rfl ?_
          refine rh_get hX gl_X8_105 0 dX8_founds_107 rfl rfl ?_
          refine rh_iconst hX dX8_founds_110 ki_m1 ?_
          refine rh_icmp_ne (tgt := 133) hX dX8_founds_111 (by decide) (fun h111 => ?_) (fun h111 => ?_)
          · skip
            first | exact rh_wk (by exact ⟨rfl, trivial⟩) (hJ _ _ _ hfa) | exact rh_wk (by exact ⟨rfl, trivial⟩) (hJ _ _ _ (by rw [← hE, mEnd, if_neg h111])) | exact rh_wk (by exact ⟨rfl, trivial⟩) (hJ _ _ _ (by rw [← hE, mEnd, if_pos h111, if_neg h122])) | exact rh_wk (by exact ⟨rfl, trivial⟩) (hJ _ _ _ (by rw [← hE, mEnd, if_pos h111, if_pos h122]))
          · skip
            refine rh_aload_n hX dX8_founds_114 rfl ?_
            refine rh_get hX gl_X8_102 0 dX8_founds_115 rfl rfl ?_
            refine rh_aload_n hX dX8_founds_118 rfl ?_
            refine rh_get hX gl_X8_99 0 dX8_founds_119 rfl rfl ?_
            refine rh_icmp_ge (tgt := 133) hX dX8_founds_122 (by decide) (fun h122 => ?_) (fun h122 => ?_)
            · skip
              have h122 := Nat.not_lt.mpr (rn_leI h122 (by omega) (by omega))
              first | exact rh_wk (by exact ⟨rfl, trivial⟩) (hJ _ _ _ hfa) | exact rh_wk (by exact ⟨rfl, trivial⟩) (hJ _ _ _ (by rw [← hE, mEnd, if_neg h111])) | exact rh_wk (by exact ⟨rfl, trivial⟩) (hJ _ _ _ (by rw [← hE, mEnd, if_pos h111, if_neg h122])) | exact rh_wk (by exact ⟨rfl, trivial⟩) (hJ _ _ _ (by rw [← hE, mEnd, if_pos h111, if_pos h122]))
            · skip
              have h122 := rn_leN h122 (by omega) (by omega)
              refine rh_aload_n hX dX8_founds_125 rfl ?_
              refine rh_aload_n hX dX8_founds_126 rfl ?_
              refine rh_get hX gl_X8_102 0 dX8_founds_127 rfl rfl ?_
              refine rh_uV hX lk_X8_112 mvX8_fault (fun l => c_X8_fault l E _ _ _ _ _ _ _ _ _ _ _ _ _ _ _ _ _ _ _ _ _ _ _ _ _ _ _ _ _ _ _ _ _ _ _ _ _ _ _) ⟨rfl, rfl⟩ ⟨Nat.le_of_ble_eq_true rfl, Nat.le_of_ble_eq_true rfl⟩ [0, 1, 2, 3, 4, 5, 6, 7, 8, 9, 10, 11, 12] rfl rfl 0 rfl dX8_founds_130 rfl rfl (Nat.le_of_ble_eq_true rfl) rfl ?_
              dsimp only [List.cons_append, List.nil_append, List.set_cons_succ, List.set_cons_zero, vput]
              first | exact rh_wk (by exact ⟨rfl, trivial⟩) (hJ _ _ _ hfa) | exact rh_wk (by exact ⟨rfl, trivial⟩) (hJ _ _ _ (by rw [← hE, mEnd, if_neg h111])) | exact rh_wk (by exact ⟨rfl, trivial⟩) (hJ _ _ _ (by rw [← hE, mEnd, if_pos h111, if_neg h122])) | exact rh_wk (by exact ⟨rfl, trivial⟩) (hJ _ _ _ (by rw [← hE, mEnd, if_pos h111, if_pos h122]))
        · skip
          refine rh_aload_n hX dX8_founds_61 rfl ?_
          refine rh_pV hX lk_X8_108 mvX8_sees (fun l => c_X8_sees l E _ _ _ _ _ _ _ _ _ _ _ _ _ _ _ _ _ _ _ _ _ _ _ _ _ _ _ _ _ _ _ _ _ _ _ _ _ _ (by omega) (by omega)) ⟨rfl, rfl⟩ ⟨Nat.le_of_ble_eq_true rfl, Nat.le_of_ble_eq_true rfl⟩ [0, 1, 2, 3, 4, 5, 6, 7, 8, 9, 10, 11, 12] rfl rfl 0 rfl dX8_founds_62 rfl rfl (Nat.le_of_ble_eq_true rfl) ?_
          refine rh_bipush hX dX8_founds_65 kb_44 ?_
          refine rh_icmp_ne (tgt := 106) hX dX8_founds_67 (by decide) (fun h67 => ?_) (fun h67 => ?_)
          · skip
            have hE : (mEnd ty he1 wr1, mn1) = (mFa tx ty) := by first | exact hE | (rw [if_pos h58, if_neg h67] at hE; exact hE)
            refine rh_aload_n hX dX8_founds_106 rfl ?_
            refine rh_get hX gl_X8_105 0 dX8_founds_107 rfl rfl ?_
            refine rh_iconst hX dX8_founds_110 ki_m1 ?_
            refine rh_icmp_ne (tgt := 133) hX dX8_founds_111 (by decide) (fun h111 => ?_) (fun h111 => ?_)
            · skip
              first | exact rh_wk (by exact ⟨rfl, trivial⟩) (hJ _ _ _ hfa) | exact rh_wk (by exact ⟨rfl, trivial⟩) (hJ _ _ _ (by rw [← hE, mEnd, if_neg h111])) | exact rh_wk (by exact ⟨rfl, trivial⟩) (hJ _ _ _ (by rw [← hE, mEnd, if_pos h111, if_neg h122])) | exact rh_wk (by exact ⟨rfl, trivial⟩) (hJ _ _ _ (by rw [← hE, mEnd, if_pos h111, if_pos h122]))
            · skip
              refine rh_aload_n hX dX8_founds_114 rfl ?_
              refine rh_get hX gl_X8_102 0 dX8_founds_115 rfl rfl ?_
              refine rh_aload_n hX dX8_founds_118 rfl ?_
              refine rh_get hX gl_X8_99 0 dX8_founds_119 rfl rfl ?_
              refine rh_icmp_ge (tgt := 133) hX dX8_founds_122 (by decide) (fun h122 => ?_) (fun h122 => ?_)
              · skip
                have h122 := Nat.not_lt.mpr (rn_leI h122 (by omega) (by omega))
                first | exact rh_wk (by exact ⟨rfl, trivial⟩) (hJ _ _ _ hfa) | exact rh_wk (by exact ⟨rfl, trivial⟩) (hJ _ _ _ (by rw [← hE, mEnd, if_neg h111])) | exact rh_wk (by exact ⟨rfl, trivial⟩) (hJ _ _ _ (by rw [← hE, mEnd, if_pos h111, if_neg h122])) | exact rh_wk (by exact ⟨rfl, trivial⟩) (hJ _ _ _ (by rw [← hE, mEnd, if_pos h111, if_pos h122]))
              · skip
                have h122 := rn_leN h122 (by omega) (by omega)
                refine rh_aload_n hX dX8_founds_125 rfl ?_
                refine rh_aload_n hX dX8_founds_126 rfl ?_
                refine rh_get hX gl_X8_102 0 dX8_founds_127 rfl rfl ?_
                refine rh_uV hX lk_X8_112 mvX8_fault (fun l => c_X8_fault l E _ _ _ _ _ _ _ _ _ _ _ _ _ _ _ _ _ _ _ _ _ _ _ _ _ _ _ _ _ _ _ _ _ _ _ _ _ _ _) ⟨rfl, rfl⟩ ⟨Nat.le_of_ble_eq_true rfl, Nat.le_of_ble_eq_true rfl⟩ [0, 1, 2, 3, 4, 5, 6, 7, 8, 9, 10, 11, 12] rfl rfl 0 rfl dX8_founds_130 rfl rfl (Nat.le_of_ble_eq_true rfl) rfl ?_
                dsimp only [List.cons_append, List.nil_append, List.set_cons_succ, List.set_cons_zero, vput]
                first | exact rh_wk (by exact ⟨rfl, trivial⟩) (hJ _ _ _ hfa) | exact rh_wk (by exact ⟨rfl, trivial⟩) (hJ _ _ _ (by rw [← hE, mEnd, if_neg h111])) | exact rh_wk (by exact ⟨rfl, trivial⟩) (hJ _ _ _ (by rw [← hE, mEnd, if_pos h111, if_neg h122])) | exact rh_wk (by exact ⟨rfl, trivial⟩) (hJ _ _ _ (by rw [← hE, mEnd, if_pos h111, if_pos h122]))
          · skip
            have hlt := mSee_lt (tx := tx) (n := ty) (p := he1) (by rw [h67]; decide)
            refine rh_iload_n hX dX8_founds_70 rfl ?_
            refine rh_bipush hX dX8_founds_71 kb_8 ?_
            refine rh_icmp_ge_f (tgt := 106) hX dX8_founds_73 (by decide) (nI_ge (b := 8) hh (by decide)) ?_
            refine rh_aload_n hX dX8_founds_76 rfl ?_
            refine rh_dup hX dX8_founds_77 rfl ?_
            refine rh_get hX gl_X8_102 0 dX8_founds_78 rfl rfl ?_
            refine rh_iconst hX dX8_founds_81 ki_1 ?_
            refine rh_iadd hX dX8_founds_82 ?_
            rw [show nI he1 + 1 = nI (he1 + 1) from rn_add he1 1]
            refine rh_put hX gl_X8_102 0 dX8_founds_83 rfl rfl rfl (Nat.le_of_ble_eq_true rfl) rfl ?_
            dsimp only [List.cons_append, List.nil_append, List.set_cons_succ, List.set_cons_zero, vput]
            rw [h58]
            refine rh_aload_n hX dX8_founds_86 rfl ?_
            refine rh_get hX gl_X8_27 0 dX8_founds_87 rfl rfl ?_
            refine rh_iload_n hX dX8_founds_90 rfl ?_
            refine rh_aload_n hX dX8_founds_91 rfl ?_
            refine rh_iconst hX dX8_founds_92 ki_0 ?_
            refine rh_ldc2 hX dX8_founds_93 kl_X8_125 ?_
            refine rh_wV hX lk_X8_127 mvX8_number (fun l => c_X8_number l E _ _ _ _ _ _ _ _ _ _ _ _ _ _ _ _ _ _ _ _ _ _ _ _ _ _ _ _ _ _ _ _ _ _ _ _ _ _ 0 999999999 (by omega) (by omega)) ⟨rfl, rfl⟩ ⟨Nat.le_of_ble_eq_true rfl, Nat.le_of_ble_eq_true rfl⟩ [0, 1, 2, 3, 4, 5, 6, 7, 8, 9, 10, 11, 12] rfl rfl 0 rfl dX8_founds_96 rfl rfl (Nat.le_of_ble_eq_true rfl) rfl ?_
            dsimp only [List.cons_append, List.nil_append, List.set_cons_succ, List.set_cons_zero, vput]
            rw [show mNum tx ty (he1 + 1) (-1) 0 999999999 = mFn tx ty (he1 + 1) from rfl]
            refine rh_iastore hX 6 h dX8_founds_99 rfl rfl (by omega) (by decide) rfl ?_
            dsimp only [List.cons_append, List.nil_append, List.set_cons_succ, List.set_cons_zero, vput]
            refine rh_inc1 hX dX8_founds_100 (by decide) rfl (rn_i1 _) ?_
            refine rh_goto (tgt := 53) hX dX8_founds_103 (by decide) ?_
            exact ihh _ _ _ ⟨by rw [if_pos h58, if_pos h67] at hE; exact hE, mNum_le (by have := mSee_lt (tx := tx) (n := ty) (p := he1) (by rw [h67]; decide); omega)⟩
  · intro i hi0 hi ih
    refine rh_iload_n hX dX8_founds_11 rfl ?_
    refine rh_bipush hX dX8_founds_12 kb_8 ?_
    refine rh_icmp_ge_f (tgt := 30) hX dX8_founds_14 (by decide) (nI_ge (b := 8) hi (by decide)) ?_
    refine rh_aload_n hX dX8_founds_17 rfl ?_
    refine rh_get hX gl_X8_27 0 dX8_founds_18 rfl rfl ?_
    refine rh_iload_n hX dX8_founds_21 rfl ?_
    refine rh_iconst hX dX8_founds_22 ki_0 ?_
    refine rh_iastore hX 6 _ dX8_founds_23 rfl rfl (by omega) (by decide) rfl ?_
    dsimp only [List.cons_append, List.nil_append, List.set_cons_succ, List.set_cons_zero, vput]
    refine rh_inc1 hX dX8_founds_24 (by decide) rfl (rn_i1 _) ?_
    refine rh_goto (tgt := 11) hX dX8_founds_27 (by decide) ?_
    rw [← rowTI_s (fun _ => 0)] at ih
    exact ih
