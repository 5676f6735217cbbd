set_option maxRecDepth 100000 in
set_option maxHeartbeats 4000000 in
theorem rt_152 {X : rhX} {E : rhE} (B : Nat → Nat) (u : Nat → Int32) (kp : Nat → Int32) (ik : Int32) (ps : Nat → Int32) (pm : Nat) (dd : Int32) (tx : Nat → Int32) (ty : Nat) (rw : Nat → Int64) (rm : Nat) (th : Int32) (sz : Nat) (mn : Nat → Int32) (pd : Int64) (prc : Int64) (ns : Int64) (tu : Nat) (ba : Int64) (na : Int64) (ca : Nat → Int64) (bo : Nat → Int32) (tr : Nat → Int64) (tH : Int32) (asd : Nat → Int32) (pa : Nat → Int64) (tg : Nat → Int64) (sd : Int64) (sr : Int64) (hX : Ok X E yX8_readsTerms.cls cX8_readsTerms (rmL 6) 3) (F : MS) {W0 : va_W} (hW0 : W0.map Prod.fst = [B 0, B 1, B 2, B 3, B 4, B 5, B 6, B 7, B 8, B 9, B 10, B 11, B 12]) (hR : Rt X none W0 (One none (wM E B u kp ik ps pm dd tx ty rw rm th sz F.1 F.2.1 mn F.2.2.1 F.2.2.2.1 F.2.2.2.2.1 F.2.2.2.2.2.1 F.2.2.2.2.2.2.1 F.2.2.2.2.2.2.2.1 F.2.2.2.2.2.2.2.2 pd prc ns tu ba na ca bo tr tH asd pa tg sd sr))) (hsz : sz ≤ 200) (hbt : byteOk tx sz) : ∀ (he : Nat) (wr vl tp lt pf pt pl : Int32) (fr : Nat), he ≤ sz → fr ≤ 8 → t2 tx sz fr (he, wr, vl, tp, lt, 0, pf, pt, pl) = F → G X 152 [some (.ref (B 0)), some (.int (nI fr)), none] [] (wM E B u kp ik ps pm dd tx ty rw rm th sz he wr mn vl tp lt 0 pf pt pl pd prc ns tu ba na ca bo tr tH asd pa tg sd sr) := by
  intro he wr vl tp lt pf pt pl fr hhe hfr hF
  subst hF
  refine rh_iconst hX dX8_readsTerms_152 ki_0 ?_
  refine rh_istn2 hX dX8_readsTerms_153 (by decide) rfl ?_
  refine rh_iload_n hX dX8_readsTerms_154 rfl ?_
  refine rh_iconst hX dX8_readsTerms_155 ki_3 ?_
  refine rh_icmp_ge_f (tgt := 192) hX dX8_readsTerms_156 (by decide) (by decide) ?_
  refine rh_aload_n hX dX8_readsTerms_159 rfl ?_
  refine rh_get hX gl_X8_217 0 dX8_readsTerms_160 rfl rfl ?_
  refine rh_if_ne_f (tgt := 192) hX dX8_readsTerms_163 (by decide) rfl ?_
  refine rh_aload_n hX dX8_readsTerms_166 rfl ?_
  refine rh_iconst hX dX8_readsTerms_167 ki_2 ?_
  refine rh_iload_n hX dX8_readsTerms_168 rfl ?_
  refine rh_iadd hX dX8_readsTerms_169 ?_
  refine rh_pS hX lk_X8_197 msX8_wordAt (fun l => c_X8_wordAt l E (2 + 0) (by omega)) ⟨rfl, rfl⟩ ⟨Nat.le_of_ble_eq_true rfl, Nat.le_of_ble_eq_true rfl⟩ [] rfl rfl dX8_readsTerms_170 rfl rfl (Nat.le_of_ble_eq_true rfl) ?_
  refine rh_wV hX lk_X8_226 mvX8_passes (fun l => c_X8_passes l E _ _ _ _ _ _ _ _ _ _ _ _ _ _ _ _ _ _ _ _ _ _ _ _ _ _ _ _ _ _ _ _ _ _ _ _ _ _ 3 (by omega) (by omega) hbt (by decide)) ⟨rfl, rfl⟩ ⟨Nat.le_of_ble_eq_true rfl, Nat.le_of_ble_eq_true rfl⟩ [0, 1, 2, 3, 4, 5, 6, 7, 8, 9, 10, 11, 12] rfl rfl 0 rfl dX8_readsTerms_173 rfl rfl (Nat.le_of_ble_eq_true rfl) rfl ?_
  dsimp only [List.cons_append, List.nil_append, List.set_cons_succ, List.set_cons_zero, vput]
  refine rh_if_eq (tgt := 186) hX dX8_readsTerms_176 (by decide) (fun hp3 => ?_) (fun hp3 => ?_)
  · skip
    have hp3 : ¬ (mPs (sC tx) sz he wr 3).1 = true := fun q => by rw [if_pos q] at hp3; exact absurd hp3 (by decide)
    rw [mPs_f hp3]
    refine rh_inc2 hX dX8_readsTerms_186 (by decide) rfl (show (0 : Int32) + Int32.ofInt 1 = 1 by decide) ?_
    refine rh_goto (tgt := 154) hX dX8_readsTerms_189 (by decide) ?_
    refine rh_iload_n hX dX8_readsTerms_154 rfl ?_
    refine rh_iconst hX dX8_readsTerms_155 ki_3 ?_
    refine rh_icmp_ge_f (tgt := 192) hX dX8_readsTerms_156 (by decide) (by decide) ?_
    refine rh_aload_n hX dX8_readsTerms_159 rfl ?_
    refine rh_get hX gl_X8_217 0 dX8_readsTerms_160 rfl rfl ?_
    refine rh_if_ne_f (tgt := 192) hX dX8_readsTerms_163 (by decide) rfl ?_
    refine rh_aload_n hX dX8_readsTerms_166 rfl ?_
    refine rh_iconst hX dX8_readsTerms_167 ki_2 ?_
    refine rh_iload_n hX dX8_readsTerms_168 rfl ?_
    refine rh_iadd hX dX8_readsTerms_169 ?_
    refine rh_pS hX lk_X8_197 msX8_wordAt (fun l => c_X8_wordAt l E (2 + 1) (by omega)) ⟨rfl, rfl⟩ ⟨Nat.le_of_ble_eq_true rfl, Nat.le_of_ble_eq_true rfl⟩ [] rfl rfl dX8_readsTerms_170 rfl rfl (Nat.le_of_ble_eq_true rfl) ?_
    refine rh_wV hX lk_X8_226 mvX8_passes (fun l => c_X8_passes l E _ _ _ _ _ _ _ _ _ _ _ _ _ _ _ _ _ _ _ _ _ _ _ _ _ _ _ _ _ _ _ _ _ _ _ _ _ _ 4 (by omega) (by omega) hbt (by decide)) ⟨rfl, rfl⟩ ⟨Nat.le_of_ble_eq_true rfl, Nat.le_of_ble_eq_true rfl⟩ [0, 1, 2, 3, 4, 5, 6, 7, 8, 9, 10, 11, 12] rfl rfl 0 rfl dX8_readsTerms_173 rfl rfl (Nat.le_of_ble_eq_true rfl) rfl ?_
    dsimp only [List.cons_append, List.nil_append, List.set_cons_succ, List.set_cons_zero, vput]
    refine rh_if_eq (tgt := 186) hX dX8_readsTerms_176 (by decide) (fun hp4 => ?_) (fun hp4 => ?_)
    · skip
      have hp4 : ¬ (mPs (sC tx) sz he wr 4).1 = true := fun q => by rw [if_pos q] at hp4; exact absurd hp4 (by decide)
      rw [mPs_f hp4]
      refine rh_inc2 hX dX8_readsTerms_186 (by decide) rfl (show (1 : Int32) + Int32.ofInt 1 = 2 by decide) ?_
      refine rh_goto (tgt := 154) hX dX8_readsTerms_189 (by decide) ?_
      refine rh_iload_n hX dX8_readsTerms_154 rfl ?_
      refine rh_iconst hX dX8_readsTerms_155 ki_3 ?_
      refine rh_icmp_ge_f (tgt := 192) hX dX8_readsTerms_156 (by decide) (by decide) ?_
      refine rh_aload_n hX dX8_readsTerms_159 rfl ?_
      refine rh_get hX gl_X8_217 0 dX8_readsTerms_160 rfl rfl ?_
      refine rh_if_ne_f (tgt := 192) hX dX8_readsTerms_163 (by decide) rfl ?_
      refine rh_aload_n hX dX8_readsTerms_166 rfl ?_
      refine rh_iconst hX dX8_readsTerms_167 ki_2 ?_
      refine rh_iload_n hX dX8_readsTerms_168 rfl ?_
      refine rh_iadd hX dX8_readsTerms_169 ?_
      refine rh_pS hX lk_X8_197 msX8_wordAt (fun l => c_X8_wordAt l E (2 + 2) (by omega)) ⟨rfl, rfl⟩ ⟨Nat.le_of_ble_eq_true rfl, Nat.le_of_ble_eq_true rfl⟩ [] rfl rfl dX8_readsTerms_170 rfl rfl (Nat.le_of_ble_eq_true rfl) ?_
      refine rh_wV hX lk_X8_226 mvX8_passes (fun l => c_X8_passes l E _ _ _ _ _ _ _ _ _ _ _ _ _ _ _ _ _ _ _ _ _ _ _ _ _ _ _ _ _ _ _ _ _ _ _ _ _ _ 5 (by omega) (by omega) hbt (by decide)) ⟨rfl, rfl⟩ ⟨Nat.le_of_ble_eq_true rfl, Nat.le_of_ble_eq_true rfl⟩ [0, 1, 2, 3, 4, 5, 6, 7, 8, 9, 10, 11, 12] rfl rfl 0 rfl dX8_readsTerms_173 rfl rfl (Nat.le_of_ble_eq_true rfl) rfl ?_
      dsimp only [List.cons_append, List.nil_append, List.set_cons_succ, List.set_cons_zero, vput]
      refine rh_if_eq (tgt := 186) hX dX8_readsTerms_176 (by decide) (fun hp5 => ?_) (fun hp5 => ?_)
      · skip
        have hp5 : ¬ (mPs (sC tx) sz he wr 5).1 = true := fun q => by rw [if_pos q] at hp5; exact absurd hp5 (by decide)
        rw [mPs_f hp5]
        refine rh_inc2 hX dX8_readsTerms_186 (by decide) rfl (show (2 : Int32) + Int32.ofInt 1 = 3 by decide) ?_
        refine rh_goto (tgt := 154) hX dX8_readsTerms_189 (by decide) ?_
        refine rh_iload_n hX dX8_readsTerms_154 rfl ?_
        refine rh_iconst hX dX8_readsTerms_155 ki_3 ?_
        refine rh_icmp_ge_t (tgt := 192) hX dX8_readsTerms_156 (by decide) (by decide) ?_
        refine rh_aload_n hX dX8_readsTerms_192 rfl ?_
        refine rh_get hX gl_X8_217 0 dX8_readsTerms_193 rfl rfl ?_
        refine rh_if_le_t (tgt := 201) hX dX8_readsTerms_196 (by decide) (by decide) ?_
        exact rh_wk (lv' := [some (.ref (B 0)), some (.int (nI fr)), none]) (by exact ⟨rfl, rfl, trivial⟩) (rt_201 B u kp ik ps pm dd tx ty rw rm th sz mn pd prc ns tu ba na ca bo tr tH asd pa tg sd sr hX _ hW0 hR hsz hbt (he) (wr) (vl) (tp) (lt) (0) (pf) (pt) (pl) fr hhe (by omega) (by rw [t2, if_neg (show ¬ (mPq tx sz (he, wr, vl, tp, lt, (0 : Int32), pf, pt, pl) 3).1 = true from hp3), t3, if_neg (show ¬ (mPq tx sz (he, wr, vl, tp, lt, (0 : Int32), pf, pt, pl) 4).1 = true from hp4), t4, if_neg (show ¬ (mPq tx sz (he, wr, vl, tp, lt, (0 : Int32), pf, pt, pl) 5).1 = true from hp5)]))
      · skip
        have hp5 : (mPs (sC tx) sz he wr 5).1 = true := Classical.not_not.mp (fun q => hp5 (if_neg q))
        have hle := mPs_le (s := sC tx) (wr := wr) (i := 5) hhe
        refine rh_aload_n hX dX8_readsTerms_179 rfl ?_
        refine rh_iload_n hX dX8_readsTerms_180 rfl ?_
        refine rh_iconst hX dX8_readsTerms_181 ki_1 ?_
        refine rh_iadd hX dX8_readsTerms_182 ?_
        rw [show (2 : Int32) + 1 = 3 from rfl]
        refine rh_put hX gl_X8_217 0 dX8_readsTerms_183 rfl rfl rfl (Nat.le_of_ble_eq_true rfl) rfl ?_
        dsimp only [List.cons_append, List.nil_append, List.set_cons_succ, List.set_cons_zero, vput]
        refine rh_inc2 hX dX8_readsTerms_186 (by decide) rfl (show (2 : Int32) + Int32.ofInt 1 = 3 by decide) ?_
        refine rh_goto (tgt := 154) hX dX8_readsTerms_189 (by decide) ?_
        refine rh_iload_n hX dX8_readsTerms_154 rfl ?_
        refine rh_iconst hX dX8_readsTerms_155 ki_3 ?_
        refine rh_icmp_ge_t (tgt := 192) hX dX8_readsTerms_156 (by decide) (by decide) ?_
        refine rh_aload_n hX dX8_readsTerms_192 rfl ?_
        refine rh_get hX gl_X8_217 0 dX8_readsTerms_193 rfl rfl ?_
        refine rh_if_le_f (tgt := 201) hX dX8_readsTerms_196 (by decide) (by decide) ?_
        refine rh_iconst hX dX8_readsTerms_199 ki_5 ?_
        refine rh_istn1 hX dX8_readsTerms_200 (by decide) rfl ?_
        exact rh_wk (lv' := [some (.ref (B 0)), some (.int (nI 5)), none]) (by exact ⟨rfl, rfl, trivial⟩) (rt_201 B u kp ik ps pm dd tx ty rw rm th sz mn pd prc ns tu ba na ca bo tr tH asd pa tg sd sr hX _ hW0 hR hsz hbt ((mPs (sC tx) sz he wr 5).2) (wr) (vl) (tp) (lt) (3) (pf) (pt) (pl) 5 hle (by omega) (by rw [t2, if_neg (show ¬ (mPq tx sz (he, wr, vl, tp, lt, (0 : Int32), pf, pt, pl) 3).1 = true from hp3), t3, if_neg (show ¬ (mPq tx sz (he, wr, vl, tp, lt, (0 : Int32), pf, pt, pl) 4).1 = true from hp4), t4, if_pos (show (mPq tx sz (he, wr, vl, tp, lt, (0 : Int32), pf, pt, pl) 5).1 = true from hp5)] <;> rfl))
    · skip
      have hp4 : (mPs (sC tx) sz he wr 4).1 = true := Classical.not_not.mp (fun q => hp4 (if_neg q))
      have hle := mPs_le (s := sC tx) (wr := wr) (i := 4) hhe
      refine rh_aload_n hX dX8_readsTerms_179 rfl ?_
      refine rh_iload_n hX dX8_readsTerms_180 rfl ?_
      refine rh_iconst hX dX8_readsTerms_181 ki_1 ?_
      refine rh_iadd hX dX8_readsTerms_182 ?_
      rw [show (1 : Int32) + 1 = 2 from rfl]
      refine rh_put hX gl_X8_217 0 dX8_readsTerms_183 rfl rfl rfl (Nat.le_of_ble_eq_true rfl) rfl ?_
      dsimp only [List.cons_append, List.nil_append, List.set_cons_succ, List.set_cons_zero, vput]
      refine rh_inc2 hX dX8_readsTerms_186 (by decide) rfl (show (1 : Int32) + Int32.ofInt 1 = 2 by decide) ?_
      refine rh_goto (tgt := 154) hX dX8_readsTerms_189 (by decide) ?_
      refine rh_iload_n hX dX8_readsTerms_154 rfl ?_
      refine rh_iconst hX dX8_readsTerms_155 ki_3 ?_
      refine rh_icmp_ge_f (tgt := 192) hX dX8_readsTerms_156 (by decide) (by decide) ?_
      refine rh_aload_n hX dX8_readsTerms_159 rfl ?_
      refine rh_get hX gl_X8_217 0 dX8_readsTerms_160 rfl rfl ?_
      refine rh_if_ne_t (tgt := 192) hX dX8_readsTerms_163 (by decide) (by decide) ?_
      refine rh_aload_n hX dX8_readsTerms_192 rfl ?_
      refine rh_get hX gl_X8_217 0 dX8_readsTerms_193 rfl rfl ?_
      refine rh_if_le_f (tgt := 201) hX dX8_readsTerms_196 (by decide) (by decide) ?_
      refine rh_iconst hX dX8_readsTerms_199 ki_5 ?_
      refine rh_istn1 hX dX8_readsTerms_200 (by decide) rfl ?_
      exact rh_wk (lv' := [some (.ref (B 0)), some (.int (nI 5)), none]) (by exact ⟨rfl, rfl, trivial⟩) (rt_201 B u kp ik ps pm dd tx ty rw rm th sz mn pd prc ns tu ba na ca bo tr tH asd pa tg sd sr hX _ hW0 hR hsz hbt ((mPs (sC tx) sz he wr 4).2) (wr) (vl) (tp) (lt) (2) (pf) (pt) (pl) 5 hle (by omega) (by rw [t2, if_neg (show ¬ (mPq tx sz (he, wr, vl, tp, lt, (0 : Int32), pf, pt, pl) 3).1 = true from hp3), t3, if_pos (show (mPq tx sz (he, wr, vl, tp, lt, (0 : Int32), pf, pt, pl) 4).1 = true from hp4)] <;> rfl))
  · skip
    have hp3 : (mPs (sC tx) sz he wr 3).1 = true := Classical.not_not.mp (fun q => hp3 (if_neg q))
    have hle := mPs_le (s := sC tx) (wr := wr) (i := 3) hhe
    refine rh_aload_n hX dX8_readsTerms_179 rfl ?_
    refine rh_iload_n hX dX8_readsTerms_180 rfl ?_
    refine rh_iconst hX dX8_readsTerms_181 ki_1 ?_
    refine rh_iadd hX dX8_readsTerms_182 ?_
    rw [show (0 : Int32) + 1 = 1 from rfl]
    refine rh_put hX gl_X8_217 0 dX8_readsTerms_183 rfl rfl rfl (Nat.le_of_ble_eq_true rfl) rfl ?_
    dsimp only [List.cons_append, List.nil_append, List.set_cons_succ, List.set_cons_zero, vput]
    refine rh_inc2 hX dX8_readsTerms_186 (by decide) rfl (show (0 : Int32) + Int32.ofInt 1 = 1 by decide) ?_
    refine rh_goto (tgt := 154) hX dX8_readsTerms_189 (by decide) ?_
    refine rh_iload_n hX dX8_readsTerms_154 rfl ?_
    refine rh_iconst hX dX8_readsTerms_155 ki_3 ?_
    refine rh_icmp_ge_f (tgt := 192) hX dX8_readsTerms_156 (by decide) (by decide) ?_
    refine rh_aload_n hX dX8_readsTerms_159 rfl ?_
    refine rh_get hX gl_X8_217 0 dX8_readsTerms_160 rfl rfl ?_
    refine rh_if_ne_t (tgt := 192) hX dX8_readsTerms_163 (by decide) (by decide) ?_
    refine rh_aload_n hX dX8_readsTerms_192 rfl ?_
    refine rh_get hX gl_X8_217 0 dX8_readsTerms_193 rfl rfl ?_
    refine rh_if_le_f (tgt := 201) hX dX8_readsTerms_196 (by decide) (by decide) ?_
    refine rh_iconst hX dX8_readsTerms_199 ki_5 ?_
    refine rh_istn1 hX dX8_readsTerms_200 (by decide) rfl ?_
    exact rh_wk (lv' := [some (.ref (B 0)), some (.int (nI 5)), none]) (by exact ⟨rfl, rfl, trivial⟩) (rt_201 B u kp ik ps pm dd tx ty rw rm th sz mn pd prc ns tu ba na ca bo tr tH asd pa tg sd sr hX _ hW0 hR hsz hbt ((mPs (sC tx) sz he wr 3).2) (wr) (vl) (tp) (lt) (1) (pf) (pt) (pl) 5 hle (by omega) (by rw [t2, if_pos (show (mPq tx sz (he, wr, vl, tp, lt, (0 : Int32), pf, pt, pl) 3).1 = true from hp3)] <;> rfl))

set_option maxRecDepth 100000 in
set_option maxHeartbeats 4000000 in
theorem rt_136 {X : rhX} {E : rhE} (B : Nat → Nat) (u : Nat → Int32) (kp : Nat → Int32) (ik : Int32) (ps : Nat → Int32) (pm : Nat) (dd : Int32) (tx : Nat → Int32) (ty : Nat) (rw : Nat → Int64) (rm : Nat) (th : Int32) (sz : Nat) (mn : Nat → Int32) (pd : Int64) (prc : Int64) (ns : Int64) (tu : Nat) (ba : Int64) (na : Int64) (ca : Nat → Int64) (bo : Nat → Int32) (tr : Nat → Int64) (tH : Int32) (asd : Nat → Int32) (pa : Nat → Int64) (tg : Nat → Int64) (sd : Int64) (sr : Int64) (hX : Ok X E yX8_readsTerms.cls cX8_readsTerms (rmL 6) 3) (F : MS) {W0 : va_W} (hW0 : W0.map Prod.fst = [B 0, B 1, B 2, B 3, B 4, B 5, B 6, B 7, B 8, B 9, B 10, B 11, B 12]) (hR : Rt X none W0 (One none (wM E B u kp ik ps pm dd tx ty rw rm th sz F.1 F.2.1 mn F.2.2.1 F.2.2.2.1 F.2.2.2.2.1 F.2.2.2.2.2.1 F.2.2.2.2.2.2.1 F.2.2.2.2.2.2.2.1 F.2.2.2.2.2.2.2.2 pd prc ns tu ba na ca bo tr tH asd pa tg sd sr))) (hsz : sz ≤ 200) (hbt : byteOk tx sz) : ∀ (he : Nat) (wr vl tp lt pf pt pl : Int32) (fr : Nat), he ≤ sz → fr ≤ 8 → t1 tx sz fr (he, wr, vl, tp, lt, 0, pf, pt, pl) = F → G X 136 [some (.ref (B 0)), some (.int (nI fr)), none] [] (wM E B u kp ik ps pm dd tx ty rw rm th sz he wr mn vl tp lt 0 pf pt pl pd prc ns tu ba na ca bo tr tH asd pa tg sd sr) := by
  intro he wr vl tp lt pf pt pl fr hhe hfr hF
  subst hF
  refine rh_aload_n hX dX8_readsTerms_136 rfl ?_
  refine rh_ldcS hX dX8_readsTerms_137 (List.mem_of_getElem? (i := 12) rfl) ?_
  refine rh_wV hX lk_X8_226 mvX8_passes (fun l => c_X8_passes l E _ _ _ _ _ _ _ _ _ _ _ _ _ _ _ _ _ _ _ _ _ _ _ _ _ _ _ _ _ _ _ _ _ _ _ _ _ _ 2 (by omega) (by omega) (by assumption) (by decide)) ⟨rfl, rfl⟩ ⟨Nat.le_of_ble_eq_true rfl, Nat.le_of_ble_eq_true rfl⟩ [0, 1, 2, 3, 4, 5, 6, 7, 8, 9, 10, 11, 12] rfl rfl 0 rfl dX8_readsTerms_139 rfl rfl (Nat.le_of_ble_eq_true rfl) rfl ?_
  dsimp only [List.cons_append, List.nil_append, List.set_cons_succ, List.set_cons_zero, vput]
  refine rh_if_eq (tgt := 152) hX dX8_readsTerms_142 (by decide) (fun hp2 => ?_) (fun hp2 => ?_)
  · skip
    have hp2 : ¬ (mPs (sC tx) sz he wr 2).1 = true := fun q => by rw [if_pos q] at hp2; exact absurd hp2 (by decide)
    rw [mPs_f hp2]
    exact rh_wk (lv' := [some (.ref (B 0)), some (.int (nI fr)), none]) (by exact ⟨rfl, rfl, trivial⟩) (rt_152 B u kp ik ps pm dd tx ty rw rm th sz mn pd prc ns tu ba na ca bo tr tH asd pa tg sd sr hX _ hW0 hR hsz hbt (he) (wr) (vl) (tp) (lt) (pf) (pt) (pl) fr hhe (by omega) (by rw [t1, if_neg (show ¬ (mPq tx sz (he, wr, vl, tp, lt, (0 : Int32), pf, pt, pl) 2).1 = true from hp2)]))
  · skip
    have hp2 : (mPs (sC tx) sz he wr 2).1 = true := Classical.not_not.mp (fun q => hp2 (if_neg q))
    have hle := mPs_le (s := sC tx) (wr := wr) (i := 2) hhe
    refine rh_aload_n hX dX8_readsTerms_145 rfl ?_
    refine rh_iconst hX dX8_readsTerms_146 ki_1 ?_
    refine rh_put hX gl_X8_213 0 dX8_readsTerms_147 rfl rfl rfl (Nat.le_of_ble_eq_true rfl) rfl ?_
    dsimp only [List.cons_append, List.nil_append, List.set_cons_succ, List.set_cons_zero, vput]
    refine rh_iconst hX dX8_readsTerms_150 ki_2 ?_
    refine rh_istn1 hX dX8_readsTerms_151 (by decide) rfl ?_
    exact rh_wk (lv' := [some (.ref (B 0)), some (.int (nI 2)), none]) (by exact ⟨rfl, rfl, trivial⟩) (rt_152 B u kp ik ps pm dd tx ty rw rm th sz mn pd prc ns tu ba na ca bo tr tH asd pa tg sd sr hX _ hW0 hR hsz hbt ((mPs (sC tx) sz he wr 2).2) (wr) (vl) (tp) (1) (pf) (pt) (pl) 2 (by first | exact hle | exact mBn_le hle) (by omega) (by rw [t1, if_pos (show (mPq tx sz (he, wr, vl, tp, lt, (0 : Int32), pf, pt, pl) 2).1 = true from hp2)] <;> rfl))

set_option maxRecDepth 100000 in
set_option maxHeartbeats 4000000 in
theorem rt_107 {X : rhX} {E : rhE} (B : Nat → Nat) (u : Nat → Int32) (kp : Nat → Int32) (ik : Int32) (ps : Nat → Int32) (pm : Nat) (dd : Int32) (tx : Nat → Int32) (ty : Nat) (rw : Nat → Int64) (rm : Nat) (th : Int32) (sz : Nat) (mn : Nat → Int32) (pd : Int64) (prc : Int64) (ns : Int64) (tu : Nat) (ba : Int64) (na : Int64) (ca : Nat → Int64) (bo : Nat → Int32) (tr : Nat → Int64) (tH : Int32) (asd : Nat → Int32) (pa : Nat → Int64) (tg : Nat → Int64) (sd : Int64) (sr : Int64) (hX : Ok X E yX8_readsTerms.cls cX8_readsTerms (rmL 6) 3) (F : MS) {W0 : va_W} (hW0 : W0.map Prod.fst = [B 0, B 1, B 2, B 3, B 4, B 5, B 6, B 7, B 8, B 9, B 10, B 11, B 12]) (hR : Rt X none W0 (One none (wM E B u kp ik ps pm dd tx ty rw rm th sz F.1 F.2.1 mn F.2.2.1 F.2.2.2.1 F.2.2.2.2.1 F.2.2.2.2.2.1 F.2.2.2.2.2.2.1 F.2.2.2.2.2.2.2.1 F.2.2.2.2.2.2.2.2 pd prc ns tu ba na ca bo tr tH asd pa tg sd sr))) (hsz : sz ≤ 200) (hbt : byteOk tx sz) : ∀ (he : Nat) (wr vl tp lt pf pt pl : Int32) (fr : Nat), he ≤ sz → fr ≤ 8 → t0 tx sz fr (he, wr, vl, tp, lt, 0, pf, pt, pl) = F → G X 107 [some (.ref (B 0)), some (.int (nI fr)), none] [] (wM E B u kp ik ps pm dd tx ty rw rm th sz he wr mn vl tp lt 0 pf pt pl pd prc ns tu ba na ca bo tr tH asd pa tg sd sr) := by
  intro he wr vl tp lt pf pt pl fr hhe hfr hF
  subst hF
  refine rh_aload_n hX dX8_readsTerms_107 rfl ?_
  refine rh_ldcS hX dX8_readsTerms_108 (List.mem_of_getElem? (i := 11) rfl) ?_
  refine rh_wV hX lk_X8_226 mvX8_passes (fun l => c_X8_passes l E _ _ _ _ _ _ _ _ _ _ _ _ _ _ _ _ _ _ _ _ _ _ _ _ _ _ _ _ _ _ _ _ _ _ _ _ _ _ 1 (by omega) (by omega) (by assumption) (by decide)) ⟨rfl, rfl⟩ ⟨Nat.le_of_ble_eq_true rfl, Nat.le_of_ble_eq_true rfl⟩ [0, 1, 2, 3, 4, 5, 6, 7, 8, 9, 10, 11, 12] rfl rfl 0 rfl dX8_readsTerms_110 rfl rfl (Nat.le_of_ble_eq_true rfl) rfl ?_
  dsimp only [List.cons_append, List.nil_append, List.set_cons_succ, List.set_cons_zero, vput]
  refine rh_if_eq (tgt := 136) hX dX8_readsTerms_113 (by decide) (fun hp1 => ?_) (fun hp1 => ?_)
  · skip
    have hp1 : ¬ (mPs (sC tx) sz he wr 1).1 = true := fun q => by rw [if_pos q] at hp1; exact absurd hp1 (by decide)
    rw [mPs_f hp1]
    exact rh_wk (lv' := [some (.ref (B 0)), some (.int (nI fr)), none]) (by exact ⟨rfl, rfl, trivial⟩) (rt_136 B u kp ik ps pm dd tx ty rw rm th sz mn pd prc ns tu ba na ca bo tr tH asd pa tg sd sr hX _ hW0 hR hsz hbt (he) (wr) (vl) (tp) (lt) (pf) (pt) (pl) fr hhe (by omega) (by rw [t0, if_neg (show ¬ (mPq tx sz (he, wr, vl, tp, lt, (0 : Int32), pf, pt, pl) 1).1 = true from hp1)]))
  · skip
    have hp1 : (mPs (sC tx) sz he wr 1).1 = true := Classical.not_not.mp (fun q => hp1 (if_neg q))
    have hle := mPs_le (s := sC tx) (wr := wr) (i := 1) hhe
    refine rh_aload_n hX dX8_readsTerms_116 rfl ?_
    refine rh_bipush hX dX8_readsTerms_117 kb_32 ?_
    refine rh_uV hX lk_X8_203 mvX8_expect (fun l => c_X8_expect l E _ _ _ _ _ _ _ _ _ _ _ _ _ _ _ _ _ _ _ _ _ _ _ _ _ _ _ _ _ _ _ _ _ _ _ _ _ _ 32 (by omega) (by omega)) ⟨rfl, rfl⟩ ⟨Nat.le_of_ble_eq_true rfl, Nat.le_of_ble_eq_true rfl⟩ [0, 1, 2, 3, 4, 5, 6, 7, 8, 9, 10, 11, 12] rfl rfl 0 rfl dX8_readsTerms_119 rfl rfl (Nat.le_of_ble_eq_true rfl) rfl ?_
    dsimp only [List.cons_append, List.nil_append, List.set_cons_succ, List.set_cons_zero, vput]
    have hle2 := mExp_le (tx := tx) (wr := wr) (c := 32) (by decide) hle
    refine rh_aload_n hX dX8_readsTerms_122 rfl ?_
    refine rh_aload_n hX dX8_readsTerms_123 rfl ?_
    refine rh_iconst hX dX8_readsTerms_124 ki_0 ?_
    refine rh_ldc2 hX dX8_readsTerms_125 kl_X8_230 ?_
    refine rh_wV hX lk_X8_127 mvX8_number (fun l => c_X8_number l E _ _ _ _ _ _ _ _ _ _ _ _ _ _ _ _ _ _ _ _ _ _ _ _ _ _ _ _ _ _ _ _ _ _ _ _ _ _ 0 500 (by omega) (by omega)) ⟨rfl, rfl⟩ ⟨Nat.le_of_ble_eq_true rfl, Nat.le_of_ble_eq_true rfl⟩ [0, 1, 2, 3, 4, 5, 6, 7, 8, 9, 10, 11, 12] rfl rfl 0 rfl dX8_readsTerms_128 rfl rfl (Nat.le_of_ble_eq_true rfl) rfl ?_
    dsimp only [List.cons_append, List.nil_append, List.set_cons_succ, List.set_cons_zero, vput]
    refine rh_put hX gl_X8_210 0 dX8_readsTerms_131 rfl rfl rfl (Nat.le_of_ble_eq_true rfl) rfl ?_
    dsimp only [List.cons_append, List.nil_append, List.set_cons_succ, List.set_cons_zero, vput]
    refine rh_iconst hX dX8_readsTerms_134 ki_1 ?_
    refine rh_istn1 hX dX8_readsTerms_135 (by decide) rfl ?_
    exact rh_wk (lv' := [some (.ref (B 0)), some (.int (nI 1)), none]) (by exact ⟨rfl, rfl, trivial⟩) (rt_136 B u kp ik ps pm dd tx ty rw rm th sz mn pd prc ns tu ba na ca bo tr tH asd pa tg sd sr hX _ hW0 hR hsz hbt ((mBn tx sz (mPs (sC tx) sz he wr 1).2 wr 500).2.1) ((mBn tx sz (mPs (sC tx) sz he wr 1).2 wr 500).2.2) (vl) ((mBn tx sz (mPs (sC tx) sz he wr 1).2 wr 500).1) (lt) (pf) (pt) (pl) 1 (by first | exact hle | exact mBn_le hle) (by omega) (by rw [t0, if_pos (show (mPq tx sz (he, wr, vl, tp, lt, (0 : Int32), pf, pt, pl) 1).1 = true from hp1)] <;> rfl))

set_option maxRecDepth 100000 in
set_option maxHeartbeats 4000000 in
theorem c_X8_readsTerms (l : Launch) (E : rhE) (B : Nat → Nat) (u : Nat → Int32) (kp : Nat → Int32) (ik : Int32) (ps : Nat → Int32) (pm : Nat) (dd : Int32) (tx : Nat → Int32) (ty : Nat) (rw : Nat → Int64) (rm : Nat) (th : Int32) (sz : Nat) (he : Nat) (wr : Int32) (mn : Nat → Int32) (vl : Int32) (tp : Int32) (lt : Int32) (ra : Int32) (pf : Int32) (pt : Int32) (pl : Int32) (pd : Int64) (prc : Int64) (ns : Int64) (tu : Nat) (ba : Int64) (na : Int64) (ca : Nat → Int64) (bo : Nat → Int32) (tr : Nat → Int64) (tH : Int32) (asd : Nat → Int32) (pa : Nat → Int64) (tg : Nat → Int64) (sd : Int64) (sr : Int64) (hsz : sz ≤ 200) (hbt : byteOk tx sz) : Ctr l E yX8_readsTerms cX8_readsTerms 3 none (rmL 6) [.ref (B 0)] (wM E B u kp ik ps pm dd tx ty rw rm th sz 0 (-1) mn vl tp lt ra pf pt pl pd prc ns tu ba na ca bo tr tH asd pa tg sd sr) (One none (wM E B u kp ik ps pm dd tx ty rw rm th sz (tS tx sz (0, -1, vl, tp, lt, ra, pf, pt, pl)).1 (tS tx sz (0, -1, vl, tp, lt, ra, pf, pt, pl)).2.1 mn (tS tx sz (0, -1, vl, tp, lt, ra, pf, pt, pl)).2.2.1 (tS tx sz (0, -1, vl, tp, lt, ra, pf, pt, pl)).2.2.2.1 (tS tx sz (0, -1, vl, tp, lt, ra, pf, pt, pl)).2.2.2.2.1 (tS tx sz (0, -1, vl, tp, lt, ra, pf, pt, pl)).2.2.2.2.2.1 (tS tx sz (0, -1, vl, tp, lt, ra, pf, pt, pl)).2.2.2.2.2.2.1 (tS tx sz (0, -1, vl, tp, lt, ra, pf, pt, pl)).2.2.2.2.2.2.2.1 (tS tx sz (0, -1, vl, tp, lt, ra, pf, pt, pl)).2.2.2.2.2.2.2.2 pd prc ns tu ba na ca bo tr tH asd pa tg sd sr)) := by
  refine Ctr.of (by decide) (Nat.le_of_ble_eq_true rfl) rfl rfl 2 ?_
  intro X hX hR
  refine rh_iconst hX dX8_readsTerms_0 ki_0 ?_
  refine rh_istn1 hX dX8_readsTerms_1 (by decide) rfl ?_
  refine rh_iload_n hX dX8_readsTerms_2 rfl ?_
  refine rh_iconst hX dX8_readsTerms_3 ki_3 ?_
  refine rh_icmp_ge_f (tgt := 56) hX dX8_readsTerms_4 (by decide) (by decide) ?_
  refine rh_aload_n hX dX8_readsTerms_7 rfl ?_
  refine rh_pV hX lk_X8_108 mvX8_sees (fun l => c_X8_sees l E _ _ _ _ _ _ _ _ _ _ _ _ _ 0 _ _ _ _ _ _ _ _ _ _ _ _ _ _ _ _ _ _ _ _ _ _ _ _ (by omega) (by omega)) ⟨rfl, rfl⟩ ⟨Nat.le_of_ble_eq_true rfl, Nat.le_of_ble_eq_true rfl⟩ [0, 1, 2, 3, 4, 5, 6, 7, 8, 9, 10, 11, 12] rfl rfl 0 rfl dX8_readsTerms_8 rfl rfl (Nat.le_of_ble_eq_true rfl) ?_
  refine rh_ldcS hX dX8_readsTerms_11 (List.mem_of_getElem? (i := 10) rfl) ?_
  refine rh_iload_n hX dX8_readsTerms_13 rfl ?_
  refine rh_pT hX lk_X8_177 mtJ0_charAt_5068e (fun l => c_J0_charAt l E 10 0 (by decide) (by decide)) (by decide) ⟨rfl, rfl⟩ ⟨Nat.le_of_ble_eq_true rfl, Nat.le_of_ble_eq_true rfl⟩ dX8_readsTerms_14 rfl rfl (Nat.le_of_ble_eq_true rfl) ?_
  refine rh_icmp_ne (tgt := 33) hX dX8_readsTerms_17 (by decide) (fun hq0 => ?_) (fun hq0 => ?_)
  · skip
    refine rh_aload_n hX dX8_readsTerms_33 rfl ?_
    refine rh_aload_n hX dX8_readsTerms_34 rfl ?_
    refine rh_get hX gl_X8_102 0 dX8_readsTerms_35 rfl rfl ?_
    refine rh_uV hX lk_X8_112 mvX8_fault (fun l => c_X8_fault l E _ _ _ _ _ _ _ _ _ _ _ _ _ 0 _ _ _ _ _ _ _ _ _ _ _ _ _ _ _ _ _ _ _ _ _ _ _ _ _) ⟨rfl, rfl⟩ ⟨Nat.le_of_ble_eq_true rfl, Nat.le_of_ble_eq_true rfl⟩ [0, 1, 2, 3, 4, 5, 6, 7, 8, 9, 10, 11, 12] rfl rfl 0 rfl dX8_readsTerms_38 rfl rfl (Nat.le_of_ble_eq_true rfl) rfl ?_
    dsimp only [List.cons_append, List.nil_append, List.set_cons_succ, List.set_cons_zero, vput]
    rw [show mFault (-1) (nI 0) = nI 0 from rfl]
    refine rh_aload_n hX dX8_readsTerms_41 rfl ?_
    refine rh_get hX gl_X8_105 0 dX8_readsTerms_42 rfl rfl ?_
    refine rh_iconst hX dX8_readsTerms_45 ki_m1 ?_
    refine rh_icmp_eq_f (tgt := 50) hX dX8_readsTerms_46 (by decide) (by decide) ?_
    exact rh_vret hX hR dX8_readsTerms_49 rfl ⟨rfl, by rw [tS, if_neg hq0]⟩
  · skip
    refine rh_aload_n hX dX8_readsTerms_20 rfl ?_
    refine rh_dup hX dX8_readsTerms_21 rfl ?_
    refine rh_get hX gl_X8_102 0 dX8_readsTerms_22 rfl rfl ?_
    refine rh_iconst hX dX8_readsTerms_25 ki_1 ?_
    refine rh_iadd hX dX8_readsTerms_26 ?_
    rw [show nI 0 + 1 = nI 1 from rfl]
    refine rh_put hX gl_X8_102 0 dX8_readsTerms_27 rfl rfl rfl (Nat.le_of_ble_eq_true rfl) rfl ?_
    dsimp only [List.cons_append, List.nil_append, List.set_cons_succ, List.set_cons_zero, vput]
    refine rh_goto (tgt := 41) hX dX8_readsTerms_30 (by decide) ?_
    refine rh_aload_n hX dX8_readsTerms_41 rfl ?_
    refine rh_get hX gl_X8_105 0 dX8_readsTerms_42 rfl rfl ?_
    refine rh_iconst hX dX8_readsTerms_45 ki_m1 ?_
    refine rh_icmp_eq_t (tgt := 50) hX dX8_readsTerms_46 (by decide) rfl ?_
    refine rh_inc1 hX dX8_readsTerms_50 (by decide) rfl (show (0 : Int32) + Int32.ofInt 1 = 1 by decide) ?_
    refine rh_goto (tgt := 2) hX dX8_readsTerms_53 (by decide) ?_
    refine rh_iload_n hX dX8_readsTerms_2 rfl ?_
    refine rh_iconst hX dX8_readsTerms_3 ki_3 ?_
    refine rh_icmp_ge_f (tgt := 56) hX dX8_readsTerms_4 (by decide) (by decide) ?_
    refine rh_aload_n hX dX8_readsTerms_7 rfl ?_
    refine rh_pV hX lk_X8_108 mvX8_sees (fun l => c_X8_sees l E _ _ _ _ _ _ _ _ _ _ _ _ _ 1 _ _ _ _ _ _ _ _ _ _ _ _ _ _ _ _ _ _ _ _ _ _ _ _ (by omega) (by omega)) ⟨rfl, rfl⟩ ⟨Nat.le_of_ble_eq_true rfl, Nat.le_of_ble_eq_true rfl⟩ [0, 1, 2, 3, 4, 5, 6, 7, 8, 9, 10, 11, 12] rfl rfl 0 rfl dX8_readsTerms_8 rfl rfl (Nat.le_of_ble_eq_true rfl) ?_
    refine rh_ldcS hX dX8_readsTerms_11 (List.mem_of_getElem? (i := 10) rfl) ?_
    refine rh_iload_n hX dX8_readsTerms_13 rfl ?_
    refine rh_pT hX lk_X8_177 mtJ0_charAt_5068e (fun l => c_J0_charAt l E 10 1 (by decide) (by decide)) (by decide) ⟨rfl, rfl⟩ ⟨Nat.le_of_ble_eq_true rfl, Nat.le_of_ble_eq_true rfl⟩ dX8_readsTerms_14 rfl rfl (Nat.le_of_ble_eq_true rfl) ?_
    refine rh_icmp_ne (tgt := 33) hX dX8_readsTerms_17 (by decide) (fun hq1 => ?_) (fun hq1 => ?_)
    · skip
      refine rh_aload_n hX dX8_readsTerms_33 rfl ?_
      refine rh_aload_n hX dX8_readsTerms_34 rfl ?_
      refine rh_get hX gl_X8_102 0 dX8_readsTerms_35 rfl rfl ?_
      refine rh_uV hX lk_X8_112 mvX8_fault (fun l => c_X8_fault l E _ _ _ _ _ _ _ _ _ _ _ _ _ 1 _ _ _ _ _ _ _ _ _ _ _ _ _ _ _ _ _ _ _ _ _ _ _ _ _) ⟨rfl, rfl⟩ ⟨Nat.le_of_ble_eq_true rfl, Nat.le_of_ble_eq_true rfl⟩ [0, 1, 2, 3, 4, 5, 6, 7, 8, 9, 10, 11, 12] rfl rfl 0 rfl dX8_readsTerms_38 rfl rfl (Nat.le_of_ble_eq_true rfl) rfl ?_
      dsimp only [List.cons_append, List.nil_append, List.set_cons_succ, List.set_cons_zero, vput]
      rw [show mFault (-1) (nI 1) = nI 1 from rfl]
      refine rh_aload_n hX dX8_readsTerms_41 rfl ?_
      refine rh_get hX gl_X8_105 0 dX8_readsTerms_42 rfl rfl ?_
      refine rh_iconst hX dX8_readsTerms_45 ki_m1 ?_
      refine rh_icmp_eq_f (tgt := 50) hX dX8_readsTerms_46 (by decide) (by decide) ?_
      exact rh_vret hX hR dX8_readsTerms_49 rfl ⟨rfl, by rw [tS, if_pos hq0, if_neg hq1]⟩
    · skip
      refine rh_aload_n hX dX8_readsTerms_20 rfl ?_
      refine rh_dup hX dX8_readsTerms_21 rfl ?_
      refine rh_get hX gl_X8_102 0 dX8_readsTerms_22 rfl rfl ?_
      refine rh_iconst hX dX8_readsTerms_25 ki_1 ?_
      refine rh_iadd hX dX8_readsTerms_26 ?_
      rw [show nI 1 + 1 = nI 2 from rfl]
      refine rh_put hX gl_X8_102 0 dX8_readsTerms_27 rfl rfl rfl (Nat.le_of_ble_eq_true rfl) rfl ?_
      dsimp only [List.cons_append, List.nil_append, List.set_cons_succ, List.set_cons_zero, vput]
      refine rh_goto (tgt := 41) hX dX8_readsTerms_30 (by decide) ?_
      refine rh_aload_n hX dX8_readsTerms_41 rfl ?_
      refine rh_get hX gl_X8_105 0 dX8_readsTerms_42 rfl rfl ?_
      refine rh_iconst hX dX8_readsTerms_45 ki_m1 ?_
      refine rh_icmp_eq_t (tgt := 50) hX dX8_readsTerms_46 (by decide) rfl ?_
      refine rh_inc1 hX dX8_readsTerms_50 (by decide) rfl (show (1 : Int32) + Int32.ofInt 1 = 2 by decide) ?_
      refine rh_goto (tgt := 2) hX dX8_readsTerms_53 (by decide) ?_
      refine rh_iload_n hX dX8_readsTerms_2 rfl ?_
      refine rh_iconst hX dX8_readsTerms_3 ki_3 ?_
      refine rh_icmp_ge_f (tgt := 56) hX dX8_readsTerms_4 (by decide) (by decide) ?_
      refine rh_aload_n hX dX8_readsTerms_7 rfl ?_
      refine rh_pV hX lk_X8_108 mvX8_sees (fun l => c_X8_sees l E _ _ _ _ _ _ _ _ _ _ _ _ _ 2 _ _ _ _ _ _ _ _ _ _ _ _ _ _ _ _ _ _ _ _ _ _ _ _ (by omega) (by omega)) ⟨rfl, rfl⟩ ⟨Nat.le_of_ble_eq_true rfl, Nat.le_of_ble_eq_true rfl⟩ [0, 1, 2, 3, 4, 5, 6, 7, 8, 9, 10, 11, 12] rfl rfl 0 rfl dX8_readsTerms_8 rfl rfl (Nat.le_of_ble_eq_true rfl) ?_
      refine rh_ldcS hX dX8_readsTerms_11 (List.mem_of_getElem? (i := 10) rfl) ?_
      refine rh_iload_n hX dX8_readsTerms_13 rfl ?_
      refine rh_pT hX lk_X8_177 mtJ0_charAt_5068e (fun l => c_J0_charAt l E 10 2 (by decide) (by decide)) (by decide) ⟨rfl, rfl⟩ ⟨Nat.le_of_ble_eq_true rfl, Nat.le_of_ble_eq_true rfl⟩ dX8_readsTerms_14 rfl rfl (Nat.le_of_ble_eq_true rfl) ?_
      refine rh_icmp_ne (tgt := 33) hX dX8_readsTerms_17 (by decide) (fun hq2 => ?_) (fun hq2 => ?_)
      · skip
        refine rh_aload_n hX dX8_readsTerms_33 rfl ?_
        refine rh_aload_n hX dX8_readsTerms_34 rfl ?_
        refine rh_get hX gl_X8_102 0 dX8_readsTerms_35 rfl rfl ?_
        refine rh_uV hX lk_X8_112 mvX8_fault (fun l => c_X8_fault l E _ _ _ _ _ _ _ _ _ _ _ _ _ 2 _ _ _ _ _ _ _ _ _ _ _ _ _ _ _ _ _ _ _ _ _ _ _ _ _) ⟨rfl, rfl⟩ ⟨Nat.le_of_ble_eq_true rfl, Nat.le_of_ble_eq_true rfl⟩ [0, 1, 2, 3, 4, 5, 6, 7, 8, 9, 10, 11, 12] rfl rfl 0 rfl dX8_readsTerms_38 rfl rfl (Nat.le_of_ble_eq_true rfl) rfl ?_
        dsimp only [List.cons_append, List.nil_append, List.set_cons_succ, List.set_cons_zero, vput]
        rw [show mFault (-1) (nI 2) = nI 2 from rfl]
        refine rh_aload_n hX dX8_readsTerms_41 rfl ?_
        refine rh_get hX gl_X8_105 0 dX8_readsTerms_42 rfl rfl ?_
        refine rh_iconst hX dX8_readsTerms_45 ki_m1 ?_
        refine rh_icmp_eq_f (tgt := 50) hX dX8_readsTerms_46 (by decide) (by decide) ?_
        exact rh_vret hX hR dX8_readsTerms_49 rfl ⟨rfl, by rw [tS, if_pos hq0, if_pos hq1, if_neg hq2]⟩
      · skip
        refine rh_aload_n hX dX8_readsTerms_20 rfl ?_
        refine rh_dup hX dX8_readsTerms_21 rfl ?_
        refine rh_get hX gl_X8_102 0 dX8_readsTerms_22 rfl rfl ?_
        refine rh_iconst hX dX8_readsTerms_25 ki_1 ?_
        refine rh_iadd hX dX8_readsTerms_26 ?_
        rw [show nI 2 + 1 = nI 3 from rfl]
        refine rh_put hX gl_X8_102 0 dX8_readsTerms_27 rfl rfl rfl (Nat.le_of_ble_eq_true rfl) rfl ?_
        dsimp only [List.cons_append, List.nil_append, List.set_cons_succ, List.set_cons_zero, vput]
        refine rh_goto (tgt := 41) hX dX8_readsTerms_30 (by decide) ?_
        refine rh_aload_n hX dX8_readsTerms_41 rfl ?_
        refine rh_get hX gl_X8_105 0 dX8_readsTerms_42 rfl rfl ?_
        refine rh_iconst hX dX8_readsTerms_45 ki_m1 ?_
        refine rh_icmp_eq_t (tgt := 50) hX dX8_readsTerms_46 (by decide) rfl ?_
        refine rh_inc1 hX dX8_readsTerms_50 (by decide) rfl (show (2 : Int32) + Int32.ofInt 1 = 3 by decide) ?_
        refine rh_goto (tgt := 2) hX dX8_readsTerms_53 (by decide) ?_
        refine rh_iload_n hX dX8_readsTerms_2 rfl ?_
        refine rh_iconst hX dX8_readsTerms_3 ki_3 ?_
        refine rh_icmp_ge_t (tgt := 56) hX dX8_readsTerms_4 (by decide) (by decide) ?_
        refine rh_aload_n hX dX8_readsTerms_56 rfl ?_
        refine rh_bipush hX dX8_readsTerms_57 kb_32 ?_
        refine rh_uV hX lk_X8_203 mvX8_expect (fun l => c_X8_expect l E _ _ _ _ _ _ _ _ _ _ _ _ _ 3 _ _ _ _ _ _ _ _ _ _ _ _ _ _ _ _ _ _ _ _ _ _ _ _ 32 (by omega) (by omega)) ⟨rfl, rfl⟩ ⟨Nat.le_of_ble_eq_true rfl, Nat.le_of_ble_eq_true rfl⟩ [0, 1, 2, 3, 4, 5, 6, 7, 8, 9, 10, 11, 12] rfl rfl 0 rfl dX8_readsTerms_59 rfl rfl (Nat.le_of_ble_eq_true rfl) rfl ?_
        dsimp only [List.cons_append, List.nil_append, List.set_cons_succ, List.set_cons_zero, vput]
        have hle3 : 3 ≤ sz := mSee_lt (tx := tx) (n := sz) (p := 2) (by rw [hq2]; decide)
        have hle2 := mExp_le (tx := tx) (wr := (-1)) (c := 32) (by decide) hle3
        refine rh_aload_n hX dX8_readsTerms_62 rfl ?_
        refine rh_aload_n hX dX8_readsTerms_63 rfl ?_
        refine rh_iconst hX dX8_readsTerms_64 ki_1 ?_
        refine rh_ldc2 hX dX8_readsTerms_65 kl_X8_131 ?_
        refine rh_wV hX lk_X8_127 mvX8_number (fun l => c_X8_number l E _ _ _ _ _ _ _ _ _ _ _ _ _ _ _ _ _ _ _ _ _ _ _ _ _ _ _ _ _ _ _ _ _ _ _ _ _ _ 1 1000000000 (by omega) (by omega)) ⟨rfl, rfl⟩ ⟨Nat.le_of_ble_eq_true rfl, Nat.le_of_ble_eq_true rfl⟩ [0, 1, 2, 3, 4, 5, 6, 7, 8, 9, 10, 11, 12] rfl rfl 0 rfl dX8_readsTerms_68 rfl rfl (Nat.le_of_ble_eq_true rfl) rfl ?_
        dsimp only [List.cons_append, List.nil_append, List.set_cons_succ, List.set_cons_zero, vput]
        refine rh_put hX gl_X8_207 0 dX8_readsTerms_71 rfl rfl rfl (Nat.le_of_ble_eq_true rfl) rfl ?_
        dsimp only [List.cons_append, List.nil_append, List.set_cons_succ, List.set_cons_zero, vput]
        refine rh_aload_n hX dX8_readsTerms_74 rfl ?_
        refine rh_iconst hX dX8_readsTerms_75 ki_0 ?_
        refine rh_put hX gl_X8_210 0 dX8_readsTerms_76 rfl rfl rfl (Nat.le_of_ble_eq_true rfl) rfl ?_
        dsimp only [List.cons_append, List.nil_append, List.set_cons_succ, List.set_cons_zero, vput]
        refine rh_aload_n hX dX8_readsTerms_79 rfl ?_
        refine rh_iconst hX dX8_readsTerms_80 ki_0 ?_
        refine rh_put hX gl_X8_213 0 dX8_readsTerms_81 rfl rfl rfl (Nat.le_of_ble_eq_true rfl) rfl ?_
        dsimp only [List.cons_append, List.nil_append, List.set_cons_succ, List.set_cons_zero, vput]
        refine rh_aload_n hX dX8_readsTerms_84 rfl ?_
        refine rh_iconst hX dX8_readsTerms_85 ki_0 ?_
        refine rh_put hX gl_X8_217 0 dX8_readsTerms_86 rfl rfl rfl (Nat.le_of_ble_eq_true rfl) rfl ?_
        dsimp only [List.cons_append, List.nil_append, List.set_cons_succ, List.set_cons_zero, vput]
        refine rh_aload_n hX dX8_readsTerms_89 rfl ?_
        refine rh_bipush hX dX8_readsTerms_90 kb_10 ?_
        refine rh_put hX gl_X8_220 0 dX8_readsTerms_92 rfl rfl rfl (Nat.le_of_ble_eq_true rfl) rfl ?_
        dsimp only [List.cons_append, List.nil_append, List.set_cons_succ, List.set_cons_zero, vput]
        refine rh_aload_n hX dX8_readsTerms_95 rfl ?_
        refine rh_iconst hX dX8_readsTerms_96 ki_0 ?_
        refine rh_put hX gl_X8_222 0 dX8_readsTerms_97 rfl rfl rfl (Nat.le_of_ble_eq_true rfl) rfl ?_
        dsimp only [List.cons_append, List.nil_append, List.set_cons_succ, List.set_cons_zero, vput]
        refine rh_aload_n hX dX8_readsTerms_100 rfl ?_
        refine rh_iconst hX dX8_readsTerms_101 ki_0 ?_
        refine rh_put hX gl_X8_224 0 dX8_readsTerms_102 rfl rfl rfl (Nat.le_of_ble_eq_true rfl) rfl ?_
        dsimp only [List.cons_append, List.nil_append, List.set_cons_succ, List.set_cons_zero, vput]
        refine rh_iconst hX dX8_readsTerms_105 ki_0 ?_
        refine rh_istn1 hX dX8_readsTerms_106 (by decide) rfl ?_
        exact rh_wk (lv' := [some (.ref (B 0)), some (.int (nI 0)), none]) (by exact ⟨rfl, rfl, trivial⟩) (rt_107 B u kp ik ps pm dd tx ty rw rm th sz mn pd prc ns tu ba na ca bo tr tH asd pa tg sd sr hX _ rfl hR hsz hbt (mVn tx sz).2.1 (mVn tx sz).2.2 (mVn tx sz).1 0 0 10 0 0 0 (mNum_le hle2) (by omega) (by rw [tS, if_pos hq0, if_pos hq1, if_pos hq2]))
