def rowTI (g f : Nat → Int32) (i : Nat) : Nat → Int32 := fun x => if x < i then g x else f x
theorem rowTI_0 (g f : Nat → Int32) : rowTI g f 0 = f := by
  funext x
  unfold rowTI
  rw [if_neg (by omega)]
theorem rowTI_s (g f : Nat → Int32) (i : Nat) : va_up (rowTI g f i) i (g i) = rowTI g f (i + 1) := by
  funext x
  unfold va_up rowTI
  by_cases e : x = i
  · rw [if_pos e, if_pos (by omega), e]
  · rw [if_neg e]
    by_cases h : x < i
    · rw [if_pos h, if_pos (by omega)]
    · rw [if_neg h, if_neg (by omega)]
theorem rowTI_lt (g f : Nat → Int32) (i j : Nat) (h : j < i) : g j = rowTI g f i j := by
  unfold rowTI
  rw [if_pos h]
def psS (ps : Nat → Int32) (k : Nat) : Nat → Int32 := fun x => if x + 172 < k then ps (x + 172) else ps x
theorem psS_0 (ps : Nat → Int32) : psS ps 172 = ps := by
  funext x
  unfold psS
  rw [if_neg (by omega)]
theorem psS_at (ps : Nat → Int32) (k : Nat) : psS ps k k = ps k := by
  unfold psS
  rw [if_neg (by omega)]
theorem psS_s (ps : Nat → Int32) (k : Nat) (h : 172 ≤ k) : va_up (psS ps k) (k - 172) (ps k) = psS ps (k + 1) := by
  funext x
  unfold va_up psS
  by_cases e : x = k - 172
  · rw [if_pos e, if_pos (by omega), show x + 172 = k by omega]
  · rw [if_neg e]
    by_cases h2 : x + 172 < k
    · rw [if_pos h2, if_pos (by omega)]
    · rw [if_neg h2, if_neg (by omega)]
def psP (ps a : Nat → Int32) (k i : Nat) : Nat → Int32 := fun x => if 172 * k ≤ x ∧ x < 172 * k + i then a (x - 172 * k) else ps x
theorem psP_0 (ps a : Nat → Int32) (k : Nat) : psP ps a k 0 = ps := by
  funext x
  unfold psP
  rw [if_neg (by omega)]
theorem psP_s (ps a : Nat → Int32) (k i : Nat) : va_up (psP ps a k i) (172 * k + i) (a i) = psP ps a k (i + 1) := by
  funext x
  unfold va_up psP
  by_cases e : x = 172 * k + i
  · rw [if_pos e, if_pos (by omega), e, show 172 * k + i - 172 * k = i by omega]
  · rw [if_neg e]
    by_cases h2 : 172 * k ≤ x ∧ x < 172 * k + i
    · rw [if_pos h2, if_pos (by omega)]
    · rw [if_neg h2, if_neg (by omega)]
def psDid (ps : Nat → Int32) (pm : Nat) (a : Nat → Int32) : Nat → Int32 := if pm = 8 then psP (psS ps 1376) a 7 172 else psP ps a pm 172
def pmDid (pm : Nat) : Nat := if pm = 8 then 8 else pm + 1

set_option maxRecDepth 100000 in
set_option maxHeartbeats 4000000 in
theorem c_X8_lays (l : Launch) (E : rhE) (B : Nat → Nat) (u : Nat → Int32) (kp : Nat → Int32) (ik : Int32) (ps : Nat → Int32) (pm : Nat) (dd : Int32) (tx : Nat → Int32) (ty : Nat) (rw : Nat → Int64) (rm : Nat) (th : Int32) (sz : Nat) (he : Nat) (wr : Int32) (mn : Nat → Int32) (vl : Int32) (tp : Int32) (lt : Int32) (ra : Int32) (pf : Int32) (pt : Int32) (pl : Int32) (pd : Int64) (prc : Int64) (ns : Int64) (tu : Nat) (ba : Int64) (na : Int64) (ca : Nat → Int64) (bo : Nat → Int32) (tr : Nat → Int64) (tH : Int32) (asd : Nat → Int32) (pa : Nat → Int64) (tg : Nat → Int64) (sd : Int64) (sr : Int64)   : Ctr l E yX8_lays cX8_lays 2 none (rmL 0) [.ref (B 0)] (wM E B u kp ik ps pm dd tx ty rw rm th sz he wr mn vl tp lt ra pf pt pl pd prc ns tu ba na ca bo tr tH asd pa tg sd sr) (One none (wM E B u kp ik ps pm dd tx ty rw rm th sz he wr mn vl tp lt ra pf pt pl pd prc ns tu ba na ca bo tr tH u pa tg sd sr)) := by
  refine Ctr.of (by decide) (Nat.le_of_ble_eq_true rfl) rfl rfl 1 ?_
  intro X hX hR
  refine rh_iconst hX dX8_lays_0 ki_0 ?_
  refine rh_istn1 hX dX8_lays_1 (by decide) rfl ?_
  suffices hP0 : G X 2 [some (.ref (B 0)), some (.int 0)] [] (wM E B u kp ik ps pm dd tx ty rw rm th sz he wr mn vl tp lt ra pf pt pl pd prc ns tu ba na ca bo tr tH (rowTI u asd 0) pa tg sd sr) by rw [rowTI_0] at hP0; exact hP0
  refine rh_loop (P := fun i => G X 2 [some (.ref (B 0)), some (.int (nI i))] [] (wM E B u kp ik ps pm dd tx ty rw rm th sz he wr mn vl tp lt ra pf pt pl pd prc ns tu ba na ca bo tr tH (rowTI u asd i) pa tg sd sr)) (0) (172) (by omega) ?_ ?_
  · skip
    refine rh_extI (q := 10) (g := u) rfl (fun j hj => rowTI_lt u asd 172 j hj) rfl ?_
    dsimp only [List.cons_append, List.nil_append, List.set_cons_succ, List.set_cons_zero]
    refine rh_iload_n hX dX8_lays_2 rfl ?_
    refine rh_sipush hX dX8_lays_3 ks_172 ?_
    refine rh_icmp_ge_t (tgt := 27) hX dX8_lays_6 (by decide) (nI_le (a := 172) (b := 172) (Nat.le_refl 172) (by decide)) ?_
    exact rh_vret hX hR dX8_lays_27 (by simp only [List.map_cons, List.map_nil, List.cons_append, List.nil_append]) ⟨rfl, rfl⟩
  · intro i hi0 hi ih
    refine rh_iload_n hX dX8_lays_2 rfl ?_
    refine rh_sipush hX dX8_lays_3 ks_172 ?_
    refine rh_icmp_ge_f (tgt := 27) hX dX8_lays_6 (by decide) (nI_ge (b := 172) hi (by decide)) ?_
    refine rh_aload_n hX dX8_lays_9 rfl ?_
    refine rh_get hX gl_X8_39 0 dX8_lays_10 rfl rfl ?_
    refine rh_iload_n hX dX8_lays_13 rfl ?_
    refine rh_aload_n hX dX8_lays_14 rfl ?_
    refine rh_get hX gl_X8_7 0 dX8_lays_15 rfl rfl ?_
    refine rh_iload_n hX dX8_lays_18 rfl ?_
    refine rh_iaload hX 1 _ dX8_lays_19 rfl rfl (by omega) (by decide) ?_
    refine rh_iastore hX 10 _ dX8_lays_20 rfl rfl (by omega) (by decide) rfl ?_
    dsimp only [List.cons_append, List.nil_append, List.set_cons_succ, List.set_cons_zero, vput]
    refine rh_inc1 hX dX8_lays_21 (by decide) rfl (rn_i1 _) ?_
    refine rh_goto (tgt := 2) hX dX8_lays_24 (by decide) ?_
    rw [← rowTI_s u] at ih
    exact ih

set_option maxRecDepth 100000 in
set_option maxHeartbeats 4000000 in
theorem c_X8_puts (l : Launch) (E : rhE) (B : Nat → Nat) (u : Nat → Int32) (kp : Nat → Int32) (ik : Int32) (ps : Nat → Int32) (pm : Nat) (dd : Int32) (tx : Nat → Int32) (ty : Nat) (rw : Nat → Int64) (rm : Nat) (th : Int32) (sz : Nat) (he : Nat) (wr : Int32) (mn : Nat → Int32) (vl : Int32) (tp : Int32) (lt : Int32) (ra : Int32) (pf : Int32) (pt : Int32) (pl : Int32) (pd : Int64) (prc : Int64) (ns : Int64) (tu : Nat) (ba : Int64) (na : Int64) (ca : Nat → Int64) (bo : Nat → Int32) (tr : Nat → Int64) (tH : Int32) (asd : Nat → Int32) (pa : Nat → Int64) (tg : Nat → Int64) (sd : Int64) (sr : Int64)   : Ctr l E yX8_puts cX8_puts 2 none (rmL 0) [.ref (B 0)] (wM E B u kp ik ps pm dd tx ty rw rm th sz he wr mn vl tp lt ra pf pt pl pd prc ns tu ba na ca bo tr tH asd pa tg sd sr) (One none (wM E B asd kp ik ps pm dd tx ty rw rm th sz he wr mn vl tp lt ra pf pt pl pd prc ns tu ba na ca bo tr tH asd pa tg sd sr)) := by
  refine Ctr.of (by decide) (Nat.le_of_ble_eq_true rfl) rfl rfl 1 ?_
  intro X hX hR
  refine rh_iconst hX dX8_puts_0 ki_0 ?_
  refine rh_istn1 hX dX8_puts_1 (by decide) rfl ?_
  suffices hP0 : G X 2 [some (.ref (B 0)), some (.int 0)] [] (wM E B (rowTI asd u 0) kp ik ps pm dd tx ty rw rm th sz he wr mn vl tp lt ra pf pt pl pd prc ns tu ba na ca bo tr tH asd pa tg sd sr) by rw [rowTI_0] at hP0; exact hP0
  refine rh_loop (P := fun i => G X 2 [some (.ref (B 0)), some (.int (nI i))] [] (wM E B (rowTI asd u i) kp ik ps pm dd tx ty rw rm th sz he wr mn vl tp lt ra pf pt pl pd prc ns tu ba na ca bo tr tH asd pa tg sd sr)) (0) (172) (by omega) ?_ ?_
  · skip
    refine rh_extI (q := 1) (g := asd) rfl (fun j hj => rowTI_lt asd u 172 j hj) rfl ?_
    dsimp only [List.cons_append, List.nil_append, List.set_cons_succ, List.set_cons_zero]
    refine rh_iload_n hX dX8_puts_2 rfl ?_
    refine rh_sipush hX dX8_puts_3 ks_172 ?_
    refine rh_icmp_ge_t (tgt := 27) hX dX8_puts_6 (by decide) (nI_le (a := 172) (b := 172) (Nat.le_refl 172) (by decide)) ?_
    exact rh_vret hX hR dX8_puts_27 (by simp only [List.map_cons, List.map_nil, List.cons_append, List.nil_append]) ⟨rfl, rfl⟩
  · intro i hi0 hi ih
    refine rh_iload_n hX dX8_puts_2 rfl ?_
    refine rh_sipush hX dX8_puts_3 ks_172 ?_
    refine rh_icmp_ge_f (tgt := 27) hX dX8_puts_6 (by decide) (nI_ge (b := 172) hi (by decide)) ?_
    refine rh_aload_n hX dX8_puts_9 rfl ?_
    refine rh_get hX gl_X8_7 0 dX8_puts_10 rfl rfl ?_
    refine rh_iload_n hX dX8_puts_13 rfl ?_
    refine rh_aload_n hX dX8_puts_14 rfl ?_
    refine rh_get hX gl_X8_39 0 dX8_puts_15 rfl rfl ?_
    refine rh_iload_n hX dX8_puts_18 rfl ?_
    refine rh_iaload hX 10 _ dX8_puts_19 rfl rfl (by omega) (by decide) ?_
    refine rh_iastore hX 1 _ dX8_puts_20 rfl rfl (by omega) (by decide) rfl ?_
    dsimp only [List.cons_append, List.nil_append, List.set_cons_succ, List.set_cons_zero, vput]
    refine rh_inc1 hX dX8_puts_21 (by decide) rfl (rn_i1 _) ?_
    refine rh_goto (tgt := 2) hX dX8_puts_24 (by decide) ?_
    rw [← rowTI_s asd] at ih
    exact ih

set_option maxRecDepth 100000 in
set_option maxHeartbeats 4000000 in
theorem c_X8_did_n (l : Launch) (E : rhE) (B : Nat → Nat) (u : Nat → Int32) (kp : Nat → Int32) (ik : Int32) (ps : Nat → Int32) (pm : Nat) (dd : Int32) (tx : Nat → Int32) (ty : Nat) (rw : Nat → Int64) (rm : Nat) (th : Int32) (sz : Nat) (he : Nat) (wr : Int32) (mn : Nat → Int32) (vl : Int32) (tp : Int32) (lt : Int32) (ra : Int32) (pf : Int32) (pt : Int32) (pl : Int32) (pd : Int64) (prc : Int64) (ns : Int64) (tu : Nat) (ba : Int64) (na : Int64) (ca : Nat → Int64) (bo : Nat → Int32) (tr : Nat → Int64) (tH : Int32) (asd : Nat → Int32) (pa : Nat → Int64) (tg : Nat → Int64) (sd : Int64) (sr : Int64) (hpm : pm < 8)  : Ctr l E yX8_did cX8_did 2 none (rmL 0) [.ref (B 0)] (wM E B u kp ik ps pm dd tx ty rw rm th sz he wr mn vl tp lt ra pf pt pl pd prc ns tu ba na ca bo tr tH asd pa tg sd sr) (One none (wM E B u kp ik (psP ps asd pm 172) (pm + 1) (dd + 1) tx ty rw rm th sz he wr mn vl tp lt ra pf pt pl pd prc ns tu ba na ca bo tr tH asd pa tg sd sr)) := by
  refine Ctr.of (by decide) (Nat.le_of_ble_eq_true rfl) rfl rfl 1 ?_
  intro X hX hR
  refine rh_aload_n hX dX8_did_0 rfl ?_
  refine rh_get hX gl_X8_74 0 dX8_did_1 rfl rfl ?_
  refine rh_bipush hX dX8_did_4 kb_8 ?_
  refine rh_icmp_ne_t (tgt := 52) hX dX8_did_6 (by decide) (fun q => absurd (rn_inj (b := 8) q (by omega) (by decide)) (by omega)) ?_
  refine rh_iconst hX dX8_did_52 ki_0 ?_
  refine rh_istn1 hX dX8_did_53 (by decide) rfl ?_
  suffices hP0 : G X 54 [some (.ref (B 0)), some (.int 0)] [] (wM E B u kp ik (psP ps asd pm 0) pm dd tx ty rw rm th sz he wr mn vl tp lt ra pf pt pl pd prc ns tu ba na ca bo tr tH asd pa tg sd sr) by rw [psP_0] at hP0; exact hP0
  refine rh_loop (P := fun i => G X 54 [some (.ref (B 0)), some (.int (nI i))] [] (wM E B u kp ik (psP ps asd pm i) pm dd tx ty rw rm th sz he wr mn vl tp lt ra pf pt pl pd prc ns tu ba na ca bo tr tH asd pa tg sd sr)) (0) (172) (by omega) ?_ ?_
  · skip
    refine rh_iload_n hX dX8_did_54 rfl ?_
    refine rh_sipush hX dX8_did_55 ks_172 ?_
    refine rh_icmp_ge_t (tgt := 88) hX dX8_did_58 (by decide) (nI_le (a := 172) (b := 172) (Nat.le_refl 172) (by decide)) ?_
    refine rh_aload_n hX dX8_did_88 rfl ?_
    refine rh_dup hX dX8_did_89 rfl ?_
    refine rh_get hX gl_X8_74 0 dX8_did_90 rfl rfl ?_
    refine rh_iconst hX dX8_did_93 ki_1 ?_
    refine rh_iadd hX dX8_did_94 ?_
    rw [show nI pm + 1 = nI (pm + 1) from rn_add pm 1]
    refine rh_put hX gl_X8_74 0 dX8_did_95 rfl rfl rfl (Nat.le_of_ble_eq_true rfl) rfl ?_
    dsimp only [List.cons_append, List.nil_append, List.set_cons_succ, List.set_cons_zero, vput]
    refine rh_aload_n hX dX8_did_98 rfl ?_
    refine rh_dup hX dX8_did_99 rfl ?_
    refine rh_get hX gl_X8_77 0 dX8_did_100 rfl rfl ?_
    refine rh_iconst hX dX8_did_103 ki_1 ?_
    refine rh_iadd hX dX8_did_104 ?_
    refine rh_put hX gl_X8_77 0 dX8_did_105 rfl rfl rfl (Nat.le_of_ble_eq_true rfl) rfl ?_
    dsimp only [List.cons_append, List.nil_append, List.set_cons_succ, List.set_cons_zero, vput]
    exact rh_vret hX hR dX8_did_108 (by simp only [List.map_cons, List.map_nil, List.cons_append, List.nil_append]) ⟨rfl, rfl⟩
  · intro i hi0 hi ih
    refine rh_iload_n hX dX8_did_54 rfl ?_
    refine rh_sipush hX dX8_did_55 ks_172 ?_
    refine rh_icmp_ge_f (tgt := 88) hX dX8_did_58 (by decide) (nI_ge (b := 172) hi (by decide)) ?_
    refine rh_aload_n hX dX8_did_61 rfl ?_
    refine rh_get hX gl_X8_16 0 dX8_did_62 rfl rfl ?_
    refine rh_sipush hX dX8_did_65 ks_172 ?_
    refine rh_aload_n hX dX8_did_68 rfl ?_
    refine rh_get hX gl_X8_74 0 dX8_did_69 rfl rfl ?_
    refine rh_imul hX dX8_did_72 ?_
    refine rh_iload_n hX dX8_did_73 rfl ?_
    refine rh_iadd hX dX8_did_74 ?_
    refine rh_aload_n hX dX8_did_75 rfl ?_
    refine rh_get hX gl_X8_39 0 dX8_did_76 rfl rfl ?_
    refine rh_iload_n hX dX8_did_79 rfl ?_
    refine rh_iaload hX 10 _ dX8_did_80 rfl rfl (by omega) (by decide) ?_
    refine rh_iastore hX 3 (172 * pm + i) dX8_did_81 rfl (rn_a (rn_m rn_c172 rfl) rfl) (by omega) (by decide) rfl ?_
    dsimp only [List.cons_append, List.nil_append, List.set_cons_succ, List.set_cons_zero, vput]
    refine rh_inc1 hX dX8_did_82 (by decide) rfl (rn_i1 _) ?_
    refine rh_goto (tgt := 54) hX dX8_did_85 (by decide) ?_
    rw [← psP_s ps asd pm i] at ih
    exact ih

set_option maxRecDepth 100000 in
set_option maxHeartbeats 4000000 in
theorem c_X8_did_8 (l : Launch) (E : rhE) (B : Nat → Nat) (u : Nat → Int32) (kp : Nat → Int32) (ik : Int32) (ps : Nat → Int32) (pm : Nat) (dd : Int32) (tx : Nat → Int32) (ty : Nat) (rw : Nat → Int64) (rm : Nat) (th : Int32) (sz : Nat) (he : Nat) (wr : Int32) (mn : Nat → Int32) (vl : Int32) (tp : Int32) (lt : Int32) (ra : Int32) (pf : Int32) (pt : Int32) (pl : Int32) (pd : Int64) (prc : Int64) (ns : Int64) (tu : Nat) (ba : Int64) (na : Int64) (ca : Nat → Int64) (bo : Nat → Int32) (tr : Nat → Int64) (tH : Int32) (asd : Nat → Int32) (pa : Nat → Int64) (tg : Nat → Int64) (sd : Int64) (sr : Int64)   : Ctr l E yX8_did cX8_did 2 none (rmL 0) [.ref (B 0)] (wM E B u kp ik ps 8 dd tx ty rw rm th sz he wr mn vl tp lt ra pf pt pl pd prc ns tu ba na ca bo tr tH asd pa tg sd sr) (One none (wM E B u kp ik (psP (psS ps 1376) asd 7 172) 8 (dd + 1) tx ty rw rm th sz he wr mn vl tp lt ra pf pt pl pd prc ns tu ba na ca bo tr tH asd pa tg sd sr)) := by
  refine Ctr.of (by decide) (Nat.le_of_ble_eq_true rfl) rfl rfl 1 ?_
  intro X hX hR
  refine rh_aload_n hX dX8_did_0 rfl ?_
  refine rh_get hX gl_X8_74 0 dX8_did_1 rfl rfl ?_
  refine rh_bipush hX dX8_did_4 kb_8 ?_
  refine rh_icmp_ne_f (tgt := 52) hX dX8_did_6 (by decide) rfl ?_
  refine rh_sipush hX dX8_did_9 ks_172 ?_
  refine rh_istn1 hX dX8_did_12 (by decide) rfl ?_
  suffices hP1 : G X 13 [some (.ref (B 0)), some (.int 172)] [] (wM E B u kp ik (psS ps 172) 8 dd tx ty rw rm th sz he wr mn vl tp lt ra pf pt pl pd prc ns tu ba na ca bo tr tH asd pa tg sd sr) by rw [psS_0] at hP1; exact hP1
  refine rh_loop (P := fun k => G X 13 [some (.ref (B 0)), some (.int (nI k))] [] (wM E B u kp ik (psS ps k) 8 dd tx ty rw rm th sz he wr mn vl tp lt ra pf pt pl pd prc ns tu ba na ca bo tr tH asd pa tg sd sr)) (172) (1376) (by omega) ?_ ?_
  · skip
    refine rh_iload_n hX dX8_did_13 rfl ?_
    refine rh_sipush hX dX8_did_14 ks_1376 ?_
    refine rh_icmp_ge_t (tgt := 42) hX dX8_did_17 (by decide) (nI_le (a := 1376) (b := 1376) (Nat.le_refl 1376) (by decide)) ?_
    refine rh_aload_n hX dX8_did_42 rfl ?_
    refine rh_dup hX dX8_did_43 rfl ?_
    refine rh_get hX gl_X8_74 0 dX8_did_44 rfl rfl ?_
    refine rh_iconst hX dX8_did_47 ki_1 ?_
    refine rh_isub hX dX8_did_48 ?_
    rw [show nI 8 - 1 = nI 7 from rfl]
    refine rh_put hX gl_X8_74 0 dX8_did_49 rfl rfl rfl (Nat.le_of_ble_eq_true rfl) rfl ?_
    dsimp only [List.cons_append, List.nil_append, List.set_cons_succ, List.set_cons_zero, vput]
    refine rh_iconst hX dX8_did_52 ki_0 ?_
    refine rh_istn1 hX dX8_did_53 (by decide) rfl ?_
    suffices hP0 : G X 54 [some (.ref (B 0)), some (.int 0)] [] (wM E B u kp ik (psP (psS ps 1376) asd 7 0) 7 dd tx ty rw rm th sz he wr mn vl tp lt ra pf pt pl pd prc ns tu ba na ca bo tr tH asd pa tg sd sr) by rw [psP_0] at hP0; exact hP0
    refine rh_loop (P := fun i => G X 54 [some (.ref (B 0)), some (.int (nI i))] [] (wM E B u kp ik (psP (psS ps 1376) asd 7 i) 7 dd tx ty rw rm th sz he wr mn vl tp lt ra pf pt pl pd prc ns tu ba na ca bo tr tH asd pa tg sd sr)) (0) (172) (by omega) ?_ ?_
    · skip
      refine rh_iload_n hX dX8_did_54 rfl ?_
      refine rh_sipush hX dX8_did_55 ks_172 ?_
      refine rh_icmp_ge_t (tgt := 88) hX dX8_did_58 (by decide) (nI_le (a := 172) (b := 172) (Nat.le_refl 172) (by decide)) ?_
      refine rh_aload_n hX dX8_did_88 rfl ?_
      refine rh_dup hX dX8_did_89 rfl ?_
      refine rh_get hX gl_X8_74 0 dX8_did_90 rfl rfl ?_
      refine rh_iconst hX dX8_did_93 ki_1 ?_
      refine rh_iadd hX dX8_did_94 ?_
      rw [show nI 7 + 1 = nI 8 from rfl]
      refine rh_put hX gl_X8_74 0 dX8_did_95 rfl rfl rfl (Nat.le_of_ble_eq_true rfl) rfl ?_
      dsimp only [List.cons_append, List.nil_append, List.set_cons_succ, List.set_cons_zero, vput]
      refine rh_aload_n hX dX8_did_98 rfl ?_
      refine rh_dup hX dX8_did_99 rfl ?_
      refine rh_get hX gl_X8_77 0 dX8_did_100 rfl rfl ?_
      refine rh_iconst hX dX8_did_103 ki_1 ?_
      refine rh_iadd hX dX8_did_104 ?_
      refine rh_put hX gl_X8_77 0 dX8_did_105 rfl rfl rfl (Nat.le_of_ble_eq_true rfl) rfl ?_
      dsimp only [List.cons_append, List.nil_append, List.set_cons_succ, List.set_cons_zero, vput]
      exact rh_vret hX hR dX8_did_108 (by simp only [List.map_cons, List.map_nil, List.cons_append, List.nil_append]) ⟨rfl, rfl⟩
    · intro i hi0 hi ih
      refine rh_iload_n hX dX8_did_54 rfl ?_
      refine rh_sipush hX dX8_did_55 ks_172 ?_
      refine rh_icmp_ge_f (tgt := 88) hX dX8_did_58 (by decide) (nI_ge (b := 172) hi (by decide)) ?_
      refine rh_aload_n hX dX8_did_61 rfl ?_
      refine rh_get hX gl_X8_16 0 dX8_did_62 rfl rfl ?_
      refine rh_sipush hX dX8_did_65 ks_172 ?_
      refine rh_aload_n hX dX8_did_68 rfl ?_
      refine rh_get hX gl_X8_74 0 dX8_did_69 rfl rfl ?_
      refine rh_imul hX dX8_did_72 ?_
      refine rh_iload_n hX dX8_did_73 rfl ?_
      refine rh_iadd hX dX8_did_74 ?_
      refine rh_aload_n hX dX8_did_75 rfl ?_
      refine rh_get hX gl_X8_39 0 dX8_did_76 rfl rfl ?_
      refine rh_iload_n hX dX8_did_79 rfl ?_
      refine rh_iaload hX 10 _ dX8_did_80 rfl rfl (by omega) (by decide) ?_
      refine rh_iastore hX 3 (172 * 7 + i) dX8_did_81 rfl (rn_a (rn_m rn_c172 rfl) rfl) (by omega) (by decide) rfl ?_
      dsimp only [List.cons_append, List.nil_append, List.set_cons_succ, List.set_cons_zero, vput]
      refine rh_inc1 hX dX8_did_82 (by decide) rfl (rn_i1 _) ?_
      refine rh_goto (tgt := 54) hX dX8_did_85 (by decide) ?_
      rw [← psP_s (psS ps 1376) asd 7 i] at ih
      exact ih
  · intro k hk0 hk ihk
    refine rh_iload_n hX dX8_did_13 rfl ?_
    refine rh_sipush hX dX8_did_14 ks_1376 ?_
    refine rh_icmp_ge_f (tgt := 42) hX dX8_did_17 (by decide) (nI_ge (b := 1376) hk (by decide)) ?_
    refine rh_aload_n hX dX8_did_20 rfl ?_
    refine rh_get hX gl_X8_16 0 dX8_did_21 rfl rfl ?_
    refine rh_iload_n hX dX8_did_24 rfl ?_
    refine rh_sipush hX dX8_did_25 ks_172 ?_
    refine rh_isub hX dX8_did_28 ?_
    refine rh_aload_n hX dX8_did_29 rfl ?_
    refine rh_get hX gl_X8_16 0 dX8_did_30 rfl rfl ?_
    refine rh_iload_n hX dX8_did_33 rfl ?_
    refine rh_iaload hX 3 _ dX8_did_34 rfl rfl (by omega) (by decide) ?_
    rw [psS_at ps k]
    refine rh_iastore hX 3 (k - 172) dX8_did_35 rfl (rn_s rfl rn_c172 (by omega)) (by omega) (by decide) rfl ?_
    dsimp only [List.cons_append, List.nil_append, List.set_cons_succ, List.set_cons_zero, vput]
    refine rh_inc1 hX dX8_did_36 (by decide) rfl (rn_i1 _) ?_
    refine rh_goto (tgt := 13) hX dX8_did_39 (by decide) ?_
    rw [← psS_s ps k hk0] at ihk
    exact ihk

theorem c_X8_did (l : Launch) (E : rhE) (B : Nat → Nat) (u : Nat → Int32) (kp : Nat → Int32) (ik : Int32) (ps : Nat → Int32) (pm : Nat) (dd : Int32) (tx : Nat → Int32) (ty : Nat) (rw : Nat → Int64) (rm : Nat) (th : Int32) (sz : Nat) (he : Nat) (wr : Int32) (mn : Nat → Int32) (vl : Int32) (tp : Int32) (lt : Int32) (ra : Int32) (pf : Int32) (pt : Int32) (pl : Int32) (pd : Int64) (prc : Int64) (ns : Int64) (tu : Nat) (ba : Int64) (na : Int64) (ca : Nat → Int64) (bo : Nat → Int32) (tr : Nat → Int64) (tH : Int32) (asd : Nat → Int32) (pa : Nat → Int64) (tg : Nat → Int64) (sd : Int64) (sr : Int64) (hpm : pm ≤ 8) : Ctr l E yX8_did cX8_did 2 none (rmL 0) [.ref (B 0)] (wM E B u kp ik ps pm dd tx ty rw rm th sz he wr mn vl tp lt ra pf pt pl pd prc ns tu ba na ca bo tr tH asd pa tg sd sr) (One none (wM E B u kp ik (psDid ps pm asd) (pmDid pm) (dd + 1) tx ty rw rm th sz he wr mn vl tp lt ra pf pt pl pd prc ns tu ba na ca bo tr tH asd pa tg sd sr)) := by
  unfold psDid pmDid
  by_cases e : pm = 8
  · subst e
    exact c_X8_did_8 l E B u kp ik ps 8 dd tx ty rw rm th sz he wr mn vl tp lt ra pf pt pl pd prc ns tu ba na ca bo tr tH asd pa tg sd sr
  · rw [if_neg e, if_neg e]
    exact c_X8_did_n l E B u kp ik ps pm dd tx ty rw rm th sz he wr mn vl tp lt ra pf pt pl pd prc ns tu ba na ca bo tr tH asd pa tg sd sr (by omega)

set_option maxRecDepth 100000 in
set_option maxHeartbeats 4000000 in
theorem c_X8_does (l : Launch) (E : rhE) (B : Nat → Nat) (u : Nat → Int32) (kp : Nat → Int32) (ik : Int32) (ps : Nat → Int32) (pm : Nat) (dd : Int32) (tx : Nat → Int32) (ty : Nat) (rw : Nat → Int64) (rm : Nat) (th : Int32) (sz : Nat) (he : Nat) (wr : Int32) (mn : Nat → Int32) (vl : Int32) (tp : Int32) (lt : Int32) (ra : Int32) (pf : Int32) (pt : Int32) (pl : Int32) (pd : Int64) (prc : Int64) (ns : Int64) (tu : Nat) (ba : Int64) (na : Int64) (ca : Nat → Int64) (bo : Nat → Int32) (tr : Nat → Int64) (tH : Int32) (asd : Nat → Int32) (pa : Nat → Int64) (tg : Nat → Int64) (sd : Int64) (sr : Int64) (hpm : pm ≤ 8)  : Ctr l E yX8_does cX8_does 1 none (rmL 1) [.ref (B 0)] (wM E B u kp ik ps pm dd tx ty rw rm th sz he wr mn vl tp lt ra pf pt pl pd prc ns tu ba na ca bo tr tH asd pa tg sd sr) (One none (wM E B u kp ik (psDid ps pm u) (pmDid pm) (dd + 1) tx ty rw rm th sz he wr mn vl tp lt ra pf pt pl pd prc ns tu ba na ca bo tr tH u pa tg sd sr)) := by
  refine Ctr.of (by decide) (Nat.le_of_ble_eq_true rfl) rfl rfl 0 ?_
  intro X hX hR
  refine rh_aload_n hX dX8_does_0 rfl ?_
  refine rh_uV hX lk_X8_68 mvX8_lays (fun l => c_X8_lays l E _ _ _ _ _ _ _ _ _ _ _ _ _ _ _ _ _ _ _ _ _ _ _ _ _ _ _ _ _ _ _ _ _ _ _ _ _ _ ) ⟨rfl, rfl⟩ ⟨Nat.le_of_ble_eq_true rfl, Nat.le_of_ble_eq_true rfl⟩ [0, 1, 2, 3, 4, 5, 6, 7, 8, 9, 10, 11, 12] rfl rfl 0 rfl dX8_does_1 rfl rfl (Nat.le_of_ble_eq_true rfl) rfl ?_
  dsimp only [List.cons_append, List.nil_append, List.set_cons_succ, List.set_cons_zero, vput]
  refine rh_aload_n hX dX8_does_4 rfl ?_
  refine rh_uV hX lk_X8_71 mvX8_did (fun l => c_X8_did l E _ _ _ _ _ _ _ _ _ _ _ _ _ _ _ _ _ _ _ _ _ _ _ _ _ _ _ _ _ _ _ _ _ _ _ _ _ _ (by omega)) ⟨rfl, rfl⟩ ⟨Nat.le_of_ble_eq_true rfl, Nat.le_of_ble_eq_true rfl⟩ [0, 1, 2, 3, 4, 5, 6, 7, 8, 9, 10, 11, 12] rfl rfl 0 rfl dX8_does_5 rfl rfl (Nat.le_of_ble_eq_true rfl) rfl ?_
  dsimp only [List.cons_append, List.nil_append, List.set_cons_succ, List.set_cons_zero, vput]
  exact rh_vret hX hR dX8_does_8 (by simp only [List.map_cons, List.map_nil, List.cons_append, List.nil_append]) ⟨rfl, rfl⟩

set_option maxRecDepth 100000 in
set_option maxHeartbeats 4000000 in
theorem c_X8_undoes (l : Launch) (E : rhE) (B : Nat → Nat) (u : Nat → Int32) (kp : Nat → Int32) (ik : Int32) (ps : Nat → Int32) (pm : Nat) (dd : Int32) (tx : Nat → Int32) (ty : Nat) (rw : Nat → Int64) (rm : Nat) (th : Int32) (sz : Nat) (he : Nat) (wr : Int32) (mn : Nat → Int32) (vl : Int32) (tp : Int32) (lt : Int32) (ra : Int32) (pf : Int32) (pt : Int32) (pl : Int32) (pd : Int64) (prc : Int64) (ns : Int64) (tu : Nat) (ba : Int64) (na : Int64) (ca : Nat → Int64) (bo : Nat → Int32) (tr : Nat → Int64) (tH : Int32) (asd : Nat → Int32) (pa : Nat → Int64) (tg : Nat → Int64) (sd : Int64) (sr : Int64) (hp1 : 1 ≤ pm) (hpm : pm ≤ 8)  : Ctr l E yX8_undoes cX8_undoes 2 none (rmL 0) [.ref (B 0)] (wM E B u kp ik ps pm dd tx ty rw rm th sz he wr mn vl tp lt ra pf pt pl pd prc ns tu ba na ca bo tr tH asd pa tg sd sr) (One none (wM E B (fun x => ps (172 * (pm - 1) + x)) kp ik ps (pm - 1) dd tx ty rw rm th sz he wr mn vl tp lt ra pf pt pl pd prc ns tu ba na ca bo tr tH asd pa tg sd sr)) := by
  refine Ctr.of (by decide) (Nat.le_of_ble_eq_true rfl) rfl rfl 1 ?_
  intro X hX hR
  refine rh_aload_n hX dX8_undoes_0 rfl ?_
  refine rh_dup hX dX8_undoes_1 rfl ?_
  refine rh_get hX gl_X8_74 0 dX8_undoes_2 rfl rfl ?_
  refine rh_iconst hX dX8_undoes_5 ki_1 ?_
  refine rh_isub hX dX8_undoes_6 ?_
  rw [show nI pm - 1 = nI (pm - 1) from rn_sub (b := 1) hp1]
  refine rh_put hX gl_X8_74 0 dX8_undoes_7 rfl rfl rfl (Nat.le_of_ble_eq_true rfl) rfl ?_
  dsimp only [List.cons_append, List.nil_append, List.set_cons_succ, List.set_cons_zero, vput]
  refine rh_iconst hX dX8_undoes_10 ki_0 ?_
  refine rh_istn1 hX dX8_undoes_11 (by decide) rfl ?_
  suffices hP0 : G X 12 [some (.ref (B 0)), some (.int 0)] [] (wM E B (rowTI (fun x => ps (172 * (pm - 1) + x)) u 0) kp ik ps (pm - 1) dd tx ty rw rm th sz he wr mn vl tp lt ra pf pt pl pd prc ns tu ba na ca bo tr tH asd pa tg sd sr) by rw [rowTI_0] at hP0; exact hP0
  refine rh_loop (P := fun i => G X 12 [some (.ref (B 0)), some (.int (nI i))] [] (wM E B (rowTI (fun x => ps (172 * (pm - 1) + x)) u i) kp ik ps (pm - 1) dd tx ty rw rm th sz he wr mn vl tp lt ra pf pt pl pd prc ns tu ba na ca bo tr tH asd pa tg sd sr)) (0) (172) (by omega) ?_ ?_
  · skip
    refine rh_extI (q := 1) (g := (fun x => ps (172 * (pm - 1) + x))) rfl (fun j hj => rowTI_lt (fun x => ps (172 * (pm - 1) + x)) u 172 j hj) rfl ?_
    dsimp only [List.cons_append, List.nil_append, List.set_cons_succ, List.set_cons_zero]
    refine rh_iload_n hX dX8_undoes_12 rfl ?_
    refine rh_sipush hX dX8_undoes_13 ks_172 ?_
    refine rh_icmp_ge_t (tgt := 46) hX dX8_undoes_16 (by decide) (nI_le (a := 172) (b := 172) (Nat.le_refl 172) (by decide)) ?_
    exact rh_vret hX hR dX8_undoes_46 (by simp only [List.map_cons, List.map_nil, List.cons_append, List.nil_append]) ⟨rfl, rfl⟩
  · intro i hi0 hi ih
    refine rh_iload_n hX dX8_undoes_12 rfl ?_
    refine rh_sipush hX dX8_undoes_13 ks_172 ?_
    refine rh_icmp_ge_f (tgt := 46) hX dX8_undoes_16 (by decide) (nI_ge (b := 172) hi (by decide)) ?_
    refine rh_aload_n hX dX8_undoes_19 rfl ?_
    refine rh_get hX gl_X8_7 0 dX8_undoes_20 rfl rfl ?_
    refine rh_iload_n hX dX8_undoes_23 rfl ?_
    refine rh_aload_n hX dX8_undoes_24 rfl ?_
    refine rh_get hX gl_X8_16 0 dX8_undoes_25 rfl rfl ?_
    refine rh_sipush hX dX8_undoes_28 ks_172 ?_
    refine rh_aload_n hX dX8_undoes_31 rfl ?_
    refine rh_get hX gl_X8_74 0 dX8_undoes_32 rfl rfl ?_
    refine rh_imul hX dX8_undoes_35 ?_
    refine rh_iload_n hX dX8_undoes_36 rfl ?_
    refine rh_iadd hX dX8_undoes_37 ?_
    refine rh_iaload hX 3 (172 * (pm - 1) + i) dX8_undoes_38 rfl (rn_a (rn_m rn_c172 rfl) rfl) (by omega) (by decide) ?_
    refine rh_iastore hX 1 _ dX8_undoes_39 rfl rfl (by omega) (by decide) rfl ?_
    dsimp only [List.cons_append, List.nil_append, List.set_cons_succ, List.set_cons_zero, vput]
    refine rh_inc1 hX dX8_undoes_40 (by decide) rfl (rn_i1 _) ?_
    refine rh_goto (tgt := 12) hX dX8_undoes_43 (by decide) ?_
    rw [← rowTI_s] at ih
    exact ih

set_option maxRecDepth 100000 in
set_option maxHeartbeats 4000000 in
theorem c_X8_begin (l : Launch) (E : rhE) (B : Nat → Nat) (u : Nat → Int32) (kp : Nat → Int32) (ik : Int32) (ps : Nat → Int32) (pm : Nat) (dd : Int32) (tx : Nat → Int32) (ty : Nat) (rw : Nat → Int64) (rm : Nat) (th : Int32) (sz : Nat) (he : Nat) (wr : Int32) (mn : Nat → Int32) (vl : Int32) (tp : Int32) (lt : Int32) (ra : Int32) (pf : Int32) (pt : Int32) (pl : Int32) (pd : Int64) (prc : Int64) (ns : Int64) (tu : Nat) (ba : Int64) (na : Int64) (ca : Nat → Int64) (bo : Nat → Int32) (tr : Nat → Int64) (tH : Int32) (asd : Nat → Int32) (pa : Nat → Int64) (tg : Nat → Int64) (sd : Int64) (sr : Int64)   : Ctr l E yX8_begin cX8_begin 1 none (rmL 0) [.ref (B 0)] (wM E B u kp ik ps pm dd tx ty rw rm th sz he wr mn vl tp lt ra pf pt pl pd prc ns tu ba na ca bo tr tH asd pa tg sd sr) (One none (wM E B u kp ik ps pm dd tx 0 rw rm th ty 0 (-1) mn vl tp lt ra pf pt pl pd prc ns tu ba na ca bo tr tH asd pa tg sd sr)) := by
  refine Ctr.of (by decide) (Nat.le_of_ble_eq_true rfl) rfl rfl 0 ?_
  intro X hX hR
  refine rh_aload_n hX dX8_begin_0 rfl ?_
  refine rh_aload_n hX dX8_begin_1 rfl ?_
  refine rh_get hX gl_X8_55 0 dX8_begin_2 rfl rfl ?_
  refine rh_put hX gl_X8_99 0 dX8_begin_5 rfl rfl rfl (Nat.le_of_ble_eq_true rfl) rfl ?_
  dsimp only [List.cons_append, List.nil_append, List.set_cons_succ, List.set_cons_zero, vput]
  refine rh_aload_n hX dX8_begin_8 rfl ?_
  refine rh_iconst hX dX8_begin_9 ki_0 ?_
  refine rh_put hX gl_X8_55 0 dX8_begin_10 rfl rfl rfl (Nat.le_of_ble_eq_true rfl) rfl ?_
  dsimp only [List.cons_append, List.nil_append, List.set_cons_succ, List.set_cons_zero, vput]
  refine rh_aload_n hX dX8_begin_13 rfl ?_
  refine rh_iconst hX dX8_begin_14 ki_0 ?_
  refine rh_put hX gl_X8_102 0 dX8_begin_15 rfl rfl rfl (Nat.le_of_ble_eq_true rfl) rfl ?_
  dsimp only [List.cons_append, List.nil_append, List.set_cons_succ, List.set_cons_zero, vput]
  refine rh_aload_n hX dX8_begin_18 rfl ?_
  refine rh_iconst hX dX8_begin_19 ki_m1 ?_
  refine rh_put hX gl_X8_105 0 dX8_begin_20 rfl rfl rfl (Nat.le_of_ble_eq_true rfl) rfl ?_
  dsimp only [List.cons_append, List.nil_append, List.set_cons_succ, List.set_cons_zero, vput]
  exact rh_vret hX hR dX8_begin_23 (by simp only [List.map_cons, List.map_nil, List.cons_append, List.nil_append]) ⟨rfl, rfl⟩
