/-- must holder h go with what it has of class t -/
def mGo (u : Nat → Int32) (mn : Nat → Int32) (pd : Int64) (h t : Nat) (all : Int64) : Bool := decide (u (88 + t) = 1) && (decide (¬ u (6 * h + t) ≤ 0) && decide (¬ pd * (u (6 * h + t)).toInt64 / all ≤ (mn h).toInt64))
theorem mGo_1 {u mn : Nat → Int32} {pd : Int64} {h t : Nat} {all : Int64} (a : ¬ u (88 + t) = 1) : mGo u mn pd h t all = false := by unfold mGo; rw [decide_eq_false a]; rfl
theorem mGo_2 {u mn : Nat → Int32} {pd : Int64} {h t : Nat} {all : Int64} (a : u (6 * h + t) ≤ 0) : mGo u mn pd h t all = false := by unfold mGo; rw [decide_eq_false (p := ¬ u (6 * h + t) ≤ 0) (fun q => q a), Bool.false_and, Bool.and_false]
theorem mGo_3 {u mn : Nat → Int32} {pd : Int64} {h t : Nat} {all : Int64} (a : pd * (u (6 * h + t)).toInt64 / all ≤ (mn h).toInt64) : mGo u mn pd h t all = false := by unfold mGo; rw [decide_eq_false (p := ¬ pd * (u (6 * h + t)).toInt64 / all ≤ (mn h).toInt64) (fun q => q a), Bool.and_false, Bool.and_false]
theorem mGo_4 {u mn : Nat → Int32} {pd : Int64} {h t : Nat} {all : Int64} (a : u (88 + t) = 1) (b : ¬ u (6 * h + t) ≤ 0) (c : ¬ pd * (u (6 * h + t)).toInt64 / all ≤ (mn h).toInt64) : mGo u mn pd h t all = true := by unfold mGo; rw [decide_eq_true a, decide_eq_true b, decide_eq_true c]; rfl
abbrev PL : Type := (Nat → Int32) × (Nat → Int64) × Int32
def pGo (mn : Nat → Int32) (pd : Int64) (dn : Int32) (t : Nat) (all : Int64) (h : Nat) (s : PL) : PL := if mGo s.1 mn pd h t all = true then ((if dn = 0 then s.1 else va_up (va_up s.1 (6 * h + 0) (s.1 (6 * h + 0) + (cConv (fm s.1) t (s.1 (6 * h + t)).toInt64).toInt32)) (6 * h + t) 0), va_up s.2.1 t (s.2.1 t + (s.1 (6 * h + t)).toInt64), s.2.2 ||| 1 <<< (nI h &&& 31)) else s
def pH (mn : Nat → Int32) (pd : Int64) (dn : Int32) (t : Nat) (all : Int64) (s : PL) : Nat → PL
  | 0 => s
  | h + 1 => pGo mn pd dn t all h (pH mn pd dn t all s h)
termination_by h => h
theorem pH_0 (mn : Nat → Int32) (pd : Int64) (dn : Int32) (t : Nat) (all : Int64) (s : PL) : pH mn pd dn t all s 0 = s := by rw [pH]
theorem pH_s (mn : Nat → Int32) (pd : Int64) (dn : Int32) (t : Nat) (all : Int64) (s : PL) (h : Nat) : pH mn pd dn t all s (h + 1) = pGo mn pd dn t all h (pH mn pd dn t all s h) := by rw [pH]
def pT (mn : Nat → Int32) (pd : Int64) (dn : Int32) (s : PL) : Nat → PL
  | 0 => s
  | t + 1 => if t = 0 then s else pH mn pd dn t (cAllHeld (fm (pT mn pd dn s t).1) t) ((pT mn pd dn s t).1, va_up (pT mn pd dn s t).2.1 t 0, (pT mn pd dn s t).2.2) 8
termination_by t => t
theorem pT_1 (mn : Nat → Int32) (pd : Int64) (dn : Int32) (s : PL) : pT mn pd dn s 1 = s := by rw [pT]; rfl
theorem pT_s (mn : Nat → Int32) (pd : Int64) (dn : Int32) (s : PL) {t : Nat} (h : 1 ≤ t) : pT mn pd dn s (t + 1) = pH mn pd dn t (cAllHeld (fm (pT mn pd dn s t).1) t) ((pT mn pd dn s t).1, va_up (pT mn pd dn s t).2.1 t 0, (pT mn pd dn s t).2.2) 8 := by rw [pT, if_neg (by omega)]
theorem mOk_pGo {mn : Nat → Int32} {pd : Int64} {dn : Int32} {t : Nat} {all : Int64} {h T : Nat} {s : PL} (hM : mOk s.1 T) (hh : h < 8) (ht : t < 6) : mOk (pGo mn pd dn t all h s).1 T := by
  unfold pGo
  split
  · show mOk (if dn = 0 then s.1 else _) T
    split
    · exact hM
    · exact mOk_up (mOk_up hM (by omega) (by omega)) (by omega) (by omega)
  · exact hM
theorem mOk_pH {mn : Nat → Int32} {pd : Int64} {dn : Int32} {t : Nat} {all : Int64} {T : Nat} {s : PL} (hM : mOk s.1 T) (ht : t < 6) : ∀ h : Nat, h ≤ 8 → mOk (pH mn pd dn t all s h).1 T
  | 0, _ => by rw [pH_0]; exact hM
  | h + 1, hh => by rw [pH_s]; exact mOk_pGo (mOk_pH hM ht h (by omega)) (by omega) ht
theorem mOk_pT {mn : Nat → Int32} {pd : Int64} {dn : Int32} {T : Nat} {s : PL} (hM : mOk s.1 T) : ∀ t : Nat, t ≤ 6 → mOk (pT mn pd dn s t).1 T
  | 0, _ => by rw [pT]; exact hM
  | t + 1, ht => by
    by_cases e : t = 0
    · rw [pT, if_pos e]; exact hM
    · rw [pT_s _ _ _ _ (by omega)]
      exact mOk_pH (s := ((pT mn pd dn s t).1, va_up (pT mn pd dn s t).2.1 t 0, (pT mn pd dn s t).2.2)) (mOk_pT hM t (by omega)) (by omega) 8 (by omega)

set_option maxRecDepth 100000 in
set_option maxHeartbeats 4000000 in
theorem c_X8_mustGo (l : Launch) (E : rhE) (B : Nat → Nat) (u : Nat → Int32) (kp : Nat → Int32) (ik : Int32) (ps : Nat → Int32) (pm : Nat) (dd : Int32) (tx : Nat → Int32) (ty : Nat) (rw : Nat → Int64) (rm : Nat) (th : Int32) (sz : Nat) (he : Nat) (wr : Int32) (mn : Nat → Int32) (vl : Int32) (tp : Int32) (lt : Int32) (ra : Int32) (pf : Int32) (pt : Int32) (pl : Int32) (pd : Int64) (prc : Int64) (ns : Int64) (tu : Nat) (ba : Int64) (na : Int64) (ca : Nat → Int64) (bo : Nat → Int32) (tr : Nat → Int64) (tH : Int32) (asd : Nat → Int32) (pa : Nat → Int64) (tg : Nat → Int64) (sd : Int64) (sr : Int64) (h t : Nat) (all : Int64) (hh : h < 8) (ht : t < 6) (hal : ¬ u (6 * h + t) ≤ 0 → ¬ all = 0) : Ctr l E yX8_mustGo cX8_mustGo 5 (some .boolean) (rmL 1) [.ref (B 0), .int (nI h), .int (nI t), .long all] (wM E B u kp ik ps pm dd tx ty rw rm th sz he wr mn vl tp lt ra pf pt pl pd prc ns tu ba na ca bo tr tH asd pa tg sd sr) (One (some (.int (if mGo u mn pd h t all = true then 1 else 0))) (wM E B u kp ik ps pm dd tx ty rw rm th sz he wr mn vl tp lt ra pf pt pl pd prc ns tu ba na ca bo tr tH asd pa tg sd sr)) := by
  refine Ctr.of (by decide) (Nat.le_of_ble_eq_true rfl) rfl rfl 0 ?_
  intro X hX hR
  refine rh_aload_n hX dX8_mustGo_0 rfl ?_
  refine rh_get hX gl_X8_7 0 dX8_mustGo_1 rfl rfl ?_
  refine rh_bipush hX dX8_mustGo_4 kb_88 ?_
  refine rh_iload_n hX dX8_mustGo_6 rfl ?_
  refine rh_iadd hX dX8_mustGo_7 ?_
  refine rh_iaload hX 1 _ dX8_mustGo_8 rfl (rn_a rn_c88 rfl) (by omega) (by decide) ?_
  refine rh_iconst hX dX8_mustGo_9 ki_1 ?_
  refine rh_icmp_ne (tgt := 51) hX dX8_mustGo_10 (by decide) (fun h10 => ?_) (fun h10 => ?_)
  · skip
    refine rh_iconst hX dX8_mustGo_51 ki_0 ?_
    exact rh_zret hX hR dX8_mustGo_52 rfl (by simp only [List.map_cons, List.map_nil, List.cons_append, List.nil_append]) ⟨by first | (rw [mGo_1 h10]; rfl) | (rw [mGo_2 h19]; rfl) | (rw [mGo_3 h44]; rfl) | (rw [mGo_4 h10 h19 h44]; rfl), rfl⟩
  · skip
    refine rh_aload_n hX dX8_mustGo_13 rfl ?_
    refine rh_iload_n hX dX8_mustGo_14 rfl ?_
    refine rh_iload_n hX dX8_mustGo_15 rfl ?_
    refine rh_pV hX lk_X8_80 mvX8_sharesOf (fun l => c_X8_sharesOf l E _ _ _ _ _ _ _ _ _ _ _ _ _ _ _ _ _ _ _ _ _ _ _ _ _ _ _ _ _ _ _ _ _ _ _ _ _ _ h t (by omega) (by omega)) ⟨rfl, rfl⟩ ⟨Nat.le_of_ble_eq_true rfl, Nat.le_of_ble_eq_true rfl⟩ [0, 1, 2, 3, 4, 5, 6, 7, 8, 9, 10, 11, 12] rfl rfl 0 rfl dX8_mustGo_16 rfl rfl (Nat.le_of_ble_eq_true rfl) ?_
    refine rh_if_le (tgt := 51) hX dX8_mustGo_19 (by decide) (fun h19 => ?_) (fun h19 => ?_)
    · skip
      refine rh_iconst hX dX8_mustGo_51 ki_0 ?_
      exact rh_zret hX hR dX8_mustGo_52 rfl (by simp only [List.map_cons, List.map_nil, List.cons_append, List.nil_append]) ⟨by first | (rw [mGo_1 h10]; rfl) | (rw [mGo_2 h19]; rfl) | (rw [mGo_3 h44]; rfl) | (rw [mGo_4 h10 h19 h44]; rfl), rfl⟩
    · skip
      refine rh_aload_n hX dX8_mustGo_22 rfl ?_
      refine rh_get hX gl_X8_27 0 dX8_mustGo_23 rfl rfl ?_
      refine rh_iload_n hX dX8_mustGo_26 rfl ?_
      refine rh_iaload hX 6 h dX8_mustGo_27 rfl rfl (by omega) (by decide) ?_
      refine rh_i2l hX dX8_mustGo_28 ?_
      refine rh_aload_n hX dX8_mustGo_29 rfl ?_
      refine rh_get hX gl_X8_239 0 dX8_mustGo_30 rfl rfl ?_
      refine rh_aload_n hX dX8_mustGo_33 rfl ?_
      refine rh_iload_n hX dX8_mustGo_34 rfl ?_
      refine rh_iload_n hX dX8_mustGo_35 rfl ?_
      refine rh_pV hX lk_X8_80 mvX8_sharesOf (fun l => c_X8_sharesOf l E _ _ _ _ _ _ _ _ _ _ _ _ _ _ _ _ _ _ _ _ _ _ _ _ _ _ _ _ _ _ _ _ _ _ _ _ _ _ h t (by omega) (by omega)) ⟨rfl, rfl⟩ ⟨Nat.le_of_ble_eq_true rfl, Nat.le_of_ble_eq_true rfl⟩ [0, 1, 2, 3, 4, 5, 6, 7, 8, 9, 10, 11, 12] rfl rfl 0 rfl dX8_mustGo_36 rfl rfl (Nat.le_of_ble_eq_true rfl) ?_
      refine rh_i2l hX dX8_mustGo_39 ?_
      refine rh_lmul hX dX8_mustGo_40 ?_
      refine rh_lload_n hX dX8_mustGo_41 rfl ?_
      refine rh_ldiv hX dX8_mustGo_42 (hal h19) ?_
      refine rh_lge (tgt := 51) hX dX8_mustGo_43 dX8_mustGo_44 (by decide) (fun h44 => ?_) (fun h44 => ?_)
      · skip
        refine rh_iconst hX dX8_mustGo_51 ki_0 ?_
        exact rh_zret hX hR dX8_mustGo_52 rfl (by simp only [List.map_cons, List.map_nil, List.cons_append, List.nil_append]) ⟨by first | (rw [mGo_1 h10]; rfl) | (rw [mGo_2 h19]; rfl) | (rw [mGo_3 h44]; rfl) | (rw [mGo_4 h10 h19 h44]; rfl), rfl⟩
      · skip
        refine rh_iconst hX dX8_mustGo_47 ki_1 ?_
        refine rh_goto (tgt := 52) hX dX8_mustGo_48 (by decide) ?_
        exact rh_zret hX hR dX8_mustGo_52 rfl (by simp only [List.map_cons, List.map_nil, List.cons_append, List.nil_append]) ⟨by first | (rw [mGo_1 h10]; rfl) | (rw [mGo_2 h19]; rfl) | (rw [mGo_3 h44]; rfl) | (rw [mGo_4 h10 h19 h44]; rfl), rfl⟩

set_option maxRecDepth 100000 in
set_option maxHeartbeats 4000000 in
theorem c_X8_plays (l : Launch) (E : rhE) (B : Nat → Nat) (u : Nat → Int32) (kp : Nat → Int32) (ik : Int32) (ps : Nat → Int32) (pm : Nat) (dd : Int32) (tx : Nat → Int32) (ty : Nat) (rw : Nat → Int64) (rm : Nat) (th : Int32) (sz : Nat) (he : Nat) (wr : Int32) (mn : Nat → Int32) (vl : Int32) (tp : Int32) (lt : Int32) (ra : Int32) (pf : Int32) (pt : Int32) (pl : Int32) (pd : Int64) (prc : Int64) (ns : Int64) (tu : Nat) (ba : Int64) (na : Int64) (ca : Nat → Int64) (bo : Nat → Int32) (tr : Nat → Int64) (tH : Int32) (asd : Nat → Int32) (pa : Nat → Int64) (tg : Nat → Int64) (sd : Int64) (sr : Int64) (dn : Int32) (T : Nat) (hM : mOk u T) (hdv : ∀ t h, 1 ≤ t → t < T → h < 8 → ¬ (pH mn pd dn t (cAllHeld (fm (pT mn pd dn (u, tr, (0 : Int32)) t).1) t) ((pT mn pd dn (u, tr, (0 : Int32)) t).1, va_up (pT mn pd dn (u, tr, (0 : Int32)) t).2.1 t 0, (pT mn pd dn (u, tr, (0 : Int32)) t).2.2) h).1 (6 * h + t) ≤ 0 → ¬ (cAllHeld (fm (pT mn pd dn (u, tr, (0 : Int32)) t).1) t) = 0) : Ctr l E yX8_plays cX8_plays 6 none (rmL 2) [.ref (B 0), .int dn] (wM E B u kp ik ps pm dd tx ty rw rm th sz he wr mn vl tp lt ra pf pt pl pd prc ns tu ba na ca bo tr tH asd pa tg sd sr) (One none (wM E B (pT mn pd dn (u, tr, (0 : Int32)) T).1 kp ik ps pm dd tx ty rw rm th sz he wr mn vl tp lt ra pf pt pl pd prc ns tu ba na ca bo (pT mn pd dn (u, tr, (0 : Int32)) T).2.1 (pT mn pd dn (u, tr, (0 : Int32)) T).2.2 asd pa tg sd sr)) := by
  refine Ctr.of (by decide) (Nat.le_of_ble_eq_true rfl) rfl rfl 4 ?_
  intro X hX hR
  obtain ⟨hT, hT1, hT6, hcv⟩ := id hM
  refine rh_aload_n hX dX8_plays_0 rfl ?_
  refine rh_iconst hX dX8_plays_1 ki_0 ?_
  refine rh_put hX gl_X8_245 0 dX8_plays_2 rfl rfl rfl (Nat.le_of_ble_eq_true rfl) rfl ?_
  dsimp only [List.cons_append, List.nil_append, List.set_cons_succ, List.set_cons_zero, vput]
  refine rh_iconst hX dX8_plays_5 ki_1 ?_
  refine rh_istn2 hX dX8_plays_6 (by decide) rfl ?_
  suffices hP0 : G X 7 [some (.ref (B 0)), some (.int dn), some (.int 1), none, none, none] [] (wM E B (pT mn pd dn (u, tr, (0 : Int32)) 1).1 kp ik ps pm dd tx ty rw rm th sz he wr mn vl tp lt ra pf pt pl pd prc ns tu ba na ca bo (pT mn pd dn (u, tr, (0 : Int32)) 1).2.1 (pT mn pd dn (u, tr, (0 : Int32)) 1).2.2 asd pa tg sd sr) by rw [pT_1] at hP0; exact hP0
  refine rh_loop (P := fun t => G X 7 [some (.ref (B 0)), some (.int dn), some (.int (nI t)), none, none, none] [] (wM E B (pT mn pd dn (u, tr, (0 : Int32)) t).1 kp ik ps pm dd tx ty rw rm th sz he wr mn vl tp lt ra pf pt pl pd prc ns tu ba na ca bo (pT mn pd dn (u, tr, (0 : Int32)) t).2.1 (pT mn pd dn (u, tr, (0 : Int32)) t).2.2 asd pa tg sd sr)) (1) (T) (by omega) ?_ ?_
  · skip
    have hMt := mOk_pT (mn := mn) (pd := pd) (dn := dn) (s := (u, tr, (0 : Int32))) hM T hT6
    refine rh_iload_n hX dX8_plays_7 rfl ?_
    refine rh_aload_n hX dX8_plays_8 rfl ?_
    refine rh_get hX gl_X8_7 0 dX8_plays_9 rfl rfl ?_
    refine rh_bipush hX dX8_plays_12 kb_57 ?_
    refine rh_iaload hX 1 _ dX8_plays_14 rfl rn_c57 (by omega) (by decide) ?_
    refine rh_icmp_ge_t (tgt := 140) hX dX8_plays_15 (by decide) (by rw [hMt.1]; exact nI_le (Nat.le_refl T) (by omega)) ?_
    exact rh_vret hX hR dX8_plays_140 (by simp only [List.map_cons, List.map_nil, List.cons_append, List.nil_append]) ⟨rfl, rfl⟩
  · intro t ht0 ht iht
    have hMt := mOk_pT (mn := mn) (pd := pd) (dn := dn) (s := (u, tr, (0 : Int32))) hM t (by omega)
    refine rh_iload_n hX dX8_plays_7 rfl ?_
    refine rh_aload_n hX dX8_plays_8 rfl ?_
    refine rh_get hX gl_X8_7 0 dX8_plays_9 rfl rfl ?_
    refine rh_bipush hX dX8_plays_12 kb_57 ?_
    refine rh_iaload hX 1 _ dX8_plays_14 rfl rn_c57 (by omega) (by decide) ?_
    refine rh_icmp_ge_f (tgt := 140) hX dX8_plays_15 (by decide) (by rw [hMt.1]; exact nI_ge ht (by omega)) ?_
    refine rh_aload_n hX dX8_plays_18 rfl ?_
    refine rh_get hX gl_X8_36 0 dX8_plays_19 rfl rfl ?_
    refine rh_iload_n hX dX8_plays_22 rfl ?_
    refine rh_lconst hX dX8_plays_23 kL_0 ?_
    refine rh_lastore hX 9 _ dX8_plays_24 rfl rfl (by omega) (by decide) rfl ?_
    dsimp only [List.cons_append, List.nil_append, List.set_cons_succ, List.set_cons_zero, vput]
    refine rh_aload_n hX dX8_plays_25 rfl ?_
    refine rh_iload_n hX dX8_plays_26 rfl ?_
    refine rh_pV hX lk_X8_154 mvX8_allShares (fun l => c_X8_allShares l E _ _ _ _ _ _ _ _ _ _ _ _ _ _ _ _ _ _ _ _ _ _ _ _ _ _ _ _ _ _ _ _ _ _ _ _ _ _ t (by omega)) ⟨rfl, rfl⟩ ⟨Nat.le_of_ble_eq_true rfl, Nat.le_of_ble_eq_true rfl⟩ [0, 1, 2, 3, 4, 5, 6, 7, 8, 9, 10, 11, 12] rfl rfl 0 rfl dX8_plays_27 rfl rfl (Nat.le_of_ble_eq_true rfl) ?_
    refine rh_lstn3 hX dX8_plays_30 (by decide) rfl ?_
    refine rh_iconst hX dX8_plays_31 ki_0 ?_
    refine rh_ist5 hX dX8_plays_32 (by decide) rfl ?_
    suffices hP1 : G X 34 [some (.ref (B 0)), some (.int dn), some (.int (nI t)), some (.long (cAllHeld (fm (pT mn pd dn (u, tr, (0 : Int32)) t).1) t)), none, some (.int 0)] [] (wM E B (pH mn pd dn t (cAllHeld (fm (pT mn pd dn (u, tr, (0 : Int32)) t).1) t) ((pT mn pd dn (u, tr, (0 : Int32)) t).1, va_up (pT mn pd dn (u, tr, (0 : Int32)) t).2.1 t 0, (pT mn pd dn (u, tr, (0 : Int32)) t).2.2) 0).1 kp ik ps pm dd tx ty rw rm th sz he wr mn vl tp lt ra pf pt pl pd prc ns tu ba na ca bo (pH mn pd dn t (cAllHeld (fm (pT mn pd dn (u, tr, (0 : Int32)) t).1) t) ((pT mn pd dn (u, tr, (0 : Int32)) t).1, va_up (pT mn pd dn (u, tr, (0 : Int32)) t).2.1 t 0, (pT mn pd dn (u, tr, (0 : Int32)) t).2.2) 0).2.1 (pH mn pd dn t (cAllHeld (fm (pT mn pd dn (u, tr, (0 : Int32)) t).1) t) ((pT mn pd dn (u, tr, (0 : Int32)) t).1, va_up (pT mn pd dn (u, tr, (0 : Int32)) t).2.1 t 0, (pT mn pd dn (u, tr, (0 : Int32)) t).2.2) 0).2.2 asd pa tg sd sr) by rw [pH_0] at hP1; exact hP1
    refine rh_loop (P := fun h => G X 34 [some (.ref (B 0)), some (.int dn), some (.int (nI t)), some (.long (cAllHeld (fm (pT mn pd dn (u, tr, (0 : Int32)) t).1) t)), none, some (.int (nI h))] [] (wM E B (pH mn pd dn t (cAllHeld (fm (pT mn pd dn (u, tr, (0 : Int32)) t).1) t) ((pT mn pd dn (u, tr, (0 : Int32)) t).1, va_up (pT mn pd dn (u, tr, (0 : Int32)) t).2.1 t 0, (pT mn pd dn (u, tr, (0 : Int32)) t).2.2) h).1 kp ik ps pm dd tx ty rw rm th sz he wr mn vl tp lt ra pf pt pl pd prc ns tu ba na ca bo (pH mn pd dn t (cAllHeld (fm (pT mn pd dn (u, tr, (0 : Int32)) t).1) t) ((pT mn pd dn (u, tr, (0 : Int32)) t).1, va_up (pT mn pd dn (u, tr, (0 : Int32)) t).2.1 t 0, (pT mn pd dn (u, tr, (0 : Int32)) t).2.2) h).2.1 (pH mn pd dn t (cAllHeld (fm (pT mn pd dn (u, tr, (0 : Int32)) t).1) t) ((pT mn pd dn (u, tr, (0 : Int32)) t).1, va_up (pT mn pd dn (u, tr, (0 : Int32)) t).2.1 t 0, (pT mn pd dn (u, tr, (0 : Int32)) t).2.2) h).2.2 asd pa tg sd sr)) (0) (8) (by omega) ?_ ?_
    · skip
      refine rh_iload hX dX8_plays_34 rfl ?_
      refine rh_bipush hX dX8_plays_36 kb_8 ?_
      refine rh_icmp_ge_t (tgt := 134) hX dX8_plays_38 (by decide) (nI_le (a := 8) (b := 8) (Nat.le_refl 8) (by decide)) ?_
      refine rh_inc2 hX dX8_plays_134 (by decide) rfl (rn_i1 _) ?_
      refine rh_goto (tgt := 7) hX dX8_plays_137 (by decide) ?_
      rw [pT_s _ _ _ _ ht0] at iht
      exact rh_wk (by exact ⟨rfl, rfl, rfl, trivial⟩) iht
    · intro h hh0 hh ihh
      have hMh := mOk_pH (mn := mn) (pd := pd) (dn := dn) (t := t) (all := (cAllHeld (fm (pT mn pd dn (u, tr, (0 : Int32)) t).1) t)) (s := ((pT mn pd dn (u, tr, (0 : Int32)) t).1, va_up (pT mn pd dn (u, tr, (0 : Int32)) t).2.1 t 0, (pT mn pd dn (u, tr, (0 : Int32)) t).2.2)) hMt (by omega) h (by omega)
      obtain ⟨S9, hS9⟩ : ∃ S9 : PL, S9 = (pH mn pd dn t (cAllHeld (fm (pT mn pd dn (u, tr, (0 : Int32)) t).1) t) ((pT mn pd dn (u, tr, (0 : Int32)) t).1, va_up (pT mn pd dn (u, tr, (0 : Int32)) t).2.1 t 0, (pT mn pd dn (u, tr, (0 : Int32)) t).2.2) h) := ⟨_, rfl⟩
      have hdv9 := hdv t h ht0 ht hh
      rw [← hS9] at hMh hdv9 ⊢
      rw [pH_s, ← hS9] at ihh
      refine rh_iload hX dX8_plays_34 rfl ?_
      refine rh_bipush hX dX8_plays_36 kb_8 ?_
      refine rh_icmp_ge_f (tgt := 134) hX dX8_plays_38 (by decide) (nI_ge (b := 8) hh (by decide)) ?_
      refine rh_aload_n hX dX8_plays_41 rfl ?_
      refine rh_iload hX dX8_plays_42 rfl ?_
      refine rh_iload_n hX dX8_plays_44 rfl ?_
      refine rh_lload_n hX dX8_plays_45 rfl ?_
      refine rh_pV hX lk_X8_248 mvX8_mustGo (fun l => c_X8_mustGo l E _ _ _ _ _ _ _ _ _ _ _ _ _ _ _ _ _ _ _ _ _ _ _ _ _ _ _ _ _ _ _ _ _ _ _ _ _ _ h t _ (by omega) (by omega) hdv9) ⟨rfl, rfl⟩ ⟨Nat.le_of_ble_eq_true rfl, Nat.le_of_ble_eq_true rfl⟩ [0, 1, 2, 3, 4, 5, 6, 7, 8, 9, 10, 11, 12] rfl rfl 0 rfl dX8_plays_46 rfl rfl (Nat.le_of_ble_eq_true rfl) ?_
      refine rh_if_ne (tgt := 55) hX dX8_plays_49 (by decide) (fun h49 => ?_) (fun h49 => ?_)
      · skip
        have h49 : mGo S9.1 mn pd h t (cAllHeld (fm (pT mn pd dn (u, tr, (0 : Int32)) t).1) t) = true := Classical.not_not.mp (fun q => h49 (if_neg q))
        refine rh_aload_n hX dX8_plays_55 rfl ?_
        refine rh_dup hX dX8_plays_56 rfl ?_
        refine rh_get hX gl_X8_245 0 dX8_plays_57 rfl rfl ?_
        refine rh_iconst hX dX8_plays_60 ki_1 ?_
        refine rh_iload hX dX8_plays_61 rfl ?_
        refine rh_ishl hX dX8_plays_63 ?_
        refine rh_ior hX dX8_plays_64 ?_
        refine rh_put hX gl_X8_245 0 dX8_plays_65 rfl rfl rfl (Nat.le_of_ble_eq_true rfl) rfl ?_
        dsimp only [List.cons_append, List.nil_append, List.set_cons_succ, List.set_cons_zero, vput]
        refine rh_aload_n hX dX8_plays_68 rfl ?_
        refine rh_get hX gl_X8_36 0 dX8_plays_69 rfl rfl ?_
        refine rh_iload_n hX dX8_plays_72 rfl ?_
        refine rh_dup2 hX dX8_plays_73 rfl rfl ?_
        refine rh_laload hX 9 t dX8_plays_74 rfl rfl (by omega) (by decide) ?_
        refine rh_aload_n hX dX8_plays_75 rfl ?_
        refine rh_iload hX dX8_plays_76 rfl ?_
        refine rh_iload_n hX dX8_plays_78 rfl ?_
        refine rh_pV hX lk_X8_80 mvX8_sharesOf (fun l => c_X8_sharesOf l E _ _ _ _ _ _ _ _ _ _ _ _ _ _ _ _ _ _ _ _ _ _ _ _ _ _ _ _ _ _ _ _ _ _ _ _ _ _ h t (by omega) (by omega)) ⟨rfl, rfl⟩ ⟨Nat.le_of_ble_eq_true rfl, Nat.le_of_ble_eq_true rfl⟩ [0, 1, 2, 3, 4, 5, 6, 7, 8, 9, 10, 11, 12] rfl rfl 0 rfl dX8_plays_79 rfl rfl (Nat.le_of_ble_eq_true rfl) ?_
        refine rh_i2l hX dX8_plays_82 ?_
        refine rh_ladd hX dX8_plays_83 ?_
        refine rh_lastore hX 9 t dX8_plays_84 rfl rfl (by omega) (by decide) rfl ?_
        dsimp only [List.cons_append, List.nil_append, List.set_cons_succ, List.set_cons_zero, vput]
        refine rh_iload_n hX dX8_plays_85 rfl ?_
        refine rh_if_ne (tgt := 92) hX dX8_plays_86 (by decide) (fun h86 => ?_) (fun h86 => ?_)
        · skip
          refine rh_aload_n hX dX8_plays_92 rfl ?_
          refine rh_iload hX dX8_plays_93 rfl ?_
          refine rh_iconst hX dX8_plays_95 ki_0 ?_
          refine rh_aload_n hX dX8_plays_96 rfl ?_
          refine rh_iload hX dX8_plays_97 rfl ?_
          refine rh_iconst hX dX8_plays_99 ki_0 ?_
          refine rh_pV hX lk_X8_80 mvX8_sharesOf (fun l => c_X8_sharesOf l E _ _ _ _ _ _ _ _ _ _ _ _ _ _ _ _ _ _ _ _ _ _ _ _ _ _ _ _ _ _ _ _ _ _ _ _ _ _ h 0 (by omega) (by omega)) ⟨rfl, rfl⟩ ⟨Nat.le_of_ble_eq_true rfl, Nat.le_of_ble_eq_true rfl⟩ [0, 1, 2, 3, 4, 5, 6, 7, 8, 9, 10, 11, 12] rfl rfl 0 rfl dX8_plays_100 rfl rfl (Nat.le_of_ble_eq_true rfl) ?_
          refine rh_aload_n hX dX8_plays_103 rfl ?_
          refine rh_aload_n hX dX8_plays_104 rfl ?_
          refine rh_iload hX dX8_plays_105 rfl ?_
          refine rh_iload_n hX dX8_plays_107 rfl ?_
          refine rh_pV hX lk_X8_80 mvX8_sharesOf (fun l => c_X8_sharesOf l E _ _ _ _ _ _ _ _ _ _ _ _ _ _ _ _ _ _ _ _ _ _ _ _ _ _ _ _ _ _ _ _ _ _ _ _ _ _ h t (by omega) (by omega)) ⟨rfl, rfl⟩ ⟨Nat.le_of_ble_eq_true rfl, Nat.le_of_ble_eq_true rfl⟩ [0, 1, 2, 3, 4, 5, 6, 7, 8, 9, 10, 11, 12] rfl rfl 0 rfl dX8_plays_108 rfl rfl (Nat.le_of_ble_eq_true rfl) ?_
          refine rh_iload_n hX dX8_plays_111 rfl ?_
          refine rh_pV hX lk_X8_84 mvX8_converted (fun l => c_X8_converted l E _ _ _ _ _ _ _ _ _ _ _ _ _ _ _ _ _ _ _ _ _ _ _ _ _ _ _ _ _ _ _ _ _ _ _ _ _ _ _ t (by omega) (fun q => hMh.2.2.2 t q (by omega))) ⟨rfl, rfl⟩ ⟨Nat.le_of_ble_eq_true rfl, Nat.le_of_ble_eq_true rfl⟩ [0, 1, 2, 3, 4, 5, 6, 7, 8, 9, 10, 11, 12] rfl rfl 0 rfl dX8_plays_112 rfl rfl (Nat.le_of_ble_eq_true rfl) ?_
          refine rh_l2i hX dX8_plays_115 ?_
          refine rh_iadd hX dX8_plays_116 ?_
          refine rh_uV hX lk_X8_136 mvX8_has (fun l => c_X8_has l E _ _ _ _ _ _ _ _ _ _ _ _ _ _ _ _ _ _ _ _ _ _ _ _ _ _ _ _ _ _ _ _ _ _ _ _ _ _ h 0 _ (by omega) (by omega)) ⟨rfl, rfl⟩ ⟨Nat.le_of_ble_eq_true rfl, Nat.le_of_ble_eq_true rfl⟩ [0, 1, 2, 3, 4, 5, 6, 7, 8, 9, 10, 11, 12] rfl rfl 0 rfl dX8_plays_117 rfl rfl (Nat.le_of_ble_eq_true rfl) rfl ?_
          dsimp only [List.cons_append, List.nil_append, List.set_cons_succ, List.set_cons_zero, vput]
          refine rh_aload_n hX dX8_plays_120 rfl ?_
          refine rh_iload hX dX8_plays_121 rfl ?_
          refine rh_iload_n hX dX8_plays_123 rfl ?_
          refine rh_iconst hX dX8_plays_124 ki_0 ?_
          refine rh_uV hX lk_X8_136 mvX8_has (fun l => c_X8_has l E _ _ _ _ _ _ _ _ _ _ _ _ _ _ _ _ _ _ _ _ _ _ _ _ _ _ _ _ _ _ _ _ _ _ _ _ _ _ h t _ (by omega) (by omega)) ⟨rfl, rfl⟩ ⟨Nat.le_of_ble_eq_true rfl, Nat.le_of_ble_eq_true rfl⟩ [0, 1, 2, 3, 4, 5, 6, 7, 8, 9, 10, 11, 12] rfl rfl 0 rfl dX8_plays_125 rfl rfl (Nat.le_of_ble_eq_true rfl) rfl ?_
          dsimp only [List.cons_append, List.nil_append, List.set_cons_succ, List.set_cons_zero, vput]
          refine rh_inc5 hX dX8_plays_128 (by decide) rfl (rn_i1 _) ?_
          refine rh_goto (tgt := 34) hX dX8_plays_131 (by decide) ?_
          first | (rw [pGo, if_neg h49] at ihh; exact ihh) | (rw [pGo, if_pos h49, if_pos h86] at ihh; exact ihh) | (rw [pGo, if_pos h49, if_neg h86] at ihh; exact ihh)
        · skip
          refine rh_goto (tgt := 128) hX dX8_plays_89 (by decide) ?_
          refine rh_inc5 hX dX8_plays_128 (by decide) rfl (rn_i1 _) ?_
          refine rh_goto (tgt := 34) hX dX8_plays_131 (by decide) ?_
          first | (rw [pGo, if_neg h49] at ihh; exact ihh) | (rw [pGo, if_pos h49, if_pos h86] at ihh; exact ihh) | (rw [pGo, if_pos h49, if_neg h86] at ihh; exact ihh)
      · skip
        have h49 : ¬ mGo S9.1 mn pd h t (cAllHeld (fm (pT mn pd dn (u, tr, (0 : Int32)) t).1) t) = true := fun q => by rw [if_pos q] at h49; exact absurd h49 (by decide)
        refine rh_goto (tgt := 128) hX dX8_plays_52 (by decide) ?_
        refine rh_inc5 hX dX8_plays_128 (by decide) rfl (rn_i1 _) ?_
        refine rh_goto (tgt := 34) hX dX8_plays_131 (by decide) ?_
        first | (rw [pGo, if_neg h49] at ihh; exact ihh) | (rw [pGo, if_pos h49, if_pos h86] at ihh; exact ihh) | (rw [pGo, if_pos h49, if_neg h86] at ihh; exact ihh)
