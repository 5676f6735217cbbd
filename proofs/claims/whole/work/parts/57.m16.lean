/-- how many ones a set of 8 has -/
def onesN (k : Nat) : Nat := if h : k = 0 then 0 else onesN (k &&& (k - 1)) + 1
termination_by k
decreasing_by exact Nat.lt_of_le_of_lt Nat.and_le_right (by omega)
theorem onesN_0 : onesN 0 = 0 := by rw [onesN]; rfl
theorem onesN_s {k : Nat} (h : ¬ k = 0) : onesN k = onesN (k &&& (k - 1)) + 1 := by rw [onesN, dif_neg h]
theorem and_pred_lt {k : Nat} (h : ¬ k = 0) : k &&& (k - 1) < k := Nat.lt_of_le_of_lt Nat.and_le_right (by omega)
theorem nI_and {k : Nat} (h : k < 256) : nI k &&& (nI k - 1) = nI (k &&& (k - 1)) := by
  have e : ∀ j : Fin 256, nI j.1 &&& (nI j.1 - 1) = nI (j.1 &&& (j.1 - 1)) := by decide +kernel
  exact e ⟨k, h⟩

set_option maxRecDepth 100000 in
set_option maxHeartbeats 4000000 in
theorem c_X8_ones (l : Launch) (E : rhE) (s : Nat) (hs : s < 256) : Ctr l E yX8_ones cX8_ones 3 (some .int) (rmL 0) [.int (nI s)] [] (One (some (.int (nI (onesN s)))) []) := by
  refine Ctr.of (by decide) (Nat.le_of_ble_eq_true rfl) rfl rfl 2 ?_
  intro X hX hR
  refine rh_iconst hX dX8_ones_0 ki_0 ?_
  refine rh_istn1 hX dX8_ones_1 (by decide) rfl ?_
  refine rh_iload_n hX dX8_ones_2 rfl ?_
  refine rh_istn2 hX dX8_ones_3 (by decide) rfl ?_
  refine (rh_loop (P := fun i => ∀ (k n : Nat), (k < 256 - i ∧ n + onesN k = onesN s) → G X 4 [some (.int (nI s)), some (.int (nI n)), some (.int (nI k))] [] []) (0) (256) (by omega) ?_ ?_) s 0 ⟨by omega, by omega⟩
  · intro k n hH
    exact absurd hH.1 (by omega)
  · intro i hi0 hi ih k n hH
    refine rh_iload_n hX dX8_ones_4 rfl ?_
    refine rh_if_eq (tgt := 20) hX dX8_ones_5 (by decide) (fun h5 => ?_) (fun h5 => ?_)
    · skip
      have h5 : k = 0 := nI_z h5 (by omega)
      refine rh_iload_n hX dX8_ones_20 rfl ?_
      exact rh_iret hX hR dX8_ones_21 (by simp only [List.map_cons, List.map_nil, List.cons_append, List.nil_append]) ⟨by rw [← hH.2, h5, onesN_0]; rfl, rfl⟩
    · skip
      have h5 : ¬ k = 0 := fun q => h5 (by rw [q]; rfl)
      refine rh_inc1 hX dX8_ones_8 (by decide) rfl (rn_i1 _) ?_
      refine rh_iload_n hX dX8_ones_11 rfl ?_
      refine rh_iload_n hX dX8_ones_12 rfl ?_
      refine rh_iconst hX dX8_ones_13 ki_1 ?_
      refine rh_isub hX dX8_ones_14 ?_
      refine rh_iand hX dX8_ones_15 ?_
      rw [nI_and (by omega)]
      refine rh_istn2 hX dX8_ones_16 (by decide) rfl ?_
      refine rh_goto (tgt := 4) hX dX8_ones_17 (by decide) ?_
      exact ih _ _ ⟨Nat.lt_of_lt_of_le (and_pred_lt h5) (by omega), by have := onesN_s h5; omega⟩

/-- which of the classes 1 to 5 a set has -/
def bitCt (set : Int32) : Nat := (if sBit set 1 = 1 then 1 else 0) + (if sBit set 2 = 1 then 1 else 0) + (if sBit set 3 = 1 then 1 else 0) + (if sBit set 4 = 1 then 1 else 0) + (if sBit set 5 = 1 then 1 else 0)
theorem bitCt_or {set : Int32} {t : Nat} (h1 : 1 ≤ t) (h5 : t ≤ 5) (h : ¬ sBit set t = 1) : bitCt (set ||| sOne t) = bitCt set + 1 := by
  unfold bitCt
  have e : ∀ c, c < 8 → ((if sBit (set ||| sOne t) c = 1 then 1 else 0 : Nat) = if c = t then 1 else (if sBit set c = 1 then 1 else 0)) := by
    intro c hc
    by_cases q : c = t
    · rw [if_pos ((sBit_or set (by omega) hc).mpr (Or.inr q)), if_pos q]
    · rw [if_neg q]
      by_cases b : sBit set c = 1
      · rw [if_pos b, if_pos ((sBit_or set (by omega) hc).mpr (Or.inl b))]
      · rw [if_neg b, if_neg (fun z => ((sBit_or set (by omega) hc).mp z).elim b q)]
  rw [e 1 (by omega), e 2 (by omega), e 3 (by omega), e 4 (by omega), e 5 (by omega)]
  match t, h1, h5 with
  | 1, _, _ => simp [h]; omega
  | 2, _, _ => simp [h]; omega
  | 3, _, _ => simp [h]; omega
  | 4, _, _ => simp [h]; omega
  | 5, _, _ => simp [h]
theorem bitCt_le {set : Int32} {t : Nat} (h1 : 1 ≤ t) (h5 : t ≤ 5) (h : ¬ sBit set t = 1) : bitCt set ≤ 4 := by
  unfold bitCt
  have b (c : Nat) : (if sBit set c = 1 then 1 else 0 : Nat) ≤ 1 := by split <;> omega
  have b1 := b 1
  have b2 := b 2
  have b3 := b 3
  have b4 := b 4
  have b5 := b 5
  match t, h1, h5 with
  | 1, _, _ => rw [if_neg h]; omega
  | 2, _, _ => rw [if_neg h]; omega
  | 3, _, _ => rw [if_neg h]; omega
  | 4, _, _ => rw [if_neg h]; omega
  | 5, _, _ => rw [if_neg h]; omega
abbrev sRa (f : Nat → Int64) (T : Nat) (s : Int64) (set : Int32) (c : Nat) : Bool := sRather (cDue f) (cAllConv f) (cAllGranted f) (cTypesWith f 4 T) set s T c
abbrev sIt (f : Nat → Int64) (T : Nat) (s : Int64) (k : Nat) (set : Int32) : Int32 := sIter (cDue f) (cAllConv f) (cAllGranted f) (cTypesWith f 4 T) s T k set
abbrev sGt (f : Nat → Int64) (T : Nat) (s : Int64) (set : Int32) (c : Nat) : Int64 := sGets (cDue f) (cAllConv f) (cAllGranted f) (cTypesWith f 4 T) set s T c
theorem sRa_bit {f : Nat → Int64} {T : Nat} {s : Int64} {set : Int32} {c : Nat} (hc : c < 8) (h : sBit (cTypesWith f 4 T) c = 1 ∨ sBit set c = 1) : sRa f T s set c = false := by
  unfold sRa sRather
  rw [decide_eq_false (fun q => (sOne_and _ hc).mp q ((sBit_or2 _ _ hc).mpr h))]
  rfl
theorem sRa_le {f : Nat → Int64} {T : Nat} {s : Int64} {set : Int32} {c : Nat} (h : sGt f T s (set ||| sOne c) c ≤ sGt f T s set c) : sRa f T s set c = false := by
  unfold sGt at h
  unfold sRa sRather
  rw [decide_eq_false (p := sGets _ _ _ _ _ _ _ _ < _) (fun q => by rw [z_lt] at q; rw [z_le] at h; omega), Bool.and_false]
theorem sRa_t {f : Nat → Int64} {T : Nat} {s : Int64} {set : Int32} {c : Nat} (hc : c < 8) (h1 : ¬ sBit (cTypesWith f 4 T) c = 1) (h2 : ¬ sBit set c = 1) (h : ¬ sGt f T s (set ||| sOne c) c ≤ sGt f T s set c) : sRa f T s set c = true := by
  unfold sGt at h
  unfold sRa sRather
  rw [decide_eq_true ((sOne_and _ hc).mpr (fun q => ((sBit_or2 _ _ hc).mp q).elim h1 h2)), decide_eq_true (p := sGets _ _ _ _ _ _ _ _ < _) (by rw [z_lt]; rw [z_le] at h; omega)]
  rfl
theorem sIt_end {f : Nat → Int64} {T : Nat} {s : Int64} {set : Int32} {k : Nat} (h1 : 1 ≤ T) (hk : 1 ≤ k) (h : ∀ c, 1 ≤ c → c < T → sRa f T s set c = false) : sIt f T s k set = set := by
  obtain ⟨k, rfl⟩ : ∃ j, k = j + 1 := ⟨k - 1, by omega⟩
  have e : sNext (cDue f) (cAllConv f) (cAllGranted f) (cTypesWith f 4 T) set s T = 0 := by
    unfold sNext
    rw [firstFrom_to _ (T - 1) T h1 (by omega) h, show T - 1 + 1 - T = 0 by omega]
    rfl
  unfold sIt
  rw [sIter, if_pos e]
theorem sIt_go {f : Nat → Int64} {T : Nat} {s : Int64} {set : Int32} {k t : Nat} (h1 : 1 ≤ t) (ht : t < T) (hk : 1 ≤ k) (h : ∀ c, 1 ≤ c → c < t → sRa f T s set c = false) (hr : sRa f T s set t = true) : sIt f T s k set = sIt f T s (k - 1) (set ||| sOne t) := by
  obtain ⟨k, rfl⟩ : ∃ j, k = j + 1 := ⟨k - 1, by omega⟩
  have e : sNext (cDue f) (cAllConv f) (cAllGranted f) (cTypesWith f 4 T) set s T = t := by
    unfold sNext
    rw [firstFrom_to _ (T - 1) t h1 (by omega) h, show T - 1 + 1 - t = (T - 1 - t) + 1 by omega, firstFrom]
    rw [if_pos hr]
  unfold sIt
  rw [sIter, if_neg (by rw [e]; omega), e]
  rfl
/-- the loop's state in converting: k joins are left, none of the classes ahead of t would rather -/
def cvI (u : Nat → Int32) (T : Nat) (s : Int64) (i k : Nat) (set : Int32) (t : Nat) : Prop := 8 * k + (T - t) < 100 - i ∧ 1 ≤ t ∧ t ≤ T ∧ 6 ≤ k + bitCt set ∧ 1 ≤ k ∧ sIt (fm u) T s k set = xQ (fm u) T s ∧ ∀ c, 1 ≤ c → c < t → sRa (fm u) T s set c = false
theorem cvI_n {u : Nat → Int32} {T : Nat} {s : Int64} {i k : Nat} {set : Int32} {t : Nat} (h : cvI u T s i k set t) (ht : t < T) (hr : sRa (fm u) T s set t = false) : cvI u T s (i + 1) k set (t + 1) := by
  obtain ⟨h1, h2, h3, h4, h5, h6, h7⟩ := h
  refine ⟨by omega, by omega, by omega, h4, h5, h6, fun c a b => ?_⟩
  by_cases e : c = t
  · rw [e]; exact hr
  · exact h7 c a (by omega)
theorem cvI_g {u : Nat → Int32} {T : Nat} {s : Int64} {i k : Nat} {set : Int32} {t : Nat} (h : cvI u T s i k set t) (ht : t < T) (hT : T ≤ 6) (hb : ¬ sBit set t = 1) (hr : sRa (fm u) T s set t = true) : cvI u T s (i + 1) (k - 1) (set ||| sOne t) 1 := by
  obtain ⟨h1, h2, h3, h4, h5, h6, h7⟩ := h
  have b1 := bitCt_le h2 (by omega) hb
  have b2 := bitCt_or h2 (by omega) hb
  refine ⟨by omega, by omega, by omega, by omega, by omega, ?_, fun c a b => absurd b (by omega)⟩
  rw [← h6, sIt_go h2 ht h5 h7 hr]

set_option maxRecDepth 100000 in
set_option maxHeartbeats 4000000 in
theorem c_X8_converting (l : Launch) (E : rhE) (B : Nat → Nat) (u : Nat → Int32) (kp : Nat → Int32) (ik : Int32) (ps : Nat → Int32) (pm : Nat) (dd : Int32) (tx : Nat → Int32) (ty : Nat) (rw : Nat → Int64) (rm : Nat) (th : Int32) (sz : Nat) (he : Nat) (wr : Int32) (mn : Nat → Int32) (vl : Int32) (tp : Int32) (lt : Int32) (ra : Int32) (pf : Int32) (pt : Int32) (pl : Int32) (pd : Int64) (prc : Int64) (ns : Int64) (tu : Nat) (ba : Int64) (na : Int64) (ca : Nat → Int64) (bo : Nat → Int32) (tr : Nat → Int64) (tH : Int32) (asd : Nat → Int32) (pa : Nat → Int64) (tg : Nat → Int64) (sd : Int64) (sr : Int64) (s : Int64) (T : Nat) (hI : mI u T)  : Ctr l E yX8_converting cX8_converting 9 (some .int) (rmL 4) [.ref (B 0), .long s] (wM E B u kp ik ps pm dd tx ty rw rm th sz he wr mn vl tp lt ra pf pt pl pd prc ns tu ba na ca bo tr tH asd pa tg sd sr) (fun r w => ∃ pa1 tg1, r = some (Value.int (xQ (fm u) T s)) ∧ (∀ t, t < T → pa1 t = xPF (fm u) T s t) ∧ (∀ t, t < T → tg1 t = xTG (fm u) T s t) ∧ w = (wM E B u kp ik ps pm dd tx ty rw rm th sz he wr mn vl tp lt ra pf pt pl pd prc ns tu ba na ca bo tr tH asd pa1 tg1 (xL (fm u) T s) (xS (fm u) T s))) := by
  refine Ctr.of (by decide) (Nat.le_of_ble_eq_true rfl) rfl rfl 6 ?_
  intro X hX hR
  have hM := hI.ok
  obtain ⟨hT, hT1, hT6, hcv⟩ := id hM
  refine rh_iconst hX dX8_converting_0 ki_0 ?_
  refine rh_istn3 hX dX8_converting_1 (by decide) rfl ?_
  refine rh_iconst hX dX8_converting_2 ki_1 ?_
  refine rh_ist4 hX dX8_converting_3 (by decide) rfl ?_
  refine (rh_loop (P := fun i => ∀ (k : Nat) (set : Int32) (t : Nat) (pa tg : Nat → Int64) (sd sr : Int64), (cvI u T s i k set t) → G X 5 [some (.ref (B 0)), some (.long s), none, some (.int set), some (.int (nI t)), none, none, none, none] [] (wM E B u kp ik ps pm dd tx ty rw rm th sz he wr mn vl tp lt ra pf pt pl pd prc ns tu ba na ca bo tr tH asd pa tg sd sr)) (0) (100) (by omega) ?_ ?_) 6 0 1 pa tg sd sr ⟨by omega, by omega, by omega, by decide, by omega, rfl, fun c a b => absurd b (by omega)⟩
  · intro k set t pa tg sd sr hH
    exact absurd hH.1 (by omega)
  · intro i hi0 hi ih k set t pa tg sd sr hH
    refine rh_iload hX dX8_converting_5 rfl ?_
    refine rh_aload_n hX dX8_converting_7 rfl ?_
    refine rh_get hX gl_X8_7 0 dX8_converting_8 rfl rfl ?_
    refine rh_bipush hX dX8_converting_11 kb_57 ?_
    refine rh_iaload hX 1 _ dX8_converting_13 rfl rn_c57 (by omega) (by decide) ?_
    rw [hT]
    refine rh_icmp_ge (tgt := 136) hX dX8_converting_14 (by decide) (fun h14 => ?_) (fun h14 => ?_)
    · skip
      have h14 : T ≤ t := rn_leI h14 (by omega) (by have := hH.2.2.1; omega)
      have ht0 : t = T := by have := hH.2.2.1; omega
      refine rh_aload_n hX dX8_converting_136 rfl ?_
      refine rh_lload_n hX dX8_converting_137 rfl ?_
      refine rh_iload_n hX dX8_converting_138 rfl ?_
      refine rh_uV hX lk_X8_357 mvX8_pays (fun l => c_X8_pays l E _ _ _ _ _ _ _ _ _ _ _ _ _ _ _ _ _ _ _ _ _ _ _ _ _ _ _ _ _ _ _ _ _ _ _ _ _ _ s set T hM) ⟨rfl, rfl⟩ ⟨Nat.le_of_ble_eq_true rfl, Nat.le_of_ble_eq_true rfl⟩ [0, 1, 2, 3, 4, 5, 6, 7, 8, 9, 10, 11, 12] rfl rfl 0 rfl dX8_converting_139 rfl rfl (Nat.le_of_ble_eq_true rfl) rfl ?_
      dsimp only [List.cons_append, List.nil_append, List.set_cons_succ, List.set_cons_zero, vput]
      have hq : set = xQ (fm u) T s := by rw [← hH.2.2.2.2.2.1, sIt_end hT1 hH.2.2.2.2.1 (fun c a b => hH.2.2.2.2.2.2 c a (by omega))]
      rw [hq, mSr_x hI.r hT1 hT6]
      refine rh_iload_n hX dX8_converting_142 rfl ?_
      exact rh_iret hX hR dX8_converting_143 (by simp only [List.map_cons, List.map_nil, List.cons_append, List.nil_append]) ⟨_, _, rfl, fun t ht => mPa_x ht pa s, fun t ht => mTg_x hI.b hI.r ht hT6 pa tg s, rfl⟩
    · skip
      have h14 : t < T := rn_leN h14 (by omega) (by have := hH.2.2.1; omega)
      have ht1 := hH.2.1
      refine rh_aload_n hX dX8_converting_17 rfl ?_
      refine rh_lload_n hX dX8_converting_18 rfl ?_
      refine rh_iload_n hX dX8_converting_19 rfl ?_
      refine rh_uV hX lk_X8_357 mvX8_pays (fun l => c_X8_pays l E _ _ _ _ _ _ _ _ _ _ _ _ _ _ _ _ _ _ _ _ _ _ _ _ _ _ _ _ _ _ _ _ _ _ _ _ _ _ s set T hM) ⟨rfl, rfl⟩ ⟨Nat.le_of_ble_eq_true rfl, Nat.le_of_ble_eq_true rfl⟩ [0, 1, 2, 3, 4, 5, 6, 7, 8, 9, 10, 11, 12] rfl rfl 0 rfl dX8_converting_20 rfl rfl (Nat.le_of_ble_eq_true rfl) rfl ?_
      dsimp only [List.cons_append, List.nil_append, List.set_cons_succ, List.set_cons_zero, vput]
      refine rh_aload_n hX dX8_converting_23 rfl ?_
      refine rh_get hX gl_X8_45 0 dX8_converting_24 rfl rfl ?_
      refine rh_iload hX dX8_converting_27 rfl ?_
      refine rh_laload hX 12 t dX8_converting_29 rfl rfl (by omega) (by decide) ?_
      rw [mTg_s hI.b hI.r ht1 h14 hT6]
      refine rh_lst5 hX dX8_converting_30 (by decide) rfl ?_
      refine rh_iload_n hX dX8_converting_32 rfl ?_
      refine rh_iload hX dX8_converting_33 rfl ?_
      refine rh_ishr hX dX8_converting_35 ?_
      refine rh_iconst hX dX8_converting_36 ki_1 ?_
      refine rh_iand hX dX8_converting_37 ?_
      refine rh_if_ne (tgt := 58) hX dX8_converting_38 (by decide) (fun h38 => ?_) (fun h38 => ?_)
      · skip
        have hrf : sRa (fm u) T s set t = false := sRa_bit (by omega) (Or.inr ((sBit_01 set t).resolve_left h38))
        refine rh_iconst hX dX8_converting_58 ki_0 ?_
        refine rh_ist7 hX dX8_converting_59 (by decide) rfl ?_
        refine rh_iload hX dX8_converting_61 rfl ?_
        refine rh_if_eq_t (tgt := 77) hX dX8_converting_63 (by decide) rfl ?_
        refine rh_iload hX dX8_converting_77 rfl ?_
        refine rh_if_eq_t (tgt := 99) hX dX8_converting_79 (by decide) rfl ?_
        refine rh_iconst hX dX8_converting_99 ki_0 ?_
        refine rh_ist8 hX dX8_converting_100 (by decide) rfl ?_
        refine rh_iload_n hX dX8_converting_102 rfl ?_
        refine rh_iload hX dX8_converting_103 rfl ?_
        refine rh_if_eq_t (tgt := 115) hX dX8_converting_105 (by decide) rfl ?_
        refine rh_iconst hX dX8_converting_115 ki_0 ?_
        refine rh_ior hX dX8_converting_116 ?_
        refine rh_istn3 hX dX8_converting_117 (by decide) rfl ?_
        refine rh_iload hX dX8_converting_118 rfl ?_
        refine rh_if_eq_t (tgt := 127) hX dX8_converting_120 (by decide) rfl ?_
        refine rh_iload hX dX8_converting_127 rfl ?_
        refine rh_iconst hX dX8_converting_129 ki_1 ?_
        refine rh_iadd hX dX8_converting_130 ?_
        refine rh_ist4 hX dX8_converting_131 (by decide) rfl ?_
        refine rh_goto (tgt := 5) hX dX8_converting_133 (by decide) ?_
        first | (rw [Int32.or_zero, show nI t + 1 = nI (t + 1) from rn_add t 1]; exact rh_wk (lv' := [some (.ref (B 0)), some (.long s), none, some (.int set), some (.int (nI (t + 1))), none, none, none, none]) (by exact ⟨rfl, rfl, rfl, rfl, trivial⟩) (ih k set (t + 1) _ _ _ _ (cvI_n hH h14 hrf))) | exact rh_wk (lv' := [some (.ref (B 0)), some (.long s), none, some (.int (set ||| sOne t)), some (.int (nI 1)), none, none, none, none]) (by exact ⟨rfl, rfl, rfl, rfl, trivial⟩) (ih (k - 1) (set ||| sOne t) 1 _ _ _ _ (cvI_g hH h14 hT6 h38 hrt))
      · skip
        have h38 : ¬ sBit set t = 1 := fun q => absurd ((show sBit set t = 0 from h38).symm.trans q) (by decide)
        refine rh_aload_n hX dX8_converting_41 rfl ?_
        refine rh_get hX gl_X8_7 0 dX8_converting_42 rfl rfl ?_
        refine rh_bipush hX dX8_converting_45 kb_82 ?_
        refine rh_iload hX dX8_converting_47 rfl ?_
        refine rh_iadd hX dX8_converting_49 ?_
        refine rh_iaload hX 1 _ dX8_converting_50 rfl (rn_a rn_c82 rfl) (by omega) (by decide) ?_
        refine rh_if_ne (tgt := 58) hX dX8_converting_51 (by decide) (fun h51 => ?_) (fun h51 => ?_)
        · skip
          have hrf : sRa (fm u) T s set t = false := sRa_bit (by omega) (Or.inl ((sPt hI.r ht1 h14 hT6).mpr ((part_0 hI.r ht1 h14 hT6).mp h51)))
          refine rh_iconst hX dX8_converting_58 ki_0 ?_
          refine rh_ist7 hX dX8_converting_59 (by decide) rfl ?_
          refine rh_iload hX dX8_converting_61 rfl ?_
          refine rh_if_eq_t (tgt := 77) hX dX8_converting_63 (by decide) rfl ?_
          refine rh_iload hX dX8_converting_77 rfl ?_
          refine rh_if_eq_t (tgt := 99) hX dX8_converting_79 (by decide) rfl ?_
          refine rh_iconst hX dX8_converting_99 ki_0 ?_
          refine rh_ist8 hX dX8_converting_100 (by decide) rfl ?_
          refine rh_iload_n hX dX8_converting_102 rfl ?_
          refine rh_iload hX dX8_converting_103 rfl ?_
          refine rh_if_eq_t (tgt := 115) hX dX8_converting_105 (by decide) rfl ?_
          refine rh_iconst hX dX8_converting_115 ki_0 ?_
          refine rh_ior hX dX8_converting_116 ?_
          refine rh_istn3 hX dX8_converting_117 (by decide) rfl ?_
          refine rh_iload hX dX8_converting_118 rfl ?_
          refine rh_if_eq_t (tgt := 127) hX dX8_converting_120 (by decide) rfl ?_
          refine rh_iload hX dX8_converting_127 rfl ?_
          refine rh_iconst hX dX8_converting_129 ki_1 ?_
          refine rh_iadd hX dX8_converting_130 ?_
          refine rh_ist4 hX dX8_converting_131 (by decide) rfl ?_
          refine rh_goto (tgt := 5) hX dX8_converting_133 (by decide) ?_
          first | (rw [Int32.or_zero, show nI t + 1 = nI (t + 1) from rn_add t 1]; exact rh_wk (lv' := [some (.ref (B 0)), some (.long s), none, some (.int set), some (.int (nI (t + 1))), none, none, none, none]) (by exact ⟨rfl, rfl, rfl, rfl, trivial⟩) (ih k set (t + 1) _ _ _ _ (cvI_n hH h14 hrf))) | exact rh_wk (lv' := [some (.ref (B 0)), some (.long s), none, some (.int (set ||| sOne t)), some (.int (nI 1)), none, none, none, none]) (by exact ⟨rfl, rfl, rfl, rfl, trivial⟩) (ih (k - 1) (set ||| sOne t) 1 _ _ _ _ (cvI_g hH h14 hT6 h38 hrt))
        · skip
          have h51 : ¬ sBit (cTypesWith (fm u) 4 T) t = 1 := fun q => absurd (h51.symm.trans ((sPt hI.r ht1 h14 hT6).mp q)) (by decide)
          refine rh_iconst hX dX8_converting_54 ki_1 ?_
          refine rh_goto (tgt := 59) hX dX8_converting_55 (by decide) ?_
          refine rh_ist7 hX dX8_converting_59 (by decide) rfl ?_
          refine rh_iload hX dX8_converting_61 rfl ?_
          refine rh_if_eq_f (tgt := 77) hX dX8_converting_63 (by decide) (by decide) ?_
          refine rh_aload_n hX dX8_converting_66 rfl ?_
          refine rh_lload_n hX dX8_converting_67 rfl ?_
          refine rh_iload_n hX dX8_converting_68 rfl ?_
          refine rh_iconst hX dX8_converting_69 ki_1 ?_
          refine rh_iload hX dX8_converting_70 rfl ?_
          refine rh_ishl hX dX8_converting_72 ?_
          refine rh_ior hX dX8_converting_73 ?_
          refine rh_uV hX lk_X8_357 mvX8_pays (fun l => c_X8_pays l E _ _ _ _ _ _ _ _ _ _ _ _ _ _ _ _ _ _ _ _ _ _ _ _ _ _ _ _ _ _ _ _ _ _ _ _ _ _ s (set ||| sOne t) T hM) ⟨rfl, rfl⟩ ⟨Nat.le_of_ble_eq_true rfl, Nat.le_of_ble_eq_true rfl⟩ [0, 1, 2, 3, 4, 5, 6, 7, 8, 9, 10, 11, 12] rfl rfl 0 rfl dX8_converting_74 rfl rfl (Nat.le_of_ble_eq_true rfl) rfl ?_
          dsimp only [List.cons_append, List.nil_append, List.set_cons_succ, List.set_cons_zero, vput]
          refine rh_iload hX dX8_converting_77 rfl ?_
          refine rh_if_eq_f (tgt := 99) hX dX8_converting_79 (by decide) (by decide) ?_
          refine rh_aload_n hX dX8_converting_82 rfl ?_
          refine rh_get hX gl_X8_45 0 dX8_converting_83 rfl rfl ?_
          refine rh_iload hX dX8_converting_86 rfl ?_
          refine rh_laload hX 12 t dX8_converting_88 rfl rfl (by omega) (by decide) ?_
          rw [mTg_s hI.b hI.r ht1 h14 hT6]
          refine rh_lload hX dX8_converting_89 rfl ?_
          refine rh_lle (tgt := 99) hX dX8_converting_91 dX8_converting_92 (by decide) (fun h92 => ?_) (fun h92 => ?_)
          · skip
            have hrf : sRa (fm u) T s set t = false := sRa_le h92
            refine rh_iconst hX dX8_converting_99 ki_0 ?_
            refine rh_ist8 hX dX8_converting_100 (by decide) rfl ?_
            refine rh_iload_n hX dX8_converting_102 rfl ?_
            refine rh_iload hX dX8_converting_103 rfl ?_
            refine rh_if_eq_t (tgt := 115) hX dX8_converting_105 (by decide) rfl ?_
            refine rh_iconst hX dX8_converting_115 ki_0 ?_
            refine rh_ior hX dX8_converting_116 ?_
            refine rh_istn3 hX dX8_converting_117 (by decide) rfl ?_
            refine rh_iload hX dX8_converting_118 rfl ?_
            refine rh_if_eq_t (tgt := 127) hX dX8_converting_120 (by decide) rfl ?_
            refine rh_iload hX dX8_converting_127 rfl ?_
            refine rh_iconst hX dX8_converting_129 ki_1 ?_
            refine rh_iadd hX dX8_converting_130 ?_
            refine rh_ist4 hX dX8_converting_131 (by decide) rfl ?_
            refine rh_goto (tgt := 5) hX dX8_converting_133 (by decide) ?_
            first | (rw [Int32.or_zero, show nI t + 1 = nI (t + 1) from rn_add t 1]; exact rh_wk (lv' := [some (.ref (B 0)), some (.long s), none, some (.int set), some (.int (nI (t + 1))), none, none, none, none]) (by exact ⟨rfl, rfl, rfl, rfl, trivial⟩) (ih k set (t + 1) _ _ _ _ (cvI_n hH h14 hrf))) | exact rh_wk (lv' := [some (.ref (B 0)), some (.long s), none, some (.int (set ||| sOne t)), some (.int (nI 1)), none, none, none, none]) (by exact ⟨rfl, rfl, rfl, rfl, trivial⟩) (ih (k - 1) (set ||| sOne t) 1 _ _ _ _ (cvI_g hH h14 hT6 h38 hrt))
          · skip
            have hrt : sRa (fm u) T s set t = true := sRa_t (by omega) h51 h38 h92
            refine rh_iconst hX dX8_converting_95 ki_1 ?_
            refine rh_goto (tgt := 100) hX dX8_converting_96 (by decide) ?_
            refine rh_ist8 hX dX8_converting_100 (by decide) rfl ?_
            refine rh_iload_n hX dX8_converting_102 rfl ?_
            refine rh_iload hX dX8_converting_103 rfl ?_
            refine rh_if_eq_f (tgt := 115) hX dX8_converting_105 (by decide) (by decide) ?_
            refine rh_iconst hX dX8_converting_108 ki_1 ?_
            refine rh_iload hX dX8_converting_109 rfl ?_
            refine rh_ishl hX dX8_converting_111 ?_
            refine rh_goto (tgt := 116) hX dX8_converting_112 (by decide) ?_
            refine rh_ior hX dX8_converting_116 ?_
            refine rh_istn3 hX dX8_converting_117 (by decide) rfl ?_
            refine rh_iload hX dX8_converting_118 rfl ?_
            refine rh_if_eq_f (tgt := 127) hX dX8_converting_120 (by decide) (by decide) ?_
            refine rh_iconst hX dX8_converting_123 ki_1 ?_
            refine rh_goto (tgt := 131) hX dX8_converting_124 (by decide) ?_
            refine rh_ist4 hX dX8_converting_131 (by decide) rfl ?_
            refine rh_goto (tgt := 5) hX dX8_converting_133 (by decide) ?_
            first | (rw [Int32.or_zero, show nI t + 1 = nI (t + 1) from rn_add t 1]; exact rh_wk (lv' := [some (.ref (B 0)), some (.long s), none, some (.int set), some (.int (nI (t + 1))), none, none, none, none]) (by exact ⟨rfl, rfl, rfl, rfl, trivial⟩) (ih k set (t + 1) _ _ _ _ (cvI_n hH h14 hrf))) | exact rh_wk (lv' := [some (.ref (B 0)), some (.long s), none, some (.int (set ||| sOne t)), some (.int (nI 1)), none, none, none, none]) (by exact ⟨rfl, rfl, rfl, rfl, trivial⟩) (ih (k - 1) (set ||| sOne t) 1 _ _ _ _ (cvI_g hH h14 hT6 h38 hrt))
