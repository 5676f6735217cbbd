/-- what stands at the reading place: a sign as a number up to 255, or -1 behind the end -/
def mSee (tx : Nat → Int32) (sz he : Nat) : Int32 := if he < sz then tx he &&& 255 else -1
def mFault (wr p : Int32) : Int32 := if wr = -1 then p else wr
def mShareBy (sd sr n : Int64) : Int64 := if sr = 0 then 0 else sd * n / sr
def mS1 (u : Nat → Int32) (t : Nat) (set : Int32) : Int32 := if t = 0 then 1 else if sBit set t = 1 then 1 else if u (82 + t) = 1 then 1 else 0
theorem mS1_nar (u : Nat → Int32) (t : Nat) (set : Int32) : narrow FieldType.boolean (Value.int (mS1 u t set)) = Value.int (mS1 u t set) := by
  unfold mS1
  split
  · rfl
  · split
    · rfl
    · split <;> rfl
def setV (f : Nat → Int64) (T : Nat) (set : Int32) : Nat → Int64
  | 0 => 0
  | h + 1 => setV f T set h + (if sBit set h = 1 then cVotes f h T else 0)
termination_by h => h
theorem setV_0 (f : Nat → Int64) (T : Nat) (set : Int32) : setV f T set 0 = 0 := by rw [setV]
theorem setV_s (f : Nat → Int64) (T : Nat) (set : Int32) (h : Nat) : setV f T set (h + 1) = setV f T set h + (if sBit set h = 1 then cVotes f h T else 0) := by rw [setV]
theorem setV_t {f : Nat → Int64} {T : Nat} {set : Int32} {h : Nat} (q : sBit set h = 1) : setV f T set (h + 1) = setV f T set h + cVotes f h T := by rw [setV_s, if_pos q]
theorem setV_f {f : Nat → Int64} {T : Nat} {set : Int32} {h : Nat} (q : ¬ sBit set h = 1) : setV f T set (h + 1) = setV f T set h + 0 := by rw [setV_s, if_neg q]
def mSw (f : Nat → Int64) (T h : Nat) : Nat → Int32
  | 0 => 0
  | s + 1 => if sBit (nI s) h = 1 then mSw f T h s else mSw f T h s + (if cAllVotes f T < 2 * setV f T (nI s) 8 then 0 else if 2 * (setV f T (nI s) 8 + cVotes f h T) ≤ cAllVotes f T then 0 else 1)
termination_by s => s
theorem mSw_0 (f : Nat → Int64) (T h : Nat) : mSw f T h 0 = 0 := by rw [mSw]
theorem mSw_1 {f : Nat → Int64} {T h s : Nat} (a : sBit (nI s) h = 1) : mSw f T h (s + 1) = mSw f T h s := by rw [mSw, if_pos a]
theorem mSw_2 {f : Nat → Int64} {T h s : Nat} (a : ¬ sBit (nI s) h = 1) (b : cAllVotes f T < 2 * setV f T (nI s) 8) : mSw f T h (s + 1) = mSw f T h s + 0 := by rw [mSw, if_neg a, if_pos b]
theorem mSw_3 {f : Nat → Int64} {T h s : Nat} (a : ¬ sBit (nI s) h = 1) (b : ¬ cAllVotes f T < 2 * setV f T (nI s) 8) (c : 2 * (setV f T (nI s) 8 + cVotes f h T) ≤ cAllVotes f T) : mSw f T h (s + 1) = mSw f T h s + 0 := by rw [mSw, if_neg a, if_neg b, if_pos c]
theorem mSw_4 {f : Nat → Int64} {T h s : Nat} (a : ¬ sBit (nI s) h = 1) (b : ¬ cAllVotes f T < 2 * setV f T (nI s) 8) (c : ¬ 2 * (setV f T (nI s) 8 + cVotes f h T) ≤ cAllVotes f T) : mSw f T h (s + 1) = mSw f T h s + 1 := by rw [mSw, if_neg a, if_neg b, if_neg c]
def mGA (f pa : Nat → Int64) (h : Nat) : Nat → Int64 := sum1 (fun t => if pa t ≤ 0 then 0 else if cAllHeld f t ≤ 0 then 0 else pa t * cHeld f h t / cAllHeld f t)
def mGS (f : Nat → Int64) (u : Nat → Int32) (sd sr : Int64) (h : Nat) (set : Int32) : Nat → Int64 := sumF (mShareBy sd sr (cGranted f h)) (fun t => if mS1 u t set = 0 then 0 else mShareBy sd sr (cConv f t (cHeld f h t)))
theorem mGS_t {f : Nat → Int64} {u : Nat → Int32} {sd sr : Int64} {h : Nat} {set : Int32} {i : Nat} (q : mS1 u i set = 0) : mGS f u sd sr h set (i + 1) = mGS f u sd sr h set i + 0 := by unfold mGS; rw [sumF, if_pos q]
theorem mGS_f {f : Nat → Int64} {u : Nat → Int32} {sd sr : Int64} {h : Nat} {set : Int32} {i : Nat} (q : ¬ mS1 u i set = 0) : mGS f u sd sr h set (i + 1) = mGS f u sd sr h set i + mShareBy sd sr (cConv f i (cHeld f h i)) := by unfold mGS; rw [sumF, if_neg q]
theorem mGA_1 {f pa : Nat → Int64} {h i : Nat} (h1 : 1 ≤ i) (a : pa i ≤ 0) : mGA f pa h (i + 1) = mGA f pa h i + 0 := by unfold mGA; rw [sum1, if_neg (by omega), if_pos a]
theorem mGA_2 {f pa : Nat → Int64} {h i : Nat} (h1 : 1 ≤ i) (a : ¬ pa i ≤ 0) (b : cAllHeld f i ≤ 0) : mGA f pa h (i + 1) = mGA f pa h i + 0 := by unfold mGA; rw [sum1, if_neg (by omega), if_neg a, if_pos b]
theorem mGA_3 {f pa : Nat → Int64} {h i : Nat} (h1 : 1 ≤ i) (a : ¬ pa i ≤ 0) (b : ¬ cAllHeld f i ≤ 0) : mGA f pa h (i + 1) = mGA f pa h i + pa i * cHeld f h i / cAllHeld f i := by unfold mGA; rw [sum1, if_neg (by omega), if_neg a, if_neg b]
theorem le0_ne {x : Int64} (h : ¬ x ≤ 0) : ¬ x = 0 := fun q => h (by rw [q]; decide)

set_option maxRecDepth 100000 in
set_option maxHeartbeats 4000000 in
theorem c_X8_sees (l : Launch) (E : rhE) (B : Nat → Nat) (u : Nat → Int32) (kp : Nat → Int32) (ik : Int32) (ps : Nat → Int32) (pm : Nat) (dd : Int32) (tx : Nat → Int32) (ty : Nat) (rw : Nat → Int64) (rm : Nat) (th : Int32) (sz : Nat) (he : Nat) (wr : Int32) (mn : Nat → Int32) (vl : Int32) (tp : Int32) (lt : Int32) (ra : Int32) (pf : Int32) (pt : Int32) (pl : Int32) (pd : Int64) (prc : Int64) (ns : Int64) (tu : Nat) (ba : Int64) (na : Int64) (ca : Nat → Int64) (bo : Nat → Int32) (tr : Nat → Int64) (tH : Int32) (asd : Nat → Int32) (pa : Nat → Int64) (tg : Nat → Int64) (sd : Int64) (sr : Int64) (hsz : sz ≤ 200) (hhe : he < 2 ^ 31)  : Ctr l E yX8_sees cX8_sees 1 (some .int) (rmL 0) [.ref (B 0)] (wM E B u kp ik ps pm dd tx ty rw rm th sz he wr mn vl tp lt ra pf pt pl pd prc ns tu ba na ca bo tr tH asd pa tg sd sr) (One (some (.int (mSee tx sz he))) (wM E B u kp ik ps pm dd tx ty rw rm th sz he wr mn vl tp lt ra pf pt pl pd prc ns tu ba na ca bo tr tH asd pa tg sd sr)) := by
  refine Ctr.of (by decide) (Nat.le_of_ble_eq_true rfl) rfl rfl 0 ?_
  intro X hX hR
  refine rh_aload_n hX dX8_sees_0 rfl ?_
  refine rh_get hX gl_X8_102 0 dX8_sees_1 rfl rfl ?_
  refine rh_aload_n hX dX8_sees_4 rfl ?_
  refine rh_get hX gl_X8_99 0 dX8_sees_5 rfl rfl ?_
  refine rh_icmp_ge (tgt := 27) hX dX8_sees_8 (by decide) (fun h8 => ?_) (fun h8 => ?_)
  · skip
    have hlt : ¬ he < sz := Nat.not_lt.mpr (rn_leI h8 (by omega) (by omega))
    refine rh_iconst hX dX8_sees_27 ki_m1 ?_
    exact rh_iret hX hR dX8_sees_28 (by simp only [List.map_cons, List.map_nil, List.cons_append, List.nil_append]) ⟨by first | (rw [mSee, if_pos hlt]; done) | (rw [mSee, if_neg hlt]; done), rfl⟩
  · skip
    have hlt : he < sz := rn_leN h8 (by omega) (by omega)
    refine rh_aload_n hX dX8_sees_11 rfl ?_
    refine rh_get hX gl_X8_19 0 dX8_sees_12 rfl rfl ?_
    refine rh_aload_n hX dX8_sees_15 rfl ?_
    refine rh_get hX gl_X8_102 0 dX8_sees_16 rfl rfl ?_
    refine rh_baload hX 4 _ dX8_sees_19 rfl rfl (by omega) (by decide) ?_
    refine rh_sipush hX dX8_sees_20 ks_255 ?_
    refine rh_iand hX dX8_sees_23 ?_
    refine rh_goto (tgt := 28) hX dX8_sees_24 (by decide) ?_
    exact rh_iret hX hR dX8_sees_28 (by simp only [List.map_cons, List.map_nil, List.cons_append, List.nil_append]) ⟨by first | (rw [mSee, if_pos hlt]; done) | (rw [mSee, if_neg hlt]; done), rfl⟩

set_option maxRecDepth 100000 in
set_option maxHeartbeats 4000000 in
theorem c_X8_fault (l : Launch) (E : rhE) (B : Nat → Nat) (u : Nat → Int32) (kp : Nat → Int32) (ik : Int32) (ps : Nat → Int32) (pm : Nat) (dd : Int32) (tx : Nat → Int32) (ty : Nat) (rw : Nat → Int64) (rm : Nat) (th : Int32) (sz : Nat) (he : Nat) (wr : Int32) (mn : Nat → Int32) (vl : Int32) (tp : Int32) (lt : Int32) (ra : Int32) (pf : Int32) (pt : Int32) (pl : Int32) (pd : Int64) (prc : Int64) (ns : Int64) (tu : Nat) (ba : Int64) (na : Int64) (ca : Nat → Int64) (bo : Nat → Int32) (tr : Nat → Int64) (tH : Int32) (asd : Nat → Int32) (pa : Nat → Int64) (tg : Nat → Int64) (sd : Int64) (sr : Int64) (p : Int32)  : Ctr l E yX8_fault cX8_fault 2 none (rmL 0) [.ref (B 0), .int p] (wM E B u kp ik ps pm dd tx ty rw rm th sz he wr mn vl tp lt ra pf pt pl pd prc ns tu ba na ca bo tr tH asd pa tg sd sr) (One none (wM E B u kp ik ps pm dd tx ty rw rm th sz he (mFault wr p) mn vl tp lt ra pf pt pl pd prc ns tu ba na ca bo tr tH asd pa tg sd sr)) := by
  refine Ctr.of (by decide) (Nat.le_of_ble_eq_true rfl) rfl rfl 0 ?_
  intro X hX hR
  refine rh_aload_n hX dX8_fault_0 rfl ?_
  refine rh_get hX gl_X8_105 0 dX8_fault_1 rfl rfl ?_
  refine rh_iconst hX dX8_fault_4 ki_m1 ?_
  refine rh_icmp_ne (tgt := 13) hX dX8_fault_5 (by decide) (fun h5 => ?_) (fun h5 => ?_)
  · skip
    exact rh_vret hX hR dX8_fault_13 (by simp only [List.map_cons, List.map_nil, List.cons_append, List.nil_append]) ⟨rfl, by first | (rw [mFault, if_neg h5]; done) | (rw [mFault, if_pos h5]; done)⟩
  · skip
    refine rh_aload_n hX dX8_fault_8 rfl ?_
    refine rh_iload_n hX dX8_fault_9 rfl ?_
    refine rh_put hX gl_X8_105 0 dX8_fault_10 rfl rfl rfl (Nat.le_of_ble_eq_true rfl) rfl ?_
    dsimp only [List.cons_append, List.nil_append, List.set_cons_succ, List.set_cons_zero, vput]
    exact rh_vret hX hR dX8_fault_13 (by simp only [List.map_cons, List.map_nil, List.cons_append, List.nil_append]) ⟨rfl, by first | (rw [mFault, if_neg h5]; done) | (rw [mFault, if_pos h5]; done)⟩

set_option maxRecDepth 100000 in
set_option maxHeartbeats 4000000 in
theorem c_X8_sharesOfSet (l : Launch) (E : rhE) (B : Nat → Nat) (u : Nat → Int32) (kp : Nat → Int32) (ik : Int32) (ps : Nat → Int32) (pm : Nat) (dd : Int32) (tx : Nat → Int32) (ty : Nat) (rw : Nat → Int64) (rm : Nat) (th : Int32) (sz : Nat) (he : Nat) (wr : Int32) (mn : Nat → Int32) (vl : Int32) (tp : Int32) (lt : Int32) (ra : Int32) (pf : Int32) (pt : Int32) (pl : Int32) (pd : Int64) (prc : Int64) (ns : Int64) (tu : Nat) (ba : Int64) (na : Int64) (ca : Nat → Int64) (bo : Nat → Int32) (tr : Nat → Int64) (tH : Int32) (asd : Nat → Int32) (pa : Nat → Int64) (tg : Nat → Int64) (sd : Int64) (sr : Int64) (set : Int32) (T : Nat) (hM : mOk u T)  : Ctr l E yX8_sharesOfSet cX8_sharesOfSet 5 (some .long) (rmL 2) [.ref (B 0), .int set] (wM E B u kp ik ps pm dd tx ty rw rm th sz he wr mn vl tp lt ra pf pt pl pd prc ns tu ba na ca bo tr tH asd pa tg sd sr) (One (some (.long (setV (fm u) T set 8))) (wM E B u kp ik ps pm dd tx ty rw rm th sz he wr mn vl tp lt ra pf pt pl pd prc ns tu ba na ca bo tr tH asd pa tg sd sr)) := by
  refine Ctr.of (by decide) (Nat.le_of_ble_eq_true rfl) rfl rfl 3 ?_
  intro X hX hR
  obtain ⟨hT, hT1, hT6, hcv⟩ := id hM
  refine rh_lconst hX dX8_sharesOfSet_0 kL_0 ?_
  refine rh_lstn2 hX dX8_sharesOfSet_1 (by decide) rfl ?_
  refine rh_iconst hX dX8_sharesOfSet_2 ki_0 ?_
  refine rh_ist4 hX dX8_sharesOfSet_3 (by decide) rfl ?_
  suffices hP0 : G X 5 [some (.ref (B 0)), some (.int set), some (.long (setV (fm u) T set 0)), none, some (.int 0)] [] (wM E B u kp ik ps pm dd tx ty rw rm th sz he wr mn vl tp lt ra pf pt pl pd prc ns tu ba na ca bo tr tH asd pa tg sd sr) by rw [setV_0] at hP0; exact hP0
  refine rh_loop (P := fun i => G X 5 [some (.ref (B 0)), some (.int set), some (.long (setV (fm u) T set i)), none, some (.int (nI i))] [] (wM E B u kp ik ps pm dd tx ty rw rm th sz he wr mn vl tp lt ra pf pt pl pd prc ns tu ba na ca bo tr tH asd pa tg sd sr)) (0) (8) (by omega) ?_ ?_
  · skip
    refine rh_iload hX dX8_sharesOfSet_5 rfl ?_
    refine rh_bipush hX dX8_sharesOfSet_7 kb_8 ?_
    refine rh_icmp_ge_t (tgt := 41) hX dX8_sharesOfSet_9 (by decide) (nI_le (a := 8) (b := 8) (Nat.le_refl 8) (by decide)) ?_
    refine rh_lload_n hX dX8_sharesOfSet_41 rfl ?_
    exact rh_lret hX hR dX8_sharesOfSet_42 (by simp only [List.map_cons, List.map_nil, List.cons_append, List.nil_append]) ⟨rfl, rfl⟩
  · intro i hi0 hi ih
    refine rh_iload hX dX8_sharesOfSet_5 rfl ?_
    refine rh_bipush hX dX8_sharesOfSet_7 kb_8 ?_
    refine rh_icmp_ge_f (tgt := 41) hX dX8_sharesOfSet_9 (by decide) (nI_ge (b := 8) hi (by decide)) ?_
    refine rh_lload_n hX dX8_sharesOfSet_12 rfl ?_
    refine rh_iload_n hX dX8_sharesOfSet_13 rfl ?_
    refine rh_iload hX dX8_sharesOfSet_14 rfl ?_
    refine rh_ishr hX dX8_sharesOfSet_16 ?_
    refine rh_iconst hX dX8_sharesOfSet_17 ki_1 ?_
    refine rh_iand hX dX8_sharesOfSet_18 ?_
    refine rh_iconst hX dX8_sharesOfSet_19 ki_1 ?_
    refine rh_icmp_ne (tgt := 32) hX dX8_sharesOfSet_20 (by decide) (fun h20 => ?_) (fun h20 => ?_)
    · skip
      refine rh_lconst hX dX8_sharesOfSet_32 kL_0 ?_
      refine rh_ladd hX dX8_sharesOfSet_33 ?_
      refine rh_lstn2 hX dX8_sharesOfSet_34 (by decide) rfl ?_
      refine rh_inc4 hX dX8_sharesOfSet_35 (by decide) rfl (rn_i1 _) ?_
      refine rh_goto (tgt := 5) hX dX8_sharesOfSet_38 (by decide) ?_
      first | (rw [setV_t h20] at ih; exact ih) | (rw [setV_f h20] at ih; exact ih)
    · skip
      refine rh_aload_n hX dX8_sharesOfSet_23 rfl ?_
      refine rh_iload hX dX8_sharesOfSet_24 rfl ?_
      refine rh_pV hX lk_X8_88 mvX8_stakeByShares (fun l => c_X8_stakeByShares l E _ _ _ _ _ _ _ _ _ _ _ _ _ _ _ _ _ _ _ _ _ _ _ _ _ _ _ _ _ _ _ _ _ _ _ _ _ _ i T hM (by omega)) ⟨rfl, rfl⟩ ⟨Nat.le_of_ble_eq_true rfl, Nat.le_of_ble_eq_true rfl⟩ [0, 1, 2, 3, 4, 5, 6, 7, 8, 9, 10, 11, 12] rfl rfl 0 rfl dX8_sharesOfSet_26 rfl rfl (Nat.le_of_ble_eq_true rfl) ?_
      refine rh_goto (tgt := 33) hX dX8_sharesOfSet_29 (by decide) ?_
      refine rh_ladd hX dX8_sharesOfSet_33 ?_
      refine rh_lstn2 hX dX8_sharesOfSet_34 (by decide) rfl ?_
      refine rh_inc4 hX dX8_sharesOfSet_35 (by decide) rfl (rn_i1 _) ?_
      refine rh_goto (tgt := 5) hX dX8_sharesOfSet_38 (by decide) ?_
      first | (rw [setV_t h20] at ih; exact ih) | (rw [setV_f h20] at ih; exact ih)

set_option maxRecDepth 100000 in
set_option maxHeartbeats 4000000 in
theorem c_X8_swings (l : Launch) (E : rhE) (B : Nat → Nat) (u : Nat → Int32) (kp : Nat → Int32) (ik : Int32) (ps : Nat → Int32) (pm : Nat) (dd : Int32) (tx : Nat → Int32) (ty : Nat) (rw : Nat → Int64) (rm : Nat) (th : Int32) (sz : Nat) (he : Nat) (wr : Int32) (mn : Nat → Int32) (vl : Int32) (tp : Int32) (lt : Int32) (ra : Int32) (pf : Int32) (pt : Int32) (pl : Int32) (pd : Int64) (prc : Int64) (ns : Int64) (tu : Nat) (ba : Int64) (na : Int64) (ca : Nat → Int64) (bo : Nat → Int32) (tr : Nat → Int64) (tH : Int32) (asd : Nat → Int32) (pa : Nat → Int64) (tg : Nat → Int64) (sd : Int64) (sr : Int64) (h : Nat) (T : Nat) (hM : mOk u T) (hh : h < 8) : Ctr l E yX8_swings cX8_swings 10 (some .int) (rmL 3) [.ref (B 0), .int (nI h)] (wM E B u kp ik ps pm dd tx ty rw rm th sz he wr mn vl tp lt ra pf pt pl pd prc ns tu ba na ca bo tr tH asd pa tg sd sr) (One (some (.int (mSw (fm u) T h 256))) (wM E B u kp ik ps pm dd tx ty rw rm th sz he wr mn vl tp lt ra pf pt pl pd prc ns tu ba na ca bo tr tH asd pa tg sd sr)) := by
  refine Ctr.of (by decide) (Nat.le_of_ble_eq_true rfl) rfl rfl 8 ?_
  intro X hX hR
  obtain ⟨hT, hT1, hT6, hcv⟩ := id hM
  refine rh_aload_n hX dX8_swings_0 rfl ?_
  refine rh_pV hX lk_X8_92 mvX8_allByShares (fun l => c_X8_allByShares l E _ _ _ _ _ _ _ _ _ _ _ _ _ _ _ _ _ _ _ _ _ _ _ _ _ _ _ _ _ _ _ _ _ _ _ _ _ _ T hM) ⟨rfl, rfl⟩ ⟨Nat.le_of_ble_eq_true rfl, Nat.le_of_ble_eq_true rfl⟩ [0, 1, 2, 3, 4, 5, 6, 7, 8, 9, 10, 11, 12] rfl rfl 0 rfl dX8_swings_1 rfl rfl (Nat.le_of_ble_eq_true rfl) ?_
  refine rh_lstn2 hX dX8_swings_4 (by decide) rfl ?_
  refine rh_aload_n hX dX8_swings_5 rfl ?_
  refine rh_iload_n hX dX8_swings_6 rfl ?_
  refine rh_pV hX lk_X8_88 mvX8_stakeByShares (fun l => c_X8_stakeByShares l E _ _ _ _ _ _ _ _ _ _ _ _ _ _ _ _ _ _ _ _ _ _ _ _ _ _ _ _ _ _ _ _ _ _ _ _ _ _ h T hM (by omega)) ⟨rfl, rfl⟩ ⟨Nat.le_of_ble_eq_true rfl, Nat.le_of_ble_eq_true rfl⟩ [0, 1, 2, 3, 4, 5, 6, 7, 8, 9, 10, 11, 12] rfl rfl 0 rfl dX8_swings_7 rfl rfl (Nat.le_of_ble_eq_true rfl) ?_
  refine rh_lst4 hX dX8_swings_10 (by decide) rfl ?_
  refine rh_iconst hX dX8_swings_12 ki_0 ?_
  refine rh_ist6 hX dX8_swings_13 (by decide) rfl ?_
  refine rh_iconst hX dX8_swings_15 ki_0 ?_
  refine rh_ist7 hX dX8_swings_16 (by decide) rfl ?_
  suffices hP0 : G X 18 [some (.ref (B 0)), some (.int (nI h)), some (.long (cAllVotes (fm u) T)), none, some (.long (cVotes (fm u) h T)), none, some (.int (mSw (fm u) T h 0)), some (.int 0), none, none] [] (wM E B u kp ik ps pm dd tx ty rw rm th sz he wr mn vl tp lt ra pf pt pl pd prc ns tu ba na ca bo tr tH asd pa tg sd sr) by rw [mSw_0] at hP0; exact hP0
  refine rh_loop (P := fun i => G X 18 [some (.ref (B 0)), some (.int (nI h)), some (.long (cAllVotes (fm u) T)), none, some (.long (cVotes (fm u) h T)), none, some (.int (mSw (fm u) T h i)), some (.int (nI i)), none, none] [] (wM E B u kp ik ps pm dd tx ty rw rm th sz he wr mn vl tp lt ra pf pt pl pd prc ns tu ba na ca bo tr tH asd pa tg sd sr)) (0) (256) (by omega) ?_ ?_
  · skip
    refine rh_iload hX dX8_swings_18 rfl ?_
    refine rh_sipush hX dX8_swings_20 ks_256 ?_
    refine rh_icmp_ge_t (tgt := 88) hX dX8_swings_23 (by decide) (nI_le (a := 256) (b := 256) (Nat.le_refl 256) (by decide)) ?_
    refine rh_iload hX dX8_swings_88 rfl ?_
    exact rh_iret hX hR dX8_swings_90 (by simp only [List.map_cons, List.map_nil, List.cons_append, List.nil_append]) ⟨rfl, rfl⟩
  · intro i hi0 hi ih
    refine rh_iload hX dX8_swings_18 rfl ?_
    refine rh_sipush hX dX8_swings_20 ks_256 ?_
    refine rh_icmp_ge_f (tgt := 88) hX dX8_swings_23 (by decide) (nI_ge (b := 256) hi (by decide)) ?_
    refine rh_iload hX dX8_swings_26 rfl ?_
    refine rh_iload_n hX dX8_swings_28 rfl ?_
    refine rh_ishr hX dX8_swings_29 ?_
    refine rh_iconst hX dX8_swings_30 ki_1 ?_
    refine rh_iand hX dX8_swings_31 ?_
    refine rh_iconst hX dX8_swings_32 ki_1 ?_
    refine rh_icmp_ne (tgt := 39) hX dX8_swings_33 (by decide) (fun h33 => ?_) (fun h33 => ?_)
    · skip
      refine rh_aload_n hX dX8_swings_39 rfl ?_
      refine rh_iload hX dX8_swings_40 rfl ?_
      refine rh_pV hX lk_X8_324 mvX8_sharesOfSet (fun l => c_X8_sharesOfSet l E _ _ _ _ _ _ _ _ _ _ _ _ _ _ _ _ _ _ _ _ _ _ _ _ _ _ _ _ _ _ _ _ _ _ _ _ _ _ _ T hM) ⟨rfl, rfl⟩ ⟨Nat.le_of_ble_eq_true rfl, Nat.le_of_ble_eq_true rfl⟩ [0, 1, 2, 3, 4, 5, 6, 7, 8, 9, 10, 11, 12] rfl rfl 0 rfl dX8_swings_42 rfl rfl (Nat.le_of_ble_eq_true rfl) ?_
      refine rh_lst8 hX dX8_swings_45 (by decide) rfl ?_
      refine rh_iload hX dX8_swings_47 rfl ?_
      refine rh_ldc2 hX dX8_swings_49 kl_X8_152 ?_
      refine rh_lload hX dX8_swings_52 rfl ?_
      refine rh_lmul hX dX8_swings_54 ?_
      refine rh_lload_n hX dX8_swings_55 rfl ?_
      refine rh_lgt (tgt := 78) hX dX8_swings_56 dX8_swings_57 (by decide) (fun h57 => ?_) (fun h57 => ?_)
      · skip
        refine rh_iconst hX dX8_swings_78 ki_0 ?_
        refine rh_iadd hX dX8_swings_79 ?_
        refine rh_ist6 hX dX8_swings_80 (by decide) rfl ?_
        refine rh_inc7 hX dX8_swings_82 (by decide) rfl (rn_i1 _) ?_
        refine rh_goto (tgt := 18) hX dX8_swings_85 (by decide) ?_
        first | (rw [mSw_1 h33] at ih; exact rh_wk (by exact ⟨rfl, rfl, rfl, rfl, rfl, rfl, trivial⟩) ih) | (rw [mSw_2 h33 h57] at ih; exact rh_wk (by exact ⟨rfl, rfl, rfl, rfl, rfl, rfl, trivial⟩) ih) | (rw [mSw_3 h33 h57 h71] at ih; exact rh_wk (by exact ⟨rfl, rfl, rfl, rfl, rfl, rfl, trivial⟩) ih) | (rw [mSw_4 h33 h57 h71] at ih; exact rh_wk (by exact ⟨rfl, rfl, rfl, rfl, rfl, rfl, trivial⟩) ih)
      · skip
        refine rh_ldc2 hX dX8_swings_60 kl_X8_152 ?_
        refine rh_lload hX dX8_swings_63 rfl ?_
        refine rh_lload hX dX8_swings_65 rfl ?_
        refine rh_ladd hX dX8_swings_67 ?_
        refine rh_lmul hX dX8_swings_68 ?_
        refine rh_lload_n hX dX8_swings_69 rfl ?_
        refine rh_lle (tgt := 78) hX dX8_swings_70 dX8_swings_71 (by decide) (fun h71 => ?_) (fun h71 => ?_)
        · skip
          refine rh_iconst hX dX8_swings_78 ki_0 ?_
          refine rh_iadd hX dX8_swings_79 ?_
          refine rh_ist6 hX dX8_swings_80 (by decide) rfl ?_
          refine rh_inc7 hX dX8_swings_82 (by decide) rfl (rn_i1 _) ?_
          refine rh_goto (tgt := 18) hX dX8_swings_85 (by decide) ?_
          first | (rw [mSw_1 h33] at ih; exact rh_wk (by exact ⟨rfl, rfl, rfl, rfl, rfl, rfl, trivial⟩) ih) | (rw [mSw_2 h33 h57] at ih; exact rh_wk (by exact ⟨rfl, rfl, rfl, rfl, rfl, rfl, trivial⟩) ih) | (rw [mSw_3 h33 h57 h71] at ih; exact rh_wk (by exact ⟨rfl, rfl, rfl, rfl, rfl, rfl, trivial⟩) ih) | (rw [mSw_4 h33 h57 h71] at ih; exact rh_wk (by exact ⟨rfl, rfl, rfl, rfl, rfl, rfl, trivial⟩) ih)
        · skip
          refine rh_iconst hX dX8_swings_74 ki_1 ?_
          refine rh_goto (tgt := 79) hX dX8_swings_75 (by decide) ?_
          refine rh_iadd hX dX8_swings_79 ?_
          refine rh_ist6 hX dX8_swings_80 (by decide) rfl ?_
          refine rh_inc7 hX dX8_swings_82 (by decide) rfl (rn_i1 _) ?_
          refine rh_goto (tgt := 18) hX dX8_swings_85 (by decide) ?_
          first | (rw [mSw_1 h33] at ih; exact rh_wk (by exact ⟨rfl, rfl, rfl, rfl, rfl, rfl, trivial⟩) ih) | (rw [mSw_2 h33 h57] at ih; exact rh_wk (by exact ⟨rfl, rfl, rfl, rfl, rfl, rfl, trivial⟩) ih) | (rw [mSw_3 h33 h57 h71] at ih; exact rh_wk (by exact ⟨rfl, rfl, rfl, rfl, rfl, rfl, trivial⟩) ih) | (rw [mSw_4 h33 h57 h71] at ih; exact rh_wk (by exact ⟨rfl, rfl, rfl, rfl, rfl, rfl, trivial⟩) ih)
    · skip
      refine rh_goto (tgt := 82) hX dX8_swings_36 (by decide) ?_
      refine rh_inc7 hX dX8_swings_82 (by decide) rfl (rn_i1 _) ?_
      refine rh_goto (tgt := 18) hX dX8_swings_85 (by decide) ?_
      first | (rw [mSw_1 h33] at ih; exact rh_wk (by exact ⟨rfl, rfl, rfl, rfl, rfl, rfl, trivial⟩) ih) | (rw [mSw_2 h33 h57] at ih; exact rh_wk (by exact ⟨rfl, rfl, rfl, rfl, rfl, rfl, trivial⟩) ih) | (rw [mSw_3 h33 h57 h71] at ih; exact rh_wk (by exact ⟨rfl, rfl, rfl, rfl, rfl, rfl, trivial⟩) ih) | (rw [mSw_4 h33 h57 h71] at ih; exact rh_wk (by exact ⟨rfl, rfl, rfl, rfl, rfl, rfl, trivial⟩) ih)

set_option maxRecDepth 100000 in
set_option maxHeartbeats 4000000 in
theorem c_X8_shares1 (l : Launch) (E : rhE) (B : Nat → Nat) (u : Nat → Int32) (kp : Nat → Int32) (ik : Int32) (ps : Nat → Int32) (pm : Nat) (dd : Int32) (tx : Nat → Int32) (ty : Nat) (rw : Nat → Int64) (rm : Nat) (th : Int32) (sz : Nat) (he : Nat) (wr : Int32) (mn : Nat → Int32) (vl : Int32) (tp : Int32) (lt : Int32) (ra : Int32) (pf : Int32) (pt : Int32) (pl : Int32) (pd : Int64) (prc : Int64) (ns : Int64) (tu : Nat) (ba : Int64) (na : Int64) (ca : Nat → Int64) (bo : Nat → Int32) (tr : Nat → Int64) (tH : Int32) (asd : Nat → Int32) (pa : Nat → Int64) (tg : Nat → Int64) (sd : Int64) (sr : Int64) (t : Nat) (set : Int32) (ht : t < 6) : Ctr l E yX8_shares1 cX8_shares1 3 (some .boolean) (rmL 0) [.ref (B 0), .int (nI t), .int set] (wM E B u kp ik ps pm dd tx ty rw rm th sz he wr mn vl tp lt ra pf pt pl pd prc ns tu ba na ca bo tr tH asd pa tg sd sr) (One (some (.int (mS1 u t set))) (wM E B u kp ik ps pm dd tx ty rw rm th sz he wr mn vl tp lt ra pf pt pl pd prc ns tu ba na ca bo tr tH asd pa tg sd sr)) := by
  refine Ctr.of (by decide) (Nat.le_of_ble_eq_true rfl) rfl rfl 0 ?_
  intro X hX hR
  refine rh_iload_n hX dX8_shares1_0 rfl ?_
  refine rh_if_eq (tgt := 26) hX dX8_shares1_1 (by decide) (fun h1 => ?_) (fun h1 => ?_)
  · skip
    have h1 : t = 0 := nI_z h1 (by omega)
    refine rh_iconst hX dX8_shares1_26 ki_1 ?_
    refine rh_goto (tgt := 31) hX dX8_shares1_27 (by decide) ?_
    exact rh_zret hX hR dX8_shares1_31 rfl (by simp only [List.map_cons, List.map_nil, List.cons_append, List.nil_append]) ⟨by first | (rw [mS1, if_pos h1]; done) | (rw [mS1, if_neg h1, if_pos h10]; done) | (rw [mS1, if_neg h1, if_neg h10, if_pos h23]; done) | (rw [mS1, if_neg h1, if_neg h10, if_neg h23]; done), rfl⟩
  · skip
    have h1 : ¬ t = 0 := fun q => h1 (by rw [q]; rfl)
    refine rh_iload_n hX dX8_shares1_4 rfl ?_
    refine rh_iload_n hX dX8_shares1_5 rfl ?_
    refine rh_ishr hX dX8_shares1_6 ?_
    refine rh_iconst hX dX8_shares1_7 ki_1 ?_
    refine rh_iand hX dX8_shares1_8 ?_
    refine rh_iconst hX dX8_shares1_9 ki_1 ?_
    refine rh_icmp_eq (tgt := 26) hX dX8_shares1_10 (by decide) (fun h10 => ?_) (fun h10 => ?_)
    · skip
      have h10 : sBit set t = 1 := h10
      refine rh_iconst hX dX8_shares1_26 ki_1 ?_
      refine rh_goto (tgt := 31) hX dX8_shares1_27 (by decide) ?_
      exact rh_zret hX hR dX8_shares1_31 rfl (by simp only [List.map_cons, List.map_nil, List.cons_append, List.nil_append]) ⟨by first | (rw [mS1, if_pos h1]; done) | (rw [mS1, if_neg h1, if_pos h10]; done) | (rw [mS1, if_neg h1, if_neg h10, if_pos h23]; done) | (rw [mS1, if_neg h1, if_neg h10, if_neg h23]; done), rfl⟩
    · skip
      have h10 : ¬ sBit set t = 1 := h10
      refine rh_aload_n hX dX8_shares1_13 rfl ?_
      refine rh_get hX gl_X8_7 0 dX8_shares1_14 rfl rfl ?_
      refine rh_bipush hX dX8_shares1_17 kb_82 ?_
      refine rh_iload_n hX dX8_shares1_19 rfl ?_
      refine rh_iadd hX dX8_shares1_20 ?_
      refine rh_iaload hX 1 _ dX8_shares1_21 rfl (rn_a rn_c82 rfl) (by omega) (by decide) ?_
      refine rh_iconst hX dX8_shares1_22 ki_1 ?_
      refine rh_icmp_ne (tgt := 30) hX dX8_shares1_23 (by decide) (fun h23 => ?_) (fun h23 => ?_)
      · skip
        refine rh_iconst hX dX8_shares1_30 ki_0 ?_
        exact rh_zret hX hR dX8_shares1_31 rfl (by simp only [List.map_cons, List.map_nil, List.cons_append, List.nil_append]) ⟨by first | (rw [mS1, if_pos h1]; done) | (rw [mS1, if_neg h1, if_pos h10]; done) | (rw [mS1, if_neg h1, if_neg h10, if_pos h23]; done) | (rw [mS1, if_neg h1, if_neg h10, if_neg h23]; done), rfl⟩
      · skip
        refine rh_iconst hX dX8_shares1_26 ki_1 ?_
        refine rh_goto (tgt := 31) hX dX8_shares1_27 (by decide) ?_
        exact rh_zret hX hR dX8_shares1_31 rfl (by simp only [List.map_cons, List.map_nil, List.cons_append, List.nil_append]) ⟨by first | (rw [mS1, if_pos h1]; done) | (rw [mS1, if_neg h1, if_pos h10]; done) | (rw [mS1, if_neg h1, if_neg h10, if_pos h23]; done) | (rw [mS1, if_neg h1, if_neg h10, if_neg h23]; done), rfl⟩

set_option maxRecDepth 100000 in
set_option maxHeartbeats 4000000 in
theorem c_X8_sharedBy (l : Launch) (E : rhE) (B : Nat → Nat) (u : Nat → Int32) (kp : Nat → Int32) (ik : Int32) (ps : Nat → Int32) (pm : Nat) (dd : Int32) (tx : Nat → Int32) (ty : Nat) (rw : Nat → Int64) (rm : Nat) (th : Int32) (sz : Nat) (he : Nat) (wr : Int32) (mn : Nat → Int32) (vl : Int32) (tp : Int32) (lt : Int32) (ra : Int32) (pf : Int32) (pt : Int32) (pl : Int32) (pd : Int64) (prc : Int64) (ns : Int64) (tu : Nat) (ba : Int64) (na : Int64) (ca : Nat → Int64) (bo : Nat → Int32) (tr : Nat → Int64) (tH : Int32) (asd : Nat → Int32) (pa : Nat → Int64) (tg : Nat → Int64) (sd : Int64) (sr : Int64) (n : Int64)  : Ctr l E yX8_sharedBy cX8_sharedBy 3 (some .long) (rmL 0) [.ref (B 0), .long n] (wM E B u kp ik ps pm dd tx ty rw rm th sz he wr mn vl tp lt ra pf pt pl pd prc ns tu ba na ca bo tr tH asd pa tg sd sr) (One (some (.long (mShareBy sd sr n))) (wM E B u kp ik ps pm dd tx ty rw rm th sz he wr mn vl tp lt ra pf pt pl pd prc ns tu ba na ca bo tr tH asd pa tg sd sr)) := by
  refine Ctr.of (by decide) (Nat.le_of_ble_eq_true rfl) rfl rfl 0 ?_
  intro X hX hR
  refine rh_aload_n hX dX8_sharedBy_0 rfl ?_
  refine rh_get hX gl_X8_346 0 dX8_sharedBy_1 rfl rfl ?_
  refine rh_lconst hX dX8_sharedBy_4 kL_0 ?_
  refine rh_lne (tgt := 13) hX dX8_sharedBy_5 dX8_sharedBy_6 (by decide) (fun h6 => ?_) (fun h6 => ?_)
  · skip
    refine rh_aload_n hX dX8_sharedBy_13 rfl ?_
    refine rh_get hX gl_X8_343 0 dX8_sharedBy_14 rfl rfl ?_
    refine rh_lload_n hX dX8_sharedBy_17 rfl ?_
    refine rh_lmul hX dX8_sharedBy_18 ?_
    refine rh_aload_n hX dX8_sharedBy_19 rfl ?_
    refine rh_get hX gl_X8_346 0 dX8_sharedBy_20 rfl rfl ?_
    refine rh_ldiv hX dX8_sharedBy_23 h6 ?_
    exact rh_lret hX hR dX8_sharedBy_24 (by simp only [List.map_cons, List.map_nil, List.cons_append, List.nil_append]) ⟨by first | (rw [mShareBy, if_pos h6]; done) | (rw [mShareBy, if_neg h6]; done), rfl⟩
  · skip
    refine rh_lconst hX dX8_sharedBy_9 kL_0 ?_
    refine rh_goto (tgt := 24) hX dX8_sharedBy_10 (by decide) ?_
    exact rh_lret hX hR dX8_sharedBy_24 (by simp only [List.map_cons, List.map_nil, List.cons_append, List.nil_append]) ⟨by first | (rw [mShareBy, if_pos h6]; done) | (rw [mShareBy, if_neg h6]; done), rfl⟩

set_option maxRecDepth 100000 in
set_option maxHeartbeats 4000000 in
theorem c_X8_getsAhead (l : Launch) (E : rhE) (B : Nat → Nat) (u : Nat → Int32) (kp : Nat → Int32) (ik : Int32) (ps : Nat → Int32) (pm : Nat) (dd : Int32) (tx : Nat → Int32) (ty : Nat) (rw : Nat → Int64) (rm : Nat) (th : Int32) (sz : Nat) (he : Nat) (wr : Int32) (mn : Nat → Int32) (vl : Int32) (tp : Int32) (lt : Int32) (ra : Int32) (pf : Int32) (pt : Int32) (pl : Int32) (pd : Int64) (prc : Int64) (ns : Int64) (tu : Nat) (ba : Int64) (na : Int64) (ca : Nat → Int64) (bo : Nat → Int32) (tr : Nat → Int64) (tH : Int32) (asd : Nat → Int32) (pa : Nat → Int64) (tg : Nat → Int64) (sd : Int64) (sr : Int64) (h : Nat) (T : Nat) (hM : mOk u T) (hh : h < 8) : Ctr l E yX8_getsAhead cX8_getsAhead 5 (some .long) (rmL 2) [.ref (B 0), .int (nI h)] (wM E B u kp ik ps pm dd tx ty rw rm th sz he wr mn vl tp lt ra pf pt pl pd prc ns tu ba na ca bo tr tH asd pa tg sd sr) (One (some (.long (mGA (fm u) pa h T))) (wM E B u kp ik ps pm dd tx ty rw rm th sz he wr mn vl tp lt ra pf pt pl pd prc ns tu ba na ca bo tr tH asd pa tg sd sr)) := by
  refine Ctr.of (by decide) (Nat.le_of_ble_eq_true rfl) rfl rfl 3 ?_
  intro X hX hR
  obtain ⟨hT, hT1, hT6, hcv⟩ := id hM
  refine rh_lconst hX dX8_getsAhead_0 kL_0 ?_
  refine rh_lstn2 hX dX8_getsAhead_1 (by decide) rfl ?_
  refine rh_iconst hX dX8_getsAhead_2 ki_1 ?_
  refine rh_ist4 hX dX8_getsAhead_3 (by decide) rfl ?_
  refine rh_loop (P := fun i => G X 5 [some (.ref (B 0)), some (.int (nI h)), some (.long (mGA (fm u) pa h i)), none, some (.int (nI i))] [] (wM E B u kp ik ps pm dd tx ty rw rm th sz he wr mn vl tp lt ra pf pt pl pd prc ns tu ba na ca bo tr tH asd pa tg sd sr)) (1) (T) (by omega) ?_ ?_
  · skip
    refine rh_iload hX dX8_getsAhead_5 rfl ?_
    refine rh_aload_n hX dX8_getsAhead_7 rfl ?_
    refine rh_get hX gl_X8_7 0 dX8_getsAhead_8 rfl rfl ?_
    refine rh_bipush hX dX8_getsAhead_11 kb_57 ?_
    refine rh_iaload hX 1 _ dX8_getsAhead_13 rfl rn_c57 (by omega) (by decide) ?_
    refine rh_icmp_ge_t (tgt := 76) hX dX8_getsAhead_14 (by decide) (by rw [hT]; exact nI_le (Nat.le_refl T) (by omega)) ?_
    refine rh_lload_n hX dX8_getsAhead_76 rfl ?_
    exact rh_lret hX hR dX8_getsAhead_77 (by simp only [List.map_cons, List.map_nil, List.cons_append, List.nil_append]) ⟨rfl, rfl⟩
  · intro i hi0 hi ih
    refine rh_iload hX dX8_getsAhead_5 rfl ?_
    refine rh_aload_n hX dX8_getsAhead_7 rfl ?_
    refine rh_get hX gl_X8_7 0 dX8_getsAhead_8 rfl rfl ?_
    refine rh_bipush hX dX8_getsAhead_11 kb_57 ?_
    refine rh_iaload hX 1 _ dX8_getsAhead_13 rfl rn_c57 (by omega) (by decide) ?_
    refine rh_icmp_ge_f (tgt := 76) hX dX8_getsAhead_14 (by decide) (by rw [hT]; exact nI_ge hi (by omega)) ?_
    refine rh_lload_n hX dX8_getsAhead_17 rfl ?_
    refine rh_aload_n hX dX8_getsAhead_18 rfl ?_
    refine rh_get hX gl_X8_42 0 dX8_getsAhead_19 rfl rfl ?_
    refine rh_iload hX dX8_getsAhead_22 rfl ?_
    refine rh_laload hX 11 _ dX8_getsAhead_24 rfl rfl (by omega) (by decide) ?_
    refine rh_lconst hX dX8_getsAhead_25 kL_0 ?_
    refine rh_lle (tgt := 67) hX dX8_getsAhead_26 dX8_getsAhead_27 (by decide) (fun h27 => ?_) (fun h27 => ?_)
    · skip
      refine rh_lconst hX dX8_getsAhead_67 kL_0 ?_
      refine rh_ladd hX dX8_getsAhead_68 ?_
      refine rh_lstn2 hX dX8_getsAhead_69 (by decide) rfl ?_
      refine rh_inc4 hX dX8_getsAhead_70 (by decide) rfl (rn_i1 _) ?_
      refine rh_goto (tgt := 5) hX dX8_getsAhead_73 (by decide) ?_
      first | (rw [mGA_1 hi0 h27] at ih; exact ih) | (rw [mGA_2 hi0 h27 h38] at ih; exact ih) | (rw [mGA_3 hi0 h27 h38] at ih; exact ih)
    · skip
      refine rh_aload_n hX dX8_getsAhead_30 rfl ?_
      refine rh_iload hX dX8_getsAhead_31 rfl ?_
      refine rh_pV hX lk_X8_154 mvX8_allShares (fun l => c_X8_allShares l E _ _ _ _ _ _ _ _ _ _ _ _ _ _ _ _ _ _ _ _ _ _ _ _ _ _ _ _ _ _ _ _ _ _ _ _ _ _ i (by omega)) ⟨rfl, rfl⟩ ⟨Nat.le_of_ble_eq_true rfl, Nat.le_of_ble_eq_true rfl⟩ [0, 1, 2, 3, 4, 5, 6, 7, 8, 9, 10, 11, 12] rfl rfl 0 rfl dX8_getsAhead_33 rfl rfl (Nat.le_of_ble_eq_true rfl) ?_
      refine rh_lconst hX dX8_getsAhead_36 kL_0 ?_
      refine rh_lle (tgt := 67) hX dX8_getsAhead_37 dX8_getsAhead_38 (by decide) (fun h38 => ?_) (fun h38 => ?_)
      · skip
        refine rh_lconst hX dX8_getsAhead_67 kL_0 ?_
        refine rh_ladd hX dX8_getsAhead_68 ?_
        refine rh_lstn2 hX dX8_getsAhead_69 (by decide) rfl ?_
        refine rh_inc4 hX dX8_getsAhead_70 (by decide) rfl (rn_i1 _) ?_
        refine rh_goto (tgt := 5) hX dX8_getsAhead_73 (by decide) ?_
        first | (rw [mGA_1 hi0 h27] at ih; exact ih) | (rw [mGA_2 hi0 h27 h38] at ih; exact ih) | (rw [mGA_3 hi0 h27 h38] at ih; exact ih)
      · skip
        refine rh_aload_n hX dX8_getsAhead_41 rfl ?_
        refine rh_get hX gl_X8_42 0 dX8_getsAhead_42 rfl rfl ?_
        refine rh_iload hX dX8_getsAhead_45 rfl ?_
        refine rh_laload hX 11 _ dX8_getsAhead_47 rfl rfl (by omega) (by decide) ?_
        refine rh_aload_n hX dX8_getsAhead_48 rfl ?_
        refine rh_iload_n hX dX8_getsAhead_49 rfl ?_
        refine rh_iload hX dX8_getsAhead_50 rfl ?_
        refine rh_pV hX lk_X8_80 mvX8_sharesOf (fun l => c_X8_sharesOf l E _ _ _ _ _ _ _ _ _ _ _ _ _ _ _ _ _ _ _ _ _ _ _ _ _ _ _ _ _ _ _ _ _ _ _ _ _ _ h i (by omega) (by omega)) ⟨rfl, rfl⟩ ⟨Nat.le_of_ble_eq_true rfl, Nat.le_of_ble_eq_true rfl⟩ [0, 1, 2, 3, 4, 5, 6, 7, 8, 9, 10, 11, 12] rfl rfl 0 rfl dX8_getsAhead_52 rfl rfl (Nat.le_of_ble_eq_true rfl) ?_
        refine rh_i2l hX dX8_getsAhead_55 ?_
        rw [fm_held u (h := h) (t := i) (by omega) (by omega)]
        refine rh_lmul hX dX8_getsAhead_56 ?_
        refine rh_aload_n hX dX8_getsAhead_57 rfl ?_
        refine rh_iload hX dX8_getsAhead_58 rfl ?_
        refine rh_pV hX lk_X8_154 mvX8_allShares (fun l => c_X8_allShares l E _ _ _ _ _ _ _ _ _ _ _ _ _ _ _ _ _ _ _ _ _ _ _ _ _ _ _ _ _ _ _ _ _ _ _ _ _ _ i (by omega)) ⟨rfl, rfl⟩ ⟨Nat.le_of_ble_eq_true rfl, Nat.le_of_ble_eq_true rfl⟩ [0, 1, 2, 3, 4, 5, 6, 7, 8, 9, 10, 11, 12] rfl rfl 0 rfl dX8_getsAhead_60 rfl rfl (Nat.le_of_ble_eq_true rfl) ?_
        refine rh_ldiv hX dX8_getsAhead_63 (le0_ne h38) ?_
        refine rh_goto (tgt := 68) hX dX8_getsAhead_64 (by decide) ?_
        refine rh_ladd hX dX8_getsAhead_68 ?_
        refine rh_lstn2 hX dX8_getsAhead_69 (by decide) rfl ?_
        refine rh_inc4 hX dX8_getsAhead_70 (by decide) rfl (rn_i1 _) ?_
        refine rh_goto (tgt := 5) hX dX8_getsAhead_73 (by decide) ?_
        first | (rw [mGA_1 hi0 h27] at ih; exact ih) | (rw [mGA_2 hi0 h27 h38] at ih; exact ih) | (rw [mGA_3 hi0 h27 h38] at ih; exact ih)

set_option maxRecDepth 100000 in
set_option maxHeartbeats 4000000 in
theorem c_X8_getsShared (l : Launch) (E : rhE) (B : Nat → Nat) (u : Nat → Int32) (kp : Nat → Int32) (ik : Int32) (ps : Nat → Int32) (pm : Nat) (dd : Int32) (tx : Nat → Int32) (ty : Nat) (rw : Nat → Int64) (rm : Nat) (th : Int32) (sz : Nat) (he : Nat) (wr : Int32) (mn : Nat → Int32) (vl : Int32) (tp : Int32) (lt : Int32) (ra : Int32) (pf : Int32) (pt : Int32) (pl : Int32) (pd : Int64) (prc : Int64) (ns : Int64) (tu : Nat) (ba : Int64) (na : Int64) (ca : Nat → Int64) (bo : Nat → Int32) (tr : Nat → Int64) (tH : Int32) (asd : Nat → Int32) (pa : Nat → Int64) (tg : Nat → Int64) (sd : Int64) (sr : Int64) (h : Nat) (set : Int32) (T : Nat) (hM : mOk u T) (hh : h < 8) : Ctr l E yX8_getsShared cX8_getsShared 6 (some .long) (rmL 2) [.ref (B 0), .int (nI h), .int set] (wM E B u kp ik ps pm dd tx ty rw rm th sz he wr mn vl tp lt ra pf pt pl pd prc ns tu ba na ca bo tr tH asd pa tg sd sr) (One (some (.long (mGS (fm u) u sd sr h set T))) (wM E B u kp ik ps pm dd tx ty rw rm th sz he wr mn vl tp lt ra pf pt pl pd prc ns tu ba na ca bo tr tH asd pa tg sd sr)) := by
  refine Ctr.of (by decide) (Nat.le_of_ble_eq_true rfl) rfl rfl 3 ?_
  intro X hX hR
  obtain ⟨hT, hT1, hT6, hcv⟩ := id hM
  refine rh_aload_n hX dX8_getsShared_0 rfl ?_
  refine rh_aload_n hX dX8_getsShared_1 rfl ?_
  refine rh_get hX gl_X8_7 0 dX8_getsShared_2 rfl rfl ?_
  refine rh_bipush hX dX8_getsShared_5 kb_48 ?_
  refine rh_iload_n hX dX8_getsShared_7 rfl ?_
  refine rh_iadd hX dX8_getsShared_8 ?_
  refine rh_iaload hX 1 _ dX8_getsShared_9 rfl (rn_a rn_c48 rfl) (by omega) (by decide) ?_
  refine rh_i2l hX dX8_getsShared_10 ?_
  rw [fm_granted u (h := h) (by omega)]
  refine rh_pV hX lk_X8_353 mvX8_sharedBy (fun l => c_X8_sharedBy l E _ _ _ _ _ _ _ _ _ _ _ _ _ _ _ _ _ _ _ _ _ _ _ _ _ _ _ _ _ _ _ _ _ _ _ _ _ _ _) ⟨rfl, rfl⟩ ⟨Nat.le_of_ble_eq_true rfl, Nat.le_of_ble_eq_true rfl⟩ [0, 1, 2, 3, 4, 5, 6, 7, 8, 9, 10, 11, 12] rfl rfl 0 rfl dX8_getsShared_11 rfl rfl (Nat.le_of_ble_eq_true rfl) ?_
  refine rh_lstn3 hX dX8_getsShared_14 (by decide) rfl ?_
  refine rh_iconst hX dX8_getsShared_15 ki_0 ?_
  refine rh_ist5 hX dX8_getsShared_16 (by decide) rfl ?_
  refine rh_loop (P := fun i => G X 18 [some (.ref (B 0)), some (.int (nI h)), some (.int set), some (.long (mGS (fm u) u sd sr h set i)), none, some (.int (nI i))] [] (wM E B u kp ik ps pm dd tx ty rw rm th sz he wr mn vl tp lt ra pf pt pl pd prc ns tu ba na ca bo tr tH asd pa tg sd sr)) (0) (T) (by omega) ?_ ?_
  · skip
    refine rh_iload hX dX8_getsShared_18 rfl ?_
    refine rh_aload_n hX dX8_getsShared_20 rfl ?_
    refine rh_get hX gl_X8_7 0 dX8_getsShared_21 rfl rfl ?_
    refine rh_bipush hX dX8_getsShared_24 kb_57 ?_
    refine rh_iaload hX 1 _ dX8_getsShared_26 rfl rn_c57 (by omega) (by decide) ?_
    refine rh_icmp_ge_t (tgt := 70) hX dX8_getsShared_27 (by decide) (by rw [hT]; exact nI_le (Nat.le_refl T) (by omega)) ?_
    refine rh_lload_n hX dX8_getsShared_70 rfl ?_
    exact rh_lret hX hR dX8_getsShared_71 (by simp only [List.map_cons, List.map_nil, List.cons_append, List.nil_append]) ⟨rfl, rfl⟩
  · intro i hi0 hi ih
    refine rh_iload hX dX8_getsShared_18 rfl ?_
    refine rh_aload_n hX dX8_getsShared_20 rfl ?_
    refine rh_get hX gl_X8_7 0 dX8_getsShared_21 rfl rfl ?_
    refine rh_bipush hX dX8_getsShared_24 kb_57 ?_
    refine rh_iaload hX 1 _ dX8_getsShared_26 rfl rn_c57 (by omega) (by decide) ?_
    refine rh_icmp_ge_f (tgt := 70) hX dX8_getsShared_27 (by decide) (by rw [hT]; exact nI_ge hi (by omega)) ?_
    refine rh_lload_n hX dX8_getsShared_30 rfl ?_
    refine rh_aload_n hX dX8_getsShared_31 rfl ?_
    refine rh_iload hX dX8_getsShared_32 rfl ?_
    refine rh_iload_n hX dX8_getsShared_34 rfl ?_
    refine rh_pV hX lk_X8_349 mvX8_shares1 (fun l => c_X8_shares1 l E _ _ _ _ _ _ _ _ _ _ _ _ _ _ _ _ _ _ _ _ _ _ _ _ _ _ _ _ _ _ _ _ _ _ _ _ _ _ i _ (by omega)) ⟨rfl, rfl⟩ ⟨Nat.le_of_ble_eq_true rfl, Nat.le_of_ble_eq_true rfl⟩ [0, 1, 2, 3, 4, 5, 6, 7, 8, 9, 10, 11, 12] rfl rfl 0 rfl dX8_getsShared_35 rfl rfl (Nat.le_of_ble_eq_true rfl) ?_
    refine rh_if_eq (tgt := 61) hX dX8_getsShared_38 (by decide) (fun h38 => ?_) (fun h38 => ?_)
    · skip
      refine rh_lconst hX dX8_getsShared_61 kL_0 ?_
      refine rh_ladd hX dX8_getsShared_62 ?_
      refine rh_lstn3 hX dX8_getsShared_63 (by decide) rfl ?_
      refine rh_inc5 hX dX8_getsShared_64 (by decide) rfl (rn_i1 _) ?_
      refine rh_goto (tgt := 18) hX dX8_getsShared_67 (by decide) ?_
      first | (rw [mGS_t h38] at ih; exact ih) | (rw [mGS_f h38] at ih; exact ih)
    · skip
      refine rh_aload_n hX dX8_getsShared_41 rfl ?_
      refine rh_aload_n hX dX8_getsShared_42 rfl ?_
      refine rh_aload_n hX dX8_getsShared_43 rfl ?_
      refine rh_iload_n hX dX8_getsShared_44 rfl ?_
      refine rh_iload hX dX8_getsShared_45 rfl ?_
      refine rh_pV hX lk_X8_80 mvX8_sharesOf (fun l => c_X8_sharesOf l E _ _ _ _ _ _ _ _ _ _ _ _ _ _ _ _ _ _ _ _ _ _ _ _ _ _ _ _ _ _ _ _ _ _ _ _ _ _ h i (by omega) (by omega)) ⟨rfl, rfl⟩ ⟨Nat.le_of_ble_eq_true rfl, Nat.le_of_ble_eq_true rfl⟩ [0, 1, 2, 3, 4, 5, 6, 7, 8, 9, 10, 11, 12] rfl rfl 0 rfl dX8_getsShared_47 rfl rfl (Nat.le_of_ble_eq_true rfl) ?_
      refine rh_iload hX dX8_getsShared_50 rfl ?_
      refine rh_pV hX lk_X8_84 mvX8_converted (fun l => c_X8_converted l E _ _ _ _ _ _ _ _ _ _ _ _ _ _ _ _ _ _ _ _ _ _ _ _ _ _ _ _ _ _ _ _ _ _ _ _ _ _ _ i (by omega) (fun q => hcv i q (by omega))) ⟨rfl, rfl⟩ ⟨Nat.le_of_ble_eq_true rfl, Nat.le_of_ble_eq_true rfl⟩ [0, 1, 2, 3, 4, 5, 6, 7, 8, 9, 10, 11, 12] rfl rfl 0 rfl dX8_getsShared_52 rfl rfl (Nat.le_of_ble_eq_true rfl) ?_
      rw [fm_held u (h := h) (t := i) (by omega) (by omega)]
      refine rh_pV hX lk_X8_353 mvX8_sharedBy (fun l => c_X8_sharedBy l E _ _ _ _ _ _ _ _ _ _ _ _ _ _ _ _ _ _ _ _ _ _ _ _ _ _ _ _ _ _ _ _ _ _ _ _ _ _ _) ⟨rfl, rfl⟩ ⟨Nat.le_of_ble_eq_true rfl, Nat.le_of_ble_eq_true rfl⟩ [0, 1, 2, 3, 4, 5, 6, 7, 8, 9, 10, 11, 12] rfl rfl 0 rfl dX8_getsShared_55 rfl rfl (Nat.le_of_ble_eq_true rfl) ?_
      refine rh_goto (tgt := 62) hX dX8_getsShared_58 (by decide) ?_
      refine rh_ladd hX dX8_getsShared_62 ?_
      refine rh_lstn3 hX dX8_getsShared_63 (by decide) rfl ?_
      refine rh_inc5 hX dX8_getsShared_64 (by decide) rfl (rn_i1 _) ?_
      refine rh_goto (tgt := 18) hX dX8_getsShared_67 (by decide) ?_
      first | (rw [mGS_t h38] at ih; exact ih) | (rw [mGS_f h38] at ih; exact ih)
