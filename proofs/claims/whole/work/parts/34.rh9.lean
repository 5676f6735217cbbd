/-- of c classes, from 1 on: what is lacking, and which have theirs whole -/
def stLk (f : Nat → Int64) (T : Nat) (s : Int64) : Nat → Int64
  | 0 => 0
  | c + 1 => if c = 0 then 0 else if sBit (xQ f T s) c = 1 then stLk f T s c else stLk f T s c + (cDue f c - xPF f T s c)
termination_by c => c
def stWh (f : Nat → Int64) (T : Nat) (s : Int64) : Nat → Int32
  | 0 => 0
  | c + 1 => if c = 0 then 0 else if sBit (xQ f T s) c = 1 then stWh f T s c else stWh f T s c ||| (if cDue f c - xPF f T s c = 0 then 1 <<< (nI c &&& 31) else 0)
termination_by c => c
theorem stLk_1 (f : Nat → Int64) (T : Nat) (s : Int64) : stLk f T s 1 = 0 := by rw [stLk]; rfl
theorem stWh_1 (f : Nat → Int64) (T : Nat) (s : Int64) : stWh f T s 1 = 0 := by rw [stWh]; rfl
theorem stLk_t {f : Nat → Int64} {T : Nat} {s : Int64} {c : Nat} (h : 1 ≤ c) (q : sBit (xQ f T s) c = 1) : stLk f T s (c + 1) = stLk f T s c := by rw [stLk, if_neg (by omega), if_pos q]
theorem stLk_f {f : Nat → Int64} {T : Nat} {s : Int64} {c : Nat} (h : 1 ≤ c) (q : ¬ sBit (xQ f T s) c = 1) : stLk f T s (c + 1) = stLk f T s c + (cDue f c - xPF f T s c) := by rw [stLk, if_neg (by omega), if_neg q]
theorem stWh_t {f : Nat → Int64} {T : Nat} {s : Int64} {c : Nat} (h : 1 ≤ c) (q : sBit (xQ f T s) c = 1) : stWh f T s (c + 1) = stWh f T s c := by rw [stWh, if_neg (by omega), if_pos q]
theorem stWh_a {f : Nat → Int64} {T : Nat} {s : Int64} {c : Nat} (h : 1 ≤ c) (q : ¬ sBit (xQ f T s) c = 1) (e : cDue f c - xPF f T s c = 0) : stWh f T s (c + 1) = stWh f T s c ||| 1 <<< (nI c &&& 31) := by rw [stWh, if_neg (by omega), if_neg q, if_pos e]
theorem stWh_b {f : Nat → Int64} {T : Nat} {s : Int64} {c : Nat} (h : 1 ≤ c) (q : ¬ sBit (xQ f T s) c = 1) (e : ¬ cDue f c - xPF f T s c = 0) : stWh f T s (c + 1) = stWh f T s c ||| 0 := by rw [stWh, if_neg (by omega), if_neg q, if_neg e]
def x_stage (C : CT) (T : Nat) (s : Int32) : Int32 × Option (List Int64) := if xSum s = 0 then (-1, none) else (stWh C.1 T s.toInt64 T, some [(xCap (stLk C.1 T s.toInt64 T)).toInt64])
/-- sums from t on -/
def sumT (g : Nat → Int64) (t : Nat) : Nat → Int64
  | 0 => 0
  | n + 1 => sumT g t n + g (t + n)
def x_preference (C : CT) (T : Nat) (t : Int32) : Int32 × Option (List Int64) := if xSe T t = 0 then (-1, none) else (xCap (cPref C.1 t.toNatClampNeg), some [(xCap (sumT (cPref C.1) t.toNatClampNeg (T - t.toNatClampNeg))).toInt64])
def x_curve (C : CT) (T : Nat) (h d : Int32) : Int64 × Option (List Int64) := if xH h = 0 then (-1, none) else if xUp d 125000000 = 0 then (-1, none) else (sumF 0 (fun k => xHG C.1 T ((nI (k + 1)).toInt64 * d.toInt64) h.toNatClampNeg) 8, some ((List.range 8).map (fun k => xHG C.1 T ((nI (k + 1)).toInt64 * d.toInt64) h.toNatClampNeg)))
/-- the first of the steps at which it is so -/
def stepAt (P : Nat → Bool) (d : Int32) : Nat → Nat → Int32
  | 0, _ => -2
  | n + 1, i => if P i = true then nI i * d else stepAt P d n (i + 1)
termination_by n => n
theorem stepAt_0 (P : Nat → Bool) (d : Int32) (i : Nat) : stepAt P d 0 i = -2 := by rw [stepAt]
theorem stepAt_t {P : Nat → Bool} {d : Int32} {n i : Nat} (h : P i = true) : stepAt P d (n + 1) i = nI i * d := by rw [stepAt, if_pos h]
theorem stepAt_f {P : Nat → Bool} {d : Int32} {n i : Nat} (h : ¬ P i = true) : stepAt P d (n + 1) i = stepAt P d n (i + 1) := by rw [stepAt, if_neg h]
def rcP (f : Nat → Int64) (T h : Nat) (x d : Int32) (i : Nat) : Bool := decide (¬ xHG f T ((nI i).toInt64 * d.toInt64) h < x.toInt64)
def flP (f : Nat → Int64) (T t : Nat) (d : Int32) (i : Nat) : Bool := decide (sBit (xQ f T ((nI i).toInt64 * d.toInt64)) t = 1)
def x_reaches (C : CT) (T : Nat) (h x d : Int32) : Int32 := if xH h = 0 then -1 else if x < 0 then -1 else if xUp d 1000000 = 0 then -1 else stepAt (rcP C.1 T h.toNatClampNeg x d) d 101 0
def x_flips (C : CT) (T : Nat) (t d : Int32) : Int32 := if xSe T t = 0 then -1 else if xUp d 1000000 = 0 then -1 else stepAt (flP C.1 T t.toNatClampNeg d) d 101 0

set_option maxRecDepth 100000 in
set_option maxHeartbeats 4000000 in
theorem c_X7_stage (l : Launch) (E : rhE) (A : Nat → Nat) (C : CT) (Z : ZT) (s : Int32) (T : Nat) (hC : cOk C T) (hz : zOk Z) : Ctr l E yX7_stage cX7_stage 8 (some .int) (rmL 4) [.ref (A 0), .int s] (wC E A C Z) (fun r w => ∃ Z1 C1, r = some (Value.int (x_stage C T s).1) ∧ zOk Z1 ∧ rowTold C C1 (x_stage C T s).2 ∧ w = wC E A C1 Z1) := by
  refine Ctr.of (by decide) (Nat.le_of_ble_eq_true rfl) rfl rfl 6 ?_
  intro X hX hR
  obtain ⟨hT, hT1, hT6, hnx, hud, hn, hrn⟩ := id hC
  refine rh_iload_n hX dX7_stage_0 rfl ?_
  refine rh_pS hX lk_X7_289 msX7_isSum (fun l => c_X7_isSum l E _) ⟨rfl, rfl⟩ ⟨Nat.le_of_ble_eq_true rfl, Nat.le_of_ble_eq_true rfl⟩ [] rfl rfl dX7_stage_1 rfl rfl (Nat.le_of_ble_eq_true rfl) ?_
  refine rh_if_ne (tgt := 9) hX dX7_stage_4 (by decide) (fun h4 => ?_) (fun h4 => ?_)
  · skip
    refine rh_aload_n hX dX7_stage_9 rfl ?_
    refine rh_get hX gl_X7_61 0 dX7_stage_10 rfl rfl ?_
    refine rh_aload_n hX dX7_stage_13 rfl ?_
    refine rh_get hX gl_X7_12 0 dX7_stage_14 rfl rfl ?_
    refine rh_uV hX lk_X7_292 mvX4_looksAt (fun l => c_X4_looksAt l E _ _ _ _ _ _ _ _ _ _ _ _ _ _ _ _ _ _ T hT hT6 hT1) ⟨rfl, rfl⟩ ⟨Nat.le_of_ble_eq_true rfl, Nat.le_of_ble_eq_true rfl⟩ [29, 30, 31, 32, 33, 1, 2] rfl rfl 29 rfl dX7_stage_17 rfl rfl (Nat.le_of_ble_eq_true rfl) rfl ?_
    dsimp only [List.cons_append, List.nil_append, List.set_cons_succ, List.set_cons_zero, vput]
    refine rh_aload_n hX dX7_stage_20 rfl ?_
    refine rh_get hX gl_X7_61 0 dX7_stage_21 rfl rfl ?_
    refine rh_iload_n hX dX7_stage_24 rfl ?_
    refine rh_i2l hX dX7_stage_25 ?_
    refine rh_uV hX lk_X7_296 mvX4_settles (fun l => c_X4_settles l E _ _ _ _ _ _ _ _ _ _ _ _ _ _ _ _ (by omega) (by omega)) ⟨rfl, rfl⟩ ⟨Nat.le_of_ble_eq_true rfl, Nat.le_of_ble_eq_true rfl⟩ [29, 30, 31, 32, 33] rfl rfl 29 rfl dX7_stage_26 rfl rfl (Nat.le_of_ble_eq_true rfl) rfl ?_
    dsimp only [List.cons_append, List.nil_append, List.set_cons_succ, List.set_cons_zero, vput]
    rw [sQ_row, xL_row _ _ _ _ hT1, xS_row _ _ _ _ hT1]
    refine rh_iconst hX dX7_stage_29 ki_0 ?_
    refine rh_istn2 hX dX7_stage_30 (by decide) rfl ?_
    refine rh_lconst hX dX7_stage_31 kL_0 ?_
    refine rh_lstn3 hX dX7_stage_32 (by decide) rfl ?_
    refine rh_iconst hX dX7_stage_33 ki_1 ?_
    refine rh_ist5 hX dX7_stage_34 (by decide) rfl ?_
    suffices hP0 : G X 36 [some (.ref (A 0)), some (.int s), some (.int (stWh C.1 T s.toInt64 1)), some (.long (stLk C.1 T s.toInt64 1)), none, some (.int 1), none, none] [] (wC E A C (Z.1, Z.2.1, Z.2.2.1, Z.2.2.2.1, ((rowTo (cAllHeld C.1) Z.2.2.2.2.1.1 T), (rowTo (cAllConv C.1) Z.2.2.2.2.1.2.1 T), (rowTo (cDue C.1) Z.2.2.2.2.1.2.2.1 T), (pRow (rowTo (cDue C.1) Z.2.2.2.2.1.2.2.1 T) Z.2.2.2.2.1.2.2.2.1 (xQ C.1 T s.toInt64) s.toInt64 T (T - 1)), cAllGranted C.1, T, cTypesWith C.1 4 T, (xQ C.1 T s.toInt64), (xL C.1 T s.toInt64), (xS C.1 T s.toInt64)), Z.2.2.2.2.2.1, Z.2.2.2.2.2.2)) by rw [stLk_1, stWh_1] at hP0; exact hP0
    refine rh_loop (P := fun c => G X 36 [some (.ref (A 0)), some (.int s), some (.int (stWh C.1 T s.toInt64 c)), some (.long (stLk C.1 T s.toInt64 c)), none, some (.int (nI c)), none, none] [] (wC E A C (Z.1, Z.2.1, Z.2.2.1, Z.2.2.2.1, ((rowTo (cAllHeld C.1) Z.2.2.2.2.1.1 T), (rowTo (cAllConv C.1) Z.2.2.2.2.1.2.1 T), (rowTo (cDue C.1) Z.2.2.2.2.1.2.2.1 T), (pRow (rowTo (cDue C.1) Z.2.2.2.2.1.2.2.1 T) Z.2.2.2.2.1.2.2.2.1 (xQ C.1 T s.toInt64) s.toInt64 T (T - 1)), cAllGranted C.1, T, cTypesWith C.1 4 T, (xQ C.1 T s.toInt64), (xL C.1 T s.toInt64), (xS C.1 T s.toInt64)), Z.2.2.2.2.2.1, Z.2.2.2.2.2.2))) (1) (T) (by omega) ?_ ?_
    · skip
      refine rh_iload hX dX7_stage_36 rfl ?_
      refine rh_aload_n hX dX7_stage_38 rfl ?_
      refine rh_get hX gl_X7_12 0 dX7_stage_39 rfl rfl ?_
      refine rh_pV hX lk_X7_135 mvX1_types (fun l => c_X1_types l E _ _ _ T hT hT6) ⟨rfl, rfl⟩ ⟨Nat.le_of_ble_eq_true rfl, Nat.le_of_ble_eq_true rfl⟩ [1, 2] rfl rfl 1 rfl dX7_stage_42 rfl rfl (Nat.le_of_ble_eq_true rfl) ?_
      refine rh_icmp_ge_t (tgt := 100) hX dX7_stage_45 (by decide) (nI_le (Nat.le_refl T) (by omega)) ?_
      refine rh_aload_n hX dX7_stage_100 rfl ?_
      refine rh_get hX gl_X7_40 0 dX7_stage_101 rfl rfl ?_
      refine rh_uV hX lk_X7_184 mvX3_clear (fun l => c_X3_clear l E _ _ _ _) ⟨rfl, rfl⟩ ⟨Nat.le_of_ble_eq_true rfl, Nat.le_of_ble_eq_true rfl⟩ [18, 19] rfl rfl 18 rfl dX7_stage_104 rfl rfl (Nat.le_of_ble_eq_true rfl) rfl ?_
      dsimp only [List.cons_append, List.nil_append, List.set_cons_succ, List.set_cons_zero, vput]
      refine rh_aload_n hX dX7_stage_107 rfl ?_
      refine rh_get hX gl_X7_40 0 dX7_stage_108 rfl rfl ?_
      refine rh_lload_n hX dX7_stage_111 rfl ?_
      refine rh_pS hX lk_X7_276 msX7_capped (fun l => c_X7_capped l E _) ⟨rfl, rfl⟩ ⟨Nat.le_of_ble_eq_true rfl, Nat.le_of_ble_eq_true rfl⟩ [] rfl rfl dX7_stage_112 rfl rfl (Nat.le_of_ble_eq_true rfl) ?_
      refine rh_i2l hX dX7_stage_115 ?_
      refine rh_uV hX lk_X7_181 mvX3_tell (fun l => c_X3_tell l E _ _ _ 0 _ (by omega)) ⟨rfl, rfl⟩ ⟨Nat.le_of_ble_eq_true rfl, Nat.le_of_ble_eq_true rfl⟩ [18, 19] rfl rfl 18 rfl dX7_stage_116 rfl rfl (Nat.le_of_ble_eq_true rfl) rfl ?_
      dsimp only [List.cons_append, List.nil_append, List.set_cons_succ, List.set_cons_zero, vput]
      refine rh_iload_n hX dX7_stage_119 rfl ?_
      exact rh_iret hX hR dX7_stage_120 (by simp only [List.map_cons, List.map_nil, List.cons_append, List.nil_append]) (by refine ⟨(Z.1, Z.2.1, Z.2.2.1, Z.2.2.2.1, ((rowTo (cAllHeld C.1) Z.2.2.2.2.1.1 T), (rowTo (cAllConv C.1) Z.2.2.2.2.1.2.1 T), (rowTo (cDue C.1) Z.2.2.2.2.1.2.2.1 T), (pRow (rowTo (cDue C.1) Z.2.2.2.2.1.2.2.1 T) Z.2.2.2.2.1.2.2.2.1 (xQ C.1 T s.toInt64) s.toInt64 T (T - 1)), cAllGranted C.1, T, cTypesWith C.1 4 T, (xQ C.1 T s.toInt64), (xL C.1 T s.toInt64), (xS C.1 T s.toInt64)), Z.2.2.2.2.2.1, Z.2.2.2.2.2.2), setRow C (va_up C.2.2.2.2.2.2.2.2.2.1 0 _) (0 + 1), ?ga, (xPF_0 C.1 _ _ _ T hT1 hz), ?gb, rfl⟩; (case ga => rw [x_stage, if_neg h4]); (case gb => rw [x_stage, if_neg h4]; exact ⟨_, rowOk1 _ _, rfl⟩))
    · intro c hc0 hc ihc
      refine rh_iload hX dX7_stage_36 rfl ?_
      refine rh_aload_n hX dX7_stage_38 rfl ?_
      refine rh_get hX gl_X7_12 0 dX7_stage_39 rfl rfl ?_
      refine rh_pV hX lk_X7_135 mvX1_types (fun l => c_X1_types l E _ _ _ T hT hT6) ⟨rfl, rfl⟩ ⟨Nat.le_of_ble_eq_true rfl, Nat.le_of_ble_eq_true rfl⟩ [1, 2] rfl rfl 1 rfl dX7_stage_42 rfl rfl (Nat.le_of_ble_eq_true rfl) ?_
      refine rh_icmp_ge_f (tgt := 100) hX dX7_stage_45 (by decide) (nI_ge hc (by omega)) ?_
      refine rh_aload_n hX dX7_stage_48 rfl ?_
      refine rh_get hX gl_X7_61 0 dX7_stage_49 rfl rfl ?_
      refine rh_iload hX dX7_stage_52 rfl ?_
      refine rh_pV hX lk_X7_318 mvX4_isConverting (fun l => c_X4_isConverting l E _ _ _ _ _ _ _ _ _ _ _ _ _ _ _ _ (by omega)) ⟨rfl, rfl⟩ ⟨Nat.le_of_ble_eq_true rfl, Nat.le_of_ble_eq_true rfl⟩ [29, 30, 31, 32, 33] rfl rfl 29 rfl dX7_stage_54 rfl rfl (Nat.le_of_ble_eq_true rfl) ?_
      refine rh_if_ne (tgt := 94) hX dX7_stage_57 (by decide) (fun h57 => ?_) (fun h57 => ?_)
      · skip
        have h57 : sBit (xQ C.1 T s.toInt64) c = 1 := Classical.not_not.mp (fun q => h57 (if_neg q))
        refine rh_inc5 hX dX7_stage_94 (by decide) rfl (rn_i1 _) ?_
        refine rh_goto (tgt := 36) hX dX7_stage_97 (by decide) ?_
        first | (rw [stLk_t hc0 h57, stWh_t hc0 h57] at ihc; exact rh_wk (by exact ⟨rfl, rfl, rfl, rfl, rfl, trivial⟩) ihc) | (rw [stLk_f hc0 h57, stWh_a hc0 h57 h81] at ihc; exact rh_wk (by exact ⟨rfl, rfl, rfl, rfl, rfl, trivial⟩) ihc) | (rw [stLk_f hc0 h57, stWh_b hc0 h57 h81] at ihc; exact rh_wk (by exact ⟨rfl, rfl, rfl, rfl, rfl, trivial⟩) ihc)
      · skip
        have h57 : ¬ sBit (xQ C.1 T s.toInt64) c = 1 := fun q => absurd h57 (by rw [if_pos q]; decide)
        refine rh_aload_n hX dX7_stage_60 rfl ?_
        refine rh_get hX gl_X7_61 0 dX7_stage_61 rfl rfl ?_
        refine rh_iload hX dX7_stage_64 rfl ?_
        refine rh_pV hX lk_X7_321 mvX4_lack (fun l => c_X4_lack l E _ _ _ _ _ _ _ _ _ _ _ _ _ _ _ _ (by omega)) ⟨rfl, rfl⟩ ⟨Nat.le_of_ble_eq_true rfl, Nat.le_of_ble_eq_true rfl⟩ [29, 30, 31, 32, 33] rfl rfl 29 rfl dX7_stage_66 rfl rfl (Nat.le_of_ble_eq_true rfl) ?_
        dsimp only
        rw [xPF_row C.1 _ _ _ T c (by omega) hz, rowTo_in hc]
        refine rh_lst6 hX dX7_stage_69 (by decide) rfl ?_
        refine rh_lload_n hX dX7_stage_71 rfl ?_
        refine rh_lload hX dX7_stage_72 rfl ?_
        refine rh_ladd hX dX7_stage_74 ?_
        refine rh_lstn3 hX dX7_stage_75 (by decide) rfl ?_
        refine rh_iload_n hX dX7_stage_76 rfl ?_
        refine rh_lload hX dX7_stage_77 rfl ?_
        refine rh_lconst hX dX7_stage_79 kL_0 ?_
        refine rh_lne (tgt := 91) hX dX7_stage_80 dX7_stage_81 (by decide) (fun h81 => ?_) (fun h81 => ?_)
        · skip
          refine rh_iconst hX dX7_stage_91 ki_0 ?_
          refine rh_ior hX dX7_stage_92 ?_
          refine rh_istn2 hX dX7_stage_93 (by decide) rfl ?_
          refine rh_inc5 hX dX7_stage_94 (by decide) rfl (rn_i1 _) ?_
          refine rh_goto (tgt := 36) hX dX7_stage_97 (by decide) ?_
          first | (rw [stLk_t hc0 h57, stWh_t hc0 h57] at ihc; exact rh_wk (by exact ⟨rfl, rfl, rfl, rfl, rfl, trivial⟩) ihc) | (rw [stLk_f hc0 h57, stWh_a hc0 h57 h81] at ihc; exact rh_wk (by exact ⟨rfl, rfl, rfl, rfl, rfl, trivial⟩) ihc) | (rw [stLk_f hc0 h57, stWh_b hc0 h57 h81] at ihc; exact rh_wk (by exact ⟨rfl, rfl, rfl, rfl, rfl, trivial⟩) ihc)
        · skip
          refine rh_iconst hX dX7_stage_84 ki_1 ?_
          refine rh_iload hX dX7_stage_85 rfl ?_
          refine rh_ishl hX dX7_stage_87 ?_
          refine rh_goto (tgt := 92) hX dX7_stage_88 (by decide) ?_
          refine rh_ior hX dX7_stage_92 ?_
          refine rh_istn2 hX dX7_stage_93 (by decide) rfl ?_
          refine rh_inc5 hX dX7_stage_94 (by decide) rfl (rn_i1 _) ?_
          refine rh_goto (tgt := 36) hX dX7_stage_97 (by decide) ?_
          first | (rw [stLk_t hc0 h57, stWh_t hc0 h57] at ihc; exact rh_wk (by exact ⟨rfl, rfl, rfl, rfl, rfl, trivial⟩) ihc) | (rw [stLk_f hc0 h57, stWh_a hc0 h57 h81] at ihc; exact rh_wk (by exact ⟨rfl, rfl, rfl, rfl, rfl, trivial⟩) ihc) | (rw [stLk_f hc0 h57, stWh_b hc0 h57 h81] at ihc; exact rh_wk (by exact ⟨rfl, rfl, rfl, rfl, rfl, trivial⟩) ihc)
  · skip
    refine rh_iconst hX dX7_stage_7 ki_m1 ?_
    exact rh_iret hX hR dX7_stage_8 (by simp only [List.map_cons, List.map_nil, List.cons_append, List.nil_append]) (by first | exact ⟨Z, C, by rw [x_stage, if_pos h4] <;> rfl, hz, by rw [x_stage, if_pos h4] <;> rfl, rfl⟩)

set_option maxRecDepth 100000 in
set_option maxHeartbeats 4000000 in
theorem c_X7_preference (l : Launch) (E : rhE) (A : Nat → Nat) (C : CT) (Z : ZT) (t : Int32) (T : Nat) (hC : cOk C T) (hz : zOk Z) : Ctr l E yX7_preference cX7_preference 5 (some .int) (rmL 4) [.ref (A 0), .int t] (wC E A C Z) (fun r w => ∃ Z1 C1, r = some (Value.int (x_preference C T t).1) ∧ zOk Z1 ∧ rowTold C C1 (x_preference C T t).2 ∧ w = wC E A C1 Z1) := by
  refine Ctr.of (by decide) (Nat.le_of_ble_eq_true rfl) rfl rfl 3 ?_
  intro X hX hR
  obtain ⟨hT, hT1, hT6, hnx, hud, hn, hrn⟩ := id hC
  refine rh_aload_n hX dX7_preference_0 rfl ?_
  refine rh_iload_n hX dX7_preference_1 rfl ?_
  refine rh_aP hX lk_X7_145 mvX7_isSeries (fun l => c_X7_isSeries l E A C Z _ T hC) ⟨rfl, rfl⟩ ⟨Nat.le_of_ble_eq_true rfl, Nat.le_of_ble_eq_true rfl⟩ 0 rfl dX7_preference_2 rfl rfl (Nat.le_of_ble_eq_true rfl) ?_
  refine rh_if_ne (tgt := 10) hX dX7_preference_5 (by decide) (fun h5 => ?_) (fun h5 => ?_)
  · skip
    obtain ⟨td, rfl, htd1, htd⟩ := xSe_1 hT6 h5
    refine rh_lconst hX dX7_preference_10 kL_0 ?_
    refine rh_lstn2 hX dX7_preference_11 (by decide) rfl ?_
    refine rh_iload_n hX dX7_preference_12 rfl ?_
    refine rh_ist4 hX dX7_preference_13 (by decide) rfl ?_
    refine rh_loop (P := fun k => G X 15 [some (.ref (A 0)), some (.int (nI td)), some (.long (sumT (cPref C.1) td k)), none, some (.int (nI (td + k)))] [] (wC E A C Z)) (0) (T - td) (by omega) ?_ ?_
    · skip
      refine rh_iload hX dX7_preference_15 rfl ?_
      refine rh_aload_n hX dX7_preference_17 rfl ?_
      refine rh_get hX gl_X7_12 0 dX7_preference_18 rfl rfl ?_
      refine rh_pV hX lk_X7_135 mvX1_types (fun l => c_X1_types l E _ _ _ T hT hT6) ⟨rfl, rfl⟩ ⟨Nat.le_of_ble_eq_true rfl, Nat.le_of_ble_eq_true rfl⟩ [1, 2] rfl rfl 1 rfl dX7_preference_21 rfl rfl (Nat.le_of_ble_eq_true rfl) ?_
      refine rh_icmp_ge_t (tgt := 45) hX dX7_preference_24 (by decide) (nI_le (show T ≤ td + (T - td) by omega) (by omega)) ?_
      refine rh_aload_n hX dX7_preference_45 rfl ?_
      refine rh_get hX gl_X7_40 0 dX7_preference_46 rfl rfl ?_
      refine rh_uV hX lk_X7_184 mvX3_clear (fun l => c_X3_clear l E _ _ _ _) ⟨rfl, rfl⟩ ⟨Nat.le_of_ble_eq_true rfl, Nat.le_of_ble_eq_true rfl⟩ [18, 19] rfl rfl 18 rfl dX7_preference_49 rfl rfl (Nat.le_of_ble_eq_true rfl) rfl ?_
      dsimp only [List.cons_append, List.nil_append, List.set_cons_succ, List.set_cons_zero, vput]
      refine rh_aload_n hX dX7_preference_52 rfl ?_
      refine rh_get hX gl_X7_40 0 dX7_preference_53 rfl rfl ?_
      refine rh_lload_n hX dX7_preference_56 rfl ?_
      refine rh_pS hX lk_X7_276 msX7_capped (fun l => c_X7_capped l E _) ⟨rfl, rfl⟩ ⟨Nat.le_of_ble_eq_true rfl, Nat.le_of_ble_eq_true rfl⟩ [] rfl rfl dX7_preference_57 rfl rfl (Nat.le_of_ble_eq_true rfl) ?_
      refine rh_i2l hX dX7_preference_60 ?_
      refine rh_uV hX lk_X7_181 mvX3_tell (fun l => c_X3_tell l E _ _ _ 0 _ (by omega)) ⟨rfl, rfl⟩ ⟨Nat.le_of_ble_eq_true rfl, Nat.le_of_ble_eq_true rfl⟩ [18, 19] rfl rfl 18 rfl dX7_preference_61 rfl rfl (Nat.le_of_ble_eq_true rfl) rfl ?_
      dsimp only [List.cons_append, List.nil_append, List.set_cons_succ, List.set_cons_zero, vput]
      refine rh_aload_n hX dX7_preference_64 rfl ?_
      refine rh_get hX gl_X7_12 0 dX7_preference_65 rfl rfl ?_
      refine rh_iload_n hX dX7_preference_68 rfl ?_
      refine rh_pV hX lk_X7_328 mvX1_preferred (fun l => c_X1_preferred l E _ _ _ td (by omega)) ⟨rfl, rfl⟩ ⟨Nat.le_of_ble_eq_true rfl, Nat.le_of_ble_eq_true rfl⟩ [1, 2] rfl rfl 1 rfl dX7_preference_69 rfl rfl (Nat.le_of_ble_eq_true rfl) ?_
      refine rh_pS hX lk_X7_276 msX7_capped (fun l => c_X7_capped l E _) ⟨rfl, rfl⟩ ⟨Nat.le_of_ble_eq_true rfl, Nat.le_of_ble_eq_true rfl⟩ [] rfl rfl dX7_preference_72 rfl rfl (Nat.le_of_ble_eq_true rfl) ?_
      exact rh_iret hX hR dX7_preference_75 (by simp only [List.map_cons, List.map_nil, List.cons_append, List.nil_append]) (by refine ⟨Z, setRow C (va_up C.2.2.2.2.2.2.2.2.2.1 0 _) (0 + 1), ?ga, hz, ?gb, rfl⟩; (case ga => rw [x_preference, if_neg h5, nI_clamp (show td < 2 ^ 31 by omega)]); (case gb => rw [x_preference, if_neg h5, nI_clamp (show td < 2 ^ 31 by omega)]; exact ⟨_, rowOk1 _ _, rfl⟩))
    · intro k hk0 hk ihk
      refine rh_iload hX dX7_preference_15 rfl ?_
      refine rh_aload_n hX dX7_preference_17 rfl ?_
      refine rh_get hX gl_X7_12 0 dX7_preference_18 rfl rfl ?_
      refine rh_pV hX lk_X7_135 mvX1_types (fun l => c_X1_types l E _ _ _ T hT hT6) ⟨rfl, rfl⟩ ⟨Nat.le_of_ble_eq_true rfl, Nat.le_of_ble_eq_true rfl⟩ [1, 2] rfl rfl 1 rfl dX7_preference_21 rfl rfl (Nat.le_of_ble_eq_true rfl) ?_
      refine rh_icmp_ge_f (tgt := 45) hX dX7_preference_24 (by decide) (nI_ge (show td + k < T by omega) (by omega)) ?_
      refine rh_lload_n hX dX7_preference_27 rfl ?_
      refine rh_aload_n hX dX7_preference_28 rfl ?_
      refine rh_get hX gl_X7_12 0 dX7_preference_29 rfl rfl ?_
      refine rh_iload hX dX7_preference_32 rfl ?_
      refine rh_pV hX lk_X7_328 mvX1_preferred (fun l => c_X1_preferred l E _ _ _ (td + k) (by omega)) ⟨rfl, rfl⟩ ⟨Nat.le_of_ble_eq_true rfl, Nat.le_of_ble_eq_true rfl⟩ [1, 2] rfl rfl 1 rfl dX7_preference_34 rfl rfl (Nat.le_of_ble_eq_true rfl) ?_
      refine rh_ladd hX dX7_preference_37 ?_
      refine rh_lstn2 hX dX7_preference_38 (by decide) rfl ?_
      refine rh_inc4 hX dX7_preference_39 (by decide) rfl (rn_i1 _) ?_
      refine rh_goto (tgt := 15) hX dX7_preference_42 (by decide) ?_
      exact ihk
  · skip
    refine rh_iconst hX dX7_preference_8 ki_m1 ?_
    exact rh_iret hX hR dX7_preference_9 (by simp only [List.map_cons, List.map_nil, List.cons_append, List.nil_append]) (by first | exact ⟨Z, C, by rw [x_preference, if_pos h5] <;> rfl, hz, by rw [x_preference, if_pos h5] <;> rfl, rfl⟩)

set_option maxRecDepth 100000 in
set_option maxHeartbeats 4000000 in
theorem c_X7_curve (l : Launch) (E : rhE) (A : Nat → Nat) (C : CT) (Z : ZT) (h d : Int32) (T : Nat) (hC : cOk C T) (hz : zOk Z) : Ctr l E yX7_curve cX7_curve 8 (some .long) (rmL 4) [.ref (A 0), .int h, .int d] (wC E A C Z) (fun r w => ∃ Z1 C1, r = some (Value.long (x_curve C T h d).1) ∧ zOk Z1 ∧ rowTold C C1 (x_curve C T h d).2 ∧ w = wC E A C1 Z1) := by
  refine Ctr.of (by decide) (Nat.le_of_ble_eq_true rfl) rfl rfl 5 ?_
  intro X hX hR
  obtain ⟨hT, hT1, hT6, hnx, hud, hn, hrn⟩ := id hC
  refine rh_iload_n hX dX7_curve_0 rfl ?_
  refine rh_pS hX lk_X7_104 msX7_isHolder (fun l => c_X7_isHolder l E _) ⟨rfl, rfl⟩ ⟨Nat.le_of_ble_eq_true rfl, Nat.le_of_ble_eq_true rfl⟩ [] rfl rfl dX7_curve_1 rfl rfl (Nat.le_of_ble_eq_true rfl) ?_
  refine rh_if_eq (tgt := 17) hX dX7_curve_4 (by decide) (fun ha => ?_) (fun ha => ?_)
  · skip
    refine rh_ldc2 hX dX7_curve_17 kl_X7_316 ?_
    exact rh_lret hX hR dX7_curve_20 (by simp only [List.map_cons, List.map_nil, List.cons_append, List.nil_append]) (by first | exact ⟨Z, C, by rw [x_curve, if_pos ha] <;> rfl, hz, by rw [x_curve, if_pos ha] <;> rfl, rfl⟩ | exact ⟨Z, C, by rw [x_curve, if_neg ha, if_pos hb] <;> rfl, hz, by rw [x_curve, if_neg ha, if_pos hb] <;> rfl, rfl⟩)
  · skip
    obtain ⟨hd, rfl, hdl⟩ := xH_1 ha
    refine rh_iload_n hX dX7_curve_7 rfl ?_
    refine rh_ldc2 hX dX7_curve_8 kl_X7_314 ?_
    refine rh_pS hX lk_X7_208 msX7_isUpTo (fun l => c_X7_isUpTo l E _ _) ⟨rfl, rfl⟩ ⟨Nat.le_of_ble_eq_true rfl, Nat.le_of_ble_eq_true rfl⟩ [] rfl rfl dX7_curve_11 rfl rfl (Nat.le_of_ble_eq_true rfl) ?_
    refine rh_if_ne (tgt := 21) hX dX7_curve_14 (by decide) (fun hb => ?_) (fun hb => ?_)
    · skip
      refine rh_aload_n hX dX7_curve_21 rfl ?_
      refine rh_get hX gl_X7_61 0 dX7_curve_22 rfl rfl ?_
      refine rh_aload_n hX dX7_curve_25 rfl ?_
      refine rh_get hX gl_X7_12 0 dX7_curve_26 rfl rfl ?_
      refine rh_uV hX lk_X7_292 mvX4_looksAt (fun l => c_X4_looksAt l E _ _ _ _ _ _ _ _ _ _ _ _ _ _ _ _ _ _ T hT hT6 hT1) ⟨rfl, rfl⟩ ⟨Nat.le_of_ble_eq_true rfl, Nat.le_of_ble_eq_true rfl⟩ [29, 30, 31, 32, 33, 1, 2] rfl rfl 29 rfl dX7_curve_29 rfl rfl (Nat.le_of_ble_eq_true rfl) rfl ?_
      dsimp only [List.cons_append, List.nil_append, List.set_cons_succ, List.set_cons_zero, vput]
      refine rh_lconst hX dX7_curve_32 kL_0 ?_
      refine rh_lstn3 hX dX7_curve_33 (by decide) rfl ?_
      refine rh_aload_n hX dX7_curve_34 rfl ?_
      refine rh_get hX gl_X7_40 0 dX7_curve_35 rfl rfl ?_
      refine rh_uV hX lk_X7_184 mvX3_clear (fun l => c_X3_clear l E _ _ _ _) ⟨rfl, rfl⟩ ⟨Nat.le_of_ble_eq_true rfl, Nat.le_of_ble_eq_true rfl⟩ [18, 19] rfl rfl 18 rfl dX7_curve_38 rfl rfl (Nat.le_of_ble_eq_true rfl) rfl ?_
      dsimp only [List.cons_append, List.nil_append, List.set_cons_succ, List.set_cons_zero, vput]
      refine rh_iconst hX dX7_curve_41 ki_1 ?_
      refine rh_ist5 hX dX7_curve_42 (by decide) rfl ?_
      refine (rh_loop (P := fun k => ∀ (g1 pf1 : Nat → Int64) (cn1 : Int32) (lf1 sh1 : Int64), (rowOk g1 ((List.range k).map (fun k => xHG C.1 T ((nI (k + 1)).toInt64 * d.toInt64) hd)) ∧ pf1 0 = 0) → G X 44 [some (.ref (A 0)), some (.int (nI hd)), some (.int d), some (.long (sumF 0 (fun k => xHG C.1 T ((nI (k + 1)).toInt64 * d.toInt64) hd) k)), none, some (.int (nI (k + 1))), none, none] [] (wC E A (setRow C g1 k) (Z.1, Z.2.1, Z.2.2.1, Z.2.2.2.1, ((rowTo (cAllHeld C.1) Z.2.2.2.2.1.1 T), (rowTo (cAllConv C.1) Z.2.2.2.2.1.2.1 T), (rowTo (cDue C.1) Z.2.2.2.2.1.2.2.1 T), pf1, cAllGranted C.1, T, cTypesWith C.1 4 T, cn1, lf1, sh1), Z.2.2.2.2.2.1, Z.2.2.2.2.2.2))) (0) (8) (by omega) ?_ ?_) _ _ _ _ _ ⟨rowOk_nil _, hz⟩
      · intro g1 pf1 cn1 lf1 sh1 hH
        refine rh_iload hX dX7_curve_44 rfl ?_
        refine rh_bipush hX dX7_curve_46 kb_8 ?_
        refine rh_icmp_gt_t (tgt := 98) hX dX7_curve_48 (by decide) (by decide) ?_
        refine rh_lload_n hX dX7_curve_98 rfl ?_
        exact rh_lret hX hR dX7_curve_99 (by simp only [List.map_cons, List.map_nil, List.cons_append, List.nil_append]) ⟨(Z.1, Z.2.1, Z.2.2.1, Z.2.2.2.1, ((rowTo (cAllHeld C.1) Z.2.2.2.2.1.1 T), (rowTo (cAllConv C.1) Z.2.2.2.2.1.2.1 T), (rowTo (cDue C.1) Z.2.2.2.2.1.2.2.1 T), pf1, cAllGranted C.1, T, cTypesWith C.1 4 T, cn1, lf1, sh1), Z.2.2.2.2.2.1, Z.2.2.2.2.2.2), setRow C g1 8, by rw [x_curve, if_neg ha, if_neg hb, nI_clamp (show hd < 2 ^ 31 by omega)], hH.2, by rw [x_curve, if_neg ha, if_neg hb, nI_clamp (show hd < 2 ^ 31 by omega)]; exact ⟨_, hH.1, by rw [List.length_map, List.length_range]⟩, rfl⟩
      · intro k hk0 hk ihk g1 pf1 cn1 lf1 sh1 hH
        refine rh_iload hX dX7_curve_44 rfl ?_
        refine rh_bipush hX dX7_curve_46 kb_8 ?_
        refine rh_icmp_gt_f (tgt := 98) hX dX7_curve_48 (by decide) (Int32.not_lt.mpr (nI_le (show k + 1 ≤ 8 by omega) (by decide))) ?_
        refine rh_aload_n hX dX7_curve_51 rfl ?_
        refine rh_get hX gl_X7_61 0 dX7_curve_52 rfl rfl ?_
        refine rh_iload hX dX7_curve_55 rfl ?_
        refine rh_i2l hX dX7_curve_57 ?_
        refine rh_iload_n hX dX7_curve_58 rfl ?_
        refine rh_i2l hX dX7_curve_59 ?_
        refine rh_lmul hX dX7_curve_60 ?_
        refine rh_uV hX lk_X7_296 mvX4_settles (fun l => c_X4_settles l E _ _ _ _ _ _ _ _ _ _ _ _ _ _ _ _ (by omega) (by omega)) ⟨rfl, rfl⟩ ⟨Nat.le_of_ble_eq_true rfl, Nat.le_of_ble_eq_true rfl⟩ [29, 30, 31, 32, 33] rfl rfl 29 rfl dX7_curve_61 rfl rfl (Nat.le_of_ble_eq_true rfl) rfl ?_
        dsimp only [List.cons_append, List.nil_append, List.set_cons_succ, List.set_cons_zero, vput]
        rw [sQ_row, xL_row _ _ _ _ hT1, xS_row _ _ _ _ hT1]
        refine rh_aload_n hX dX7_curve_64 rfl ?_
        refine rh_get hX gl_X7_61 0 dX7_curve_65 rfl rfl ?_
        refine rh_aload_n hX dX7_curve_68 rfl ?_
        refine rh_get hX gl_X7_12 0 dX7_curve_69 rfl rfl ?_
        refine rh_iload_n hX dX7_curve_72 rfl ?_
        refine rh_pV hX lk_X7_311 mvX4_holderGets (fun l => c_X4_holderGets l E _ _ _ _ _ _ _ _ _ _ _ _ _ _ _ _ _ _ _ (by omega) (by omega) (by omega)) ⟨rfl, rfl⟩ ⟨Nat.le_of_ble_eq_true rfl, Nat.le_of_ble_eq_true rfl⟩ [29, 30, 31, 32, 33, 1, 2] rfl rfl 29 rfl dX7_curve_73 rfl rfl (Nat.le_of_ble_eq_true rfl) ?_
        dsimp only [setRow]
        rw [xHP_row C.1 _ _ _ ((nI (k + 1)).toInt64 * d.toInt64) hd T hH.2]
        refine rh_lst6 hX dX7_curve_76 (by decide) rfl ?_
        refine rh_aload_n hX dX7_curve_78 rfl ?_
        refine rh_get hX gl_X7_40 0 dX7_curve_79 rfl rfl ?_
        refine rh_lload hX dX7_curve_82 rfl ?_
        refine rh_uV hX lk_X7_181 mvX3_tell (fun l => c_X3_tell l E _ _ _ k _ (by omega)) ⟨rfl, rfl⟩ ⟨Nat.le_of_ble_eq_true rfl, Nat.le_of_ble_eq_true rfl⟩ [18, 19] rfl rfl 18 rfl dX7_curve_84 rfl rfl (Nat.le_of_ble_eq_true rfl) rfl ?_
        dsimp only [List.cons_append, List.nil_append, List.set_cons_succ, List.set_cons_zero, vput]
        refine rh_lload_n hX dX7_curve_87 rfl ?_
        refine rh_lload hX dX7_curve_88 rfl ?_
        refine rh_ladd hX dX7_curve_90 ?_
        refine rh_lstn3 hX dX7_curve_91 (by decide) rfl ?_
        refine rh_inc5 hX dX7_curve_92 (by decide) rfl (rn_i1 _) ?_
        refine rh_goto (tgt := 44) hX dX7_curve_95 (by decide) ?_
        exact rh_wk (by exact ⟨rfl, rfl, rfl, rfl, rfl, trivial⟩) (ihk _ _ _ _ _ ⟨by rw [range_push]; exact rowOk_push _ hH.1 (by rw [List.length_map, List.length_range]), (xPF_0 C.1 _ _ ((nI (k + 1)).toInt64 * d.toInt64) T hT1 hH.2)⟩)
    · skip
      refine rh_ldc2 hX dX7_curve_17 kl_X7_316 ?_
      exact rh_lret hX hR dX7_curve_20 (by simp only [List.map_cons, List.map_nil, List.cons_append, List.nil_append]) (by first | exact ⟨Z, C, by rw [x_curve, if_pos ha] <;> rfl, hz, by rw [x_curve, if_pos ha] <;> rfl, rfl⟩ | exact ⟨Z, C, by rw [x_curve, if_neg ha, if_pos hb] <;> rfl, hz, by rw [x_curve, if_neg ha, if_pos hb] <;> rfl, rfl⟩)

set_option maxRecDepth 100000 in
set_option maxHeartbeats 4000000 in
theorem c_X7_reaches (l : Launch) (E : rhE) (A : Nat → Nat) (C : CT) (Z : ZT) (h x d : Int32) (T : Nat) (hC : cOk C T) (hz : zOk Z) : Ctr l E yX7_reaches cX7_reaches 5 (some .int) (rmL 4) [.ref (A 0), .int h, .int x, .int d] (wC E A C Z) (fun r w => ∃ Z1, r = some (Value.int (x_reaches C T h x d)) ∧ zOk Z1 ∧ w = wC E A C Z1) := by
  refine Ctr.of (by decide) (Nat.le_of_ble_eq_true rfl) rfl rfl 1 ?_
  intro X hX hR
  obtain ⟨hT, hT1, hT6, hnx, hud, hn, hrn⟩ := id hC
  refine rh_iload_n hX dX7_reaches_0 rfl ?_
  refine rh_pS hX lk_X7_104 msX7_isHolder (fun l => c_X7_isHolder l E _) ⟨rfl, rfl⟩ ⟨Nat.le_of_ble_eq_true rfl, Nat.le_of_ble_eq_true rfl⟩ [] rfl rfl dX7_reaches_1 rfl rfl (Nat.le_of_ble_eq_true rfl) ?_
  refine rh_if_eq (tgt := 21) hX dX7_reaches_4 (by decide) (fun ha => ?_) (fun ha => ?_)
  · skip
    refine rh_iconst hX dX7_reaches_21 ki_m1 ?_
    exact rh_iret hX hR dX7_reaches_22 (by simp only [List.map_cons, List.map_nil, List.cons_append, List.nil_append]) (by first | exact ⟨Z, by rw [x_reaches, if_pos ha] <;> rfl, hz, rfl⟩ | exact ⟨Z, by rw [x_reaches, if_neg ha, if_pos hx] <;> rfl, hz, rfl⟩ | exact ⟨Z, by rw [x_reaches, if_neg ha, if_neg hx, if_pos hb] <;> rfl, hz, rfl⟩)
  · skip
    obtain ⟨hd, rfl, hdl⟩ := xH_1 ha
    refine rh_iload_n hX dX7_reaches_7 rfl ?_
    refine rh_if_lt (tgt := 21) hX dX7_reaches_8 (by decide) (fun hx => ?_) (fun hx => ?_)
    · skip
      refine rh_iconst hX dX7_reaches_21 ki_m1 ?_
      exact rh_iret hX hR dX7_reaches_22 (by simp only [List.map_cons, List.map_nil, List.cons_append, List.nil_append]) (by first | exact ⟨Z, by rw [x_reaches, if_pos ha] <;> rfl, hz, rfl⟩ | exact ⟨Z, by rw [x_reaches, if_neg ha, if_pos hx] <;> rfl, hz, rfl⟩ | exact ⟨Z, by rw [x_reaches, if_neg ha, if_neg hx, if_pos hb] <;> rfl, hz, rfl⟩)
    · skip
      refine rh_iload_n hX dX7_reaches_11 rfl ?_
      refine rh_ldc2 hX dX7_reaches_12 kl_X7_324 ?_
      refine rh_pS hX lk_X7_208 msX7_isUpTo (fun l => c_X7_isUpTo l E _ _) ⟨rfl, rfl⟩ ⟨Nat.le_of_ble_eq_true rfl, Nat.le_of_ble_eq_true rfl⟩ [] rfl rfl dX7_reaches_15 rfl rfl (Nat.le_of_ble_eq_true rfl) ?_
      refine rh_if_ne (tgt := 23) hX dX7_reaches_18 (by decide) (fun hb => ?_) (fun hb => ?_)
      · skip
        refine rh_aload_n hX dX7_reaches_23 rfl ?_
        refine rh_get hX gl_X7_61 0 dX7_reaches_24 rfl rfl ?_
        refine rh_aload_n hX dX7_reaches_27 rfl ?_
        refine rh_get hX gl_X7_12 0 dX7_reaches_28 rfl rfl ?_
        refine rh_uV hX lk_X7_292 mvX4_looksAt (fun l => c_X4_looksAt l E _ _ _ _ _ _ _ _ _ _ _ _ _ _ _ _ _ _ T hT hT6 hT1) ⟨rfl, rfl⟩ ⟨Nat.le_of_ble_eq_true rfl, Nat.le_of_ble_eq_true rfl⟩ [29, 30, 31, 32, 33, 1, 2] rfl rfl 29 rfl dX7_reaches_31 rfl rfl (Nat.le_of_ble_eq_true rfl) rfl ?_
        dsimp only [List.cons_append, List.nil_append, List.set_cons_succ, List.set_cons_zero, vput]
        refine rh_iconst hX dX7_reaches_34 ki_0 ?_
        refine rh_ist4 hX dX7_reaches_35 (by decide) rfl ?_
        refine (rh_loop (P := fun i => ∀ (pf1 : Nat → Int64) (cn1 : Int32) (lf1 sh1 : Int64), (pf1 0 = 0 ∧ stepAt (rcP C.1 T hd x d) d (101 - i) i = stepAt (rcP C.1 T hd x d) d 101 0) → G X 37 [some (.ref (A 0)), some (.int (nI hd)), some (.int x), some (.int d), some (.int (nI i))] [] (wC E A C (Z.1, Z.2.1, Z.2.2.1, Z.2.2.2.1, ((rowTo (cAllHeld C.1) Z.2.2.2.2.1.1 T), (rowTo (cAllConv C.1) Z.2.2.2.2.1.2.1 T), (rowTo (cDue C.1) Z.2.2.2.2.1.2.2.1 T), pf1, cAllGranted C.1, T, cTypesWith C.1 4 T, cn1, lf1, sh1), Z.2.2.2.2.2.1, Z.2.2.2.2.2.2))) (0) (101) (by omega) ?_ ?_) _ _ _ _ ⟨hz, rfl⟩
        · intro pf1 cn1 lf1 sh1 hH
          have hE : stepAt (rcP C.1 T hd x d) d 101 0 = -2 := hH.2.symm.trans (stepAt_0 _ _ _)
          refine rh_iload hX dX7_reaches_37 rfl ?_
          refine rh_bipush hX dX7_reaches_39 kb_100 ?_
          refine rh_icmp_gt_t (tgt := 86) hX dX7_reaches_41 (by decide) (by decide) ?_
          refine rh_bipush hX dX7_reaches_86 kb_m2 ?_
          exact rh_iret hX hR dX7_reaches_88 (by simp only [List.map_cons, List.map_nil, List.cons_append, List.nil_append]) (by first | exact ⟨(Z.1, Z.2.1, Z.2.2.1, Z.2.2.2.1, ((rowTo (cAllHeld C.1) Z.2.2.2.2.1.1 T), (rowTo (cAllConv C.1) Z.2.2.2.2.1.2.1 T), (rowTo (cDue C.1) Z.2.2.2.2.1.2.2.1 T), pf1, cAllGranted C.1, T, cTypesWith C.1 4 T, cn1, lf1, sh1), Z.2.2.2.2.2.1, Z.2.2.2.2.2.2), by rw [x_reaches, if_neg ha, if_neg hx, if_neg hb, nI_clamp (show hd < 2 ^ 31 by omega), hE] <;> rfl, hH.1, rfl⟩)
        · intro i hi0 hi ih pf1 cn1 lf1 sh1 hH
          have hE := hH.2
          rw [show 101 - i = (101 - (i + 1)) + 1 by omega] at hE
          refine rh_iload hX dX7_reaches_37 rfl ?_
          refine rh_bipush hX dX7_reaches_39 kb_100 ?_
          refine rh_icmp_gt_f (tgt := 86) hX dX7_reaches_41 (by decide) (Int32.not_lt.mpr (nI_le (show i ≤ 100 by omega) (by decide))) ?_
          refine rh_aload_n hX dX7_reaches_44 rfl ?_
          refine rh_get hX gl_X7_61 0 dX7_reaches_45 rfl rfl ?_
          refine rh_iload hX dX7_reaches_48 rfl ?_
          refine rh_i2l hX dX7_reaches_50 ?_
          refine rh_iload_n hX dX7_reaches_51 rfl ?_
          refine rh_i2l hX dX7_reaches_52 ?_
          refine rh_lmul hX dX7_reaches_53 ?_
          refine rh_uV hX lk_X7_296 mvX4_settles (fun l => c_X4_settles l E _ _ _ _ _ _ _ _ _ _ _ _ _ _ _ _ (by omega) (by omega)) ⟨rfl, rfl⟩ ⟨Nat.le_of_ble_eq_true rfl, Nat.le_of_ble_eq_true rfl⟩ [29, 30, 31, 32, 33] rfl rfl 29 rfl dX7_reaches_54 rfl rfl (Nat.le_of_ble_eq_true rfl) rfl ?_
          dsimp only [List.cons_append, List.nil_append, List.set_cons_succ, List.set_cons_zero, vput]
          rw [sQ_row, xL_row _ _ _ _ hT1, xS_row _ _ _ _ hT1]
          refine rh_aload_n hX dX7_reaches_57 rfl ?_
          refine rh_get hX gl_X7_61 0 dX7_reaches_58 rfl rfl ?_
          refine rh_aload_n hX dX7_reaches_61 rfl ?_
          refine rh_get hX gl_X7_12 0 dX7_reaches_62 rfl rfl ?_
          refine rh_iload_n hX dX7_reaches_65 rfl ?_
          refine rh_pV hX lk_X7_311 mvX4_holderGets (fun l => c_X4_holderGets l E _ _ _ _ _ _ _ _ _ _ _ _ _ _ _ _ _ _ _ (by omega) (by omega) (by omega)) ⟨rfl, rfl⟩ ⟨Nat.le_of_ble_eq_true rfl, Nat.le_of_ble_eq_true rfl⟩ [29, 30, 31, 32, 33, 1, 2] rfl rfl 29 rfl dX7_reaches_66 rfl rfl (Nat.le_of_ble_eq_true rfl) ?_
          rw [xHP_row C.1 _ _ _ ((nI i).toInt64 * d.toInt64) hd T hH.1]
          refine rh_iload_n hX dX7_reaches_69 rfl ?_
          refine rh_i2l hX dX7_reaches_70 ?_
          refine rh_llt (tgt := 80) hX dX7_reaches_71 dX7_reaches_72 (by decide) (fun h72 => ?_) (fun h72 => ?_)
          · skip
            refine rh_inc4 hX dX7_reaches_80 (by decide) rfl (rn_i1 _) ?_
            refine rh_goto (tgt := 37) hX dX7_reaches_83 (by decide) ?_
            exact ih _ _ _ _ ⟨(xPF_0 C.1 _ _ ((nI i).toInt64 * d.toInt64) T hT1 hH.1), (stepAt_f (fun q => absurd h72 (of_decide_eq_true q))).symm.trans hE⟩
          · skip
            refine rh_iload hX dX7_reaches_75 rfl ?_
            refine rh_iload_n hX dX7_reaches_77 rfl ?_
            refine rh_imul hX dX7_reaches_78 ?_
            exact rh_iret hX hR dX7_reaches_79 (by simp only [List.map_cons, List.map_nil, List.cons_append, List.nil_append]) (by first | exact ⟨(Z.1, Z.2.1, Z.2.2.1, Z.2.2.2.1, ((rowTo (cAllHeld C.1) Z.2.2.2.2.1.1 T), (rowTo (cAllConv C.1) Z.2.2.2.2.1.2.1 T), (rowTo (cDue C.1) Z.2.2.2.2.1.2.2.1 T), (pRow (rowTo (cDue C.1) Z.2.2.2.2.1.2.2.1 T) pf1 (xQ C.1 T ((nI i).toInt64 * d.toInt64)) ((nI i).toInt64 * d.toInt64) T (T - 1)), cAllGranted C.1, T, cTypesWith C.1 4 T, (xQ C.1 T ((nI i).toInt64 * d.toInt64)), (xL C.1 T ((nI i).toInt64 * d.toInt64)), (xS C.1 T ((nI i).toInt64 * d.toInt64))), Z.2.2.2.2.2.1, Z.2.2.2.2.2.2), by rw [x_reaches, if_neg ha, if_neg hx, if_neg hb, nI_clamp (show hd < 2 ^ 31 by omega), ← hE, stepAt_t (decide_eq_true h72)] <;> rfl, (xPF_0 C.1 _ _ ((nI i).toInt64 * d.toInt64) T hT1 hH.1), rfl⟩)
      · skip
        refine rh_iconst hX dX7_reaches_21 ki_m1 ?_
        exact rh_iret hX hR dX7_reaches_22 (by simp only [List.map_cons, List.map_nil, List.cons_append, List.nil_append]) (by first | exact ⟨Z, by rw [x_reaches, if_pos ha] <;> rfl, hz, rfl⟩ | exact ⟨Z, by rw [x_reaches, if_neg ha, if_pos hx] <;> rfl, hz, rfl⟩ | exact ⟨Z, by rw [x_reaches, if_neg ha, if_neg hx, if_pos hb] <;> rfl, hz, rfl⟩)

set_option maxRecDepth 100000 in
set_option maxHeartbeats 4000000 in
theorem c_X7_flips (l : Launch) (E : rhE) (A : Nat → Nat) (C : CT) (Z : ZT) (t d : Int32) (T : Nat) (hC : cOk C T) (hz : zOk Z) : Ctr l E yX7_flips cX7_flips 4 (some .int) (rmL 4) [.ref (A 0), .int t, .int d] (wC E A C Z) (fun r w => ∃ Z1, r = some (Value.int (x_flips C T t d)) ∧ zOk Z1 ∧ w = wC E A C Z1) := by
  refine Ctr.of (by decide) (Nat.le_of_ble_eq_true rfl) rfl rfl 1 ?_
  intro X hX hR
  obtain ⟨hT, hT1, hT6, hnx, hud, hn, hrn⟩ := id hC
  refine rh_aload_n hX dX7_flips_0 rfl ?_
  refine rh_iload_n hX dX7_flips_1 rfl ?_
  refine rh_aP hX lk_X7_145 mvX7_isSeries (fun l => c_X7_isSeries l E A C Z _ T hC) ⟨rfl, rfl⟩ ⟨Nat.le_of_ble_eq_true rfl, Nat.le_of_ble_eq_true rfl⟩ 0 rfl dX7_flips_2 rfl rfl (Nat.le_of_ble_eq_true rfl) ?_
  refine rh_if_eq (tgt := 18) hX dX7_flips_5 (by decide) (fun ha => ?_) (fun ha => ?_)
  · skip
    refine rh_iconst hX dX7_flips_18 ki_m1 ?_
    exact rh_iret hX hR dX7_flips_19 (by simp only [List.map_cons, List.map_nil, List.cons_append, List.nil_append]) (by first | exact ⟨Z, by rw [x_flips, if_pos ha] <;> rfl, hz, rfl⟩ | exact ⟨Z, by rw [x_flips, if_neg ha, if_pos hb] <;> rfl, hz, rfl⟩)
  · skip
    obtain ⟨td, rfl, htd1, htd⟩ := xSe_1 hT6 ha
    refine rh_iload_n hX dX7_flips_8 rfl ?_
    refine rh_ldc2 hX dX7_flips_9 kl_X7_324 ?_
    refine rh_pS hX lk_X7_208 msX7_isUpTo (fun l => c_X7_isUpTo l E _ _) ⟨rfl, rfl⟩ ⟨Nat.le_of_ble_eq_true rfl, Nat.le_of_ble_eq_true rfl⟩ [] rfl rfl dX7_flips_12 rfl rfl (Nat.le_of_ble_eq_true rfl) ?_
    refine rh_if_ne (tgt := 20) hX dX7_flips_15 (by decide) (fun hb => ?_) (fun hb => ?_)
    · skip
      refine rh_aload_n hX dX7_flips_20 rfl ?_
      refine rh_get hX gl_X7_61 0 dX7_flips_21 rfl rfl ?_
      refine rh_aload_n hX dX7_flips_24 rfl ?_
      refine rh_get hX gl_X7_12 0 dX7_flips_25 rfl rfl ?_
      refine rh_uV hX lk_X7_292 mvX4_looksAt (fun l => c_X4_looksAt l E _ _ _ _ _ _ _ _ _ _ _ _ _ _ _ _ _ _ T hT hT6 hT1) ⟨rfl, rfl⟩ ⟨Nat.le_of_ble_eq_true rfl, Nat.le_of_ble_eq_true rfl⟩ [29, 30, 31, 32, 33, 1, 2] rfl rfl 29 rfl dX7_flips_28 rfl rfl (Nat.le_of_ble_eq_true rfl) rfl ?_
      dsimp only [List.cons_append, List.nil_append, List.set_cons_succ, List.set_cons_zero, vput]
      refine rh_iconst hX dX7_flips_31 ki_0 ?_
      refine rh_istn3 hX dX7_flips_32 (by decide) rfl ?_
      refine (rh_loop (P := fun i => ∀ (pf1 : Nat → Int64) (cn1 : Int32) (lf1 sh1 : Int64), (pf1 0 = 0 ∧ stepAt (flP C.1 T td d) d (101 - i) i = stepAt (flP C.1 T td d) d 101 0) → G X 33 [some (.ref (A 0)), some (.int (nI td)), some (.int d), some (.int (nI i))] [] (wC E A C (Z.1, Z.2.1, Z.2.2.1, Z.2.2.2.1, ((rowTo (cAllHeld C.1) Z.2.2.2.2.1.1 T), (rowTo (cAllConv C.1) Z.2.2.2.2.1.2.1 T), (rowTo (cDue C.1) Z.2.2.2.2.1.2.2.1 T), pf1, cAllGranted C.1, T, cTypesWith C.1 4 T, cn1, lf1, sh1), Z.2.2.2.2.2.1, Z.2.2.2.2.2.2))) (0) (101) (by omega) ?_ ?_) _ _ _ _ ⟨hz, rfl⟩
      · intro pf1 cn1 lf1 sh1 hH
        have hE : stepAt (flP C.1 T td d) d 101 0 = -2 := hH.2.symm.trans (stepAt_0 _ _ _)
        refine rh_iload_n hX dX7_flips_33 rfl ?_
        refine rh_bipush hX dX7_flips_34 kb_100 ?_
        refine rh_icmp_gt_t (tgt := 72) hX dX7_flips_36 (by decide) (by decide) ?_
        refine rh_bipush hX dX7_flips_72 kb_m2 ?_
        exact rh_iret hX hR dX7_flips_74 (by simp only [List.map_cons, List.map_nil, List.cons_append, List.nil_append]) (by first | exact ⟨(Z.1, Z.2.1, Z.2.2.1, Z.2.2.2.1, ((rowTo (cAllHeld C.1) Z.2.2.2.2.1.1 T), (rowTo (cAllConv C.1) Z.2.2.2.2.1.2.1 T), (rowTo (cDue C.1) Z.2.2.2.2.1.2.2.1 T), pf1, cAllGranted C.1, T, cTypesWith C.1 4 T, cn1, lf1, sh1), Z.2.2.2.2.2.1, Z.2.2.2.2.2.2), by rw [x_flips, if_neg ha, if_neg hb, nI_clamp (show td < 2 ^ 31 by omega), hE] <;> rfl, hH.1, rfl⟩)
      · intro i hi0 hi ih pf1 cn1 lf1 sh1 hH
        have hE := hH.2
        rw [show 101 - i = (101 - (i + 1)) + 1 by omega] at hE
        refine rh_iload_n hX dX7_flips_33 rfl ?_
        refine rh_bipush hX dX7_flips_34 kb_100 ?_
        refine rh_icmp_gt_f (tgt := 72) hX dX7_flips_36 (by decide) (Int32.not_lt.mpr (nI_le (show i ≤ 100 by omega) (by decide))) ?_
        refine rh_aload_n hX dX7_flips_39 rfl ?_
        refine rh_get hX gl_X7_61 0 dX7_flips_40 rfl rfl ?_
        refine rh_iload_n hX dX7_flips_43 rfl ?_
        refine rh_i2l hX dX7_flips_44 ?_
        refine rh_iload_n hX dX7_flips_45 rfl ?_
        refine rh_i2l hX dX7_flips_46 ?_
        refine rh_lmul hX dX7_flips_47 ?_
        refine rh_uV hX lk_X7_296 mvX4_settles (fun l => c_X4_settles l E _ _ _ _ _ _ _ _ _ _ _ _ _ _ _ _ (by omega) (by omega)) ⟨rfl, rfl⟩ ⟨Nat.le_of_ble_eq_true rfl, Nat.le_of_ble_eq_true rfl⟩ [29, 30, 31, 32, 33] rfl rfl 29 rfl dX7_flips_48 rfl rfl (Nat.le_of_ble_eq_true rfl) rfl ?_
        dsimp only [List.cons_append, List.nil_append, List.set_cons_succ, List.set_cons_zero, vput]
        rw [sQ_row, xL_row _ _ _ _ hT1, xS_row _ _ _ _ hT1]
        refine rh_aload_n hX dX7_flips_51 rfl ?_
        refine rh_get hX gl_X7_61 0 dX7_flips_52 rfl rfl ?_
        refine rh_iload_n hX dX7_flips_55 rfl ?_
        refine rh_pV hX lk_X7_318 mvX4_isConverting (fun l => c_X4_isConverting l E _ _ _ _ _ _ _ _ _ _ _ _ _ _ _ _ (by omega)) ⟨rfl, rfl⟩ ⟨Nat.le_of_ble_eq_true rfl, Nat.le_of_ble_eq_true rfl⟩ [29, 30, 31, 32, 33] rfl rfl 29 rfl dX7_flips_56 rfl rfl (Nat.le_of_ble_eq_true rfl) ?_
        refine rh_if_eq (tgt := 66) hX dX7_flips_59 (by decide) (fun h59 => ?_) (fun h59 => ?_)
        · skip
          have h59 : ¬ sBit (xQ C.1 T ((nI i).toInt64 * d.toInt64)) td = 1 := fun q => absurd h59 (by rw [if_pos q]; decide)
          refine rh_inc3 hX dX7_flips_66 (by decide) rfl (rn_i1 _) ?_
          refine rh_goto (tgt := 33) hX dX7_flips_69 (by decide) ?_
          exact ih _ _ _ _ ⟨(xPF_0 C.1 _ _ ((nI i).toInt64 * d.toInt64) T hT1 hH.1), (stepAt_f (fun q => absurd (of_decide_eq_true q) h59)).symm.trans hE⟩
        · skip
          have h59 : sBit (xQ C.1 T ((nI i).toInt64 * d.toInt64)) td = 1 := Classical.not_not.mp (fun q => h59 (if_neg q))
          refine rh_iload_n hX dX7_flips_62 rfl ?_
          refine rh_iload_n hX dX7_flips_63 rfl ?_
          refine rh_imul hX dX7_flips_64 ?_
          exact rh_iret hX hR dX7_flips_65 (by simp only [List.map_cons, List.map_nil, List.cons_append, List.nil_append]) (by first | exact ⟨(Z.1, Z.2.1, Z.2.2.1, Z.2.2.2.1, ((rowTo (cAllHeld C.1) Z.2.2.2.2.1.1 T), (rowTo (cAllConv C.1) Z.2.2.2.2.1.2.1 T), (rowTo (cDue C.1) Z.2.2.2.2.1.2.2.1 T), (pRow (rowTo (cDue C.1) Z.2.2.2.2.1.2.2.1 T) pf1 (xQ C.1 T ((nI i).toInt64 * d.toInt64)) ((nI i).toInt64 * d.toInt64) T (T - 1)), cAllGranted C.1, T, cTypesWith C.1 4 T, (xQ C.1 T ((nI i).toInt64 * d.toInt64)), (xL C.1 T ((nI i).toInt64 * d.toInt64)), (xS C.1 T ((nI i).toInt64 * d.toInt64))), Z.2.2.2.2.2.1, Z.2.2.2.2.2.2), by rw [x_flips, if_neg ha, if_neg hb, nI_clamp (show td < 2 ^ 31 by omega), ← hE, stepAt_t (decide_eq_true h59)] <;> rfl, (xPF_0 C.1 _ _ ((nI i).toInt64 * d.toInt64) T hT1 hH.1), rfl⟩)
    · skip
      refine rh_iconst hX dX7_flips_18 ki_m1 ?_
      exact rh_iret hX hR dX7_flips_19 (by simp only [List.map_cons, List.map_nil, List.cons_append, List.nil_append]) (by first | exact ⟨Z, by rw [x_flips, if_pos ha] <;> rfl, hz, rfl⟩ | exact ⟨Z, by rw [x_flips, if_neg ha, if_pos hb] <;> rfl, hz, rfl⟩)
