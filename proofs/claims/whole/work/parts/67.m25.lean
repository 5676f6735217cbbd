/-! a turn of the model's -/
def mFl (u : Nat → Int32) (T : Nat) (lt : Int32) : Int64 := cSize (fm u) T - (if lt = 0 then 0 else u 56).toInt64
def mPr (u : Nat → Int32) (T : Nat) (vl lt : Int32) : Int64 := 10000 * vl.toInt64 / mFl u T lt
def mNs (mn : Nat → Int32) (pr : Int64) : Int64 := sumF 0 (fun h => 10000 * (mn h).toInt64 / pr) 8
def mMg (ca : Nat → Int64) (ba na pr ns pd : Int64) (c : Nat) (s : (Nat → Int32) × Int32) : (Nat → Int32) × Int32 := (va_up s.1 (64 + c) (mRat s.1 ca ba na c pr ns pd).toInt32, if s.2 = 0 then 0 else if mRat s.1 ca ba na c pr ns pd = (s.1 (64 + c)).toInt64 then 1 else 0)
def mMv (ca : Nat → Int64) (ba na pr ns pd : Int64) (s : (Nat → Int32) × Int32) : Nat → (Nat → Int32) × Int32
  | 0 => s
  | c + 1 => if c = 0 then s else mMg ca ba na pr ns pd c (mMv ca ba na pr ns pd s c)
termination_by c => c
theorem mMv_1 (ca : Nat → Int64) (ba na pr ns pd : Int64) (s : (Nat → Int32) × Int32) : mMv ca ba na pr ns pd s 1 = s := by rw [mMv]; rfl
theorem mMv_s (ca : Nat → Int64) (ba na pr ns pd : Int64) (s : (Nat → Int32) × Int32) {c : Nat} (h : 1 ≤ c) : mMv ca ba na pr ns pd s (c + 1) = mMg ca ba na pr ns pd c (mMv ca ba na pr ns pd s c) := by rw [mMv, if_neg (by omega)]
theorem mMg_a {ca : Nat → Int64} {ba na pr ns pd : Int64} {c : Nat} {s : (Nat → Int32) × Int32} (a : s.2 = 0) : mMg ca ba na pr ns pd c s = (va_up s.1 (64 + c) (mRat s.1 ca ba na c pr ns pd).toInt32, 0) := by unfold mMg; rw [if_pos a]
theorem mMg_b {ca : Nat → Int64} {ba na pr ns pd : Int64} {c : Nat} {s : (Nat → Int32) × Int32} (a : ¬ s.2 = 0) (b : ¬ mRat s.1 ca ba na c pr ns pd = (s.1 (64 + c)).toInt64) : mMg ca ba na pr ns pd c s = (va_up s.1 (64 + c) (mRat s.1 ca ba na c pr ns pd).toInt32, 0) := by unfold mMg; rw [if_neg a, if_neg b]
theorem mMg_c {ca : Nat → Int64} {ba na pr ns pd : Int64} {c : Nat} {s : (Nat → Int32) × Int32} (a : ¬ s.2 = 0) (b : mRat s.1 ca ba na c pr ns pd = (s.1 (64 + c)).toInt64) : mMg ca ba na pr ns pd c s = (va_up s.1 (64 + c) (mRat s.1 ca ba na c pr ns pd).toInt32, 1) := by unfold mMg; rw [if_neg a, if_pos b]
def mM (u : Nat → Int32) (T : Nat) (mn : Nat → Int32) (pd : Int64) (ca : Nat → Int64) (ba na pr : Int64) : (Nat → Int32) × Int32 := mMv ca ba na pr (mNs mn pr) pd (u, 1) T
def mOt (T : Nat) (M : (Nat → Int32) × Int32) (ns : Int64) : Int64 := cSize (fm M.1) T - (M.1 56).toInt64 + ns
def mDu (tp : Int32) (ot : Int64) : Int64 := (tp.toInt64 * ot + 999 - tp.toInt64) / (1000 - tp.toInt64)
def mTnG (T : Nat) (tp pA : Int32) (fl pr ns : Int64) (M : (Nat → Int32) × Int32) : Int32 := if fl = 0 then -3 else if xIn pr 1 100000000 = 0 then -3 else if 1000000000 < mOt T M ns then -9 else if 1000000000 < mOt T M ns + maxl pA.toInt64 (mDu tp (mOt T M ns)) then -9 else if M.2 = 0 then 0 else if maxl pA.toInt64 (mDu tp (mOt T M ns)) = (M.1 56).toInt64 then 1 else 0
def mTn (u : Nat → Int32) (T : Nat) (vl tp lt : Int32) (mn : Nat → Int32) (pd : Int64) (ca : Nat → Int64) (ba na : Int64) (pA : Int32) : Int32 := mTnG T tp pA (mFl u T lt) (mPr u T vl lt) (mNs mn (mPr u T vl lt)) (mM u T mn pd ca ba na (mPr u T vl lt))
def mTuG (T : Nat) (tp pA : Int32) (ns : Int64) (M : (Nat → Int32) × Int32) : Nat → Int32 := va_up M.1 56 (minl (maxl pA.toInt64 (mDu tp (mOt T M ns))) 1000000000).toInt32
def mTu (u : Nat → Int32) (T : Nat) (vl tp lt : Int32) (mn : Nat → Int32) (pd : Int64) (ca : Nat → Int64) (ba na : Int64) (pA : Int32) : Nat → Int32 := mTuG T tp pA (mNs mn (mPr u T vl lt)) (mM u T mn pd ca ba na (mPr u T vl lt))
theorem mRat_b {u : Nat → Int32} {ca : Nat → Int64} {ba na : Int64} {t : Nat} {p n m : Int64} (hc : 1 ≤ (ca t).toInt) (hp : 1 ≤ p.toInt) : 1 ≤ (mRat u ca ba na t p n m).toInt ∧ (mRat u ca ba na t p n m).toInt ≤ (ca t).toInt := by
  unfold mRat
  split
  · omega
  · split
    · rename_i h
      rw [z_lt] at h
      split
      · omega
      · split
        · omega
        · rw [z_max, z_min, show (1 : Int64).toInt = 1 by decide]
          omega
    · omega
theorem mOk_mMv {ca : Nat → Int64} {ba na pr ns pd : Int64} {s : (Nat → Int32) × Int32} {T : Nat} (hM : mOk s.1 T) (hca : ∀ t, 1 ≤ t → t < T → 1 ≤ (ca t).toInt ∧ (ca t).toInt ≤ 100000000) (hp : 1 ≤ pr.toInt) : ∀ c : Nat, c ≤ T → mOk (mMv ca ba na pr ns pd s c).1 T
  | 0, _ => by rw [mMv]; exact hM
  | c + 1, hc => by
    have h6 := hM.2.2.1
    by_cases e : c = 0
    · rw [mMv, if_pos e]; exact hM
    · obtain ⟨a1, a2, a3, a4⟩ := mOk_mMv (ba := ba) (na := na) (ns := ns) (pd := pd) hM hca hp c (by omega)
      rw [mMv_s _ _ _ _ _ _ _ (by omega)]
      show mOk (va_up (mMv ca ba na pr ns pd s c).1 (64 + c) (mRat (mMv ca ba na pr ns pd s c).1 ca ba na c pr ns pd).toInt32) T
      refine ⟨by unfold va_up; rw [if_neg (by omega)]; exact a1, a2, a3, fun t t1 t2 => ?_⟩
      have h := a4 t t1 t2
      rw [← fm_fact _ (t := t) (k := 1) (by omega) (by omega)] at h ⊢
      unfold va_up
      by_cases z : t = c
      · rw [if_pos (by omega)]
        obtain ⟨b1, b2⟩ := hca c (by omega) (by omega)
        obtain ⟨d1, d2⟩ := mRat_b (u := (mMv ca ba na pr ns pd s c).1) (ba := ba) (na := na) (n := ns) (m := pd) b1 hp
        rw [z_lt, z_l, z_i rfl (by omega) (by omega)]
        show (0 : Int) < _
        omega
      · rw [if_neg (by omega)]; exact h
theorem xIn_lo {v lo hi : Int64} (h : ¬ xIn v lo hi = 0) : lo.toInt ≤ v.toInt ∧ v.toInt ≤ hi.toInt := by
  unfold xIn at h
  by_cases a : v < lo
  · rw [if_pos a] at h; exact absurd rfl h
  · rw [if_neg a] at h
    by_cases b : hi < v
    · rw [if_pos b] at h; exact absurd rfl h
    · rw [z_lt] at a b
      exact ⟨by omega, by omega⟩

set_option maxRecDepth 100000 in
set_option maxHeartbeats 4000000 in
theorem c_X8_turn (l : Launch) (E : rhE) (B : Nat → Nat) (u : Nat → Int32) (kp : Nat → Int32) (ik : Int32) (ps : Nat → Int32) (pm : Nat) (dd : Int32) (tx : Nat → Int32) (ty : Nat) (rw : Nat → Int64) (rm : Nat) (th : Int32) (sz : Nat) (he : Nat) (wr : Int32) (mn : Nat → Int32) (vl : Int32) (tp : Int32) (lt : Int32) (ra : Int32) (pf : Int32) (pt : Int32) (pl : Int32) (pd : Int64) (prc : Int64) (ns : Int64) (tu : Nat) (ba : Int64) (na : Int64) (ca : Nat → Int64) (bo : Nat → Int32) (tr : Nat → Int64) (tH : Int32) (asd : Nat → Int32) (pa : Nat → Int64) (tg : Nat → Int64) (sd : Int64) (sr : Int64) (pA : Int32) (T : Nat) (hM : mOk u T) (hca : ∀ t, 1 ≤ t → t < T → 1 ≤ (ca t).toInt ∧ (ca t).toInt ≤ 100000000) (htp : 0 ≤ tp.toInt ∧ tp.toInt ≤ 500) : Ctr l E yX8_turn cX8_turn 11 (some .int) (rmL 4) [.ref (B 0), .int pA] (wM E B u kp ik ps pm dd tx ty rw rm th sz he wr mn vl tp lt ra pf pt pl pd prc ns tu ba na ca bo tr tH asd pa tg sd sr) (fun r w => ∃ u1 prc1 ns1, r = some (Value.int (mTn u T vl tp lt mn pd ca ba na pA)) ∧ (0 ≤ (mTn u T vl tp lt mn pd ca ba na pA).toInt → u1 = mTu u T vl tp lt mn pd ca ba na pA ∧ prc1 = (mPr u T vl lt) ∧ ns1 = (mNs mn (mPr u T vl lt))) ∧ mOk u1 T ∧ w = (wM E B u1 kp ik ps pm dd tx ty rw rm th sz he wr mn vl tp lt ra pf pt pl pd prc1 ns1 tu ba na ca bo tr tH asd pa tg sd sr)) := by
  refine Ctr.of (by decide) (Nat.le_of_ble_eq_true rfl) rfl rfl 9 ?_
  intro X hX hR
  obtain ⟨hT, hT1, hT6, hcv⟩ := id hM
  refine rh_aload_n hX dX8_turn_0 rfl ?_
  refine rh_pV hX lk_X8_143 mvX8_fullNow (fun l => c_X8_fullNow l E _ _ _ _ _ _ _ _ _ _ _ _ _ _ _ _ _ _ _ _ _ _ _ _ _ _ _ _ _ _ _ _ _ _ _ _ _ _ T hM) ⟨rfl, rfl⟩ ⟨Nat.le_of_ble_eq_true rfl, Nat.le_of_ble_eq_true rfl⟩ [0, 1, 2, 3, 4, 5, 6, 7, 8, 9, 10, 11, 12] rfl rfl 0 rfl dX8_turn_1 rfl rfl (Nat.le_of_ble_eq_true rfl) ?_
  refine rh_aload_n hX dX8_turn_4 rfl ?_
  refine rh_get hX gl_X8_213 0 dX8_turn_5 rfl rfl ?_
  refine rh_if_eq (tgt := 21) hX dX8_turn_8 (by decide) (fun h8 => ?_) (fun h8 => ?_)
  · skip
    refine rh_iconst hX dX8_turn_21 ki_0 ?_
    refine rh_i2l hX dX8_turn_22 ?_
    refine rh_lsub hX dX8_turn_23 ?_
    first | rw [show cSize (fm u) T - (u 56).toInt64 = (mFl u T lt) by rw [mFl, if_neg h8]] | rw [show cSize (fm u) T - (0 : Int32).toInt64 = (mFl u T lt) by rw [mFl, if_pos h8]]
    refine rh_lstn2 hX dX8_turn_24 (by decide) rfl ?_
    refine rh_lload_n hX dX8_turn_25 rfl ?_
    refine rh_lconst hX dX8_turn_26 kL_0 ?_
    refine rh_lne (tgt := 34) hX dX8_turn_27 dX8_turn_28 (by decide) (fun h28 => ?_) (fun h28 => ?_)
    · skip
      refine rh_aload_n hX dX8_turn_34 rfl ?_
      refine rh_ldc2 hX dX8_turn_35 kl_X8_267 ?_
      refine rh_aload_n hX dX8_turn_38 rfl ?_
      refine rh_get hX gl_X8_207 0 dX8_turn_39 rfl rfl ?_
      refine rh_i2l hX dX8_turn_42 ?_
      refine rh_lmul hX dX8_turn_43 ?_
      refine rh_lload_n hX dX8_turn_44 rfl ?_
      refine rh_ldiv hX dX8_turn_45 h28 ?_
      rw [show 10000 * vl.toInt64 / (mFl u T lt) = (mPr u T vl lt) from rfl]
      refine rh_put hX gl_X8_269 0 dX8_turn_46 rfl rfl rfl (Nat.le_of_ble_eq_true rfl) rfl ?_
      dsimp only [List.cons_append, List.nil_append, List.set_cons_succ, List.set_cons_zero, vput]
      refine rh_aload_n hX dX8_turn_49 rfl ?_
      refine rh_get hX gl_X8_269 0 dX8_turn_50 rfl rfl ?_
      refine rh_lconst hX dX8_turn_53 kL_1 ?_
      refine rh_ldc2 hX dX8_turn_54 kl_X8_243 ?_
      refine rh_pS hX lk_X8_58 msX8_in (fun l => c_X8_in l E _ _ _) ⟨rfl, rfl⟩ ⟨Nat.le_of_ble_eq_true rfl, Nat.le_of_ble_eq_true rfl⟩ [] rfl rfl dX8_turn_57 rfl rfl (Nat.le_of_ble_eq_true rfl) ?_
      refine rh_if_ne (tgt := 66) hX dX8_turn_60 (by decide) (fun h60 => ?_) (fun h60 => ?_)
      · skip
        have hp1 : 1 ≤ (mPr u T vl lt).toInt := (xIn_lo h60).1
        have hpne : ¬ (mPr u T vl lt) = 0 := fun q => by rw [q] at hp1; exact absurd hp1 (by decide)
        refine rh_aload_n hX dX8_turn_66 rfl ?_
        refine rh_lconst hX dX8_turn_67 kL_0 ?_
        refine rh_put hX gl_X8_272 0 dX8_turn_68 rfl rfl rfl (Nat.le_of_ble_eq_true rfl) rfl ?_
        dsimp only [List.cons_append, List.nil_append, List.set_cons_succ, List.set_cons_zero, vput]
        refine rh_iconst hX dX8_turn_71 ki_0 ?_
        refine rh_ist4 hX dX8_turn_72 (by decide) rfl ?_
        refine rh_loop (P := fun i => G X 74 [some (.ref (B 0)), some (.int pA), some (.long (mFl u T lt)), none, some (.int (nI i)), none, none, none, none, none, none] [] (wM E B u kp ik ps pm dd tx ty rw rm th sz he wr mn vl tp lt ra pf pt pl pd (mPr u T vl lt) (sumF 0 (fun h => 10000 * (mn h).toInt64 / (mPr u T vl lt)) i) tu ba na ca bo tr tH asd pa tg sd sr)) (0) (8) (by omega) ?_ ?_
        · skip
          refine rh_iload hX dX8_turn_74 rfl ?_
          refine rh_bipush hX dX8_turn_76 kb_8 ?_
          refine rh_icmp_ge_t (tgt := 113) hX dX8_turn_78 (by decide) (nI_le (a := 8) (b := 8) (Nat.le_refl 8) (by decide)) ?_
          refine rh_iconst hX dX8_turn_113 ki_1 ?_
          refine rh_ist4 hX dX8_turn_114 (by decide) rfl ?_
          refine rh_iconst hX dX8_turn_116 ki_1 ?_
          refine rh_ist5 hX dX8_turn_117 (by decide) rfl ?_
          suffices hP0 : G X 119 [some (.ref (B 0)), some (.int pA), some (.long (mFl u T lt)), none, some (.int (mMv ca ba na (mPr u T vl lt) (mNs mn (mPr u T vl lt)) pd (u, 1) 1).2), some (.int 1), none, none, none, none, none] [] (wM E B (mMv ca ba na (mPr u T vl lt) (mNs mn (mPr u T vl lt)) pd (u, 1) 1).1 kp ik ps pm dd tx ty rw rm th sz he wr mn vl tp lt ra pf pt pl pd (mPr u T vl lt) (mNs mn (mPr u T vl lt)) tu ba na ca bo tr tH asd pa tg sd sr) by rw [mMv_1] at hP0; exact hP0
          refine rh_loop (P := fun c => G X 119 [some (.ref (B 0)), some (.int pA), some (.long (mFl u T lt)), none, some (.int (mMv ca ba na (mPr u T vl lt) (mNs mn (mPr u T vl lt)) pd (u, 1) c).2), some (.int (nI c)), none, none, none, none, none] [] (wM E B (mMv ca ba na (mPr u T vl lt) (mNs mn (mPr u T vl lt)) pd (u, 1) c).1 kp ik ps pm dd tx ty rw rm th sz he wr mn vl tp lt ra pf pt pl pd (mPr u T vl lt) (mNs mn (mPr u T vl lt)) tu ba na ca bo tr tH asd pa tg sd sr)) (1) (T) (by omega) ?_ ?_
          · skip
            have hMc := mOk_mMv (ba := ba) (na := na) (ns := (mNs mn (mPr u T vl lt))) (pd := pd) (s := (u, 1)) hM hca hp1 T (Nat.le_refl T)
            have hMM : (mMv ca ba na (mPr u T vl lt) (mNs mn (mPr u T vl lt)) pd (u, 1) T) = (mM u T mn pd ca ba na (mPr u T vl lt)) := rfl
            rw [hMM] at hMc ⊢
            refine rh_iload hX dX8_turn_119 rfl ?_
            refine rh_aload_n hX dX8_turn_121 rfl ?_
            refine rh_get hX gl_X8_7 0 dX8_turn_122 rfl rfl ?_
            refine rh_bipush hX dX8_turn_125 kb_57 ?_
            refine rh_iaload hX 1 _ dX8_turn_127 rfl rn_c57 (by omega) (by decide) ?_
            refine rh_icmp_ge_t (tgt := 199) hX dX8_turn_128 (by decide) (by rw [hMc.1]; exact nI_le (Nat.le_refl T) (by omega)) ?_
            refine rh_aload_n hX dX8_turn_199 rfl ?_
            refine rh_pV hX lk_X8_143 mvX8_fullNow (fun l => c_X8_fullNow l E _ _ _ _ _ _ _ _ _ _ _ _ _ _ _ _ _ _ _ _ _ _ _ _ _ _ _ _ _ _ _ _ _ _ _ _ _ _ T hMc) ⟨rfl, rfl⟩ ⟨Nat.le_of_ble_eq_true rfl, Nat.le_of_ble_eq_true rfl⟩ [0, 1, 2, 3, 4, 5, 6, 7, 8, 9, 10, 11, 12] rfl rfl 0 rfl dX8_turn_200 rfl rfl (Nat.le_of_ble_eq_true rfl) ?_
            refine rh_aload_n hX dX8_turn_203 rfl ?_
            refine rh_get hX gl_X8_7 0 dX8_turn_204 rfl rfl ?_
            refine rh_bipush hX dX8_turn_207 kb_56 ?_
            refine rh_iaload hX 1 _ dX8_turn_209 rfl rn_c56 (by omega) (by decide) ?_
            refine rh_i2l hX dX8_turn_210 ?_
            refine rh_lsub hX dX8_turn_211 ?_
            refine rh_aload_n hX dX8_turn_212 rfl ?_
            refine rh_get hX gl_X8_272 0 dX8_turn_213 rfl rfl ?_
            refine rh_ladd hX dX8_turn_216 ?_
            rw [show cSize (fm (mM u T mn pd ca ba na (mPr u T vl lt)).1) T - ((mM u T mn pd ca ba na (mPr u T vl lt)).1 56).toInt64 + (mNs mn (mPr u T vl lt)) = (mOt T (mM u T mn pd ca ba na (mPr u T vl lt)) (mNs mn (mPr u T vl lt))) from rfl]
            refine rh_lst5 hX dX8_turn_217 (by decide) rfl ?_
            refine rh_lload hX dX8_turn_219 rfl ?_
            refine rh_ldc2 hX dX8_turn_221 kl_X8_131 ?_
            refine rh_lle (tgt := 231) hX dX8_turn_224 dX8_turn_225 (by decide) (fun h225 => ?_) (fun h225 => ?_)
            · skip
              have h225 : (mOt T (mM u T mn pd ca ba na (mPr u T vl lt)) (mNs mn (mPr u T vl lt))) ≤ 1000000000 := h225
              have h225 : ¬ 1000000000 < (mOt T (mM u T mn pd ca ba na (mPr u T vl lt)) (mNs mn (mPr u T vl lt))) := fun q => by rw [z_lt] at q; rw [z_le] at h225; omega
              refine rh_aload_n hX dX8_turn_231 rfl ?_
              refine rh_get hX gl_X8_210 0 dX8_turn_232 rfl rfl ?_
              refine rh_i2l hX dX8_turn_235 ?_
              refine rh_lload hX dX8_turn_236 rfl ?_
              refine rh_lmul hX dX8_turn_238 ?_
              refine rh_ldc2 hX dX8_turn_239 kl_X8_279 ?_
              refine rh_ladd hX dX8_turn_242 ?_
              refine rh_aload_n hX dX8_turn_243 rfl ?_
              refine rh_get hX gl_X8_210 0 dX8_turn_244 rfl rfl ?_
              refine rh_i2l hX dX8_turn_247 ?_
              refine rh_lsub hX dX8_turn_248 ?_
              refine rh_ldc2 hX dX8_turn_249 kl_X8_281 ?_
              refine rh_aload_n hX dX8_turn_252 rfl ?_
              refine rh_get hX gl_X8_210 0 dX8_turn_253 rfl rfl ?_
              refine rh_i2l hX dX8_turn_256 ?_
              refine rh_lsub hX dX8_turn_257 ?_
              refine rh_ldiv hX dX8_turn_258 (fun q => by have q2 := congrArg Int64.toInt q; rw [z_sub (show (1000 : Int64).toInt = 1000 by decide) (z_l tp) (by omega) (by omega)] at q2; have q3 : 1000 - tp.toInt = 0 := q2; omega) ?_
              rw [show (tp.toInt64 * (mOt T (mM u T mn pd ca ba na (mPr u T vl lt)) (mNs mn (mPr u T vl lt))) + 999 - tp.toInt64) / (1000 - tp.toInt64) = mDu tp (mOt T (mM u T mn pd ca ba na (mPr u T vl lt)) (mNs mn (mPr u T vl lt))) from rfl]
              refine rh_lst7 hX dX8_turn_259 (by decide) rfl ?_
              refine rh_iload_n hX dX8_turn_261 rfl ?_
              refine rh_i2l hX dX8_turn_262 ?_
              refine rh_lload hX dX8_turn_263 rfl ?_
              refine rh_maxl hX mm_X8_265 dX8_turn_265 (Nat.le_of_ble_eq_true rfl) (Nat.le_of_ble_eq_true rfl) ?_
              rw [show (if mDu tp (mOt T (mM u T mn pd ca ba na (mPr u T vl lt)) (mNs mn (mPr u T vl lt))) < pA.toInt64 then pA.toInt64 else mDu tp (mOt T (mM u T mn pd ca ba na (mPr u T vl lt)) (mNs mn (mPr u T vl lt)))) = (maxl pA.toInt64 (mDu tp (mOt T (mM u T mn pd ca ba na (mPr u T vl lt)) (mNs mn (mPr u T vl lt))))) from rfl]
              refine rh_lst9 hX dX8_turn_268 (by decide) rfl ?_
              refine rh_iload hX dX8_turn_270 rfl ?_
              refine rh_if_eq (tgt := 293) hX dX8_turn_272 (by decide) (fun h272 => ?_) (fun h272 => ?_)
              · skip
                refine rh_iconst hX dX8_turn_293 ki_0 ?_
                refine rh_ist4 hX dX8_turn_294 (by decide) rfl ?_
                refine rh_aload_n hX dX8_turn_296 rfl ?_
                refine rh_get hX gl_X8_7 0 dX8_turn_297 rfl rfl ?_
                refine rh_bipush hX dX8_turn_300 kb_56 ?_
                refine rh_lload hX dX8_turn_302 rfl ?_
                refine rh_ldc2 hX dX8_turn_304 kl_X8_131 ?_
                refine rh_minl hX mm_X8_261 dX8_turn_307 (Nat.le_of_ble_eq_true rfl) (Nat.le_of_ble_eq_true rfl) ?_
                refine rh_l2i hX dX8_turn_310 ?_
                refine rh_iastore hX 1 _ dX8_turn_311 rfl rn_c56 (by omega) (by decide) rfl ?_
                dsimp only [List.cons_append, List.nil_append, List.set_cons_succ, List.set_cons_zero, vput]
                refine rh_lload hX dX8_turn_312 rfl ?_
                refine rh_lload hX dX8_turn_314 rfl ?_
                refine rh_ladd hX dX8_turn_316 ?_
                refine rh_ldc2 hX dX8_turn_317 kl_X8_131 ?_
                refine rh_lle (tgt := 329) hX dX8_turn_320 dX8_turn_321 (by decide) (fun h321 => ?_) (fun h321 => ?_)
                · skip
                  have h321 : (mOt T (mM u T mn pd ca ba na (mPr u T vl lt)) (mNs mn (mPr u T vl lt))) + (maxl pA.toInt64 (mDu tp (mOt T (mM u T mn pd ca ba na (mPr u T vl lt)) (mNs mn (mPr u T vl lt))))) ≤ 1000000000 := h321
                  have h321 : ¬ 1000000000 < (mOt T (mM u T mn pd ca ba na (mPr u T vl lt)) (mNs mn (mPr u T vl lt))) + (maxl pA.toInt64 (mDu tp (mOt T (mM u T mn pd ca ba na (mPr u T vl lt)) (mNs mn (mPr u T vl lt))))) := fun q => by rw [z_lt] at q; rw [z_le] at h321; omega
                  refine rh_iload hX dX8_turn_329 rfl ?_
                  refine rh_if_eq_t (tgt := 338) hX dX8_turn_331 (by decide) rfl ?_
                  refine rh_iconst hX dX8_turn_338 ki_0 ?_
                  exact rh_iret hX hR dX8_turn_339 (by simp only [List.map_cons, List.map_nil, List.cons_append, List.nil_append]) (by first | exact ⟨_, _, _, by rw [mTn, mTnG, if_neg h28, if_neg h60, if_neg h225, if_pos h321] <;> rfl, fun q => by rw [mTn, mTnG, if_neg h28, if_neg h60, if_neg h225, if_pos h321] at q; exact absurd q (by decide), (mOk_up hMc (by omega) (by omega)), rfl⟩ | exact ⟨_, _, _, by rw [mTn, mTnG, if_neg h28, if_neg h60, if_neg h225, if_neg h321, if_pos h272] <;> rfl, fun _ => ⟨rfl, rfl, rfl⟩, (mOk_up hMc (by omega) (by omega)), rfl⟩ | exact ⟨_, _, _, by rw [mTn, mTnG, if_neg h28, if_neg h60, if_neg h225, if_neg h321, if_neg h272, if_neg h286] <;> rfl, fun _ => ⟨rfl, rfl, rfl⟩, (mOk_up hMc (by omega) (by omega)), rfl⟩ | exact ⟨_, _, _, by rw [mTn, mTnG, if_neg h28, if_neg h60, if_neg h225, if_neg h321, if_neg h272, if_pos h286] <;> rfl, fun _ => ⟨rfl, rfl, rfl⟩, (mOk_up hMc (by omega) (by omega)), rfl⟩)
                · skip
                  have h321 : ¬ (mOt T (mM u T mn pd ca ba na (mPr u T vl lt)) (mNs mn (mPr u T vl lt))) + (maxl pA.toInt64 (mDu tp (mOt T (mM u T mn pd ca ba na (mPr u T vl lt)) (mNs mn (mPr u T vl lt))))) ≤ 1000000000 := h321
                  have h321 : 1000000000 < (mOt T (mM u T mn pd ca ba na (mPr u T vl lt)) (mNs mn (mPr u T vl lt))) + (maxl pA.toInt64 (mDu tp (mOt T (mM u T mn pd ca ba na (mPr u T vl lt)) (mNs mn (mPr u T vl lt))))) := by rw [z_lt]; rw [z_le] at h321; omega
                  refine rh_bipush hX dX8_turn_324 kb_m9 ?_
                  refine rh_goto (tgt := 339) hX dX8_turn_326 (by decide) ?_
                  exact rh_iret hX hR dX8_turn_339 (by simp only [List.map_cons, List.map_nil, List.cons_append, List.nil_append]) (by first | exact ⟨_, _, _, by rw [mTn, mTnG, if_neg h28, if_neg h60, if_neg h225, if_pos h321] <;> rfl, fun q => by rw [mTn, mTnG, if_neg h28, if_neg h60, if_neg h225, if_pos h321] at q; exact absurd q (by decide), (mOk_up hMc (by omega) (by omega)), rfl⟩ | exact ⟨_, _, _, by rw [mTn, mTnG, if_neg h28, if_neg h60, if_neg h225, if_neg h321, if_pos h272] <;> rfl, fun _ => ⟨rfl, rfl, rfl⟩, (mOk_up hMc (by omega) (by omega)), rfl⟩ | exact ⟨_, _, _, by rw [mTn, mTnG, if_neg h28, if_neg h60, if_neg h225, if_neg h321, if_neg h272, if_neg h286] <;> rfl, fun _ => ⟨rfl, rfl, rfl⟩, (mOk_up hMc (by omega) (by omega)), rfl⟩ | exact ⟨_, _, _, by rw [mTn, mTnG, if_neg h28, if_neg h60, if_neg h225, if_neg h321, if_neg h272, if_pos h286] <;> rfl, fun _ => ⟨rfl, rfl, rfl⟩, (mOk_up hMc (by omega) (by omega)), rfl⟩)
              · skip
                refine rh_lload hX dX8_turn_275 rfl ?_
                refine rh_aload_n hX dX8_turn_277 rfl ?_
                refine rh_get hX gl_X8_7 0 dX8_turn_278 rfl rfl ?_
                refine rh_bipush hX dX8_turn_281 kb_56 ?_
                refine rh_iaload hX 1 _ dX8_turn_283 rfl rn_c56 (by omega) (by decide) ?_
                refine rh_i2l hX dX8_turn_284 ?_
                refine rh_lne (tgt := 293) hX dX8_turn_285 dX8_turn_286 (by decide) (fun h286 => ?_) (fun h286 => ?_)
                · skip
                  refine rh_iconst hX dX8_turn_293 ki_0 ?_
                  refine rh_ist4 hX dX8_turn_294 (by decide) rfl ?_
                  refine rh_aload_n hX dX8_turn_296 rfl ?_
                  refine rh_get hX gl_X8_7 0 dX8_turn_297 rfl rfl ?_
                  refine rh_bipush hX dX8_turn_300 kb_56 ?_
                  refine rh_lload hX dX8_turn_302 rfl ?_
                  refine rh_ldc2 hX dX8_turn_304 kl_X8_131 ?_
                  refine rh_minl hX mm_X8_261 dX8_turn_307 (Nat.le_of_ble_eq_true rfl) (Nat.le_of_ble_eq_true rfl) ?_
                  refine rh_l2i hX dX8_turn_310 ?_
                  refine rh_iastore hX 1 _ dX8_turn_311 rfl rn_c56 (by omega) (by decide) rfl ?_
                  dsimp only [List.cons_append, List.nil_append, List.set_cons_succ, List.set_cons_zero, vput]
                  refine rh_lload hX dX8_turn_312 rfl ?_
                  refine rh_lload hX dX8_turn_314 rfl ?_
                  refine rh_ladd hX dX8_turn_316 ?_
                  refine rh_ldc2 hX dX8_turn_317 kl_X8_131 ?_
                  refine rh_lle (tgt := 329) hX dX8_turn_320 dX8_turn_321 (by decide) (fun h321 => ?_) (fun h321 => ?_)
                  · skip
                    have h321 : (mOt T (mM u T mn pd ca ba na (mPr u T vl lt)) (mNs mn (mPr u T vl lt))) + (maxl pA.toInt64 (mDu tp (mOt T (mM u T mn pd ca ba na (mPr u T vl lt)) (mNs mn (mPr u T vl lt))))) ≤ 1000000000 := h321
                    have h321 : ¬ 1000000000 < (mOt T (mM u T mn pd ca ba na (mPr u T vl lt)) (mNs mn (mPr u T vl lt))) + (maxl pA.toInt64 (mDu tp (mOt T (mM u T mn pd ca ba na (mPr u T vl lt)) (mNs mn (mPr u T vl lt))))) := fun q => by rw [z_lt] at q; rw [z_le] at h321; omega
                    refine rh_iload hX dX8_turn_329 rfl ?_
                    refine rh_if_eq_t (tgt := 338) hX dX8_turn_331 (by decide) rfl ?_
                    refine rh_iconst hX dX8_turn_338 ki_0 ?_
                    exact rh_iret hX hR dX8_turn_339 (by simp only [List.map_cons, List.map_nil, List.cons_append, List.nil_append]) (by first | exact ⟨_, _, _, by rw [mTn, mTnG, if_neg h28, if_neg h60, if_neg h225, if_pos h321] <;> rfl, fun q => by rw [mTn, mTnG, if_neg h28, if_neg h60, if_neg h225, if_pos h321] at q; exact absurd q (by decide), (mOk_up hMc (by omega) (by omega)), rfl⟩ | exact ⟨_, _, _, by rw [mTn, mTnG, if_neg h28, if_neg h60, if_neg h225, if_neg h321, if_pos h272] <;> rfl, fun _ => ⟨rfl, rfl, rfl⟩, (mOk_up hMc (by omega) (by omega)), rfl⟩ | exact ⟨_, _, _, by rw [mTn, mTnG, if_neg h28, if_neg h60, if_neg h225, if_neg h321, if_neg h272, if_neg h286] <;> rfl, fun _ => ⟨rfl, rfl, rfl⟩, (mOk_up hMc (by omega) (by omega)), rfl⟩ | exact ⟨_, _, _, by rw [mTn, mTnG, if_neg h28, if_neg h60, if_neg h225, if_neg h321, if_neg h272, if_pos h286] <;> rfl, fun _ => ⟨rfl, rfl, rfl⟩, (mOk_up hMc (by omega) (by omega)), rfl⟩)
                  · skip
                    have h321 : ¬ (mOt T (mM u T mn pd ca ba na (mPr u T vl lt)) (mNs mn (mPr u T vl lt))) + (maxl pA.toInt64 (mDu tp (mOt T (mM u T mn pd ca ba na (mPr u T vl lt)) (mNs mn (mPr u T vl lt))))) ≤ 1000000000 := h321
                    have h321 : 1000000000 < (mOt T (mM u T mn pd ca ba na (mPr u T vl lt)) (mNs mn (mPr u T vl lt))) + (maxl pA.toInt64 (mDu tp (mOt T (mM u T mn pd ca ba na (mPr u T vl lt)) (mNs mn (mPr u T vl lt))))) := by rw [z_lt]; rw [z_le] at h321; omega
                    refine rh_bipush hX dX8_turn_324 kb_m9 ?_
                    refine rh_goto (tgt := 339) hX dX8_turn_326 (by decide) ?_
                    exact rh_iret hX hR dX8_turn_339 (by simp only [List.map_cons, List.map_nil, List.cons_append, List.nil_append]) (by first | exact ⟨_, _, _, by rw [mTn, mTnG, if_neg h28, if_neg h60, if_neg h225, if_pos h321] <;> rfl, fun q => by rw [mTn, mTnG, if_neg h28, if_neg h60, if_neg h225, if_pos h321] at q; exact absurd q (by decide), (mOk_up hMc (by omega) (by omega)), rfl⟩ | exact ⟨_, _, _, by rw [mTn, mTnG, if_neg h28, if_neg h60, if_neg h225, if_neg h321, if_pos h272] <;> rfl, fun _ => ⟨rfl, rfl, rfl⟩, (mOk_up hMc (by omega) (by omega)), rfl⟩ | exact ⟨_, _, _, by rw [mTn, mTnG, if_neg h28, if_neg h60, if_neg h225, if_neg h321, if_neg h272, if_neg h286] <;> rfl, fun _ => ⟨rfl, rfl, rfl⟩, (mOk_up hMc (by omega) (by omega)), rfl⟩ | exact ⟨_, _, _, by rw [mTn, mTnG, if_neg h28, if_neg h60, if_neg h225, if_neg h321, if_neg h272, if_pos h286] <;> rfl, fun _ => ⟨rfl, rfl, rfl⟩, (mOk_up hMc (by omega) (by omega)), rfl⟩)
                · skip
                  refine rh_iconst hX dX8_turn_289 ki_1 ?_
                  refine rh_goto (tgt := 294) hX dX8_turn_290 (by decide) ?_
                  refine rh_ist4 hX dX8_turn_294 (by decide) rfl ?_
                  refine rh_aload_n hX dX8_turn_296 rfl ?_
                  refine rh_get hX gl_X8_7 0 dX8_turn_297 rfl rfl ?_
                  refine rh_bipush hX dX8_turn_300 kb_56 ?_
                  refine rh_lload hX dX8_turn_302 rfl ?_
                  refine rh_ldc2 hX dX8_turn_304 kl_X8_131 ?_
                  refine rh_minl hX mm_X8_261 dX8_turn_307 (Nat.le_of_ble_eq_true rfl) (Nat.le_of_ble_eq_true rfl) ?_
                  refine rh_l2i hX dX8_turn_310 ?_
                  refine rh_iastore hX 1 _ dX8_turn_311 rfl rn_c56 (by omega) (by decide) rfl ?_
                  dsimp only [List.cons_append, List.nil_append, List.set_cons_succ, List.set_cons_zero, vput]
                  refine rh_lload hX dX8_turn_312 rfl ?_
                  refine rh_lload hX dX8_turn_314 rfl ?_
                  refine rh_ladd hX dX8_turn_316 ?_
                  refine rh_ldc2 hX dX8_turn_317 kl_X8_131 ?_
                  refine rh_lle (tgt := 329) hX dX8_turn_320 dX8_turn_321 (by decide) (fun h321 => ?_) (fun h321 => ?_)
                  · skip
                    have h321 : (mOt T (mM u T mn pd ca ba na (mPr u T vl lt)) (mNs mn (mPr u T vl lt))) + (maxl pA.toInt64 (mDu tp (mOt T (mM u T mn pd ca ba na (mPr u T vl lt)) (mNs mn (mPr u T vl lt))))) ≤ 1000000000 := h321
                    have h321 : ¬ 1000000000 < (mOt T (mM u T mn pd ca ba na (mPr u T vl lt)) (mNs mn (mPr u T vl lt))) + (maxl pA.toInt64 (mDu tp (mOt T (mM u T mn pd ca ba na (mPr u T vl lt)) (mNs mn (mPr u T vl lt))))) := fun q => by rw [z_lt] at q; rw [z_le] at h321; omega
                    refine rh_iload hX dX8_turn_329 rfl ?_
                    refine rh_if_eq_f (tgt := 338) hX dX8_turn_331 (by decide) (by decide) ?_
                    refine rh_iconst hX dX8_turn_334 ki_1 ?_
                    refine rh_goto (tgt := 339) hX dX8_turn_335 (by decide) ?_
                    exact rh_iret hX hR dX8_turn_339 (by simp only [List.map_cons, List.map_nil, List.cons_append, List.nil_append]) (by first | exact ⟨_, _, _, by rw [mTn, mTnG, if_neg h28, if_neg h60, if_neg h225, if_pos h321] <;> rfl, fun q => by rw [mTn, mTnG, if_neg h28, if_neg h60, if_neg h225, if_pos h321] at q; exact absurd q (by decide), (mOk_up hMc (by omega) (by omega)), rfl⟩ | exact ⟨_, _, _, by rw [mTn, mTnG, if_neg h28, if_neg h60, if_neg h225, if_neg h321, if_pos h272] <;> rfl, fun _ => ⟨rfl, rfl, rfl⟩, (mOk_up hMc (by omega) (by omega)), rfl⟩ | exact ⟨_, _, _, by rw [mTn, mTnG, if_neg h28, if_neg h60, if_neg h225, if_neg h321, if_neg h272, if_neg h286] <;> rfl, fun _ => ⟨rfl, rfl, rfl⟩, (mOk_up hMc (by omega) (by omega)), rfl⟩ | exact ⟨_, _, _, by rw [mTn, mTnG, if_neg h28, if_neg h60, if_neg h225, if_neg h321, if_neg h272, if_pos h286] <;> rfl, fun _ => ⟨rfl, rfl, rfl⟩, (mOk_up hMc (by omega) (by omega)), rfl⟩)
                  · skip
                    have h321 : ¬ (mOt T (mM u T mn pd ca ba na (mPr u T vl lt)) (mNs mn (mPr u T vl lt))) + (maxl pA.toInt64 (mDu tp (mOt T (mM u T mn pd ca ba na (mPr u T vl lt)) (mNs mn (mPr u T vl lt))))) ≤ 1000000000 := h321
                    have h321 : 1000000000 < (mOt T (mM u T mn pd ca ba na (mPr u T vl lt)) (mNs mn (mPr u T vl lt))) + (maxl pA.toInt64 (mDu tp (mOt T (mM u T mn pd ca ba na (mPr u T vl lt)) (mNs mn (mPr u T vl lt))))) := by rw [z_lt]; rw [z_le] at h321; omega
                    refine rh_bipush hX dX8_turn_324 kb_m9 ?_
                    refine rh_goto (tgt := 339) hX dX8_turn_326 (by decide) ?_
                    exact rh_iret hX hR dX8_turn_339 (by simp only [List.map_cons, List.map_nil, List.cons_append, List.nil_append]) (by first | exact ⟨_, _, _, by rw [mTn, mTnG, if_neg h28, if_neg h60, if_neg h225, if_pos h321] <;> rfl, fun q => by rw [mTn, mTnG, if_neg h28, if_neg h60, if_neg h225, if_pos h321] at q; exact absurd q (by decide), (mOk_up hMc (by omega) (by omega)), rfl⟩ | exact ⟨_, _, _, by rw [mTn, mTnG, if_neg h28, if_neg h60, if_neg h225, if_neg h321, if_pos h272] <;> rfl, fun _ => ⟨rfl, rfl, rfl⟩, (mOk_up hMc (by omega) (by omega)), rfl⟩ | exact ⟨_, _, _, by rw [mTn, mTnG, if_neg h28, if_neg h60, if_neg h225, if_neg h321, if_neg h272, if_neg h286] <;> rfl, fun _ => ⟨rfl, rfl, rfl⟩, (mOk_up hMc (by omega) (by omega)), rfl⟩ | exact ⟨_, _, _, by rw [mTn, mTnG, if_neg h28, if_neg h60, if_neg h225, if_neg h321, if_neg h272, if_pos h286] <;> rfl, fun _ => ⟨rfl, rfl, rfl⟩, (mOk_up hMc (by omega) (by omega)), rfl⟩)
            · skip
              have h225 : ¬ (mOt T (mM u T mn pd ca ba na (mPr u T vl lt)) (mNs mn (mPr u T vl lt))) ≤ 1000000000 := h225
              have h225 : 1000000000 < (mOt T (mM u T mn pd ca ba na (mPr u T vl lt)) (mNs mn (mPr u T vl lt))) := by rw [z_lt]; rw [z_le] at h225; omega
              refine rh_bipush hX dX8_turn_228 kb_m9 ?_
              exact rh_iret hX hR dX8_turn_230 (by simp only [List.map_cons, List.map_nil, List.cons_append, List.nil_append]) (by first | exact ⟨_, _, _, by rw [mTn, mTnG, if_neg h28, if_neg h60, if_pos h225] <;> rfl, fun q => by rw [mTn, mTnG, if_neg h28, if_neg h60, if_pos h225] at q; exact absurd q (by decide), hMc, rfl⟩)
          · intro c hc0 hc ihc
            have hMc := mOk_mMv (ba := ba) (na := na) (ns := (mNs mn (mPr u T vl lt))) (pd := pd) (s := (u, 1)) hM hca hp1 c (by omega)
            refine rh_iload hX dX8_turn_119 rfl ?_
            refine rh_aload_n hX dX8_turn_121 rfl ?_
            refine rh_get hX gl_X8_7 0 dX8_turn_122 rfl rfl ?_
            refine rh_bipush hX dX8_turn_125 kb_57 ?_
            refine rh_iaload hX 1 _ dX8_turn_127 rfl rn_c57 (by omega) (by decide) ?_
            refine rh_icmp_ge_f (tgt := 199) hX dX8_turn_128 (by decide) (by rw [hMc.1]; exact nI_ge hc (by omega)) ?_
            refine rh_aload_n hX dX8_turn_131 rfl ?_
            refine rh_iload hX dX8_turn_132 rfl ?_
            refine rh_aload_n hX dX8_turn_134 rfl ?_
            refine rh_get hX gl_X8_269 0 dX8_turn_135 rfl rfl ?_
            refine rh_aload_n hX dX8_turn_138 rfl ?_
            refine rh_get hX gl_X8_272 0 dX8_turn_139 rfl rfl ?_
            refine rh_aload_n hX dX8_turn_142 rfl ?_
            refine rh_get hX gl_X8_239 0 dX8_turn_143 rfl rfl ?_
            refine rh_pV hX lk_X8_275 mvX8_ratcheted (fun l => c_X8_ratcheted l E _ _ _ _ _ _ _ _ _ _ _ _ _ _ _ _ _ _ _ _ _ _ _ _ _ _ _ _ _ _ _ _ _ _ _ _ _ _ c _ _ _ (by omega)) ⟨rfl, rfl⟩ ⟨Nat.le_of_ble_eq_true rfl, Nat.le_of_ble_eq_true rfl⟩ [0, 1, 2, 3, 4, 5, 6, 7, 8, 9, 10, 11, 12] rfl rfl 0 rfl dX8_turn_146 rfl rfl (Nat.le_of_ble_eq_true rfl) ?_
            refine rh_lst6 hX dX8_turn_149 (by decide) rfl ?_
            refine rh_iload hX dX8_turn_151 rfl ?_
            refine rh_if_eq (tgt := 177) hX dX8_turn_153 (by decide) (fun h153 => ?_) (fun h153 => ?_)
            · skip
              refine rh_iconst hX dX8_turn_177 ki_0 ?_
              refine rh_ist4 hX dX8_turn_178 (by decide) rfl ?_
              refine rh_aload_n hX dX8_turn_180 rfl ?_
              refine rh_get hX gl_X8_7 0 dX8_turn_181 rfl rfl ?_
              refine rh_bipush hX dX8_turn_184 kb_64 ?_
              refine rh_iload hX dX8_turn_186 rfl ?_
              refine rh_iadd hX dX8_turn_188 ?_
              refine rh_lload hX dX8_turn_189 rfl ?_
              refine rh_l2i hX dX8_turn_191 ?_
              refine rh_iastore hX 1 (64 + c) dX8_turn_192 rfl (rn_a rn_c64 rfl) (by omega) (by decide) rfl ?_
              dsimp only [List.cons_append, List.nil_append, List.set_cons_succ, List.set_cons_zero, vput]
              refine rh_inc5 hX dX8_turn_193 (by decide) rfl (rn_i1 _) ?_
              refine rh_goto (tgt := 119) hX dX8_turn_196 (by decide) ?_
              rw [mMv_s _ _ _ _ _ _ _ hc0] at ihc
              first | (rw [mMg_a h153] at ihc; exact rh_wk (by exact ⟨rfl, rfl, rfl, rfl, rfl, trivial⟩) ihc) | (rw [mMg_b h153 h170] at ihc; exact rh_wk (by exact ⟨rfl, rfl, rfl, rfl, rfl, trivial⟩) ihc) | (rw [mMg_c h153 h170] at ihc; exact rh_wk (by exact ⟨rfl, rfl, rfl, rfl, rfl, trivial⟩) ihc)
            · skip
              refine rh_lload hX dX8_turn_156 rfl ?_
              refine rh_aload_n hX dX8_turn_158 rfl ?_
              refine rh_get hX gl_X8_7 0 dX8_turn_159 rfl rfl ?_
              refine rh_bipush hX dX8_turn_162 kb_64 ?_
              refine rh_iload hX dX8_turn_164 rfl ?_
              refine rh_iadd hX dX8_turn_166 ?_
              refine rh_iaload hX 1 (64 + c) dX8_turn_167 rfl (rn_a rn_c64 rfl) (by omega) (by decide) ?_
              refine rh_i2l hX dX8_turn_168 ?_
              refine rh_lne (tgt := 177) hX dX8_turn_169 dX8_turn_170 (by decide) (fun h170 => ?_) (fun h170 => ?_)
              · skip
                refine rh_iconst hX dX8_turn_177 ki_0 ?_
                refine rh_ist4 hX dX8_turn_178 (by decide) rfl ?_
                refine rh_aload_n hX dX8_turn_180 rfl ?_
                refine rh_get hX gl_X8_7 0 dX8_turn_181 rfl rfl ?_
                refine rh_bipush hX dX8_turn_184 kb_64 ?_
                refine rh_iload hX dX8_turn_186 rfl ?_
                refine rh_iadd hX dX8_turn_188 ?_
                refine rh_lload hX dX8_turn_189 rfl ?_
                refine rh_l2i hX dX8_turn_191 ?_
                refine rh_iastore hX 1 (64 + c) dX8_turn_192 rfl (rn_a rn_c64 rfl) (by omega) (by decide) rfl ?_
                dsimp only [List.cons_append, List.nil_append, List.set_cons_succ, List.set_cons_zero, vput]
                refine rh_inc5 hX dX8_turn_193 (by decide) rfl (rn_i1 _) ?_
                refine rh_goto (tgt := 119) hX dX8_turn_196 (by decide) ?_
                rw [mMv_s _ _ _ _ _ _ _ hc0] at ihc
                first | (rw [mMg_a h153] at ihc; exact rh_wk (by exact ⟨rfl, rfl, rfl, rfl, rfl, trivial⟩) ihc) | (rw [mMg_b h153 h170] at ihc; exact rh_wk (by exact ⟨rfl, rfl, rfl, rfl, rfl, trivial⟩) ihc) | (rw [mMg_c h153 h170] at ihc; exact rh_wk (by exact ⟨rfl, rfl, rfl, rfl, rfl, trivial⟩) ihc)
              · skip
                refine rh_iconst hX dX8_turn_173 ki_1 ?_
                refine rh_goto (tgt := 178) hX dX8_turn_174 (by decide) ?_
                refine rh_ist4 hX dX8_turn_178 (by decide) rfl ?_
                refine rh_aload_n hX dX8_turn_180 rfl ?_
                refine rh_get hX gl_X8_7 0 dX8_turn_181 rfl rfl ?_
                refine rh_bipush hX dX8_turn_184 kb_64 ?_
                refine rh_iload hX dX8_turn_186 rfl ?_
                refine rh_iadd hX dX8_turn_188 ?_
                refine rh_lload hX dX8_turn_189 rfl ?_
                refine rh_l2i hX dX8_turn_191 ?_
                refine rh_iastore hX 1 (64 + c) dX8_turn_192 rfl (rn_a rn_c64 rfl) (by omega) (by decide) rfl ?_
                dsimp only [List.cons_append, List.nil_append, List.set_cons_succ, List.set_cons_zero, vput]
                refine rh_inc5 hX dX8_turn_193 (by decide) rfl (rn_i1 _) ?_
                refine rh_goto (tgt := 119) hX dX8_turn_196 (by decide) ?_
                rw [mMv_s _ _ _ _ _ _ _ hc0] at ihc
                first | (rw [mMg_a h153] at ihc; exact rh_wk (by exact ⟨rfl, rfl, rfl, rfl, rfl, trivial⟩) ihc) | (rw [mMg_b h153 h170] at ihc; exact rh_wk (by exact ⟨rfl, rfl, rfl, rfl, rfl, trivial⟩) ihc) | (rw [mMg_c h153 h170] at ihc; exact rh_wk (by exact ⟨rfl, rfl, rfl, rfl, rfl, trivial⟩) ihc)
        · intro i hi0 hi ih
          refine rh_iload hX dX8_turn_74 rfl ?_
          refine rh_bipush hX dX8_turn_76 kb_8 ?_
          refine rh_icmp_ge_f (tgt := 113) hX dX8_turn_78 (by decide) (nI_ge (b := 8) hi (by decide)) ?_
          refine rh_aload_n hX dX8_turn_81 rfl ?_
          refine rh_dup hX dX8_turn_82 rfl ?_
          refine rh_get hX gl_X8_272 0 dX8_turn_83 rfl rfl ?_
          refine rh_ldc2 hX dX8_turn_86 kl_X8_267 ?_
          refine rh_aload_n hX dX8_turn_89 rfl ?_
          refine rh_get hX gl_X8_27 0 dX8_turn_90 rfl rfl ?_
          refine rh_iload hX dX8_turn_93 rfl ?_
          refine rh_iaload hX 6 i dX8_turn_95 rfl rfl (by omega) (by decide) ?_
          refine rh_i2l hX dX8_turn_96 ?_
          refine rh_lmul hX dX8_turn_97 ?_
          refine rh_aload_n hX dX8_turn_98 rfl ?_
          refine rh_get hX gl_X8_269 0 dX8_turn_99 rfl rfl ?_
          refine rh_ldiv hX dX8_turn_102 hpne ?_
          refine rh_ladd hX dX8_turn_103 ?_
          refine rh_put hX gl_X8_272 0 dX8_turn_104 rfl rfl rfl (Nat.le_of_ble_eq_true rfl) rfl ?_
          dsimp only [List.cons_append, List.nil_append, List.set_cons_succ, List.set_cons_zero, vput]
          refine rh_inc4 hX dX8_turn_107 (by decide) rfl (rn_i1 _) ?_
          refine rh_goto (tgt := 74) hX dX8_turn_110 (by decide) ?_
          exact ih
      · skip
        refine rh_bipush hX dX8_turn_63 kb_m3 ?_
        exact rh_iret hX hR dX8_turn_65 (by simp only [List.map_cons, List.map_nil, List.cons_append, List.nil_append]) (by first | exact ⟨_, _, _, by rw [mTn, mTnG, if_neg h28, if_pos h60] <;> rfl, fun q => by rw [mTn, mTnG, if_neg h28, if_pos h60] at q; exact absurd q (by decide), hM, rfl⟩)
    · skip
      refine rh_bipush hX dX8_turn_31 kb_m3 ?_
      exact rh_iret hX hR dX8_turn_33 (by simp only [List.map_cons, List.map_nil, List.cons_append, List.nil_append]) (by first | exact ⟨_, _, _, by rw [mTn, mTnG, if_pos h28] <;> rfl, fun q => by rw [mTn, mTnG, if_pos h28] at q; exact absurd q (by decide), hM, rfl⟩)
  · skip
    refine rh_aload_n hX dX8_turn_11 rfl ?_
    refine rh_get hX gl_X8_7 0 dX8_turn_12 rfl rfl ?_
    refine rh_bipush hX dX8_turn_15 kb_56 ?_
    refine rh_iaload hX 1 _ dX8_turn_17 rfl rn_c56 (by omega) (by decide) ?_
    refine rh_goto (tgt := 22) hX dX8_turn_18 (by decide) ?_
    refine rh_i2l hX dX8_turn_22 ?_
    refine rh_lsub hX dX8_turn_23 ?_
    first | rw [show cSize (fm u) T - (u 56).toInt64 = (mFl u T lt) by rw [mFl, if_neg h8]] | rw [show cSize (fm u) T - (0 : Int32).toInt64 = (mFl u T lt) by rw [mFl, if_pos h8]]
    refine rh_lstn2 hX dX8_turn_24 (by decide) rfl ?_
    refine rh_lload_n hX dX8_turn_25 rfl ?_
    refine rh_lconst hX dX8_turn_26 kL_0 ?_
    refine rh_lne (tgt := 34) hX dX8_turn_27 dX8_turn_28 (by decide) (fun h28 => ?_) (fun h28 => ?_)
    · skip
      refine rh_aload_n hX dX8_turn_34 rfl ?_
      refine rh_ldc2 hX dX8_turn_35 kl_X8_267 ?_
      refine rh_aload_n hX dX8_turn_38 rfl ?_
      refine rh_get hX gl_X8_207 0 dX8_turn_39 rfl rfl ?_
      refine rh_i2l hX dX8_turn_42 ?_
      refine rh_lmul hX dX8_turn_43 ?_
      refine rh_lload_n hX dX8_turn_44 rfl ?_
      refine rh_ldiv hX dX8_turn_45 h28 ?_
      rw [show 10000 * vl.toInt64 / (mFl u T lt) = (mPr u T vl lt) from rfl]
      refine rh_put hX gl_X8_269 0 dX8_turn_46 rfl rfl rfl (Nat.le_of_ble_eq_true rfl) rfl ?_
      dsimp only [List.cons_append, List.nil_append, List.set_cons_succ, List.set_cons_zero, vput]
      refine rh_aload_n hX dX8_turn_49 rfl ?_
      refine rh_get hX gl_X8_269 0 dX8_turn_50 rfl rfl ?_
      refine rh_lconst hX dX8_turn_53 kL_1 ?_
      refine rh_ldc2 hX dX8_turn_54 kl_X8_243 ?_
      refine rh_pS hX lk_X8_58 msX8_in (fun l => c_X8_in l E _ _ _) ⟨rfl, rfl⟩ ⟨Nat.le_of_ble_eq_true rfl, Nat.le_of_ble_eq_true rfl⟩ [] rfl rfl dX8_turn_57 rfl rfl (Nat.le_of_ble_eq_true rfl) ?_
      refine rh_if_ne (tgt := 66) hX dX8_turn_60 (by decide) (fun h60 => ?_) (fun h60 => ?_)
      · skip
        have hp1 : 1 ≤ (mPr u T vl lt).toInt := (xIn_lo h60).1
        have hpne : ¬ (mPr u T vl lt) = 0 := fun q => by rw [q] at hp1; exact absurd hp1 (by decide)
        refine rh_aload_n hX dX8_turn_66 rfl ?_
        refine rh_lconst hX dX8_turn_67 kL_0 ?_
        refine rh_put hX gl_X8_272 0 dX8_turn_68 rfl rfl rfl (Nat.le_of_ble_eq_true rfl) rfl ?_
        dsimp only [List.cons_append, List.nil_append, List.set_cons_succ, List.set_cons_zero, vput]
        refine rh_iconst hX dX8_turn_71 ki_0 ?_
        refine rh_ist4 hX dX8_turn_72 (by decide) rfl ?_
        refine rh_loop (P := fun i => G X 74 [some (.ref (B 0)), some (.int pA), some (.long (mFl u T lt)), none, some (.int (nI i)), none, none, none, none, none, none] [] (wM E B u kp ik ps pm dd tx ty rw rm th sz he wr mn vl tp lt ra pf pt pl pd (mPr u T vl lt) (sumF 0 (fun h => 10000 * (mn h).toInt64 / (mPr u T vl lt)) i) tu ba na ca bo tr tH asd pa tg sd sr)) (0) (8) (by omega) ?_ ?_
        · skip
          refine rh_iload hX dX8_turn_74 rfl ?_
          refine rh_bipush hX dX8_turn_76 kb_8 ?_
          refine rh_icmp_ge_t (tgt := 113) hX dX8_turn_78 (by decide) (nI_le (a := 8) (b := 8) (Nat.le_refl 8) (by decide)) ?_
          refine rh_iconst hX dX8_turn_113 ki_1 ?_
          refine rh_ist4 hX dX8_turn_114 (by decide) rfl ?_
          refine rh_iconst hX dX8_turn_116 ki_1 ?_
          refine rh_ist5 hX dX8_turn_117 (by decide) rfl ?_
          suffices hP0 : G X 119 [some (.ref (B 0)), some (.int pA), some (.long (mFl u T lt)), none, some (.int (mMv ca ba na (mPr u T vl lt) (mNs mn (mPr u T vl lt)) pd (u, 1) 1).2), some (.int 1), none, none, none, none, none] [] (wM E B (mMv ca ba na (mPr u T vl lt) (mNs mn (mPr u T vl lt)) pd (u, 1) 1).1 kp ik ps pm dd tx ty rw rm th sz he wr mn vl tp lt ra pf pt pl pd (mPr u T vl lt) (mNs mn (mPr u T vl lt)) tu ba na ca bo tr tH asd pa tg sd sr) by rw [mMv_1] at hP0; exact hP0
          refine rh_loop (P := fun c => G X 119 [some (.ref (B 0)), some (.int pA), some (.long (mFl u T lt)), none, some (.int (mMv ca ba na (mPr u T vl lt) (mNs mn (mPr u T vl lt)) pd (u, 1) c).2), some (.int (nI c)), none, none, none, none, none] [] (wM E B (mMv ca ba na (mPr u T vl lt) (mNs mn (mPr u T vl lt)) pd (u, 1) c).1 kp ik ps pm dd tx ty rw rm th sz he wr mn vl tp lt ra pf pt pl pd (mPr u T vl lt) (mNs mn (mPr u T vl lt)) tu ba na ca bo tr tH asd pa tg sd sr)) (1) (T) (by omega) ?_ ?_
          · skip
            have hMc := mOk_mMv (ba := ba) (na := na) (ns := (mNs mn (mPr u T vl lt))) (pd := pd) (s := (u, 1)) hM hca hp1 T (Nat.le_refl T)
            have hMM : (mMv ca ba na (mPr u T vl lt) (mNs mn (mPr u T vl lt)) pd (u, 1) T) = (mM u T mn pd ca ba na (mPr u T vl lt)) := rfl
            rw [hMM] at hMc ⊢
            refine rh_iload hX dX8_turn_119 rfl ?_
            refine rh_aload_n hX dX8_turn_121 rfl ?_
            refine rh_get hX gl_X8_7 0 dX8_turn_122 rfl rfl ?_
            refine rh_bipush hX dX8_turn_125 kb_57 ?_
            refine rh_iaload hX 1 _ dX8_turn_127 rfl rn_c57 (by omega) (by decide) ?_
            refine rh_icmp_ge_t (tgt := 199) hX dX8_turn_128 (by decide) (by rw [hMc.1]; exact nI_le (Nat.le_refl T) (by omega)) ?_
            refine rh_aload_n hX dX8_turn_199 rfl ?_
            refine rh_pV hX lk_X8_143 mvX8_fullNow (fun l => c_X8_fullNow l E _ _ _ _ _ _ _ _ _ _ _ _ _ _ _ _ _ _ _ _ _ _ _ _ _ _ _ _ _ _ _ _ _ _ _ _ _ _ T hMc) ⟨rfl, rfl⟩ ⟨Nat.le_of_ble_eq_true rfl, Nat.le_of_ble_eq_true rfl⟩ [0, 1, 2, 3, 4, 5, 6, 7, 8, 9, 10, 11, 12] rfl rfl 0 rfl dX8_turn_200 rfl rfl (Nat.le_of_ble_eq_true rfl) ?_
            refine rh_aload_n hX dX8_turn_203 rfl ?_
            refine rh_get hX gl_X8_7 0 dX8_turn_204 rfl rfl ?_
            refine rh_bipush hX dX8_turn_207 kb_56 ?_
            refine rh_iaload hX 1 _ dX8_turn_209 rfl rn_c56 (by omega) (by decide) ?_
            refine rh_i2l hX dX8_turn_210 ?_
            refine rh_lsub hX dX8_turn_211 ?_
            refine rh_aload_n hX dX8_turn_212 rfl ?_
            refine rh_get hX gl_X8_272 0 dX8_turn_213 rfl rfl ?_
            refine rh_ladd hX dX8_turn_216 ?_
            rw [show cSize (fm (mM u T mn pd ca ba na (mPr u T vl lt)).1) T - ((mM u T mn pd ca ba na (mPr u T vl lt)).1 56).toInt64 + (mNs mn (mPr u T vl lt)) = (mOt T (mM u T mn pd ca ba na (mPr u T vl lt)) (mNs mn (mPr u T vl lt))) from rfl]
            refine rh_lst5 hX dX8_turn_217 (by decide) rfl ?_
            refine rh_lload hX dX8_turn_219 rfl ?_
            refine rh_ldc2 hX dX8_turn_221 kl_X8_131 ?_
            refine rh_lle (tgt := 231) hX dX8_turn_224 dX8_turn_225 (by decide) (fun h225 => ?_) (fun h225 => ?_)
            · skip
              have h225 : (mOt T (mM u T mn pd ca ba na (mPr u T vl lt)) (mNs mn (mPr u T vl lt))) ≤ 1000000000 := h225
              have h225 : ¬ 1000000000 < (mOt T (mM u T mn pd ca ba na (mPr u T vl lt)) (mNs mn (mPr u T vl lt))) := fun q => by rw [z_lt] at q; rw [z_le] at h225; omega
              refine rh_aload_n hX dX8_turn_231 rfl ?_
              refine rh_get hX gl_X8_210 0 dX8_turn_232 rfl rfl ?_
              refine rh_i2l hX dX8_turn_235 ?_
              refine rh_lload hX dX8_turn_236 rfl ?_
              refine rh_lmul hX dX8_turn_238 ?_
              refine rh_ldc2 hX dX8_turn_239 kl_X8_279 ?_
              refine rh_ladd hX dX8_turn_242 ?_
              refine rh_aload_n hX dX8_turn_243 rfl ?_
              refine rh_get hX gl_X8_210 0 dX8_turn_244 rfl rfl ?_
              refine rh_i2l hX dX8_turn_247 ?_
              refine rh_lsub hX dX8_turn_248 ?_
              refine rh_ldc2 hX dX8_turn_249 kl_X8_281 ?_
              refine rh_aload_n hX dX8_turn_252 rfl ?_
              refine rh_get hX gl_X8_210 0 dX8_turn_253 rfl rfl ?_
              refine rh_i2l hX dX8_turn_256 ?_
              refine rh_lsub hX dX8_turn_257 ?_
              refine rh_ldiv hX dX8_turn_258 (fun q => by have q2 := congrArg Int64.toInt q; rw [z_sub (show (1000 : Int64).toInt = 1000 by decide) (z_l tp) (by omega) (by omega)] at q2; have q3 : 1000 - tp.toInt = 0 := q2; omega) ?_
              rw [show (tp.toInt64 * (mOt T (mM u T mn pd ca ba na (mPr u T vl lt)) (mNs mn (mPr u T vl lt))) + 999 - tp.toInt64) / (1000 - tp.toInt64) = mDu tp (mOt T (mM u T mn pd ca ba na (mPr u T vl lt)) (mNs mn (mPr u T vl lt))) from rfl]
              refine rh_lst7 hX dX8_turn_259 (by decide) rfl ?_
              refine rh_iload_n hX dX8_turn_261 rfl ?_
              refine rh_i2l hX dX8_turn_262 ?_
              refine rh_lload hX dX8_turn_263 rfl ?_
              refine rh_maxl hX mm_X8_265 dX8_turn_265 (Nat.le_of_ble_eq_true rfl) (Nat.le_of_ble_eq_true rfl) ?_
              rw [show (if mDu tp (mOt T (mM u T mn pd ca ba na (mPr u T vl lt)) (mNs mn (mPr u T vl lt))) < pA.toInt64 then pA.toInt64 else mDu tp (mOt T (mM u T mn pd ca ba na (mPr u T vl lt)) (mNs mn (mPr u T vl lt)))) = (maxl pA.toInt64 (mDu tp (mOt T (mM u T mn pd ca ba na (mPr u T vl lt)) (mNs mn (mPr u T vl lt))))) from rfl]
              refine rh_lst9 hX dX8_turn_268 (by decide) rfl ?_
              refine rh_iload hX dX8_turn_270 rfl ?_
              refine rh_if_eq (tgt := 293) hX dX8_turn_272 (by decide) (fun h272 => ?_) (fun h272 => ?_)
              · skip
                refine rh_iconst hX dX8_turn_293 ki_0 ?_
                refine rh_ist4 hX dX8_turn_294 (by decide) rfl ?_
                refine rh_aload_n hX dX8_turn_296 rfl ?_
                refine rh_get hX gl_X8_7 0 dX8_turn_297 rfl rfl ?_
                refine rh_bipush hX dX8_turn_300 kb_56 ?_
                refine rh_lload hX dX8_turn_302 rfl ?_
                refine rh_ldc2 hX dX8_turn_304 kl_X8_131 ?_
                refine rh_minl hX mm_X8_261 dX8_turn_307 (Nat.le_of_ble_eq_true rfl) (Nat.le_of_ble_eq_true rfl) ?_
                refine rh_l2i hX dX8_turn_310 ?_
                refine rh_iastore hX 1 _ dX8_turn_311 rfl rn_c56 (by omega) (by decide) rfl ?_
                dsimp only [List.cons_append, List.nil_append, List.set_cons_succ, List.set_cons_zero, vput]
                refine rh_lload hX dX8_turn_312 rfl ?_
                refine rh_lload hX dX8_turn_314 rfl ?_
                refine rh_ladd hX dX8_turn_316 ?_
                refine rh_ldc2 hX dX8_turn_317 kl_X8_131 ?_
                refine rh_lle (tgt := 329) hX dX8_turn_320 dX8_turn_321 (by decide) (fun h321 => ?_) (fun h321 => ?_)
                · skip
                  have h321 : (mOt T (mM u T mn pd ca ba na (mPr u T vl lt)) (mNs mn (mPr u T vl lt))) + (maxl pA.toInt64 (mDu tp (mOt T (mM u T mn pd ca ba na (mPr u T vl lt)) (mNs mn (mPr u T vl lt))))) ≤ 1000000000 := h321
                  have h321 : ¬ 1000000000 < (mOt T (mM u T mn pd ca ba na (mPr u T vl lt)) (mNs mn (mPr u T vl lt))) + (maxl pA.toInt64 (mDu tp (mOt T (mM u T mn pd ca ba na (mPr u T vl lt)) (mNs mn (mPr u T vl lt))))) := fun q => by rw [z_lt] at q; rw [z_le] at h321; omega
                  refine rh_iload hX dX8_turn_329 rfl ?_
                  refine rh_if_eq_t (tgt := 338) hX dX8_turn_331 (by decide) rfl ?_
                  refine rh_iconst hX dX8_turn_338 ki_0 ?_
                  exact rh_iret hX hR dX8_turn_339 (by simp only [List.map_cons, List.map_nil, List.cons_append, List.nil_append]) (by first | exact ⟨_, _, _, by rw [mTn, mTnG, if_neg h28, if_neg h60, if_neg h225, if_pos h321] <;> rfl, fun q => by rw [mTn, mTnG, if_neg h28, if_neg h60, if_neg h225, if_pos h321] at q; exact absurd q (by decide), (mOk_up hMc (by omega) (by omega)), rfl⟩ | exact ⟨_, _, _, by rw [mTn, mTnG, if_neg h28, if_neg h60, if_neg h225, if_neg h321, if_pos h272] <;> rfl, fun _ => ⟨rfl, rfl, rfl⟩, (mOk_up hMc (by omega) (by omega)), rfl⟩ | exact ⟨_, _, _, by rw [mTn, mTnG, if_neg h28, if_neg h60, if_neg h225, if_neg h321, if_neg h272, if_neg h286] <;> rfl, fun _ => ⟨rfl, rfl, rfl⟩, (mOk_up hMc (by omega) (by omega)), rfl⟩ | exact ⟨_, _, _, by rw [mTn, mTnG, if_neg h28, if_neg h60, if_neg h225, if_neg h321, if_neg h272, if_pos h286] <;> rfl, fun _ => ⟨rfl, rfl, rfl⟩, (mOk_up hMc (by omega) (by omega)), rfl⟩)
                · skip
                  have h321 : ¬ (mOt T (mM u T mn pd ca ba na (mPr u T vl lt)) (mNs mn (mPr u T vl lt))) + (maxl pA.toInt64 (mDu tp (mOt T (mM u T mn pd ca ba na (mPr u T vl lt)) (mNs mn (mPr u T vl lt))))) ≤ 1000000000 := h321
                  have h321 : 1000000000 < (mOt T (mM u T mn pd ca ba na (mPr u T vl lt)) (mNs mn (mPr u T vl lt))) + (maxl pA.toInt64 (mDu tp (mOt T (mM u T mn pd ca ba na (mPr u T vl lt)) (mNs mn (mPr u T vl lt))))) := by rw [z_lt]; rw [z_le] at h321; omega
                  refine rh_bipush hX dX8_turn_324 kb_m9 ?_
                  refine rh_goto (tgt := 339) hX dX8_turn_326 (by decide) ?_
                  exact rh_iret hX hR dX8_turn_339 (by simp only [List.map_cons, List.map_nil, List.cons_append, List.nil_append]) (by first | exact ⟨_, _, _, by rw [mTn, mTnG, if_neg h28, if_neg h60, if_neg h225, if_pos h321] <;> rfl, fun q => by rw [mTn, mTnG, if_neg h28, if_neg h60, if_neg h225, if_pos h321] at q; exact absurd q (by decide), (mOk_up hMc (by omega) (by omega)), rfl⟩ | exact ⟨_, _, _, by rw [mTn, mTnG, if_neg h28, if_neg h60, if_neg h225, if_neg h321, if_pos h272] <;> rfl, fun _ => ⟨rfl, rfl, rfl⟩, (mOk_up hMc (by omega) (by omega)), rfl⟩ | exact ⟨_, _, _, by rw [mTn, mTnG, if_neg h28, if_neg h60, if_neg h225, if_neg h321, if_neg h272, if_neg h286] <;> rfl, fun _ => ⟨rfl, rfl, rfl⟩, (mOk_up hMc (by omega) (by omega)), rfl⟩ | exact ⟨_, _, _, by rw [mTn, mTnG, if_neg h28, if_neg h60, if_neg h225, if_neg h321, if_neg h272, if_pos h286] <;> rfl, fun _ => ⟨rfl, rfl, rfl⟩, (mOk_up hMc (by omega) (by omega)), rfl⟩)
              · skip
                refine rh_lload hX dX8_turn_275 rfl ?_
                refine rh_aload_n hX dX8_turn_277 rfl ?_
                refine rh_get hX gl_X8_7 0 dX8_turn_278 rfl rfl ?_
                refine rh_bipush hX dX8_turn_281 kb_56 ?_
                refine rh_iaload hX 1 _ dX8_turn_283 rfl rn_c56 (by omega) (by decide) ?_
                refine rh_i2l hX dX8_turn_284 ?_
                refine rh_lne (tgt := 293) hX dX8_turn_285 dX8_turn_286 (by decide) (fun h286 => ?_) (fun h286 => ?_)
                · skip
                  refine rh_iconst hX dX8_turn_293 ki_0 ?_
                  refine rh_ist4 hX dX8_turn_294 (by decide) rfl ?_
                  refine rh_aload_n hX dX8_turn_296 rfl ?_
                  refine rh_get hX gl_X8_7 0 dX8_turn_297 rfl rfl ?_
                  refine rh_bipush hX dX8_turn_300 kb_56 ?_
                  refine rh_lload hX dX8_turn_302 rfl ?_
                  refine rh_ldc2 hX dX8_turn_304 kl_X8_131 ?_
                  refine rh_minl hX mm_X8_261 dX8_turn_307 (Nat.le_of_ble_eq_true rfl) (Nat.le_of_ble_eq_true rfl) ?_
                  refine rh_l2i hX dX8_turn_310 ?_
                  refine rh_iastore hX 1 _ dX8_turn_311 rfl rn_c56 (by omega) (by decide) rfl ?_
                  dsimp only [List.cons_append, List.nil_append, List.set_cons_succ, List.set_cons_zero, vput]
                  refine rh_lload hX dX8_turn_312 rfl ?_
                  refine rh_lload hX dX8_turn_314 rfl ?_
                  refine rh_ladd hX dX8_turn_316 ?_
                  refine rh_ldc2 hX dX8_turn_317 kl_X8_131 ?_
                  refine rh_lle (tgt := 329) hX dX8_turn_320 dX8_turn_321 (by decide) (fun h321 => ?_) (fun h321 => ?_)
                  · skip
                    have h321 : (mOt T (mM u T mn pd ca ba na (mPr u T vl lt)) (mNs mn (mPr u T vl lt))) + (maxl pA.toInt64 (mDu tp (mOt T (mM u T mn pd ca ba na (mPr u T vl lt)) (mNs mn (mPr u T vl lt))))) ≤ 1000000000 := h321
                    have h321 : ¬ 1000000000 < (mOt T (mM u T mn pd ca ba na (mPr u T vl lt)) (mNs mn (mPr u T vl lt))) + (maxl pA.toInt64 (mDu tp (mOt T (mM u T mn pd ca ba na (mPr u T vl lt)) (mNs mn (mPr u T vl lt))))) := fun q => by rw [z_lt] at q; rw [z_le] at h321; omega
                    refine rh_iload hX dX8_turn_329 rfl ?_
                    refine rh_if_eq_t (tgt := 338) hX dX8_turn_331 (by decide) rfl ?_
                    refine rh_iconst hX dX8_turn_338 ki_0 ?_
                    exact rh_iret hX hR dX8_turn_339 (by simp only [List.map_cons, List.map_nil, List.cons_append, List.nil_append]) (by first | exact ⟨_, _, _, by rw [mTn, mTnG, if_neg h28, if_neg h60, if_neg h225, if_pos h321] <;> rfl, fun q => by rw [mTn, mTnG, if_neg h28, if_neg h60, if_neg h225, if_pos h321] at q; exact absurd q (by decide), (mOk_up hMc (by omega) (by omega)), rfl⟩ | exact ⟨_, _, _, by rw [mTn, mTnG, if_neg h28, if_neg h60, if_neg h225, if_neg h321, if_pos h272] <;> rfl, fun _ => ⟨rfl, rfl, rfl⟩, (mOk_up hMc (by omega) (by omega)), rfl⟩ | exact ⟨_, _, _, by rw [mTn, mTnG, if_neg h28, if_neg h60, if_neg h225, if_neg h321, if_neg h272, if_neg h286] <;> rfl, fun _ => ⟨rfl, rfl, rfl⟩, (mOk_up hMc (by omega) (by omega)), rfl⟩ | exact ⟨_, _, _, by rw [mTn, mTnG, if_neg h28, if_neg h60, if_neg h225, if_neg h321, if_neg h272, if_pos h286] <;> rfl, fun _ => ⟨rfl, rfl, rfl⟩, (mOk_up hMc (by omega) (by omega)), rfl⟩)
                  · skip
                    have h321 : ¬ (mOt T (mM u T mn pd ca ba na (mPr u T vl lt)) (mNs mn (mPr u T vl lt))) + (maxl pA.toInt64 (mDu tp (mOt T (mM u T mn pd ca ba na (mPr u T vl lt)) (mNs mn (mPr u T vl lt))))) ≤ 1000000000 := h321
                    have h321 : 1000000000 < (mOt T (mM u T mn pd ca ba na (mPr u T vl lt)) (mNs mn (mPr u T vl lt))) + (maxl pA.toInt64 (mDu tp (mOt T (mM u T mn pd ca ba na (mPr u T vl lt)) (mNs mn (mPr u T vl lt))))) := by rw [z_lt]; rw [z_le] at h321; omega
                    refine rh_bipush hX dX8_turn_324 kb_m9 ?_
                    refine rh_goto (tgt := 339) hX dX8_turn_326 (by decide) ?_
                    exact rh_iret hX hR dX8_turn_339 (by simp only [List.map_cons, List.map_nil, List.cons_append, List.nil_append]) (by first | exact ⟨_, _, _, by rw [mTn, mTnG, if_neg h28, if_neg h60, if_neg h225, if_pos h321] <;> rfl, fun q => by rw [mTn, mTnG, if_neg h28, if_neg h60, if_neg h225, if_pos h321] at q; exact absurd q (by decide), (mOk_up hMc (by omega) (by omega)), rfl⟩ | exact ⟨_, _, _, by rw [mTn, mTnG, if_neg h28, if_neg h60, if_neg h225, if_neg h321, if_pos h272] <;> rfl, fun _ => ⟨rfl, rfl, rfl⟩, (mOk_up hMc (by omega) (by omega)), rfl⟩ | exact ⟨_, _, _, by rw [mTn, mTnG, if_neg h28, if_neg h60, if_neg h225, if_neg h321, if_neg h272, if_neg h286] <;> rfl, fun _ => ⟨rfl, rfl, rfl⟩, (mOk_up hMc (by omega) (by omega)), rfl⟩ | exact ⟨_, _, _, by rw [mTn, mTnG, if_neg h28, if_neg h60, if_neg h225, if_neg h321, if_neg h272, if_pos h286] <;> rfl, fun _ => ⟨rfl, rfl, rfl⟩, (mOk_up hMc (by omega) (by omega)), rfl⟩)
                · skip
                  refine rh_iconst hX dX8_turn_289 ki_1 ?_
                  refine rh_goto (tgt := 294) hX dX8_turn_290 (by decide) ?_
                  refine rh_ist4 hX dX8_turn_294 (by decide) rfl ?_
                  refine rh_aload_n hX dX8_turn_296 rfl ?_
                  refine rh_get hX gl_X8_7 0 dX8_turn_297 rfl rfl ?_
                  refine rh_bipush hX dX8_turn_300 kb_56 ?_
                  refine rh_lload hX dX8_turn_302 rfl ?_
                  refine rh_ldc2 hX dX8_turn_304 kl_X8_131 ?_
                  refine rh_minl hX mm_X8_261 dX8_turn_307 (Nat.le_of_ble_eq_true rfl) (Nat.le_of_ble_eq_true rfl) ?_
                  refine rh_l2i hX dX8_turn_310 ?_
                  refine rh_iastore hX 1 _ dX8_turn_311 rfl rn_c56 (by omega) (by decide) rfl ?_
                  dsimp only [List.cons_append, List.nil_append, List.set_cons_succ, List.set_cons_zero, vput]
                  refine rh_lload hX dX8_turn_312 rfl ?_
                  refine rh_lload hX dX8_turn_314 rfl ?_
                  refine rh_ladd hX dX8_turn_316 ?_
                  refine rh_ldc2 hX dX8_turn_317 kl_X8_131 ?_
                  refine rh_lle (tgt := 329) hX dX8_turn_320 dX8_turn_321 (by decide) (fun h321 => ?_) (fun h321 => ?_)
                  · skip
                    have h321 : (mOt T (mM u T mn pd ca ba na (mPr u T vl lt)) (mNs mn (mPr u T vl lt))) + (maxl pA.toInt64 (mDu tp (mOt T (mM u T mn pd ca ba na (mPr u T vl lt)) (mNs mn (mPr u T vl lt))))) ≤ 1000000000 := h321
                    have h321 : ¬ 1000000000 < (mOt T (mM u T mn pd ca ba na (mPr u T vl lt)) (mNs mn (mPr u T vl lt))) + (maxl pA.toInt64 (mDu tp (mOt T (mM u T mn pd ca ba na (mPr u T vl lt)) (mNs mn (mPr u T vl lt))))) := fun q => by rw [z_lt] at q; rw [z_le] at h321; omega
                    refine rh_iload hX dX8_turn_329 rfl ?_
                    refine rh_if_eq_f (tgt := 338) hX dX8_turn_331 (by decide) (by decide) ?_
                    refine rh_iconst hX dX8_turn_334 ki_1 ?_
                    refine rh_goto (tgt := 339) hX dX8_turn_335 (by decide) ?_
                    exact rh_iret hX hR dX8_turn_339 (by simp only [List.map_cons, List.map_nil, List.cons_append, List.nil_append]) (by first | exact ⟨_, _, _, by rw [mTn, mTnG, if_neg h28, if_neg h60, if_neg h225, if_pos h321] <;> rfl, fun q => by rw [mTn, mTnG, if_neg h28, if_neg h60, if_neg h225, if_pos h321] at q; exact absurd q (by decide), (mOk_up hMc (by omega) (by omega)), rfl⟩ | exact ⟨_, _, _, by rw [mTn, mTnG, if_neg h28, if_neg h60, if_neg h225, if_neg h321, if_pos h272] <;> rfl, fun _ => ⟨rfl, rfl, rfl⟩, (mOk_up hMc (by omega) (by omega)), rfl⟩ | exact ⟨_, _, _, by rw [mTn, mTnG, if_neg h28, if_neg h60, if_neg h225, if_neg h321, if_neg h272, if_neg h286] <;> rfl, fun _ => ⟨rfl, rfl, rfl⟩, (mOk_up hMc (by omega) (by omega)), rfl⟩ | exact ⟨_, _, _, by rw [mTn, mTnG, if_neg h28, if_neg h60, if_neg h225, if_neg h321, if_neg h272, if_pos h286] <;> rfl, fun _ => ⟨rfl, rfl, rfl⟩, (mOk_up hMc (by omega) (by omega)), rfl⟩)
                  · skip
                    have h321 : ¬ (mOt T (mM u T mn pd ca ba na (mPr u T vl lt)) (mNs mn (mPr u T vl lt))) + (maxl pA.toInt64 (mDu tp (mOt T (mM u T mn pd ca ba na (mPr u T vl lt)) (mNs mn (mPr u T vl lt))))) ≤ 1000000000 := h321
                    have h321 : 1000000000 < (mOt T (mM u T mn pd ca ba na (mPr u T vl lt)) (mNs mn (mPr u T vl lt))) + (maxl pA.toInt64 (mDu tp (mOt T (mM u T mn pd ca ba na (mPr u T vl lt)) (mNs mn (mPr u T vl lt))))) := by rw [z_lt]; rw [z_le] at h321; omega
                    refine rh_bipush hX dX8_turn_324 kb_m9 ?_
                    refine rh_goto (tgt := 339) hX dX8_turn_326 (by decide) ?_
                    exact rh_iret hX hR dX8_turn_339 (by simp only [List.map_cons, List.map_nil, List.cons_append, List.nil_append]) (by first | exact ⟨_, _, _, by rw [mTn, mTnG, if_neg h28, if_neg h60, if_neg h225, if_pos h321] <;> rfl, fun q => by rw [mTn, mTnG, if_neg h28, if_neg h60, if_neg h225, if_pos h321] at q; exact absurd q (by decide), (mOk_up hMc (by omega) (by omega)), rfl⟩ | exact ⟨_, _, _, by rw [mTn, mTnG, if_neg h28, if_neg h60, if_neg h225, if_neg h321, if_pos h272] <;> rfl, fun _ => ⟨rfl, rfl, rfl⟩, (mOk_up hMc (by omega) (by omega)), rfl⟩ | exact ⟨_, _, _, by rw [mTn, mTnG, if_neg h28, if_neg h60, if_neg h225, if_neg h321, if_neg h272, if_neg h286] <;> rfl, fun _ => ⟨rfl, rfl, rfl⟩, (mOk_up hMc (by omega) (by omega)), rfl⟩ | exact ⟨_, _, _, by rw [mTn, mTnG, if_neg h28, if_neg h60, if_neg h225, if_neg h321, if_neg h272, if_pos h286] <;> rfl, fun _ => ⟨rfl, rfl, rfl⟩, (mOk_up hMc (by omega) (by omega)), rfl⟩)
            · skip
              have h225 : ¬ (mOt T (mM u T mn pd ca ba na (mPr u T vl lt)) (mNs mn (mPr u T vl lt))) ≤ 1000000000 := h225
              have h225 : 1000000000 < (mOt T (mM u T mn pd ca ba na (mPr u T vl lt)) (mNs mn (mPr u T vl lt))) := by rw [z_lt]; rw [z_le] at h225; omega
              refine rh_bipush hX dX8_turn_228 kb_m9 ?_
              exact rh_iret hX hR dX8_turn_230 (by simp only [List.map_cons, List.map_nil, List.cons_append, List.nil_append]) (by first | exact ⟨_, _, _, by rw [mTn, mTnG, if_neg h28, if_neg h60, if_pos h225] <;> rfl, fun q => by rw [mTn, mTnG, if_neg h28, if_neg h60, if_pos h225] at q; exact absurd q (by decide), hMc, rfl⟩)
          · intro c hc0 hc ihc
            have hMc := mOk_mMv (ba := ba) (na := na) (ns := (mNs mn (mPr u T vl lt))) (pd := pd) (s := (u, 1)) hM hca hp1 c (by omega)
            refine rh_iload hX dX8_turn_119 rfl ?_
            refine rh_aload_n hX dX8_turn_121 rfl ?_
            refine rh_get hX gl_X8_7 0 dX8_turn_122 rfl rfl ?_
            refine rh_bipush hX dX8_turn_125 kb_57 ?_
            refine rh_iaload hX 1 _ dX8_turn_127 rfl rn_c57 (by omega) (by decide) ?_
            refine rh_icmp_ge_f (tgt := 199) hX dX8_turn_128 (by decide) (by rw [hMc.1]; exact nI_ge hc (by omega)) ?_
            refine rh_aload_n hX dX8_turn_131 rfl ?_
            refine rh_iload hX dX8_turn_132 rfl ?_
            refine rh_aload_n hX dX8_turn_134 rfl ?_
            refine rh_get hX gl_X8_269 0 dX8_turn_135 rfl rfl ?_
            refine rh_aload_n hX dX8_turn_138 rfl ?_
            refine rh_get hX gl_X8_272 0 dX8_turn_139 rfl rfl ?_
            refine rh_aload_n hX dX8_turn_142 rfl ?_
            refine rh_get hX gl_X8_239 0 dX8_turn_143 rfl rfl ?_
            refine rh_pV hX lk_X8_275 mvX8_ratcheted (fun l => c_X8_ratcheted l E _ _ _ _ _ _ _ _ _ _ _ _ _ _ _ _ _ _ _ _ _ _ _ _ _ _ _ _ _ _ _ _ _ _ _ _ _ _ c _ _ _ (by omega)) ⟨rfl, rfl⟩ ⟨Nat.le_of_ble_eq_true rfl, Nat.le_of_ble_eq_true rfl⟩ [0, 1, 2, 3, 4, 5, 6, 7, 8, 9, 10, 11, 12] rfl rfl 0 rfl dX8_turn_146 rfl rfl (Nat.le_of_ble_eq_true rfl) ?_
            refine rh_lst6 hX dX8_turn_149 (by decide) rfl ?_
            refine rh_iload hX dX8_turn_151 rfl ?_
            refine rh_if_eq (tgt := 177) hX dX8_turn_153 (by decide) (fun h153 => ?_) (fun h153 => ?_)
            · skip
              refine rh_iconst hX dX8_turn_177 ki_0 ?_
              refine rh_ist4 hX dX8_turn_178 (by decide) rfl ?_
              refine rh_aload_n hX dX8_turn_180 rfl ?_
              refine rh_get hX gl_X8_7 0 dX8_turn_181 rfl rfl ?_
              refine rh_bipush hX dX8_turn_184 kb_64 ?_
              refine rh_iload hX dX8_turn_186 rfl ?_
              refine rh_iadd hX dX8_turn_188 ?_
              refine rh_lload hX dX8_turn_189 rfl ?_
              refine rh_l2i hX dX8_turn_191 ?_
              refine rh_iastore hX 1 (64 + c) dX8_turn_192 rfl (rn_a rn_c64 rfl) (by omega) (by decide) rfl ?_
              dsimp only [List.cons_append, List.nil_append, List.set_cons_succ, List.set_cons_zero, vput]
              refine rh_inc5 hX dX8_turn_193 (by decide) rfl (rn_i1 _) ?_
              refine rh_goto (tgt := 119) hX dX8_turn_196 (by decide) ?_
              rw [mMv_s _ _ _ _ _ _ _ hc0] at ihc
              first | (rw [mMg_a h153] at ihc; exact rh_wk (by exact ⟨rfl, rfl, rfl, rfl, rfl, trivial⟩) ihc) | (rw [mMg_b h153 h170] at ihc; exact rh_wk (by exact ⟨rfl, rfl, rfl, rfl, rfl, trivial⟩) ihc) | (rw [mMg_c h153 h170] at ihc; exact rh_wk (by exact ⟨rfl, rfl, rfl, rfl, rfl, trivial⟩) ihc)
            · skip
              refine rh_lload hX dX8_turn_156 rfl ?_
              refine rh_aload_n hX dX8_turn_158 rfl ?_
              refine rh_get hX gl_X8_7 0 dX8_turn_159 rfl rfl ?_
              refine rh_bipush hX dX8_turn_162 kb_64 ?_
              refine rh_iload hX dX8_turn_164 rfl ?_
              refine rh_iadd hX dX8_turn_166 ?_
              refine rh_iaload hX 1 (64 + c) dX8_turn_167 rfl (rn_a rn_c64 rfl) (by omega) (by decide) ?_
              refine rh_i2l hX dX8_turn_168 ?_
              refine rh_lne (tgt := 177) hX dX8_turn_169 dX8_turn_170 (by decide) (fun h170 => ?_) (fun h170 => ?_)
              · skip
                refine rh_iconst hX dX8_turn_177 ki_0 ?_
                refine rh_ist4 hX dX8_turn_178 (by decide) rfl ?_
                refine rh_aload_n hX dX8_turn_180 rfl ?_
                refine rh_get hX gl_X8_7 0 dX8_turn_181 rfl rfl ?_
                refine rh_bipush hX dX8_turn_184 kb_64 ?_
                refine rh_iload hX dX8_turn_186 rfl ?_
                refine rh_iadd hX dX8_turn_188 ?_
                refine rh_lload hX dX8_turn_189 rfl ?_
                refine rh_l2i hX dX8_turn_191 ?_
                refine rh_iastore hX 1 (64 + c) dX8_turn_192 rfl (rn_a rn_c64 rfl) (by omega) (by decide) rfl ?_
                dsimp only [List.cons_append, List.nil_append, List.set_cons_succ, List.set_cons_zero, vput]
                refine rh_inc5 hX dX8_turn_193 (by decide) rfl (rn_i1 _) ?_
                refine rh_goto (tgt := 119) hX dX8_turn_196 (by decide) ?_
                rw [mMv_s _ _ _ _ _ _ _ hc0] at ihc
                first | (rw [mMg_a h153] at ihc; exact rh_wk (by exact ⟨rfl, rfl, rfl, rfl, rfl, trivial⟩) ihc) | (rw [mMg_b h153 h170] at ihc; exact rh_wk (by exact ⟨rfl, rfl, rfl, rfl, rfl, trivial⟩) ihc) | (rw [mMg_c h153 h170] at ihc; exact rh_wk (by exact ⟨rfl, rfl, rfl, rfl, rfl, trivial⟩) ihc)
              · skip
                refine rh_iconst hX dX8_turn_173 ki_1 ?_
                refine rh_goto (tgt := 178) hX dX8_turn_174 (by decide) ?_
                refine rh_ist4 hX dX8_turn_178 (by decide) rfl ?_
                refine rh_aload_n hX dX8_turn_180 rfl ?_
                refine rh_get hX gl_X8_7 0 dX8_turn_181 rfl rfl ?_
                refine rh_bipush hX dX8_turn_184 kb_64 ?_
                refine rh_iload hX dX8_turn_186 rfl ?_
                refine rh_iadd hX dX8_turn_188 ?_
                refine rh_lload hX dX8_turn_189 rfl ?_
                refine rh_l2i hX dX8_turn_191 ?_
                refine rh_iastore hX 1 (64 + c) dX8_turn_192 rfl (rn_a rn_c64 rfl) (by omega) (by decide) rfl ?_
                dsimp only [List.cons_append, List.nil_append, List.set_cons_succ, List.set_cons_zero, vput]
                refine rh_inc5 hX dX8_turn_193 (by decide) rfl (rn_i1 _) ?_
                refine rh_goto (tgt := 119) hX dX8_turn_196 (by decide) ?_
                rw [mMv_s _ _ _ _ _ _ _ hc0] at ihc
                first | (rw [mMg_a h153] at ihc; exact rh_wk (by exact ⟨rfl, rfl, rfl, rfl, rfl, trivial⟩) ihc) | (rw [mMg_b h153 h170] at ihc; exact rh_wk (by exact ⟨rfl, rfl, rfl, rfl, rfl, trivial⟩) ihc) | (rw [mMg_c h153 h170] at ihc; exact rh_wk (by exact ⟨rfl, rfl, rfl, rfl, rfl, trivial⟩) ihc)
        · intro i hi0 hi ih
          refine rh_iload hX dX8_turn_74 rfl ?_
          refine rh_bipush hX dX8_turn_76 kb_8 ?_
          refine rh_icmp_ge_f (tgt := 113) hX dX8_turn_78 (by decide) (nI_ge (b := 8) hi (by decide)) ?_
          refine rh_aload_n hX dX8_turn_81 rfl ?_
          refine rh_dup hX dX8_turn_82 rfl ?_
          refine rh_get hX gl_X8_272 0 dX8_turn_83 rfl rfl ?_
          refine rh_ldc2 hX dX8_turn_86 kl_X8_267 ?_
          refine rh_aload_n hX dX8_turn_89 rfl ?_
          refine rh_get hX gl_X8_27 0 dX8_turn_90 rfl rfl ?_
          refine rh_iload hX dX8_turn_93 rfl ?_
          refine rh_iaload hX 6 i dX8_turn_95 rfl rfl (by omega) (by decide) ?_
          refine rh_i2l hX dX8_turn_96 ?_
          refine rh_lmul hX dX8_turn_97 ?_
          refine rh_aload_n hX dX8_turn_98 rfl ?_
          refine rh_get hX gl_X8_269 0 dX8_turn_99 rfl rfl ?_
          refine rh_ldiv hX dX8_turn_102 hpne ?_
          refine rh_ladd hX dX8_turn_103 ?_
          refine rh_put hX gl_X8_272 0 dX8_turn_104 rfl rfl rfl (Nat.le_of_ble_eq_true rfl) rfl ?_
          dsimp only [List.cons_append, List.nil_append, List.set_cons_succ, List.set_cons_zero, vput]
          refine rh_inc4 hX dX8_turn_107 (by decide) rfl (rn_i1 _) ?_
          refine rh_goto (tgt := 74) hX dX8_turn_110 (by decide) ?_
          exact ih
      · skip
        refine rh_bipush hX dX8_turn_63 kb_m3 ?_
        exact rh_iret hX hR dX8_turn_65 (by simp only [List.map_cons, List.map_nil, List.cons_append, List.nil_append]) (by first | exact ⟨_, _, _, by rw [mTn, mTnG, if_neg h28, if_pos h60] <;> rfl, fun q => by rw [mTn, mTnG, if_neg h28, if_pos h60] at q; exact absurd q (by decide), hM, rfl⟩)
    · skip
      refine rh_bipush hX dX8_turn_31 kb_m3 ?_
      exact rh_iret hX hR dX8_turn_33 (by simp only [List.map_cons, List.map_nil, List.cons_append, List.nil_append]) (by first | exact ⟨_, _, _, by rw [mTn, mTnG, if_pos h28] <;> rfl, fun q => by rw [mTn, mTnG, if_pos h28] at q; exact absurd q (by decide), hM, rfl⟩)
