theorem pGo_big {mn : Nat → Int32} {pd : Int64} {dn : Int32} {t : Nat} {all : Int64} {h : Nat} {s : PL} (hh : h < 8) (ht : t < 6) {x : Nat} (hx : 48 ≤ x) : (pGo mn pd dn t all h s).1 x = s.1 x := by
  unfold pGo
  split
  · show (if dn = 0 then s.1 else _) x = _
    split
    · rfl
    · unfold va_up
      rw [if_neg (by omega), if_neg (by omega)]
  · rfl
theorem pH_big {mn : Nat → Int32} {pd : Int64} {dn : Int32} {t : Nat} {all : Int64} {s : PL} (ht : t < 6) {x : Nat} (hx : 48 ≤ x) : ∀ h : Nat, h ≤ 8 → (pH mn pd dn t all s h).1 x = s.1 x
  | 0, _ => by rw [pH_0]
  | h + 1, hh => by rw [pH_s, pGo_big (by omega) ht hx, pH_big ht hx h (by omega)]
theorem pT_big {mn : Nat → Int32} {pd : Int64} {dn : Int32} {s : PL} {x : Nat} (hx : 48 ≤ x) : ∀ t : Nat, t ≤ 6 → (pT mn pd dn s t).1 x = s.1 x
  | 0, _ => by rw [pT]
  | t + 1, ht => by
    by_cases e : t = 0
    · rw [pT, if_pos e]
    · rw [pT_s _ _ _ _ (by omega), pH_big (by omega) hx 8 (by omega)]
      exact pT_big hx t (by omega)
abbrev LPR : Type := Int32 × Option ((Nat → Int32) × Int64 × Int64 × Nat)
/-- turns till the price stands: k are left; the answer, and behind a good one the row, P, N, TURNS -/
def mLp (T : Nat) (vl tp lt : Int32) (mn : Nat → Int32) (pd : Int64) (ca : Nat → Int64) (ba na : Int64) (pA : Int32) : Nat → (Nat → Int32) → Nat → LPR
  | 0, _, _ => (-4, none)
  | k + 1, u, n => if mTn u T vl tp lt mn pd ca ba na pA = 0 then mLp T vl tp lt mn pd ca ba na pA k (mTu u T vl tp lt mn pd ca ba na pA) (n + 1) else if 0 ≤ mTn u T vl tp lt mn pd ca ba na pA then (0, some (mTu u T vl tp lt mn pd ca ba na pA, mPr u T vl lt, mNs mn (mPr u T vl lt), n + 1)) else (mTn u T vl tp lt mn pd ca ba na pA, none)
termination_by k => k
theorem mLp_0 (T : Nat) (vl tp lt : Int32) (mn : Nat → Int32) (pd : Int64) (ca : Nat → Int64) (ba na : Int64) (pA : Int32) (u : Nat → Int32) (n : Nat) : mLp T vl tp lt mn pd ca ba na pA 0 u n = (-4, none) := by rw [mLp]
theorem mLp_s (T : Nat) (vl tp lt : Int32) (mn : Nat → Int32) (pd : Int64) (ca : Nat → Int64) (ba na : Int64) (pA : Int32) (k : Nat) (u : Nat → Int32) (n : Nat) : mLp T vl tp lt mn pd ca ba na pA (k + 1) u n = if mTn u T vl tp lt mn pd ca ba na pA = 0 then mLp T vl tp lt mn pd ca ba na pA k (mTu u T vl tp lt mn pd ca ba na pA) (n + 1) else if 0 ≤ mTn u T vl tp lt mn pd ca ba na pA then (0, some (mTu u T vl tp lt mn pd ca ba na pA, mPr u T vl lt, mNs mn (mPr u T vl lt), n + 1)) else (mTn u T vl tp lt mn pd ca ba na pA, none) := by rw [mLp]
theorem mTn_p {u : Nat → Int32} {T : Nat} {vl tp lt : Int32} {mn : Nat → Int32} {pd : Int64} {ca : Nat → Int64} {ba na : Int64} {pA : Int32} (h : 0 ≤ (mTn u T vl tp lt mn pd ca ba na pA).toInt) : 1 ≤ (mPr u T vl lt).toInt ∧ (mPr u T vl lt).toInt ≤ 100000000 := by
  unfold mTn mTnG at h
  by_cases a : mFl u T lt = 0
  · rw [if_pos a] at h; exact absurd h (by decide)
  · rw [if_neg a] at h
    by_cases b : xIn (mPr u T vl lt) 1 100000000 = 0
    · rw [if_pos b] at h; exact absurd h (by decide)
    · exact xIn_lo b
theorem mOk_mTu {u : Nat → Int32} {T : Nat} {vl tp lt : Int32} {mn : Nat → Int32} {pd : Int64} {ca : Nat → Int64} {ba na : Int64} {pA : Int32} (hM : mOk u T) (hca : ∀ t, 1 ≤ t → t < T → 1 ≤ (ca t).toInt ∧ (ca t).toInt ≤ 100000000) (h : 0 ≤ (mTn u T vl tp lt mn pd ca ba na pA).toInt) : mOk (mTu u T vl tp lt mn pd ca ba na pA) T := mOk_up (mOk_mMv (s := (u, 1)) hM hca (mTn_p h).1 T (Nat.le_refl T)) (by omega) (by omega)
/-- the new class's shares and money, of i holders -/
def aM1 (U : Nat → Int32) (T : Nat) (mn : Nat → Int32) (pr : Int64) (i : Nat) : Nat → Int32 := fun x => if x < 48 ∧ x % 6 = T ∧ x / 6 < i then (10000 * (mn (x / 6)).toInt64 / pr).toInt32 else if 124 ≤ x ∧ (x - 124) % 6 = T ∧ (x - 124) / 6 < i then mn ((x - 124) / 6) else U x
theorem aM1_0 (U : Nat → Int32) (T : Nat) (mn : Nat → Int32) (pr : Int64) : aM1 U T mn pr 0 = U := by
  funext x
  unfold aM1
  rw [if_neg (by omega), if_neg (by omega)]
theorem aM1_s (U : Nat → Int32) (T : Nat) (mn : Nat → Int32) (pr : Int64) {i : Nat} (hT : T < 6) (hi : i < 8) : va_up (va_up (aM1 U T mn pr i) (6 * i + T) (10000 * (mn i).toInt64 / pr).toInt32) (124 + 6 * i + T) (mn i) = aM1 U T mn pr (i + 1) := by
  funext x
  unfold va_up aM1
  by_cases e : x = 124 + 6 * i + T
  · rw [if_pos e, if_neg (by omega), if_pos (by omega), show (x - 124) / 6 = i by omega]
  · rw [if_neg e]
    by_cases e2 : x = 6 * i + T
    · rw [if_pos e2, if_pos (by omega), show x / 6 = i by omega]
    · rw [if_neg e2]
      by_cases a : x < 48 ∧ x % 6 = T ∧ x / 6 < i
      · rw [if_pos a, if_pos (by omega)]
      · rw [if_neg a, if_neg (c := x < 48 ∧ x % 6 = T ∧ x / 6 < i + 1) (by omega)]
        by_cases b : 124 ≤ x ∧ (x - 124) % 6 = T ∧ (x - 124) / 6 < i
        · rw [if_pos b, if_pos (by omega)]
        · rw [if_neg b, if_neg (by omega)]
def aM2 (V : Nat → Int32) (T : Nat) (pr : Int64) (ra pf pt pl vl : Int32) (pd ns : Int64) (tu : Nat) : Nat → Int32 := va_up (va_up (va_up (va_up (va_up (va_up (va_up (va_up (va_up (va_up V (58 + T) pr.toInt32) (64 + T) pr.toInt32) (70 + T) ra) (76 + T) pf) (82 + T) pt) (88 + T) pl) (94 + 5 * T) vl) (94 + 5 * T + 1) pd.toInt32) (94 + 5 * T + 2) ns.toInt32) (94 + 5 * T + 3) (nI tu)
def aM3 (V : Nat → Int32) (T : Nat) : Nat → Int32 := va_up V (94 + 5 * T + 4) (cSize (fm V) (T + 1)).toInt32
/-- the row behind a good round -/
def aMq (T : Nat) (mn : Nat → Int32) (ra pf pt pl vl : Int32) (pd : Int64) (q : (Nat → Int32) × Int64 × Int64 × Nat) : Nat → Int32 := aM2 (aM1 (va_up q.1 57 (nI T + 1)) T mn q.2.1 8) T q.2.1 ra pf pt pl vl pd q.2.2.1 q.2.2.2
theorem mOk_aM2 {U : Nat → Int32} {T : Nat} {mn : Nat → Int32} {pr pd ns : Int64} {ra pf pt pl vl : Int32} {tu : Nat} (hM : mOk U T) (hT : T < 6) (hp : 1 ≤ pr.toInt ∧ pr.toInt ≤ 100000000) : mOk (aM2 (aM1 (va_up U 57 (nI T + 1)) T mn pr 8) T pr ra pf pt pl vl pd ns tu) (T + 1) := by
  obtain ⟨a, b, c, d⟩ := hM
  refine ⟨?_, by omega, by omega, fun t t1 t2 => ?_⟩
  · have e1 : aM2 (aM1 (va_up U 57 (nI T + 1)) T mn pr 8) T pr ra pf pt pl vl pd ns tu 57 = aM1 (va_up U 57 (nI T + 1)) T mn pr 8 57 := by
      unfold aM2
      simp only [va_up]
      rw [if_neg (by omega), if_neg (by omega), if_neg (by omega), if_neg (by omega), if_neg (by omega), if_neg (by omega), if_neg (by omega), if_neg (by omega), if_neg (by omega), if_neg (by omega)]
    rw [e1]
    unfold aM1
    rw [if_neg (by omega), if_neg (by omega)]
    unfold va_up
    rw [if_pos rfl]
    exact rn_add T 1
  · rw [← fm_fact _ (t := t) (k := 1) (by omega) (by omega)]
    by_cases e : t = T
    · have e1 : aM2 (aM1 (va_up U 57 (nI T + 1)) T mn pr 8) T pr ra pf pt pl vl pd ns tu (58 + 6 * 1 + t) = pr.toInt32 := by
        unfold aM2 va_up
        rw [if_neg (by omega), if_neg (by omega), if_neg (by omega), if_neg (by omega), if_neg (by omega), if_neg (by omega), if_neg (by omega), if_neg (by omega), if_pos (by omega)]
      rw [e1, z_lt, z_l, z_i rfl (by omega) (by omega)]
      show (0 : Int) < _
      omega
    · have e1 : aM2 (aM1 (va_up U 57 (nI T + 1)) T mn pr 8) T pr ra pf pt pl vl pd ns tu (58 + 6 * 1 + t) = U (58 + 6 * 1 + t) := by
        have e2 : aM2 (aM1 (va_up U 57 (nI T + 1)) T mn pr 8) T pr ra pf pt pl vl pd ns tu (58 + 6 * 1 + t) = aM1 (va_up U 57 (nI T + 1)) T mn pr 8 (58 + 6 * 1 + t) := by
          unfold aM2
          simp only [va_up]
          rw [if_neg (by omega), if_neg (by omega), if_neg (by omega), if_neg (by omega), if_neg (by omega), if_neg (by omega), if_neg (by omega), if_neg (by omega), if_neg (by omega), if_neg (by omega)]
        rw [e2]
        unfold aM1
        rw [if_neg (by omega), if_neg (by omega)]
        unfold va_up
        rw [if_neg (by omega)]
      rw [e1]
      have := d t t1 (by omega)
      rw [← fm_fact _ (t := t) (k := 1) (by omega) (by omega)] at this
      exact this
def mU0 (u : Nat → Int32) (T : Nat) (mn : Nat → Int32) (pd : Int64) (tr : Nat → Int64) : Nat → Int32 := (pT mn pd 1 (u, tr, (0 : Int32)) T).1
def mRk (u : Nat → Int32) (T : Nat) (vl tp lt : Int32) (mn : Nat → Int32) (pd : Int64) (ca tr : Nat → Int64) : LPR := if T = 6 then (-2, none) else mLp T vl tp lt mn pd (row1 (fun t => (mU0 u T mn pd tr (64 + t)).toInt64) ca T) (cSize (fm (mU0 u T mn pd tr)) T) (cAllVotes (fm (mU0 u T mn pd tr)) T) (mU0 u T mn pd tr 56) 200 (mU0 u T mn pd tr) 0

set_option maxRecDepth 100000 in
set_option maxHeartbeats 4000000 in
theorem c_X8_reckons (l : Launch) (E : rhE) (B : Nat → Nat) (u : Nat → Int32) (kp : Nat → Int32) (ik : Int32) (ps : Nat → Int32) (pm : Nat) (dd : Int32) (tx : Nat → Int32) (ty : Nat) (rw : Nat → Int64) (rm : Nat) (th : Int32) (sz : Nat) (he : Nat) (wr : Int32) (mn : Nat → Int32) (vl : Int32) (tp : Int32) (lt : Int32) (ra : Int32) (pf : Int32) (pt : Int32) (pl : Int32) (pd : Int64) (prc : Int64) (ns : Int64) (tu : Nat) (ba : Int64) (na : Int64) (ca : Nat → Int64) (bo : Nat → Int32) (tr : Nat → Int64) (tH : Int32) (asd : Nat → Int32) (pa : Nat → Int64) (tg : Nat → Int64) (sd : Int64) (sr : Int64) (T : Nat) (hM : mOk u T) (hdv : ∀ t h, 1 ≤ t → t < T → h < 8 → ¬ (pH mn pd 1 t (cAllHeld (fm (pT mn pd 1 (u, tr, (0 : Int32)) t).1) t) ((pT mn pd 1 (u, tr, (0 : Int32)) t).1, va_up (pT mn pd 1 (u, tr, (0 : Int32)) t).2.1 t 0, (pT mn pd 1 (u, tr, (0 : Int32)) t).2.2) h).1 (6 * h + t) ≤ 0 → ¬ (cAllHeld (fm (pT mn pd 1 (u, tr, (0 : Int32)) t).1) t) = 0) (hc8 : ∀ t, 1 ≤ t → t < T → 1 ≤ (u (64 + t)).toInt ∧ (u (64 + t)).toInt ≤ 100000000) (htp : 0 ≤ tp.toInt ∧ tp.toInt ≤ 500) : Ctr l E yX8_reckons cX8_reckons 5 (some .int) (rmL 5) [.ref (B 0)] (wM E B u kp ik ps pm dd tx ty rw rm th sz he wr mn vl tp lt ra pf pt pl pd prc ns tu ba na ca bo tr tH asd pa tg sd sr) (fun r w => ∃ u1 prc1 ns1 tu1 ba1 na1 ca1 tr1 tH1, r = some (Value.int (mRk u T vl tp lt mn pd ca tr).1) ∧ (∀ q, (mRk u T vl tp lt mn pd ca tr).2 = some q → u1 = aM3 (aMq T mn ra pf pt pl vl pd q) T ∧ prc1 = q.2.1 ∧ ns1 = q.2.2.1 ∧ tu1 = q.2.2.2 ∧ tu1 ≤ 200 ∧ mOk u1 (T + 1)) ∧ (∃ T1, mOk u1 T1) ∧ w = (wM E B u1 kp ik ps pm dd tx ty rw rm th sz he wr mn vl tp lt ra pf pt pl pd prc1 ns1 tu1 ba1 na1 ca1 bo tr1 tH1 asd pa tg sd sr)) := by
  refine Ctr.of (by decide) (Nat.le_of_ble_eq_true rfl) rfl rfl 4 ?_
  intro X hX hR
  obtain ⟨hT, hT1, hT6, hcv⟩ := id hM
  refine rh_aload_n hX dX8_reckons_0 rfl ?_
  refine rh_get hX gl_X8_7 0 dX8_reckons_1 rfl rfl ?_
  refine rh_bipush hX dX8_reckons_4 kb_57 ?_
  refine rh_iaload hX 1 _ dX8_reckons_6 rfl rn_c57 (by omega) (by decide) ?_
  rw [hT]
  refine rh_bipush hX dX8_reckons_7 kb_6 ?_
  refine rh_icmp_ne (tgt := 15) hX dX8_reckons_9 (by decide) (fun h9 => ?_) (fun h9 => ?_)
  · skip
    have h9 : ¬ T = 6 := fun q => h9 (by rw [q]; rfl)
    refine rh_aload_n hX dX8_reckons_15 rfl ?_
    refine rh_iconst hX dX8_reckons_16 ki_1 ?_
    refine rh_uV hX lk_X8_283 mvX8_plays (fun l => c_X8_plays l E _ _ _ _ _ _ _ _ _ _ _ _ _ _ _ _ _ _ _ _ _ _ _ _ _ _ _ _ _ _ _ _ _ _ _ _ _ _ 1 T hM hdv) ⟨rfl, rfl⟩ ⟨Nat.le_of_ble_eq_true rfl, Nat.le_of_ble_eq_true rfl⟩ [0, 1, 2, 3, 4, 5, 6, 7, 8, 9, 10, 11, 12] rfl rfl 0 rfl dX8_reckons_17 rfl rfl (Nat.le_of_ble_eq_true rfl) rfl ?_
    dsimp only [List.cons_append, List.nil_append, List.set_cons_succ, List.set_cons_zero, vput]
    have hM0 : mOk (mU0 u T mn pd tr) T := mOk_pT (mn := mn) (pd := pd) (dn := 1) (s := (u, tr, (0 : Int32))) hM T hT6
    rw [show (pT mn pd 1 (u, tr, (0 : Int32)) T).1 = (mU0 u T mn pd tr) from rfl]
    refine rh_aload_n hX dX8_reckons_20 rfl ?_
    refine rh_aload_n hX dX8_reckons_21 rfl ?_
    refine rh_pV hX lk_X8_143 mvX8_fullNow (fun l => c_X8_fullNow l E _ _ _ _ _ _ _ _ _ _ _ _ _ _ _ _ _ _ _ _ _ _ _ _ _ _ _ _ _ _ _ _ _ _ _ _ _ _ T hM0) ⟨rfl, rfl⟩ ⟨Nat.le_of_ble_eq_true rfl, Nat.le_of_ble_eq_true rfl⟩ [0, 1, 2, 3, 4, 5, 6, 7, 8, 9, 10, 11, 12] rfl rfl 0 rfl dX8_reckons_22 rfl rfl (Nat.le_of_ble_eq_true rfl) ?_
    refine rh_put hX gl_X8_254 0 dX8_reckons_25 rfl rfl rfl (Nat.le_of_ble_eq_true rfl) rfl ?_
    dsimp only [List.cons_append, List.nil_append, List.set_cons_succ, List.set_cons_zero, vput]
    refine rh_aload_n hX dX8_reckons_28 rfl ?_
    refine rh_aload_n hX dX8_reckons_29 rfl ?_
    refine rh_pV hX lk_X8_92 mvX8_allByShares (fun l => c_X8_allByShares l E _ _ _ _ _ _ _ _ _ _ _ _ _ _ _ _ _ _ _ _ _ _ _ _ _ _ _ _ _ _ _ _ _ _ _ _ _ _ T hM0) ⟨rfl, rfl⟩ ⟨Nat.le_of_ble_eq_true rfl, Nat.le_of_ble_eq_true rfl⟩ [0, 1, 2, 3, 4, 5, 6, 7, 8, 9, 10, 11, 12] rfl rfl 0 rfl dX8_reckons_30 rfl rfl (Nat.le_of_ble_eq_true rfl) ?_
    refine rh_put hX gl_X8_252 0 dX8_reckons_33 rfl rfl rfl (Nat.le_of_ble_eq_true rfl) rfl ?_
    dsimp only [List.cons_append, List.nil_append, List.set_cons_succ, List.set_cons_zero, vput]
    refine rh_iconst hX dX8_reckons_36 ki_1 ?_
    refine rh_istn1 hX dX8_reckons_37 (by decide) rfl ?_
    suffices hP0 : G X 38 [some (.ref (B 0)), some (.int 1), none, none, none] [] (wM E B (mU0 u T mn pd tr) kp ik ps pm dd tx ty rw rm th sz he wr mn vl tp lt ra pf pt pl pd prc ns tu (cSize (fm (mU0 u T mn pd tr)) T) (cAllVotes (fm (mU0 u T mn pd tr)) T) (row1 (fun t => ((mU0 u T mn pd tr) (64 + t)).toInt64) ca 1) bo (pT mn pd 1 (u, tr, (0 : Int32)) T).2.1 (pT mn pd 1 (u, tr, (0 : Int32)) T).2.2 asd pa tg sd sr) by rw [row1_1] at hP0; exact hP0
    refine rh_loop (P := fun c => G X 38 [some (.ref (B 0)), some (.int (nI c)), none, none, none] [] (wM E B (mU0 u T mn pd tr) kp ik ps pm dd tx ty rw rm th sz he wr mn vl tp lt ra pf pt pl pd prc ns tu (cSize (fm (mU0 u T mn pd tr)) T) (cAllVotes (fm (mU0 u T mn pd tr)) T) (row1 (fun t => ((mU0 u T mn pd tr) (64 + t)).toInt64) ca c) bo (pT mn pd 1 (u, tr, (0 : Int32)) T).2.1 (pT mn pd 1 (u, tr, (0 : Int32)) T).2.2 asd pa tg sd sr)) (1) (T) (by omega) ?_ ?_
    · skip
      refine rh_iload_n hX dX8_reckons_38 rfl ?_
      refine rh_aload_n hX dX8_reckons_39 rfl ?_
      refine rh_get hX gl_X8_7 0 dX8_reckons_40 rfl rfl ?_
      refine rh_bipush hX dX8_reckons_43 kb_57 ?_
      refine rh_iaload hX 1 _ dX8_reckons_45 rfl rn_c57 (by omega) (by decide) ?_
      refine rh_icmp_ge_t (tgt := 71) hX dX8_reckons_46 (by decide) (by rw [hM0.1]; exact nI_le (Nat.le_refl T) (by omega)) ?_
      refine rh_aload_n hX dX8_reckons_71 rfl ?_
      refine rh_get hX gl_X8_7 0 dX8_reckons_72 rfl rfl ?_
      refine rh_bipush hX dX8_reckons_75 kb_56 ?_
      refine rh_iaload hX 1 _ dX8_reckons_77 rfl rn_c56 (by omega) (by decide) ?_
      refine rh_istn1 hX dX8_reckons_78 (by decide) rfl ?_
      have hca : ∀ t, 1 ≤ t → t < T → 1 ≤ ((row1 (fun t => ((mU0 u T mn pd tr) (64 + t)).toInt64) ca T) t).toInt ∧ ((row1 (fun t => ((mU0 u T mn pd tr) (64 + t)).toInt64) ca T) t).toInt ≤ 100000000 := fun t t1 t2 => by unfold row1; rw [if_pos ⟨t1, t2⟩, z_l, show (mU0 u T mn pd tr) (64 + t) = u (64 + t) from pT_big (by omega) T hT6]; exact hc8 t t1 t2
      refine rh_aload_n hX dX8_reckons_79 rfl ?_
      refine rh_iconst hX dX8_reckons_80 ki_0 ?_
      refine rh_put hX gl_X8_287 0 dX8_reckons_81 rfl rfl rfl (Nat.le_of_ble_eq_true rfl) rfl ?_
      dsimp only [List.cons_append, List.nil_append, List.set_cons_succ, List.set_cons_zero, vput]
      refine rh_iconst hX dX8_reckons_84 ki_0 ?_
      refine rh_istn2 hX dX8_reckons_85 (by decide) rfl ?_
      refine rh_iload_n hX dX8_reckons_86 rfl ?_
      refine rh_if_ne_f (tgt := 122) hX dX8_reckons_87 (by decide) rfl ?_
      suffices hP0 : G X 90 [some (.ref (B 0)), some (.int ((mU0 u T mn pd tr) 56)), none, none, none] [] (wM E B (mU0 u T mn pd tr) kp ik ps pm dd tx ty rw rm th sz he wr mn vl tp lt ra pf pt pl pd prc ns 0 (cSize (fm (mU0 u T mn pd tr)) T) (cAllVotes (fm (mU0 u T mn pd tr)) T) (row1 (fun t => ((mU0 u T mn pd tr) (64 + t)).toInt64) ca T) bo (pT mn pd 1 (u, tr, (0 : Int32)) T).2.1 (pT mn pd 1 (u, tr, (0 : Int32)) T).2.2 asd pa tg sd sr) by exact rh_wk (by exact ⟨rfl, rfl, trivial⟩) hP0
      refine (rh_loop (P := fun k => ∀ u1 prc1 ns1, (mLp T vl tp lt mn pd (row1 (fun t => ((mU0 u T mn pd tr) (64 + t)).toInt64) ca T) (cSize (fm (mU0 u T mn pd tr)) T) (cAllVotes (fm (mU0 u T mn pd tr)) T) ((mU0 u T mn pd tr) 56) (200 - k) u1 k = (mRk u T vl tp lt mn pd ca tr) ∧ mOk u1 T) → G X 90 [some (.ref (B 0)), some (.int ((mU0 u T mn pd tr) 56)), none, none, none] [] (wM E B u1 kp ik ps pm dd tx ty rw rm th sz he wr mn vl tp lt ra pf pt pl pd prc1 ns1 k (cSize (fm (mU0 u T mn pd tr)) T) (cAllVotes (fm (mU0 u T mn pd tr)) T) (row1 (fun t => ((mU0 u T mn pd tr) (64 + t)).toInt64) ca T) bo (pT mn pd 1 (u, tr, (0 : Int32)) T).2.1 (pT mn pd 1 (u, tr, (0 : Int32)) T).2.2 asd pa tg sd sr)) (0) (200) (by omega) ?_ ?_) _ _ _ ⟨by rw [mRk, if_neg h9], hM0⟩
      · intro u1 prc1 ns1 hH
        refine rh_aload_n hX dX8_reckons_90 rfl ?_
        refine rh_get hX gl_X8_287 0 dX8_reckons_91 rfl rfl ?_
        refine rh_sipush hX dX8_reckons_94 ks_200 ?_
        refine rh_icmp_ne_f (tgt := 103) hX dX8_reckons_97 (by decide) rfl ?_
        refine rh_bipush hX dX8_reckons_100 kb_m4 ?_
        exact rh_iret hX hR dX8_reckons_102 (by simp only [List.map_cons, List.map_nil, List.cons_append, List.nil_append]) ⟨_, _, _, _, _, _, _, _, _, by rw [← hH.1, Nat.sub_self, mLp_0], (fun q hq => by rw [← hH.1, Nat.sub_self, mLp_0] at hq; cases hq), ⟨T, hH.2⟩, rfl⟩
      · intro k hk0 hk ihk u1 prc1 ns1 hH
        refine rh_aload_n hX dX8_reckons_90 rfl ?_
        refine rh_get hX gl_X8_287 0 dX8_reckons_91 rfl rfl ?_
        refine rh_sipush hX dX8_reckons_94 ks_200 ?_
        refine rh_icmp_ne_t (tgt := 103) hX dX8_reckons_97 (by decide) (fun q => by have := rn_inj (b := 200) q (by omega) (by decide); omega) ?_
        refine rh_aload_n hX dX8_reckons_103 rfl ?_
        refine rh_iload_n hX dX8_reckons_104 rfl ?_
        refine rh_callV hX lk_X8_290 mvX8_turn (fun l => c_X8_turn l E _ _ _ _ _ _ _ _ _ _ _ _ _ _ _ _ _ _ _ _ _ _ _ _ _ _ _ _ _ _ _ _ _ _ _ _ _ _ ((mU0 u T mn pd tr) 56) T hH.2 hca htp) ⟨rfl, rfl⟩ ⟨Nat.le_of_ble_eq_true rfl, Nat.le_of_ble_eq_true rfl⟩ [0, 1, 2, 3, 4, 5, 6, 7, 8, 9, 10, 11, 12] rfl rfl 0 rfl dX8_reckons_105 rfl rfl (Nat.le_of_ble_eq_true rfl) (fun r w hp hf => ?_)
        obtain ⟨u2, prc2, ns2, rfl, hpos, hmk2, rfl⟩ := hp
        dsimp only [vput, List.set_cons_succ, List.set_cons_zero, Option.toList, List.cons_append, List.nil_append]
        refine rh_istn2 hX dX8_reckons_108 (by decide) rfl ?_
        refine rh_aload_n hX dX8_reckons_109 rfl ?_
        refine rh_dup hX dX8_reckons_110 rfl ?_
        refine rh_get hX gl_X8_287 0 dX8_reckons_111 rfl rfl ?_
        refine rh_iconst hX dX8_reckons_114 ki_1 ?_
        refine rh_iadd hX dX8_reckons_115 ?_
        rw [show nI k + 1 = nI (k + 1) from rn_add k 1]
        refine rh_put hX gl_X8_287 0 dX8_reckons_116 rfl rfl rfl (Nat.le_of_ble_eq_true rfl) rfl ?_
        dsimp only [List.cons_append, List.nil_append, List.set_cons_succ, List.set_cons_zero, vput]
        refine rh_goto (tgt := 86) hX dX8_reckons_119 (by decide) ?_
        refine rh_iload_n hX dX8_reckons_86 rfl ?_
        refine rh_if_ne (tgt := 122) hX dX8_reckons_87 (by decide) (fun h87 => ?_) (fun h87 => ?_)
        · skip
          refine rh_iload_n hX dX8_reckons_122 rfl ?_
          refine rh_if_ge (tgt := 128) hX dX8_reckons_123 (by decide) (fun h123 => ?_) (fun h123 => ?_)
          · skip
            have h0r : 0 ≤ (mTn u1 T vl tp lt mn pd (row1 (fun t => ((mU0 u T mn pd tr) (64 + t)).toInt64) ca T) (cSize (fm (mU0 u T mn pd tr)) T) (cAllVotes (fm (mU0 u T mn pd tr)) T) ((mU0 u T mn pd tr) 56)).toInt := by rw [z_le32] at h123; exact h123
            have hRK : (mRk u T vl tp lt mn pd ca tr) = (0, some (mTu u1 T vl tp lt mn pd (row1 (fun t => ((mU0 u T mn pd tr) (64 + t)).toInt64) ca T) (cSize (fm (mU0 u T mn pd tr)) T) (cAllVotes (fm (mU0 u T mn pd tr)) T) ((mU0 u T mn pd tr) 56), mPr u1 T vl lt, mNs mn (mPr u1 T vl lt), k + 1)) := by rw [← hH.1, show 200 - k = (200 - (k + 1)) + 1 by omega, mLp_s, if_neg h87, if_pos h123]
            have hMu := mOk_mTu hH.2 hca h0r
            have hpr := mTn_p h0r
            obtain ⟨rfl, rfl, rfl⟩ := hpos h0r
            generalize mTu u1 T vl tp lt mn pd (row1 (fun t => ((mU0 u T mn pd tr) (64 + t)).toInt64) ca T) (cSize (fm (mU0 u T mn pd tr)) T) (cAllVotes (fm (mU0 u T mn pd tr)) T) ((mU0 u T mn pd tr) 56) = U1 at hRK hMu ⊢
            generalize mNs mn (mPr u1 T vl lt) = N1 at hRK ⊢
            generalize mPr u1 T vl lt = P1 at hRK hpr ⊢
            have hpne : ¬ P1 = 0 := fun q => by rw [q] at hpr; exact absurd hpr.1 (by decide)
            refine rh_aload_n hX dX8_reckons_128 rfl ?_
            refine rh_get hX gl_X8_7 0 dX8_reckons_129 rfl rfl ?_
            refine rh_bipush hX dX8_reckons_132 kb_57 ?_
            refine rh_iaload hX 1 _ dX8_reckons_134 rfl rn_c57 (by omega) (by decide) ?_
            rw [hMu.1]
            refine rh_istn3 hX dX8_reckons_135 (by decide) rfl ?_
            refine rh_aload_n hX dX8_reckons_136 rfl ?_
            refine rh_get hX gl_X8_7 0 dX8_reckons_137 rfl rfl ?_
            refine rh_bipush hX dX8_reckons_140 kb_57 ?_
            refine rh_dup2 hX dX8_reckons_142 rfl rfl ?_
            refine rh_iaload hX 1 _ dX8_reckons_143 rfl rn_c57 (by omega) (by decide) ?_
            rw [hMu.1]
            refine rh_iconst hX dX8_reckons_144 ki_1 ?_
            refine rh_iadd hX dX8_reckons_145 ?_
            refine rh_iastore hX 1 _ dX8_reckons_146 rfl rn_c57 (by omega) (by decide) rfl ?_
            dsimp only [List.cons_append, List.nil_append, List.set_cons_succ, List.set_cons_zero, vput]
            refine rh_iconst hX dX8_reckons_147 ki_0 ?_
            refine rh_ist4 hX dX8_reckons_148 (by decide) rfl ?_
            suffices hP0 : G X 150 [some (.ref (B 0)), none, none, some (.int (nI T)), some (.int 0)] [] (wM E B (aM1 (va_up U1 57 (nI T + 1)) T mn P1 0) kp ik ps pm dd tx ty rw rm th sz he wr mn vl tp lt ra pf pt pl pd P1 N1 (k + 1) (cSize (fm (mU0 u T mn pd tr)) T) (cAllVotes (fm (mU0 u T mn pd tr)) T) (row1 (fun t => ((mU0 u T mn pd tr) (64 + t)).toInt64) ca T) bo (pT mn pd 1 (u, tr, (0 : Int32)) T).2.1 (pT mn pd 1 (u, tr, (0 : Int32)) T).2.2 asd pa tg sd sr) by rw [aM1_0] at hP0; exact rh_wk (by exact ⟨rfl, rfl, rfl, trivial⟩) hP0
            refine rh_loop (P := fun i => G X 150 [some (.ref (B 0)), none, none, some (.int (nI T)), some (.int (nI i))] [] (wM E B (aM1 (va_up U1 57 (nI T + 1)) T mn P1 i) kp ik ps pm dd tx ty rw rm th sz he wr mn vl tp lt ra pf pt pl pd P1 N1 (k + 1) (cSize (fm (mU0 u T mn pd tr)) T) (cAllVotes (fm (mU0 u T mn pd tr)) T) (row1 (fun t => ((mU0 u T mn pd tr) (64 + t)).toInt64) ca T) bo (pT mn pd 1 (u, tr, (0 : Int32)) T).2.1 (pT mn pd 1 (u, tr, (0 : Int32)) T).2.2 asd pa tg sd sr)) (0) (8) (by omega) ?_ ?_
            · skip
              refine rh_iload hX dX8_reckons_150 rfl ?_
              refine rh_bipush hX dX8_reckons_152 kb_8 ?_
              refine rh_icmp_ge_t (tgt := 210) hX dX8_reckons_154 (by decide) (nI_le (a := 8) (b := 8) (Nat.le_refl 8) (by decide)) ?_
              refine rh_aload_n hX dX8_reckons_210 rfl ?_
              refine rh_get hX gl_X8_7 0 dX8_reckons_211 rfl rfl ?_
              refine rh_bipush hX dX8_reckons_214 kb_58 ?_
              refine rh_iload_n hX dX8_reckons_216 rfl ?_
              refine rh_iadd hX dX8_reckons_217 ?_
              refine rh_aload_n hX dX8_reckons_218 rfl ?_
              refine rh_get hX gl_X8_269 0 dX8_reckons_219 rfl rfl ?_
              refine rh_l2i hX dX8_reckons_222 ?_
              refine rh_iastore hX 1 (58 + T) dX8_reckons_223 rfl (rn_a rn_c58 rfl) (by omega) (by decide) rfl ?_
              dsimp only [List.cons_append, List.nil_append, List.set_cons_succ, List.set_cons_zero, vput]
              refine rh_aload_n hX dX8_reckons_224 rfl ?_
              refine rh_get hX gl_X8_7 0 dX8_reckons_225 rfl rfl ?_
              refine rh_bipush hX dX8_reckons_228 kb_64 ?_
              refine rh_iload_n hX dX8_reckons_230 rfl ?_
              refine rh_iadd hX dX8_reckons_231 ?_
              refine rh_aload_n hX dX8_reckons_232 rfl ?_
              refine rh_get hX gl_X8_269 0 dX8_reckons_233 rfl rfl ?_
              refine rh_l2i hX dX8_reckons_236 ?_
              refine rh_iastore hX 1 (64 + T) dX8_reckons_237 rfl (rn_a rn_c64 rfl) (by omega) (by decide) rfl ?_
              dsimp only [List.cons_append, List.nil_append, List.set_cons_succ, List.set_cons_zero, vput]
              refine rh_aload_n hX dX8_reckons_238 rfl ?_
              refine rh_get hX gl_X8_7 0 dX8_reckons_239 rfl rfl ?_
              refine rh_bipush hX dX8_reckons_242 kb_70 ?_
              refine rh_iload_n hX dX8_reckons_244 rfl ?_
              refine rh_iadd hX dX8_reckons_245 ?_
              refine rh_aload_n hX dX8_reckons_246 rfl ?_
              refine rh_get hX gl_X8_217 0 dX8_reckons_247 rfl rfl ?_
              refine rh_iastore hX 1 (70 + T) dX8_reckons_250 rfl (rn_a rn_c70 rfl) (by omega) (by decide) rfl ?_
              dsimp only [List.cons_append, List.nil_append, List.set_cons_succ, List.set_cons_zero, vput]
              refine rh_aload_n hX dX8_reckons_251 rfl ?_
              refine rh_get hX gl_X8_7 0 dX8_reckons_252 rfl rfl ?_
              refine rh_bipush hX dX8_reckons_255 kb_76 ?_
              refine rh_iload_n hX dX8_reckons_257 rfl ?_
              refine rh_iadd hX dX8_reckons_258 ?_
              refine rh_aload_n hX dX8_reckons_259 rfl ?_
              refine rh_get hX gl_X8_220 0 dX8_reckons_260 rfl rfl ?_
              refine rh_iastore hX 1 (76 + T) dX8_reckons_263 rfl (rn_a rn_c76 rfl) (by omega) (by decide) rfl ?_
              dsimp only [List.cons_append, List.nil_append, List.set_cons_succ, List.set_cons_zero, vput]
              refine rh_aload_n hX dX8_reckons_264 rfl ?_
              refine rh_get hX gl_X8_7 0 dX8_reckons_265 rfl rfl ?_
              refine rh_bipush hX dX8_reckons_268 kb_82 ?_
              refine rh_iload_n hX dX8_reckons_270 rfl ?_
              refine rh_iadd hX dX8_reckons_271 ?_
              refine rh_aload_n hX dX8_reckons_272 rfl ?_
              refine rh_get hX gl_X8_222 0 dX8_reckons_273 rfl rfl ?_
              refine rh_iastore hX 1 (82 + T) dX8_reckons_276 rfl (rn_a rn_c82 rfl) (by omega) (by decide) rfl ?_
              dsimp only [List.cons_append, List.nil_append, List.set_cons_succ, List.set_cons_zero, vput]
              refine rh_aload_n hX dX8_reckons_277 rfl ?_
              refine rh_get hX gl_X8_7 0 dX8_reckons_278 rfl rfl ?_
              refine rh_bipush hX dX8_reckons_281 kb_88 ?_
              refine rh_iload_n hX dX8_reckons_283 rfl ?_
              refine rh_iadd hX dX8_reckons_284 ?_
              refine rh_aload_n hX dX8_reckons_285 rfl ?_
              refine rh_get hX gl_X8_224 0 dX8_reckons_286 rfl rfl ?_
              refine rh_iastore hX 1 (88 + T) dX8_reckons_289 rfl (rn_a rn_c88 rfl) (by omega) (by decide) rfl ?_
              dsimp only [List.cons_append, List.nil_append, List.set_cons_succ, List.set_cons_zero, vput]
              refine rh_aload_n hX dX8_reckons_290 rfl ?_
              refine rh_get hX gl_X8_7 0 dX8_reckons_291 rfl rfl ?_
              refine rh_bipush hX dX8_reckons_294 kb_94 ?_
              refine rh_iconst hX dX8_reckons_296 ki_5 ?_
              refine rh_iload_n hX dX8_reckons_297 rfl ?_
              refine rh_imul hX dX8_reckons_298 ?_
              refine rh_iadd hX dX8_reckons_299 ?_
              refine rh_aload_n hX dX8_reckons_300 rfl ?_
              refine rh_get hX gl_X8_207 0 dX8_reckons_301 rfl rfl ?_
              refine rh_iastore hX 1 (94 + 5 * T) dX8_reckons_304 rfl (rn_a rn_c94 (rn_m rn_c5 rfl)) (by omega) (by decide) rfl ?_
              dsimp only [List.cons_append, List.nil_append, List.set_cons_succ, List.set_cons_zero, vput]
              refine rh_aload_n hX dX8_reckons_305 rfl ?_
              refine rh_get hX gl_X8_7 0 dX8_reckons_306 rfl rfl ?_
              refine rh_bipush hX dX8_reckons_309 kb_94 ?_
              refine rh_iconst hX dX8_reckons_311 ki_5 ?_
              refine rh_iload_n hX dX8_reckons_312 rfl ?_
              refine rh_imul hX dX8_reckons_313 ?_
              refine rh_iadd hX dX8_reckons_314 ?_
              refine rh_iconst hX dX8_reckons_315 ki_1 ?_
              refine rh_iadd hX dX8_reckons_316 ?_
              refine rh_aload_n hX dX8_reckons_317 rfl ?_
              refine rh_get hX gl_X8_239 0 dX8_reckons_318 rfl rfl ?_
              refine rh_l2i hX dX8_reckons_321 ?_
              refine rh_iastore hX 1 (94 + 5 * T + 1) dX8_reckons_322 rfl (rn_a (rn_a rn_c94 (rn_m rn_c5 rfl)) rn_c1) (by omega) (by decide) rfl ?_
              dsimp only [List.cons_append, List.nil_append, List.set_cons_succ, List.set_cons_zero, vput]
              refine rh_aload_n hX dX8_reckons_323 rfl ?_
              refine rh_get hX gl_X8_7 0 dX8_reckons_324 rfl rfl ?_
              refine rh_bipush hX dX8_reckons_327 kb_94 ?_
              refine rh_iconst hX dX8_reckons_329 ki_5 ?_
              refine rh_iload_n hX dX8_reckons_330 rfl ?_
              refine rh_imul hX dX8_reckons_331 ?_
              refine rh_iadd hX dX8_reckons_332 ?_
              refine rh_iconst hX dX8_reckons_333 ki_2 ?_
              refine rh_iadd hX dX8_reckons_334 ?_
              refine rh_aload_n hX dX8_reckons_335 rfl ?_
              refine rh_get hX gl_X8_272 0 dX8_reckons_336 rfl rfl ?_
              refine rh_l2i hX dX8_reckons_339 ?_
              refine rh_iastore hX 1 (94 + 5 * T + 2) dX8_reckons_340 rfl (rn_a (rn_a rn_c94 (rn_m rn_c5 rfl)) rn_c2) (by omega) (by decide) rfl ?_
              dsimp only [List.cons_append, List.nil_append, List.set_cons_succ, List.set_cons_zero, vput]
              refine rh_aload_n hX dX8_reckons_341 rfl ?_
              refine rh_get hX gl_X8_7 0 dX8_reckons_342 rfl rfl ?_
              refine rh_bipush hX dX8_reckons_345 kb_94 ?_
              refine rh_iconst hX dX8_reckons_347 ki_5 ?_
              refine rh_iload_n hX dX8_reckons_348 rfl ?_
              refine rh_imul hX dX8_reckons_349 ?_
              refine rh_iadd hX dX8_reckons_350 ?_
              refine rh_iconst hX dX8_reckons_351 ki_3 ?_
              refine rh_iadd hX dX8_reckons_352 ?_
              refine rh_aload_n hX dX8_reckons_353 rfl ?_
              refine rh_get hX gl_X8_287 0 dX8_reckons_354 rfl rfl ?_
              refine rh_iastore hX 1 (94 + 5 * T + 3) dX8_reckons_357 rfl (rn_a (rn_a rn_c94 (rn_m rn_c5 rfl)) rn_c3) (by omega) (by decide) rfl ?_
              dsimp only [List.cons_append, List.nil_append, List.set_cons_succ, List.set_cons_zero, vput]
              refine rh_aload_n hX dX8_reckons_358 rfl ?_
              refine rh_get hX gl_X8_7 0 dX8_reckons_359 rfl rfl ?_
              refine rh_bipush hX dX8_reckons_362 kb_94 ?_
              refine rh_iconst hX dX8_reckons_364 ki_5 ?_
              refine rh_iload_n hX dX8_reckons_365 rfl ?_
              refine rh_imul hX dX8_reckons_366 ?_
              refine rh_iadd hX dX8_reckons_367 ?_
              refine rh_iconst hX dX8_reckons_368 ki_4 ?_
              refine rh_iadd hX dX8_reckons_369 ?_
              refine rh_aload_n hX dX8_reckons_370 rfl ?_
              refine rh_pV hX lk_X8_143 mvX8_fullNow (fun l => c_X8_fullNow l E _ _ _ _ _ _ _ _ _ _ _ _ _ _ _ _ _ _ _ _ _ _ _ _ _ _ _ _ _ _ _ _ _ _ _ _ _ _ (T + 1) (mOk_aM2 hMu (by omega) hpr)) ⟨rfl, rfl⟩ ⟨Nat.le_of_ble_eq_true rfl, Nat.le_of_ble_eq_true rfl⟩ [0, 1, 2, 3, 4, 5, 6, 7, 8, 9, 10, 11, 12] rfl rfl 0 rfl dX8_reckons_371 rfl rfl (Nat.le_of_ble_eq_true rfl) ?_
              refine rh_l2i hX dX8_reckons_374 ?_
              refine rh_iastore hX 1 (94 + 5 * T + 4) dX8_reckons_375 rfl (rn_a (rn_a rn_c94 (rn_m rn_c5 rfl)) rn_c4) (by omega) (by decide) rfl ?_
              dsimp only [List.cons_append, List.nil_append, List.set_cons_succ, List.set_cons_zero, vput]
              refine rh_iconst hX dX8_reckons_376 ki_0 ?_
              exact rh_iret hX hR dX8_reckons_377 (by simp only [List.map_cons, List.map_nil, List.cons_append, List.nil_append]) ⟨_, _, _, _, _, _, _, _, _, by rw [hRK], (fun q hq => by rw [hRK] at hq; cases hq; exact ⟨rfl, rfl, rfl, rfl, by omega, mOk_up (mOk_aM2 hMu (by omega) hpr) (by omega) (by omega)⟩), ⟨T + 1, mOk_up (mOk_aM2 hMu (by omega) hpr) (by omega) (by omega)⟩, rfl⟩
            · intro i hi0 hi ih
              refine rh_iload hX dX8_reckons_150 rfl ?_
              refine rh_bipush hX dX8_reckons_152 kb_8 ?_
              refine rh_icmp_ge_f (tgt := 210) hX dX8_reckons_154 (by decide) (nI_ge (b := 8) hi (by decide)) ?_
              refine rh_aload_n hX dX8_reckons_157 rfl ?_
              refine rh_iload hX dX8_reckons_158 rfl ?_
              refine rh_iload_n hX dX8_reckons_160 rfl ?_
              refine rh_ldc2 hX dX8_reckons_161 kl_X8_267 ?_
              refine rh_aload_n hX dX8_reckons_164 rfl ?_
              refine rh_get hX gl_X8_27 0 dX8_reckons_165 rfl rfl ?_
              refine rh_iload hX dX8_reckons_168 rfl ?_
              refine rh_iaload hX 6 i dX8_reckons_170 rfl rfl (by omega) (by decide) ?_
              refine rh_i2l hX dX8_reckons_171 ?_
              refine rh_lmul hX dX8_reckons_172 ?_
              refine rh_aload_n hX dX8_reckons_173 rfl ?_
              refine rh_get hX gl_X8_269 0 dX8_reckons_174 rfl rfl ?_
              refine rh_ldiv hX dX8_reckons_177 hpne ?_
              refine rh_l2i hX dX8_reckons_178 ?_
              refine rh_uV hX lk_X8_136 mvX8_has (fun l => c_X8_has l E _ _ _ _ _ _ _ _ _ _ _ _ _ _ _ _ _ _ _ _ _ _ _ _ _ _ _ _ _ _ _ _ _ _ _ _ _ _ i T _ (by omega) (by omega)) ⟨rfl, rfl⟩ ⟨Nat.le_of_ble_eq_true rfl, Nat.le_of_ble_eq_true rfl⟩ [0, 1, 2, 3, 4, 5, 6, 7, 8, 9, 10, 11, 12] rfl rfl 0 rfl dX8_reckons_179 rfl rfl (Nat.le_of_ble_eq_true rfl) rfl ?_
              dsimp only [List.cons_append, List.nil_append, List.set_cons_succ, List.set_cons_zero, vput]
              refine rh_aload_n hX dX8_reckons_182 rfl ?_
              refine rh_get hX gl_X8_7 0 dX8_reckons_183 rfl rfl ?_
              refine rh_bipush hX dX8_reckons_186 kb_124 ?_
              refine rh_bipush hX dX8_reckons_188 kb_6 ?_
              refine rh_iload hX dX8_reckons_190 rfl ?_
              refine rh_imul hX dX8_reckons_192 ?_
              refine rh_iadd hX dX8_reckons_193 ?_
              refine rh_iload_n hX dX8_reckons_194 rfl ?_
              refine rh_iadd hX dX8_reckons_195 ?_
              refine rh_aload_n hX dX8_reckons_196 rfl ?_
              refine rh_get hX gl_X8_27 0 dX8_reckons_197 rfl rfl ?_
              refine rh_iload hX dX8_reckons_200 rfl ?_
              refine rh_iaload hX 6 i dX8_reckons_202 rfl rfl (by omega) (by decide) ?_
              refine rh_iastore hX 1 (124 + 6 * i + T) dX8_reckons_203 rfl (rn_a (rn_a rn_c124 (rn_m rn_c6 rfl)) rfl) (by omega) (by decide) rfl ?_
              dsimp only [List.cons_append, List.nil_append, List.set_cons_succ, List.set_cons_zero, vput]
              refine rh_inc4 hX dX8_reckons_204 (by decide) rfl (rn_i1 _) ?_
              refine rh_goto (tgt := 150) hX dX8_reckons_207 (by decide) ?_
              rw [← aM1_s _ T mn P1 (by omega) hi] at ih
              exact ih
          · skip
            refine rh_iload_n hX dX8_reckons_126 rfl ?_
            exact rh_iret hX hR dX8_reckons_127 (by simp only [List.map_cons, List.map_nil, List.cons_append, List.nil_append]) ⟨_, _, _, _, _, _, _, _, _, by rw [← hH.1, show 200 - k = (200 - (k + 1)) + 1 by omega, mLp_s, if_neg h87, if_neg h123], (fun q hq => by rw [← hH.1, show 200 - k = (200 - (k + 1)) + 1 by omega, mLp_s, if_neg h87, if_neg h123] at hq; cases hq), ⟨T, hmk2⟩, rfl⟩
        · skip
          have hq := hpos (by rw [h87]; decide)
          obtain ⟨rfl, rfl, rfl⟩ := hq
          exact rh_wk (by exact ⟨rfl, rfl, trivial⟩) (ihk _ _ _ ⟨by rw [← hH.1, show 200 - k = (200 - (k + 1)) + 1 by omega, mLp_s, if_pos h87], mOk_mTu hH.2 hca (by rw [h87]; decide)⟩)
    · intro c hc0 hc ihc
      refine rh_iload_n hX dX8_reckons_38 rfl ?_
      refine rh_aload_n hX dX8_reckons_39 rfl ?_
      refine rh_get hX gl_X8_7 0 dX8_reckons_40 rfl rfl ?_
      refine rh_bipush hX dX8_reckons_43 kb_57 ?_
      refine rh_iaload hX 1 _ dX8_reckons_45 rfl rn_c57 (by omega) (by decide) ?_
      refine rh_icmp_ge_f (tgt := 71) hX dX8_reckons_46 (by decide) (by rw [hM0.1]; exact nI_ge hc (by omega)) ?_
      refine rh_aload_n hX dX8_reckons_49 rfl ?_
      refine rh_get hX gl_X8_30 0 dX8_reckons_50 rfl rfl ?_
      refine rh_iload_n hX dX8_reckons_53 rfl ?_
      refine rh_aload_n hX dX8_reckons_54 rfl ?_
      refine rh_get hX gl_X8_7 0 dX8_reckons_55 rfl rfl ?_
      refine rh_bipush hX dX8_reckons_58 kb_64 ?_
      refine rh_iload_n hX dX8_reckons_60 rfl ?_
      refine rh_iadd hX dX8_reckons_61 ?_
      refine rh_iaload hX 1 (64 + c) dX8_reckons_62 rfl (rn_a rn_c64 rfl) (by omega) (by decide) ?_
      refine rh_i2l hX dX8_reckons_63 ?_
      refine rh_lastore hX 7 c dX8_reckons_64 rfl rfl (by omega) (by decide) rfl ?_
      dsimp only [List.cons_append, List.nil_append, List.set_cons_succ, List.set_cons_zero, vput]
      refine rh_inc1 hX dX8_reckons_65 (by decide) rfl (rn_i1 _) ?_
      refine rh_goto (tgt := 38) hX dX8_reckons_68 (by decide) ?_
      rw [← row1_s _ ca c hc0] at ihc
      exact ihc
  · skip
    have h9 : T = 6 := rn_inj (b := 6) h9 (by omega) (by decide)
    refine rh_bipush hX dX8_reckons_12 kb_m2 ?_
    exact rh_iret hX hR dX8_reckons_14 (by simp only [List.map_cons, List.map_nil, List.cons_append, List.nil_append]) ⟨_, _, _, _, _, _, _, _, _, by rw [mRk, if_pos h9], (fun q hq => by rw [mRk, if_pos h9] at hq; cases hq), ⟨T, hM⟩, rfl⟩
