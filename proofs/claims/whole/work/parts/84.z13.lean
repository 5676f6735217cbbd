/-! ===== turns: the model's beside the class's ===== -/
theorem cRatch_g {u : Nat → Int32} {T td : Nat} (h6 : T ≤ 6) (h1 : 1 ≤ td) (ht : td < T) {ca : Nat → Int64} {p n mm : Int64} (hn : 0 ≤ n.toInt ∧ n.toInt ≤ 8000000000000) {ba na : Int64} (hb : 0 ≤ ba.toInt ∧ ba.toInt ≤ 1000000000) (hna : 0 ≤ na.toInt ∧ na.toInt ≤ 1000000000) : mRat u ca ba na td p n mm = cRatch (ca td) (cFact (fm u) td 2) p n mm (if cFact (fm u) td 2 = 3 then na else ba) := by
  have e : (u (70 + td)).toInt64 = cFact (fm u) td 2 := fm_fact u (k := 2) (by omega) (by omega)
  have eq (v : Int32) : u (70 + td) = v ↔ cFact (fm u) td 2 = v.toInt64 := by
    rw [← e]
    constructor
    · intro q; rw [q]
    · intro q
      have := congrArg Int64.toInt32 q
      rw [Int32.toInt32_toInt64, Int32.toInt32_toInt64] at this
      exact this
  have eq0 : u (70 + td) = 0 ↔ cFact (fm u) td 2 = 0 := eq 0
  have eq1 : u (70 + td) = 1 ↔ cFact (fm u) td 2 = 1 := eq 1
  have eq3 : u (70 + td) = 3 ↔ cFact (fm u) td 2 = 3 := eq 3
  unfold mRat cRatch mAh
  by_cases a : u (70 + td) = 0
  · rw [if_pos a, if_pos (eq0.mp a)]
  · rw [if_neg a, if_neg (fun q => a (eq0.mpr q))]
    by_cases b : p < ca td
    · rw [if_pos b, if_neg (c := ca td ≤ p) (fun q => by rw [z_le] at q; rw [z_lt] at b; omega)]
      by_cases c : u (70 + td) = 1
      · rw [if_pos c, if_pos (eq1.mp c)]
      · rw [if_neg c, if_neg (fun q => c (eq1.mpr q))]
        have e3 : (if u (70 + td) = 3 then na else ba) = (if cFact (fm u) td 2 = 3 then na else ba) := by
          by_cases d : u (70 + td) = 3
          · rw [if_pos d, if_pos (eq3.mp d)]
          · rw [if_neg d, if_neg (fun q => d (eq3.mpr q))]
        rw [e3]
        have hA : 0 ≤ (if cFact (fm u) td 2 = 3 then na else ba).toInt ∧ (if cFact (fm u) td 2 = 3 then na else ba).toInt ≤ 1000000000 := by
          split
          · exact hna
          · exact hb
        generalize (if cFact (fm u) td 2 = 3 then na else ba) = A at hA ⊢
        have hs : (A + n).toInt = A.toInt + n.toInt := z_add rfl rfl (by omega) (by omega)
        by_cases g : A + n = 0
        · rw [if_pos g, if_pos (by rw [g]; decide)]
        · have : (A + n).toInt ≠ 0 := fun q => g (Int64.toInt_inj.mp (by rw [q]; rfl))
          rw [if_neg g, if_neg (c := A + n ≤ 0) (fun q => by rw [z_le, show (0 : Int64).toInt = 0 from rfl] at q; omega), cQuot_n g (by rw [z_le, show (0 : Int64).toInt = 0 from rfl]; omega)]
    · rw [if_neg b, if_pos (c := ca td ≤ p) (by rw [z_le]; rw [z_lt] at b; omega)]
/-- what a house keeps while turns go on -/
def tI (u : Nat → Int32) (T : Nat) : Prop := mOk u T ∧ gB (fm u) T ∧ zTot (fm u) T ≤ 1000000000 ∧ zAG (fm u) ≤ 1000000000 ∧ (fm u 170).toInt ≤ 1000000000 ∧ zSz (fm u) T ≤ 1000000000
theorem tI.b {u : Nat → Int32} {T : Nat} (h : tI u T) : fB (fm u) T := h.2.1.mk2 (by have := h.2.2.1; omega) (by have := h.2.2.2.1; omega) (by have := h.2.2.2.2.1; omega)
theorem mI.t {u : Nat → Int32} {T : Nat} (h : mI u T) : tI u T := ⟨h.ok, h.b.g, h.tot, h.rest.1, by rw [← fm_pool, z_l]; exact h.rest.2.2, h.2.2.2.2.2⟩
/-- the convs of c classes -/
theorem mMv_rel {u : Nat → Int32} {T : Nat} (hT : T ≤ 6) {ca cvs : Nat → Int64} {ba na pr ns pd : Int64} (hca : ∀ t, 1 ≤ t → t < T → cvs t = ca t ∧ 1 ≤ (ca t).toInt ∧ (ca t).toInt ≤ 100000000) (hp : 1 ≤ pr.toInt) (hn : 0 ≤ ns.toInt ∧ ns.toInt ≤ 8000000000000) (hb : 0 ≤ ba.toInt ∧ ba.toInt ≤ 1000000000) (hna : 0 ≤ na.toInt ∧ na.toInt ≤ 1000000000) : ∀ c : Nat, c ≤ T → (mc cvs pr ns pd na ba (fm u, 0) c).1 = fm (mMv ca ba na pr ns pd (u, 1) c).1 ∧ (((mc cvs pr ns pd na ba (fm u, 0) c).2 = 0 ∧ (mMv ca ba na pr ns pd (u, 1) c).2 = 1) ∨ ((mc cvs pr ns pd na ba (fm u, 0) c).2 = 1 ∧ (mMv ca ba na pr ns pd (u, 1) c).2 = 0)) ∧ (∀ x, ¬ (65 ≤ x ∧ x < 64 + c) → (mMv ca ba na pr ns pd (u, 1) c).1 x = u x) ∧ (∀ t, 1 ≤ t → t < c → 1 ≤ ((mMv ca ba na pr ns pd (u, 1) c).1 (64 + t)).toInt ∧ ((mMv ca ba na pr ns pd (u, 1) c).1 (64 + t)).toInt ≤ (ca t).toInt)
  | 0, _ => by rw [mMv, mc]; exact ⟨rfl, Or.inl ⟨rfl, rfl⟩, fun _ _ => rfl, fun t a b => absurd b (by omega)⟩
  | c + 1, hc => by
    by_cases e : c = 0
    · rw [mMv, mc, if_pos e, if_pos e]; exact ⟨rfl, Or.inl ⟨rfl, rfl⟩, fun _ _ => rfl, fun t a b => absurd b (by omega)⟩
    · obtain ⟨r1, r2, r3, r4⟩ := mMv_rel hT hca hp hn hb hna c (by omega) (u := u) (pd := pd)
      rw [mMv_s _ _ _ _ _ _ _ (by omega), mc, if_neg e]
      generalize mMv ca ba na pr ns pd (u, 1) c = S at r1 r2 r3 r4 ⊢
      generalize mc cvs pr ns pd na ba (fm u, 0) c = D at r1 r2 ⊢
      obtain ⟨a1, a2, a3⟩ := hca c (by omega) (by omega)
      have hr := cRatch_g (u := S.1) (T := T) (td := c) hT (by omega) (by omega) (ca := ca) (p := pr) (mm := pd) hn hb hna
      obtain ⟨m1, m2⟩ := mRat_b (u := S.1) (ba := ba) (na := na) (n := ns) (m := pd) (t := c) a2 hp
      have hl : (mRat S.1 ca ba na c pr ns pd).toInt32.toInt64 = mRat S.1 ca ba na c pr ns pd := z_li (by omega) (by omega)
      have hi : (mRat S.1 ca ba na c pr ns pd).toInt32.toInt = (mRat S.1 ca ba na c pr ns pd).toInt := z_i rfl (by omega) (by omega)
      have hf : (S.1 (64 + c)).toInt64 = cFact (fm S.1) c 1 := fm_fact S.1 (k := 1) (by omega) (by omega)
      unfold mMg mcGo
      rw [r1, a1, ← hr, hf]
      refine ⟨?_, ?_, fun x hx => ?_, fun t t1 t2 => ?_⟩
      · show va_up (fm S.1) (104 + c * 11 + 1) _ = fm (va_up S.1 (64 + c) _)
        rw [show fm (va_up S.1 (64 + c) (mRat S.1 ca ba na c pr ns pd).toInt32) = va_up (fm S.1) (104 + c * 11 + 1) (mRat S.1 ca ba na c pr ns pd).toInt32.toInt64 from fm_uF S.1 (k := 1) (by omega) (by omega) _, hl]
      · show ((if D.2 = 0 then _ else 1) = 0 ∧ (if S.2 = 0 then 0 else _) = 1) ∨ ((if D.2 = 0 then _ else 1) = 1 ∧ (if S.2 = 0 then 0 else _) = 0)
        rcases r2 with ⟨x, y⟩ | ⟨x, y⟩
        · rw [x, y, if_pos rfl, if_neg (show ¬ (1 : Int32) = 0 by decide)]
          by_cases q : mRat S.1 ca ba na c pr ns pd = cFact (fm S.1) c 1
          · rw [if_pos q, if_pos q]; exact Or.inl ⟨rfl, rfl⟩
          · rw [if_neg q, if_neg q]; exact Or.inr ⟨rfl, rfl⟩
        · rw [x, y, if_neg (show ¬ (1 : Int32) = 0 by decide), if_pos rfl]; exact Or.inr ⟨rfl, rfl⟩
      · show va_up S.1 (64 + c) _ x = _
        rw [up_ne _ _ (by omega)]; exact r3 x (by omega)
      · show 1 ≤ (va_up S.1 (64 + c) _ (64 + t)).toInt ∧ (va_up S.1 (64 + c) _ (64 + t)).toInt ≤ _
        by_cases q : t = c
        · rw [q, up_same, hi]; exact ⟨m1, m2⟩
        · rw [up_ne _ _ (by omega)]; exact r4 t t1 (by omega)
theorem i64_s1 (a b : Int64) : a - b + b = a := Int64.sub_add_cancel a b
theorem i64_s2 (a b c : Int64) : a - b + c + b = a + c := by rw [Int64.add_assoc, Int64.add_comm c b, ← Int64.add_assoc, i64_s1]
theorem cSize_p {f : Nat → Int64} {T : Nat} (hT : T ≤ 6) (v : Int64) : cSize (va_up f 170 v) T - v = cSize f T - f 170 := by
  have e1 : cAllVotes (va_up f 170 v) T = cAllVotes f T := by
    unfold cAllVotes
    refine sumF_ext (fun h hh => ?_)
    unfold cVotes
    refine sumF_ext (fun c hc => ?_)
    have a1 : cHeld (va_up f 170 v) h c = cHeld f h c := up_ne _ _ (by omega)
    rw [a1]
    unfold cConv
    rw [show cFact (va_up f 170 v) c 0 = cFact f c 0 from up_ne _ _ (by omega), show cFact (va_up f 170 v) c 1 = cFact f c 1 from up_ne _ _ (by omega)]
  have e2 : cAllGranted (va_up f 170 v) = cAllGranted f := sumF_ext (fun h hh => show cGranted (va_up f 170 v) h = cGranted f h from up_ne _ _ (by omega))
  unfold cSize
  rw [e1, e2, up_same, Int64.add_sub_cancel, Int64.add_sub_cancel]
theorem mNs_z {mn : Nat → Int32} {mnq : Nat → Int64} {pd pr : Int64} (hm : mnOk mn mnq pd) (hp : 1 ≤ pr.toInt) : mNs mn pr = stIs mnq pr ∧ (mNs mn pr).toInt = sumZ (fun h => 10000 * (mn h).toInt / pr.toInt) 8 ∧ 0 ≤ (mNs mn pr).toInt ∧ (mNs mn pr).toInt ≤ 8000000000000 ∧ (∀ h, h < 8 → (10000 * (mn h).toInt64 / pr).toInt = 10000 * (mn h).toInt / pr.toInt ∧ 0 ≤ 10000 * (mn h).toInt / pr.toInt ∧ 10000 * (mn h).toInt / pr.toInt ≤ 1000000000000) := by
  have hne : ¬ pr = 0 := fun q => by rw [q] at hp; exact absurd hp (by decide)
  have hd : ∀ h, h < 8 → (10000 * (mn h).toInt64 / pr).toInt = 10000 * (mn h).toInt / pr.toInt ∧ 0 ≤ 10000 * (mn h).toInt / pr.toInt ∧ 10000 * (mn h).toInt / pr.toInt ≤ 1000000000000 := by
    intro h hh
    obtain ⟨a1, a2, a3⟩ := hm.1 h hh
    have m1 : (10000 * (mn h).toInt64).toInt = 10000 * (mn h).toInt := z_mul (show (10000 : Int64).toInt = 10000 by decide) (z_l _) (by omega) (by omega)
    have d1 : 10000 * (mn h).toInt / pr.toInt ≤ 10000 * (mn h).toInt := Int.ediv_le_self _ (by omega)
    exact ⟨z_div m1 rfl (by omega) (by omega), Int.ediv_nonneg (by omega) (by omega), by omega⟩
  have hs := sumZ_le_c (g := fun h => 10000 * (mn h).toInt / pr.toInt) (c := 1000000000000) (n := 8) (fun h hh => (hd h hh).2.2)
  have h0 := sumZ_nn (g := fun h => 10000 * (mn h).toInt / pr.toInt) (n := 8) (fun h hh => (hd h hh).2.1)
  have e1 : (mNs mn pr).toInt = sumZ (fun h => 10000 * (mn h).toInt / pr.toInt) 8 := sumF_z0 (fun h hh => (hd h hh).1) (fun h hh => (hd h hh).2.1) (by omega)
  refine ⟨?_, e1, by omega, by omega, hd⟩
  unfold mNs stIs
  refine sumF_ext (fun h hh => ?_)
  rw [(hm.1 h hh).1, cQuot_n hne (by rw [z_le, n0L]; omega)]
theorem due_z {tp : Int32} {r : Int64} (ht : 0 ≤ tp.toInt ∧ tp.toInt ≤ 500) (hr : 0 ≤ r.toInt ∧ r.toInt ≤ 1000000000) : mDu tp r = cTop tp.toInt64 r ∧ 0 ≤ (mDu tp r).toInt := by
  have m0 : 0 ≤ tp.toInt * r.toInt := Int.mul_nonneg ht.1 hr.1
  have m1 : tp.toInt * r.toInt ≤ 500 * 1000000000 := Int.mul_le_mul ht.2 hr.2 hr.1 (by omega)
  have k : (1000 : Int64).toInt = 1000 := by decide
  have e0 : (1000 - tp.toInt64).toInt = 1000 - tp.toInt := z_sub k (z_l tp) (by omega) (by omega)
  have em : (tp.toInt64 * r).toInt = tp.toInt * r.toInt := z_mul (z_l tp) rfl (by omega) (by omega)
  have e1 : (tp.toInt64 * r + 999 - tp.toInt64).toInt = tp.toInt * r.toInt + 999 - tp.toInt := z_sub (z_add em (show (999 : Int64).toInt = 999 by decide) (by omega) (by omega)) (z_l tp) (by omega) (by omega)
  have e2 : (tp.toInt64 * r + (1000 - tp.toInt64) - 1).toInt = tp.toInt * r.toInt + (1000 - tp.toInt) - 1 := z_sub (z_add em e0 (by omega) (by omega)) (show (1 : Int64).toInt = 1 by decide) (by omega) (by omega)
  have e3 : tp.toInt64 * r + 999 - tp.toInt64 = tp.toInt64 * r + (1000 - tp.toInt64) - 1 := Int64.toInt_inj.mp (by rw [e1, e2]; omega)
  have hne : ¬ 1000 - tp.toInt64 = 0 := fun q => by rw [q, n0L] at e0; omega
  unfold mDu cTop
  rw [cQuot_n hne (by rw [z_le, n0L]; omega), ← e3]
  refine ⟨rfl, ?_⟩
  rw [z_div e1 e0 (by omega) (by omega)]
  exact Int.ediv_nonneg (by omega) (by omega)
theorem up_id {α : Type} (f : Nat → α) (i : Nat) : va_up f i (f i) = f := by
  funext x
  unfold va_up
  by_cases e : x = i
  · rw [if_pos e, e]
  · rw [if_neg e]
/-- what stands behind a good round, in the model's rows -/
def gdQ (u : Nat → Int32) (T : Nat) (mn : Nat → Int32) (N : Nat) (q : (Nat → Int32) × Int64 × Int64 × Nat) : Prop := tI q.1 T ∧ (1 ≤ q.2.1.toInt ∧ q.2.1.toInt ≤ 100000000) ∧ q.2.2.1 = mNs mn q.2.1 ∧ q.2.2.2 ≤ N ∧ zSz (fm q.1) T + q.2.2.1.toInt ≤ 1000000000 ∧ ∀ x, (x < 56 ∨ 57 ≤ x) → ¬ (65 ≤ x ∧ x < 64 + T) → q.1 x = u x
theorem lp_rel {u : Nat → Int32} {T : Nat} {vl tp lt : Int32} {mn : Nat → Int32} {mnq : Nat → Int64} {pd : Int64} {ca cvs : Nat → Int64} {ba na : Int64} {pA : Int32} (hm : mnOk mn mnq pd) (hvl : 1 ≤ vl.toInt ∧ vl.toInt ≤ 1000000000) (htp : 0 ≤ tp.toInt ∧ tp.toInt ≤ 500) (hb : 0 ≤ ba.toInt ∧ ba.toInt ≤ 1000000000) (hna : 0 ≤ na.toInt ∧ na.toInt ≤ 1000000000) (hpA : 0 ≤ pA.toInt) (hca : ∀ t, 1 ≤ t → t < T → cvs t = ca t ∧ 1 ≤ (ca t).toInt ∧ (ca t).toInt ≤ (cFact (fm u) t 0).toInt) : ∀ (k : Nat) (w : Nat → Int32) (n : Nat), tI w T → (∀ x, (x < 56 ∨ 57 ≤ x) → ¬ (65 ≤ x ∧ x < 64 + T) → w x = u x) → ((mLp T vl tp lt mn pd ca ba na pA k w n).2 = none ∧ stl T vl.toInt64 tp.toInt64 lt mnq pd cvs pA.toInt64 ba na k (fm w) (cSize (fm w) T - fm w 170) (n + 1) = ((mLp T vl tp lt mn pd ca ba na pA k w n).1, none)) ∨ (∃ q, (mLp T vl tp lt mn pd ca ba na pA k w n).2 = some q ∧ stl T vl.toInt64 tp.toInt64 lt mnq pd cvs pA.toInt64 ba na k (fm w) (cSize (fm w) T - fm w 170) (n + 1) = (q.2.1.toInt32, some (fm q.1, q.2.1, q.2.2.1, q.2.2.2, cSize (fm q.1) T + q.2.2.1)) ∧ gdQ u T mn (n + k) q)
  | 0, w, n, _, _ => by rw [mLp_0, stl_0]; exact Or.inl ⟨rfl, rfl⟩
  | k + 1, w, n, hw, hwu => by
    obtain ⟨hMk, hg, hzt, hzg, hzp, hzs⟩ := id hw
    obtain ⟨hT, hT1, hT6, hcv⟩ := id hMk
    have hB := hw.b
    have hfx : ∀ t, 1 ≤ t → t < T → cFact (fm w) t 0 = cFact (fm u) t 0 := fun t t1 t2 => by
      rw [← fm_fact w (by omega) (by omega), ← fm_fact u (by omega) (by omega), hwu _ (by omega) (by omega)]
    have hop : (fm w 170).toInt = (w 56).toInt := by rw [← fm_pool w, z_l]
    have hp0 := hB.2.2.2.1
    have hzn := zSz_nn hB
    have hzge := zSz_ge hB
    have hztn := gTot_nn hg
    have hzgn := gAG_nn hg
    -- the divisor
    have hD : mFl w T lt = (if lt = 0 then cSize (fm w) T - fm w 170 + fm w 170 else cSize (fm w) T - fm w 170) := by
      unfold mFl
      by_cases q : lt = 0
      · rw [if_pos q, if_pos q, i64_s1]
        apply Int64.toInt_inj.mp
        rw [z_sub rfl (show (0 : Int32).toInt64.toInt = 0 by decide) (by have := (z_rng (cSize (fm w) T)).1; omega) (by have := (z_rng (cSize (fm w) T)).2; omega)]
        omega
      · rw [if_neg q, if_neg q, fm_pool]
    have hcz := cSize_z hB
    have hDz : 0 ≤ (mFl w T lt).toInt := by
      rw [hD]
      split
      · rw [i64_s1, hcz]; exact hzn
      · rw [z_sub hcz rfl (by omega) (by omega)]; omega
    obtain ⟨pr, hpr⟩ : ∃ pr, pr = stPr vl.toInt64 lt (fm w) (cSize (fm w) T - fm w 170) := ⟨_, rfl⟩
    have hprq : pr = cQuot (10000 * vl.toInt64) (mFl w T lt) := by rw [hpr, hD]; rfl
    rw [stl_s T vl.toInt64 tp.toInt64 lt mnq pd cvs pA.toInt64 ba na k (fm w) (cSize (fm w) T - fm w 170) (n + 1) pr (stIs mnq pr) (stOt T (stM T mnq pd cvs na ba (fm w) pr)) (stTp tp.toInt64 pA.toInt64 (stOt T (stM T mnq pd cvs na ba (fm w) pr) + stIs mnq pr)) (stOt T (stM T mnq pd cvs na ba (fm w) pr) + stIs mnq pr + stTp tp.toInt64 pA.toInt64 (stOt T (stM T mnq pd cvs na ba (fm w) pr) + stIs mnq pr)) (stM T mnq pd cvs na ba (fm w) pr) hpr rfl rfl rfl rfl rfl, mLp_s]
    have hvm : (10000 * vl.toInt64).toInt = 10000 * vl.toInt := z_mul (show (10000 : Int64).toInt = 10000 by decide) (z_l vl) (by omega) (by omega)
    have k1 : (1 : Int64).toInt = 1 := by decide
    have k8 : (100000000 : Int64).toInt = 100000000 := by decide
    by_cases d0 : mFl w T lt = 0
    · have t3 : mTn w T vl tp lt mn pd ca ba na pA = -3 := by unfold mTn mTnG; rw [if_pos d0]
      rw [t3, if_pos (c := pr < 1) (by rw [hprq, cQuot_0 d0]; decide), if_neg (show ¬ (-3 : Int32) = 0 by decide), if_neg (show ¬ (0 : Int32) ≤ -3 by decide)]
      exact Or.inl ⟨rfl, rfl⟩
    · have hpe : pr = mPr w T vl lt := by rw [hprq, cQuot_n d0 (by rw [z_le, n0L]; exact hDz)]; rfl
      have hprz : pr.toInt = 10000 * vl.toInt / (mFl w T lt).toInt := by
        rw [hprq]; exact z_quot hvm rfl (by omega) hDz
      by_cases p0 : xIn pr 1 100000000 = 0
      · have t3 : mTn w T vl tp lt mn pd ca ba na pA = -3 := by unfold mTn mTnG; rw [if_neg d0, ← hpe, if_pos p0]
        rw [t3, if_neg (show ¬ (-3 : Int32) = 0 by decide), if_neg (show ¬ (0 : Int32) ≤ -3 by decide)]
        by_cases a : pr < 1
        · rw [if_pos a]; exact Or.inl ⟨rfl, rfl⟩
        · rw [if_neg a, if_pos (by
            unfold xIn at p0
            rw [if_neg a] at p0
            by_cases b : 100000000 < pr
            · exact b
            · rw [if_neg b] at p0; exact absurd p0 (by decide))]
          exact Or.inl ⟨rfl, rfl⟩
      · have hpb := xIn_lo p0
        rw [k1, k8] at hpb
        rw [if_neg (c := pr < 1) (fun q => by rw [z_lt, k1] at q; omega), if_neg (c := 100000000 < pr) (fun q => by rw [z_lt, k8] at q; omega)]
        obtain ⟨n1, n2, n3, n4, n5⟩ := mNs_z hm hpb.1
        have hca2 : ∀ t, 1 ≤ t → t < T → cvs t = ca t ∧ 1 ≤ (ca t).toInt ∧ (ca t).toInt ≤ 100000000 := fun t t1 t2 => by
          obtain ⟨x1, x2, x3⟩ := hca t t1 t2
          have := (hg.2.2.2.2 t t1 t2).2.2
          rw [hfx t t1 t2] at this
          exact ⟨x1, x2, by omega⟩
        obtain ⟨r1, r2, r3, r4⟩ := mMv_rel (u := w) (T := T) (ca := ca) (cvs := cvs) (ba := ba) (na := na) (pr := pr) (ns := mNs mn pr) (pd := pd) hT6 hca2 hpb.1 ⟨n3, n4⟩ hb hna T (Nat.le_refl T)
        have hMe : stM T mnq pd cvs na ba (fm w) pr = mc cvs pr (mNs mn pr) pd na ba (fm w, 0) T := by unfold stM; rw [n1]
        have hMm : mM w T mn pd ca ba na pr = mMv ca ba na pr (mNs mn pr) pd (w, 1) T := rfl
        rw [hMe, ← n1]
        have hTn : mTn w T vl tp lt mn pd ca ba na pA = mTnG T tp pA (mFl w T lt) pr (mNs mn pr) (mMv ca ba na pr (mNs mn pr) pd (w, 1) T) := by unfold mTn; rw [← hpe, hMm]
        have hTu : mTu w T vl tp lt mn pd ca ba na pA = mTuG T tp pA (mNs mn pr) (mMv ca ba na pr (mNs mn pr) pd (w, 1) T) := by unfold mTu; rw [← hpe, hMm]
        rw [hTn, hTu, ← hpe]
        generalize mMv ca ba na pr (mNs mn pr) pd (w, 1) T = S at r1 r2 r3 r4 ⊢
        generalize mc cvs pr (mNs mn pr) pd na ba (fm w, 0) T = D at r1 r2 ⊢
        -- the house with its new convs
        have s57 : S.1 57 = nI T := by rw [r3 57 (by omega)]; exact hT
        have sf0 : ∀ t, 1 ≤ t → t < T → cFact (fm S.1) t 0 = cFact (fm w) t 0 := fun t t1 t2 => by
          rw [← fm_fact S.1 (by omega) (by omega), ← fm_fact w (by omega) (by omega), r3 _ (by omega)]
        have sf1 : ∀ t, t < 6 → cFact (fm S.1) t 1 = (S.1 (64 + t)).toInt64 := fun t t2 => (fm_fact S.1 (k := 1) t2 (by omega)).symm
        have sh : ∀ h t, h < 8 → t < 6 → cHeld (fm S.1) h t = cHeld (fm w) h t := fun h t hh h6 => by
          rw [← fm_held S.1 hh h6, ← fm_held w hh h6, r3 _ (by omega)]
        have sg : ∀ h, h < 8 → cGranted (fm S.1) h = cGranted (fm w) h := fun h hh => by
          rw [← fm_granted S.1 hh, ← fm_granted w hh, r3 _ (by omega)]
        have sp : fm S.1 170 = fm w 170 := by rw [← fm_pool, ← fm_pool, r3 56 (by omega)]
        have hgS : gB (fm S.1) T := by
          refine ⟨hT6, fun h t hh h1 => by rw [sh h t hh (by omega)]; exact hg.2.1 h t hh h1, fun h hh => by rw [sg h hh]; exact hg.2.2.1 h hh, by rw [sp]; exact hp0, fun t t1 t2 => ?_⟩
          obtain ⟨x1, x2, x3⟩ := hca t t1 t2
          have y := (hg.2.2.2.2 t t1 t2).2.2
          rw [sf0 t t1 t2, sf1 t (by omega), z_l, hfx t t1 t2]
          rw [hfx t t1 t2] at y
          have := r4 t t1 t2
          omega
        have ztS : zTot (fm S.1) T = zTot (fm w) T := sumZ_ext (fun h hh => sumZ_ext (fun c hc => by rw [sh h c hh (by omega)]))
        have zgS : zAG (fm S.1) = zAG (fm w) := sumZ_ext (fun h hh => by rw [sg h hh])
        have hBS : fB (fm S.1) T := hgS.mk2 (by omega) (by omega) (by rw [sp]; omega)
        have hMkS : mOk S.1 T := ⟨s57, hT1, hT6, fun t t1 t2 => by rw [z_lt, n0L]; have := (hgS.2.2.2.2 t t1 t2).1; omega⟩
        have hczS := cSize_z hBS
        have hzgeS := zSz_ge hBS
        have hzleS := zAV_lt hBS
        have hzeq : zSz (fm S.1) T = zAV (fm S.1) T + zAG (fm S.1) + (fm S.1 170).toInt := rfl
        have hop1 : (fm S.1 170).toInt = (S.1 56).toInt := by rw [← fm_pool, z_l]
        have eOt : stOt T D + mNs mn pr = mOt T S (mNs mn pr) := by
          unfold stOt mOt
          rw [r1, fm_pool]
        have zOt : (mOt T S (mNs mn pr)).toInt = zSz (fm S.1) T - (fm S.1 170).toInt + (mNs mn pr).toInt := by
          unfold mOt
          rw [fm_pool]
          exact z_add (z_sub hczS rfl (by omega) (by omega)) rfl (by omega) (by omega)
        have zOt0 : 0 ≤ (mOt T S (mNs mn pr)).toInt := by rw [zOt]; omega
        rw [eOt]
        by_cases b9 : 1000000000 < mOt T S (mNs mn pr)
        · have t9 : mTnG T tp pA (mFl w T lt) pr (mNs mn pr) S = -9 := by unfold mTnG; rw [if_neg d0, if_neg p0, if_pos b9]
          rw [t9, if_pos b9, if_neg (show ¬ (-9 : Int32) = 0 by decide), if_neg (show ¬ (0 : Int32) ≤ -9 by decide)]
          exact Or.inl ⟨rfl, rfl⟩
        · rw [if_neg b9]
          have zb9 : (mOt T S (mNs mn pr)).toInt ≤ 1000000000 := by rw [z_lt, bil_z] at b9; omega
          obtain ⟨u1, u2⟩ := due_z htp ⟨zOt0, zb9⟩
          have eTp : stTp tp.toInt64 pA.toInt64 (mOt T S (mNs mn pr)) = maxl pA.toInt64 (mDu tp (mOt T S (mNs mn pr))) := by unfold stTp; rw [u1]
          rw [eTp]
          have zPl : (maxl pA.toInt64 (mDu tp (mOt T S (mNs mn pr)))).toInt = max pA.toInt (mDu tp (mOt T S (mNs mn pr))).toInt := by rw [z_max, z_l]
          have hdb : (mDu tp (mOt T S (mNs mn pr))).toInt ≤ 1000000000000 := by
            have m1 : tp.toInt * (mOt T S (mNs mn pr)).toInt ≤ 500 * 1000000000 := Int.mul_le_mul htp.2 zb9 zOt0 (by omega)
            have m0 : 0 ≤ tp.toInt * (mOt T S (mNs mn pr)).toInt := Int.mul_nonneg htp.1 zOt0
            have em : (tp.toInt64 * mOt T S (mNs mn pr)).toInt = tp.toInt * (mOt T S (mNs mn pr)).toInt := z_mul (z_l tp) rfl (by omega) (by omega)
            have e1 : (tp.toInt64 * mOt T S (mNs mn pr) + 999 - tp.toInt64).toInt = tp.toInt * (mOt T S (mNs mn pr)).toInt + 999 - tp.toInt := z_sub (z_add em (show (999 : Int64).toInt = 999 by decide) (by omega) (by omega)) (z_l tp) (by omega) (by omega)
            have e0 : (1000 - tp.toInt64).toInt = 1000 - tp.toInt := z_sub (show (1000 : Int64).toInt = 1000 by decide) (z_l tp) (by omega) (by omega)
            unfold mDu
            rw [z_div e1 e0 (by omega) (by omega)]
            have := Int.ediv_le_self (1000 - tp.toInt) (show 0 ≤ tp.toInt * (mOt T S (mNs mn pr)).toInt + 999 - tp.toInt by omega)
            omega
          have pAr := z_rng32 pA
          have zFl : (mOt T S (mNs mn pr) + maxl pA.toInt64 (mDu tp (mOt T S (mNs mn pr)))).toInt = (mOt T S (mNs mn pr)).toInt + max pA.toInt (mDu tp (mOt T S (mNs mn pr))).toInt := z_add rfl zPl (by omega) (by omega)
          by_cases c9 : 1000000000 < mOt T S (mNs mn pr) + maxl pA.toInt64 (mDu tp (mOt T S (mNs mn pr)))
          · have t9 : mTnG T tp pA (mFl w T lt) pr (mNs mn pr) S = -9 := by unfold mTnG; rw [if_neg d0, if_neg p0, if_neg b9, if_pos c9]
            rw [t9, if_pos c9, if_neg (show ¬ (-9 : Int32) = 0 by decide), if_neg (show ¬ (0 : Int32) ≤ -9 by decide)]
            exact Or.inl ⟨rfl, rfl⟩
          · rw [if_neg c9]
            rw [z_lt, bil_z, zFl] at c9
            -- the pool as the turn leaves it
            have ePool : (minl (maxl pA.toInt64 (mDu tp (mOt T S (mNs mn pr)))) 1000000000).toInt32.toInt64 = maxl pA.toInt64 (mDu tp (mOt T S (mNs mn pr))) := by
              have q1 : (minl (maxl pA.toInt64 (mDu tp (mOt T S (mNs mn pr)))) 1000000000).toInt = (maxl pA.toInt64 (mDu tp (mOt T S (mNs mn pr)))).toInt := by rw [z_min, zPl, bil_z]; omega
              rw [Int64.toInt_inj.mp q1]
              exact z_li (by rw [zPl]; omega) (by rw [zPl]; omega)
            have eU : fm (mTuG T tp pA (mNs mn pr) S) = va_up (fm S.1) 170 (maxl pA.toInt64 (mDu tp (mOt T S (mNs mn pr)))) := by
              unfold mTuG
              rw [fm_uP, ePool]
            have hzU : zSz (va_up (fm S.1) 170 (maxl pA.toInt64 (mDu tp (mOt T S (mNs mn pr))))) T + (mNs mn pr).toInt ≤ 1000000000 := by
              rw [zSz_P hT6, zPl]
              omega
            have hgU : gB (va_up (fm S.1) 170 (maxl pA.toInt64 (mDu tp (mOt T S (mNs mn pr))))) T := gB_P hgS (by rw [zPl]; omega)
            have hMkU : mOk (mTuG T tp pA (mNs mn pr) S) T := mOk_up hMkS (by omega) (by omega)
            have htU : tI (mTuG T tp pA (mNs mn pr) S) T := by
              refine ⟨hMkU, ?_, ?_, ?_, ?_, ?_⟩
              · rw [eU]; exact hgU
              · rw [eU, show zTot (va_up (fm S.1) 170 (maxl pA.toInt64 (mDu tp (mOt T S (mNs mn pr))))) T = zTot (fm S.1) T from sumZ_ext (fun h hh => sumZ_ext (fun c hc => by rw [show cHeld (va_up (fm S.1) 170 (maxl pA.toInt64 (mDu tp (mOt T S (mNs mn pr))))) h c = cHeld (fm S.1) h c from up_ne _ _ (by omega)]))]; omega
              · rw [eU, zAG_same (f := fm S.1) (fun x a b => up_ne _ _ (by omega))]; omega
              · rw [eU, up_same, zPl]; omega
              · rw [eU]; omega
            have hkU : ∀ x, (x < 56 ∨ 57 ≤ x) → ¬ (65 ≤ x ∧ x < 64 + T) → mTuG T tp pA (mNs mn pr) S x = u x := fun x a b => by
              unfold mTuG
              rw [up_ne _ _ (by omega), r3 x b]; exact hwu x a b
            have eq2 : ∀ v : Int64, v = fm S.1 170 ↔ v = (S.1 56).toInt64 := fun v => by rw [fm_pool]
            by_cases st : maxl pA.toInt64 (mDu tp (mOt T S (mNs mn pr))) = D.1 170 ∧ D.2 = 0
            · have s2 : ¬ S.2 = 0 := by
                rcases r2 with ⟨x, y⟩ | ⟨x, y⟩
                · rw [y]; decide
                · rw [x] at st; exact absurd st.2 (by decide)
              have s1 : maxl pA.toInt64 (mDu tp (mOt T S (mNs mn pr))) = (S.1 56).toInt64 := by rw [← eq2, ← r1]; exact st.1
              have t1 : mTnG T tp pA (mFl w T lt) pr (mNs mn pr) S = 1 := by
                unfold mTnG
                rw [if_neg d0, if_neg p0, if_neg b9, if_neg (c := 1000000000 < mOt T S (mNs mn pr) + maxl pA.toInt64 (mDu tp (mOt T S (mNs mn pr)))) (fun q => by rw [z_lt, bil_z, zFl] at q; omega), if_neg s2, if_pos s1]
              rw [t1, if_pos st, if_neg (show ¬ (1 : Int32) = 0 by decide), if_pos (show (0 : Int32) ≤ 1 by decide)]
              have eS : fm (mTuG T tp pA (mNs mn pr) S) = fm S.1 := by rw [eU, ← r1, st.1, up_id]
              refine Or.inr ⟨_, rfl, ?_, htU, hpb, rfl, (show n + 1 ≤ n + (k + 1) by omega), by rw [eU]; exact hzU, hkU⟩
              show (pr.toInt32, some (D.1, pr, mNs mn pr, n + 1, mOt T S (mNs mn pr) + maxl pA.toInt64 (mDu tp (mOt T S (mNs mn pr))))) = (pr.toInt32, some (fm (mTuG T tp pA (mNs mn pr) S), pr, mNs mn pr, n + 1, cSize (fm (mTuG T tp pA (mNs mn pr) S)) T + mNs mn pr))
              rw [eS, ← r1]
              have : mOt T S (mNs mn pr) + maxl pA.toInt64 (mDu tp (mOt T S (mNs mn pr))) = cSize D.1 T + mNs mn pr := by
                rw [st.1]
                unfold mOt
                rw [fm_pool, ← r1, i64_s2]
              rw [this]
            · have t0 : mTnG T tp pA (mFl w T lt) pr (mNs mn pr) S = 0 := by
                unfold mTnG
                rw [if_neg d0, if_neg p0, if_neg b9, if_neg (c := 1000000000 < mOt T S (mNs mn pr) + maxl pA.toInt64 (mDu tp (mOt T S (mNs mn pr)))) (fun q => by rw [z_lt, bil_z, zFl] at q; omega)]
                by_cases s2 : S.2 = 0
                · rw [if_pos s2]
                · rw [if_neg s2, if_neg]
                  intro q
                  apply st
                  rw [r1]
                  refine ⟨(eq2 _).mpr q, ?_⟩
                  rcases r2 with ⟨x, y⟩ | ⟨x, y⟩
                  · exact x
                  · exact absurd y s2
              rw [t0, if_neg st, if_pos rfl]
              have hnext := lp_rel hm hvl htp hb hna hpA hca k (mTuG T tp pA (mNs mn pr) S) (n + 1) htU hkU (lt := lt)
              have eOt2 : cSize (fm (mTuG T tp pA (mNs mn pr) S)) T - fm (mTuG T tp pA (mNs mn pr) S) 170 = stOt T D := by
                rw [eU, up_same, cSize_p hT6]
                unfold stOt
                rw [r1]
              have eU2 : va_up D.1 170 (maxl pA.toInt64 (mDu tp (mOt T S (mNs mn pr)))) = fm (mTuG T tp pA (mNs mn pr) S) := by rw [eU, r1]
              rw [eU2, ← eOt2]
              rw [show n + 1 + k = n + (k + 1) by omega] at hnext
              exact hnext
