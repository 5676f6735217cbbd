/-! words of the terms: the model's stages beside the class's loop -/
def fq (q : TS) (z : MS) : Prop := z.2.2.1.toInt64 = q.1 ∧ z.2.2.2.1.toInt64 = q.2.1 ∧ z.2.2.2.2.1 = q.2.2.1 ∧ z.2.2.2.2.2.1.toInt64 = q.2.2.2.1 2 ∧ z.2.2.2.2.2.2.1.toInt64 = q.2.2.2.1 3 ∧ z.2.2.2.2.2.2.2.1.toInt64 = q.2.2.2.1 4 ∧ z.2.2.2.2.2.2.2.2.toInt64 = q.2.2.2.1 5 ∧ q.2.2.2.2.1 = (fun _ => 0) ∧ q.2.2.2.2.2 = 0 ∧ (0 ≤ z.2.2.2.1.toInt ∧ z.2.2.2.1.toInt ≤ 500) ∧ (0 ≤ z.2.2.2.2.2.1.toInt ∧ z.2.2.2.2.2.1.toInt ≤ 3) ∧ (0 ≤ z.2.2.2.2.2.2.1.toInt ∧ z.2.2.2.2.2.2.1.toInt ≤ 50) ∧ (z.2.2.2.2.2.2.2.1 = 0 ∨ z.2.2.2.2.2.2.2.1 = 1) ∧ (z.2.2.2.2.2.2.2.2 = 0 ∨ z.2.2.2.2.2.2.2.2 = 1) ∧ (1 ≤ z.2.2.1.toInt ∧ z.2.2.1.toInt ≤ 1000000000)
def stR (z : MS) (c : Bool × Nat × TS) : Prop := (c.1 = true → z.1 = c.2.1 ∧ z.2.1 = -1 ∧ fq c.2.2 z) ∧ (c.1 = false → z.2.1 = nI c.2.1)
theorem stR_f {z : MS} {k : Nat} {q : TS} (h : z.2.1 = nI k) : stR z (false, k, q) := ⟨fun x => absurd x Bool.false_ne_true, fun _ => h⟩
def cls (s : Nat → Int32) (n m fr k : Nat) (q : TS) : Bool × Nat × TS := if (rwF s n m fr k q).1 = true then (if tk s n (rwF s n m fr k q).2.1 58 = true then (true, (rwF s n m fr k q).2.1 + 1, (rwF s n m fr k q).2.2) else (false, (rwF s n m fr k q).2)) else (false, (rwF s n m fr k q).2)
def mat (s : Nat → Int32) (n he w : Nat) : Prop := tk s n he 32 = true ∧ (tkA s n (w + 1) (he + 1)).1 = true
theorem mat_ps {s : Nat → Int32} {n he w : Nat} : (mPs s n he (-1) (w + 1)).1 = true ↔ mat s n he w := by
  unfold mPs mat
  rw [if_pos rfl]
  by_cases a : tk s n he 32 = true
  · rw [if_pos a]
    by_cases b : (tkA s n (w + 1) (he + 1)).1 = true
    · rw [if_pos b]; exact ⟨fun _ => ⟨a, b⟩, fun _ => rfl⟩
    · rw [if_neg b]; exact ⟨fun z => absurd z Bool.false_ne_true, fun z => absurd z.2 b⟩
  · rw [if_neg a]; exact ⟨fun z => absurd z Bool.false_ne_true, fun z => absurd z.1 a⟩
theorem mat_2 {s : Nat → Int32} {n he w : Nat} (h : mat s n he w) : (mPs s n he (-1) (w + 1)).2 = (tkA s n (w + 1) (he + 1)).2 := by
  rw [mPs_4 rfl h.1 h.2]
  have := tkaF_t (rhLen.getD (w + 1) 0) 0 (he + 1) (by have := tk_lt h.1; omega) h.2
  unfold tkA
  rw [this.1]
  show he + (1 + rhLen.getD (w + 1) 0) = he + 1 + rhLen.getD (w + 1) 0
  omega
theorem rdWF_no (s : Nat → Int32) (n st : Nat) : ∀ (m w far : Nat), (∀ x, w ≤ x → x < w + m → ¬ (tkA s n (x + 1) st).1 = true) → rdWF s n st m w far = (none, lfF s n st m w far)
  | 0, w, far, _ => by rw [rdWF_0, lfF_0]
  | m + 1, w, far, h => by rw [rdWF_s, if_neg (h w (Nat.le_refl w) (by omega)), lfF_s, rdWF_no s n st m (w + 1) _ (fun x a b => h x (by omega) (by omega))]
theorem rdWF_at (s : Nat → Int32) (n st w : Nat) (hw : (tkA s n (w + 1) st).1 = true) : ∀ (d m fr far : Nat), fr + d = w → d < m → (∀ x, fr ≤ x → x < w → ¬ (tkA s n (x + 1) st).1 = true) → rdWF s n st m fr far = (some w, (tkA s n (w + 1) st).2)
  | 0, m, fr, far, e, hm, _ => by
    obtain ⟨m, rfl⟩ : ∃ k, m = k + 1 := ⟨m - 1, by omega⟩
    rw [rdWF_s, show fr = w by omega, if_pos hw]
  | d + 1, m, fr, far, e, hm, h => by
    obtain ⟨m, rfl⟩ : ∃ k, m = k + 1 := ⟨m - 1, by omega⟩
    rw [rdWF_s, if_neg (h fr (Nat.le_refl fr) (by omega)), rdWF_at s n st w hw d m (fr + 1) _ (by omega) (by omega) (fun x a b => h x (by omega) b)]
theorem rwF_stop {s : Nat → Int32} {n m fr k : Nat} {q : TS} (hm : 8 ≤ m + fr) (h : 8 ≤ fr ∨ ¬ tk s n k 32 = true) : rwF s n m fr k q = (true, k, q) := by
  by_cases e : m = 0
  · rw [e, rwF_0]
  · obtain ⟨m, rfl⟩ : ∃ j, m = j + 1 := ⟨m - 1, by omega⟩
    by_cases a : 8 ≤ fr
    · exact rwF_8 a
    · exact rwF_t a (h.resolve_left a)
theorem cls_go {s : Nat → Int32} {n m fr he w : Nat} {q : TS} (hm : 8 ≤ m + fr) (hf : fr ≤ w) (hw : w < 8) (hM : mat s n he w) (hno : ∀ x, fr ≤ x → x < w → ¬ mat s n he x) : ∃ m', m = m' + 1 ∧ cls s n m fr he q = (if (rbF s n w (mPs s n he (-1) (w + 1)).2 q).1 = true then cls s n m' (nextW w) (rbF s n w (mPs s n he (-1) (w + 1)).2 q).2.1 (rbF s n w (mPs s n he (-1) (w + 1)).2 q).2.2 else (false, (rbF s n w (mPs s n he (-1) (w + 1)).2 q).2)) := by
  obtain ⟨m, rfl⟩ : ∃ j, m = j + 1 := ⟨m - 1, by omega⟩
  refine ⟨m, rfl, ?_⟩
  have hr : rdW s n (he + 1) fr = (some w, (tkA s n (w + 1) (he + 1)).2) := rdWF_at s n (he + 1) w hM.2 (w - fr) (8 - fr) fr (he + 1) (by omega) (by omega) (fun x a b z => hno x a b ⟨hM.1, z⟩)
  have hr1 : (rdW s n (he + 1) fr).1 = some w := by rw [hr]
  have hr2 : (rdW s n (he + 1) fr).2 = (mPs s n he (-1) (w + 1)).2 := by rw [hr, mat_2 hM]
  by_cases b : (rbF s n w (mPs s n he (-1) (w + 1)).2 q).1 = true
  · rw [if_pos b]
    unfold cls
    rw [rwF_g (w := w) (by omega) hM.1 hr1 (by rw [hr2]; exact b), hr2]
  · rw [if_neg b]
    unfold cls
    rw [rwF_b (w := w) (by omega) hM.1 hr1 (by rw [hr2]; exact b), hr2, if_neg Bool.false_ne_true]
theorem P_8 {tx : Nat → Int32} {n : Nat} (hb : byteOk tx n) (hn : n ≤ 200) (fr m he : Nat) (z : MS) (q : TS) (hfr : fr ≤ 8) (hm : 8 ≤ m + fr) (hz : z.1 = he) (hhe : he ≤ n) (hw : z.2.1 = -1) (hq : fq q z) (hno : ∀ x, fr ≤ x → x < 8 → ¬ mat (sC tx) n he x) : stR (tE tx n fr z) (cls (sC tx) n m fr he q) := by
  by_cases c : tk (sC tx) n he 58 = true
  · have nb : ¬ tk (sC tx) n he 32 = true := fun b => by
      unfold tk at b c
      rw [Bool.and_eq_true, decide_eq_true_iff, decide_eq_true_iff] at b c
      exact absurd (b.2.symm.trans c.2) (by decide)
    have e1 : rwF (sC tx) n m fr he q = (true, he, q) := rwF_stop hm (Or.inr nb)
    have e2 : cls (sC tx) n m fr he q = (true, he + 1, q) := by
      unfold cls
      rw [e1, if_pos rfl]
      show (if tk (sC tx) n he 58 = true then _ else _) = _
      rw [if_pos c]
    have e3 : tEw tx n fr z = -1 := by
      unfold tEw
      rw [if_pos hw, hz, if_pos (c := mSee tx n he = 58) ((mSee_tk (c := 58) (by omega)).mpr c), hw]
    have e4 : mExp tx n he (-1) 58 = (he + 1, -1) := by rw [show (58 : Int32) = nI 58 from rfl, exp_tk (by omega), if_pos (c := tk (sC tx) n he (nI 58) = true) c]
    have e5 : tE tx n fr z = (he + 1, -1, z.2.2) := by
      unfold tE
      rw [e3, hz, e4]
    rw [e2, e5]
    exact ⟨fun _ => ⟨rfl, rfl, hq⟩, fun x => absurd x (by simp)⟩
  · have hlf : mLf (sC tx) n he fr ≤ 400 := by
      unfold mLf
      split
      · split
        · omega
        · exact lfF_le _ _ _ (by omega) (by omega) _ _ _ (by omega)
      · omega
    have e3 : tEw tx n fr z = nI (mLf (sC tx) n he fr) := by
      unfold tEw
      rw [if_pos hw, hz, if_neg (c := mSee tx n he = 58) (fun x => c ((mSee_tk (c := 58) (by omega)).mp x)), hw]
      rfl
    have e5 : (tE tx n fr z).2.1 = nI (mLf (sC tx) n he fr) := by
      unfold tE
      rw [e3, exp_no (nI_ne1 (by omega))]
    by_cases b : tk (sC tx) n he 32 = true
    · by_cases f8 : fr = 8
      · have e1 : rwF (sC tx) n m fr he q = (true, he, q) := rwF_stop hm (Or.inl (by omega))
        have e2 : cls (sC tx) n m fr he q = (false, he, q) := by
          unfold cls
          rw [e1, if_pos rfl]
          show (if tk (sC tx) n he 58 = true then _ else _) = _
          rw [if_neg c]
        rw [e2]
        refine stR_f ?_
        rw [e5]
        unfold mLf
        rw [if_pos b, if_pos f8]
      · obtain ⟨m, rfl⟩ : ∃ j, m = j + 1 := ⟨m - 1, by omega⟩
        have hr : rdW (sC tx) n (he + 1) fr = (none, lfF (sC tx) n (he + 1) (8 - fr) fr (he + 1)) := rdWF_no _ _ _ _ _ _ (fun x a d y => hno x a (by omega) ⟨b, y⟩)
        have e1 := rwF_n (s := sC tx) (n := n) (m := m) (q := q) (show ¬ 8 ≤ fr by omega) b (by rw [hr])
        rw [hr] at e1
        have e2 : cls (sC tx) n (m + 1) fr he q = (false, lfF (sC tx) n (he + 1) (8 - fr) fr (he + 1), q) := by
          unfold cls
          rw [e1, if_neg Bool.false_ne_true]
        rw [e2]
        refine stR_f ?_
        rw [e5]
        unfold mLf
        rw [if_pos b, if_neg f8]
    · have e1 : rwF (sC tx) n m fr he q = (true, he, q) := rwF_stop hm (Or.inr b)
      have e2 : cls (sC tx) n m fr he q = (false, he, q) := by
        unfold cls
        rw [e1, if_pos rfl]
        show (if tk (sC tx) n he 58 = true then _ else _) = _
        rw [if_neg c]
      rw [e2]
      refine stR_f ?_
      rw [e5]
      unfold mLf
      rw [if_neg b]

theorem P_7 {tx : Nat → Int32} {n : Nat} (hb : byteOk tx n) (hn : n ≤ 200) (fr m he : Nat) (z : MS) (q : TS) (hfr : fr ≤ 7) (hm : 8 ≤ m + fr) (hz : z.1 = he) (hhe : he ≤ n) (hw : z.2.1 = -1) (hq : fq q z) (hno : ∀ x, fr ≤ x → x < 7 → ¬ mat (sC tx) n he x) : stR (t7 tx n fr z) (cls (sC tx) n m fr he q) := by
  unfold t7 mPq
  rw [hw, hz]
  by_cases p : (mPs (sC tx) n he (-1) 8).1 = true
  · rw [if_pos p]
    have hM := (mat_ps (w := 7)).mp p
    have hle := mPs_le (s := sC tx) (n := n) (wr := (-1)) (i := 8) hhe
    obtain ⟨m', rfl, e⟩ := cls_go (q := q) hm hfr (by omega) hM hno
    obtain ⟨a1, a2, a3, a4, a5, a6, a7, a8, a9, b1, b2, b3, b4, b5, b6⟩ := hq
    have er : rbF (sC tx) n 7 (mPs (sC tx) n he (-1) 8).2 q = (true, (mPs (sC tx) n he (-1) 8).2, tsFc q 5 1) := rfl
    rw [e, er, if_pos rfl]
    exact P_8 hb hn 8 m' _ _ _ (by omega) (by omega) rfl hle rfl ⟨a1, a2, a3, a4, a5, a6, rfl, a8, a9, b1, b2, b3, b4, Or.inr rfl, b6⟩ (fun x a b => absurd a (by omega))
  · rw [if_neg p]
    exact P_8 hb hn fr m he z q (by omega) hm hz hhe hw hq (fun x a b => by
      by_cases y : x = 7
      · rw [y]; exact fun M => p (mat_ps.mpr M)
      · exact hno x a (by omega))

theorem P_6 {tx : Nat → Int32} {n : Nat} (hb : byteOk tx n) (hn : n ≤ 200) (fr m he : Nat) (z : MS) (q : TS) (hfr : fr ≤ 6) (hm : 8 ≤ m + fr) (hz : z.1 = he) (hhe : he ≤ n) (hw : z.2.1 = -1) (hq : fq q z) (hno : ∀ x, fr ≤ x → x < 6 → ¬ mat (sC tx) n he x) : stR (t6 tx n fr z) (cls (sC tx) n m fr he q) := by
  unfold t6 mPq
  rw [hw, hz]
  by_cases p : (mPs (sC tx) n he (-1) 7).1 = true
  · rw [if_pos p]
    have hM := (mat_ps (w := 6)).mp p
    have hle := mPs_le (s := sC tx) (n := n) (wr := (-1)) (i := 7) hhe
    obtain ⟨m', rfl, e⟩ := cls_go (q := q) hm hfr (by omega) hM hno
    obtain ⟨a1, a2, a3, a4, a5, a6, a7, a8, a9, b1, b2, b3, b4, b5, b6⟩ := hq
    have er : rbF (sC tx) n 6 (mPs (sC tx) n he (-1) 7).2 q = (true, (mPs (sC tx) n he (-1) 7).2, tsFc q 4 1) := rfl
    rw [e, er, if_pos rfl]
    exact P_7 hb hn 7 m' _ _ _ (by omega) (by omega) rfl hle rfl ⟨a1, a2, a3, a4, a5, rfl, a7, a8, a9, b1, b2, b3, Or.inr rfl, b5, b6⟩ (fun x a b => absurd a (by omega))
  · rw [if_neg p]
    exact P_7 hb hn fr m he z q (by omega) hm hz hhe hw hq (fun x a b => by
      by_cases y : x = 6
      · rw [y]; exact fun M => p (mat_ps.mpr M)
      · exact hno x a (by omega))

theorem P_5 {tx : Nat → Int32} {n : Nat} (hb : byteOk tx n) (hn : n ≤ 200) (fr m he : Nat) (z : MS) (q : TS) (hfr : fr ≤ 5) (hm : 8 ≤ m + fr) (hz : z.1 = he) (hhe : he ≤ n) (hw : z.2.1 = -1) (hq : fq q z) (hno : ∀ x, fr ≤ x → x < 5 → ¬ mat (sC tx) n he x) : stR (t5 tx n fr z) (cls (sC tx) n m fr he q) := by
  unfold t5 mPq
  rw [hw, hz]
  by_cases p : (mPs (sC tx) n he (-1) 6).1 = true
  · rw [if_pos p]
    have hM := (mat_ps (w := 5)).mp p
    have hle := mPs_le (s := sC tx) (n := n) (wr := (-1)) (i := 6) hhe
    obtain ⟨m', rfl, e⟩ := cls_go (q := q) hm hfr (by omega) hM hno
    obtain ⟨a1, a2, a3, a4, a5, a6, a7, a8, a9, b1, b2, b3, b4, b5, b6⟩ := hq
    rw [e]
    generalize (mPs (sC tx) n he (-1) 6).2 = K at hle ⊢
    have ex := exp_tk (tx := tx) (n := n) (k := K) (c := 32) (by omega)
    by_cases bl : tk (sC tx) n K 32 = true
    · rw [if_pos (c := tk (sC tx) n K (nI 32) = true) bl] at ex
      have em : mBn tx n K (-1) 50 = mNum tx n (K + 1) (-1) 0 50 := by
        unfold mBn
        rw [show (32 : Int32) = nI 32 from rfl, ex]
      have er := rbF_5t (q := q) bl
      rw [em, er]
      have hK : K + 1 ≤ n := by have := tk_lt bl; omega
      have hR := num_rel (tx := tx) (n := n) (k := K + 1) hb (le := 0) (mo := 50) (most := 50) (by decide) (by decide) num_same
      have hk2 := rdN_le (sC tx) n (K + 1) 0 50 hK (by decide)
      rw [show (50 : Int64).toInt = 50 by decide] at hR
      rcases hR with ⟨r1, r1b, r2, r3, r4, r5⟩ | ⟨r1, r2⟩
      · rw [if_pos (c := decide (0 ≤ (rdN (sC tx) n (K + 1) 0 50).1) = true) (decide_eq_true (by rw [z_le, n0L]; exact r1)), r2]
        exact P_6 hb hn 6 m' _ _ _ (by omega) (by omega) rfl hk2.2 rfl ⟨a1, a2, a3, a4, z_li (by omega) (by omega), a6, a7, a8, a9, b1, b2, by show 0 ≤ ((rdN (sC tx) n (K + 1) 0 50).1.toInt32).toInt ∧ _ ≤ _; rw [z_i rfl (by omega) (by omega)]; omega, b4, b5, b6⟩ (fun x a b => absurd a (by omega))
      · rw [if_neg (c := decide (0 ≤ (rdN (sC tx) n (K + 1) 0 50).1) = true) (fun y => by have := of_decide_eq_true y; rw [r1] at this; exact absurd this (by decide))]
        refine stR_f ?_
        rcases r2 with r2 | ⟨r2, r3, r4⟩
        · rw [t6_no (by show ¬ (mNum tx n (K + 1) (-1) 0 50).2.2 = -1; rw [r2]; exact nI_ne1 (by omega))]
          exact r2
        · rw [t6_d hb hn r2 (by show 0 ≤ (dg (sC tx) n (mNum tx n (K + 1) (-1) 0 50).2.1).toInt; rw [r3]; exact r4)]
          show nI (mNum tx n (K + 1) (-1) 0 50).2.1 = _
          rw [r3]
    · rw [if_neg (c := tk (sC tx) n K (nI 32) = true) bl] at ex
      have em : mBn tx n K (-1) 50 = (0, K, nI K) := by
        unfold mBn
        rw [show (32 : Int32) = nI 32 from rfl, ex]
        exact num_no (nI_ne1 (by omega))
      have er := rbF_5f (q := q) bl
      rw [em, er, if_neg Bool.false_ne_true]
      refine stR_f ?_
      exact t6_no (nI_ne1 (by omega))
  · rw [if_neg p]
    exact P_6 hb hn fr m he z q (by omega) hm hz hhe hw hq (fun x a b => by
      by_cases y : x = 5
      · rw [y]; exact fun M => p (mat_ps.mpr M)
      · exact hno x a (by omega))

theorem P_4 {tx : Nat → Int32} {n : Nat} (hb : byteOk tx n) (hn : n ≤ 200) (fr m he : Nat) (z : MS) (q : TS) (hfr : fr ≤ 4) (hm : 8 ≤ m + fr) (hz : z.1 = he) (hhe : he ≤ n) (hw : z.2.1 = -1) (hq : fq q z) (hno : ∀ x, fr ≤ x → x < 4 → ¬ mat (sC tx) n he x) : stR (t4 tx n fr z) (cls (sC tx) n m fr he q) := by
  unfold t4 mPq
  rw [hw, hz]
  by_cases p : (mPs (sC tx) n he (-1) 5).1 = true
  · rw [if_pos p]
    have hM := (mat_ps (w := 4)).mp p
    have hle := mPs_le (s := sC tx) (n := n) (wr := (-1)) (i := 5) hhe
    obtain ⟨m', rfl, e⟩ := cls_go (q := q) hm hfr (by omega) hM hno
    obtain ⟨a1, a2, a3, a4, a5, a6, a7, a8, a9, b1, b2, b3, b4, b5, b6⟩ := hq
    have er : rbF (sC tx) n 4 (mPs (sC tx) n he (-1) 5).2 q = (true, (mPs (sC tx) n he (-1) 5).2, tsFc q 2 (nI 4 - 2 + 1).toInt64) := rfl
    rw [e, er, if_pos rfl]
    exact P_5 hb hn 5 m' _ _ _ (by omega) (by omega) rfl hle rfl ⟨a1, a2, a3, rfl, a5, a6, a7, a8, a9, b1, (show 0 ≤ (3 : Int32).toInt ∧ (3 : Int32).toInt ≤ 3 by decide), b3, b4, b5, b6⟩ (fun x a b => absurd a (by omega))
  · rw [if_neg p]
    exact P_5 hb hn fr m he z q (by omega) hm hz hhe hw hq (fun x a b => by
      by_cases y : x = 4
      · rw [y]; exact fun M => p (mat_ps.mpr M)
      · exact hno x a (by omega))

theorem P_3 {tx : Nat → Int32} {n : Nat} (hb : byteOk tx n) (hn : n ≤ 200) (fr m he : Nat) (z : MS) (q : TS) (hfr : fr ≤ 3) (hm : 8 ≤ m + fr) (hz : z.1 = he) (hhe : he ≤ n) (hw : z.2.1 = -1) (hq : fq q z) (hno : ∀ x, fr ≤ x → x < 3 → ¬ mat (sC tx) n he x) : stR (t3 tx n fr z) (cls (sC tx) n m fr he q) := by
  unfold t3 mPq
  rw [hw, hz]
  by_cases p : (mPs (sC tx) n he (-1) 4).1 = true
  · rw [if_pos p]
    have hM := (mat_ps (w := 3)).mp p
    have hle := mPs_le (s := sC tx) (n := n) (wr := (-1)) (i := 4) hhe
    obtain ⟨m', rfl, e⟩ := cls_go (q := q) hm hfr (by omega) hM hno
    obtain ⟨a1, a2, a3, a4, a5, a6, a7, a8, a9, b1, b2, b3, b4, b5, b6⟩ := hq
    have er : rbF (sC tx) n 3 (mPs (sC tx) n he (-1) 4).2 q = (true, (mPs (sC tx) n he (-1) 4).2, tsFc q 2 (nI 3 - 2 + 1).toInt64) := rfl
    rw [e, er, if_pos rfl]
    exact P_5 hb hn 5 m' _ _ _ (by omega) (by omega) rfl hle rfl ⟨a1, a2, a3, rfl, a5, a6, a7, a8, a9, b1, (show 0 ≤ (2 : Int32).toInt ∧ (2 : Int32).toInt ≤ 3 by decide), b3, b4, b5, b6⟩ (fun x a b => absurd a (by omega))
  · rw [if_neg p]
    exact P_4 hb hn fr m he z q (by omega) hm hz hhe hw hq (fun x a b => by
      by_cases y : x = 3
      · rw [y]; exact fun M => p (mat_ps.mpr M)
      · exact hno x a (by omega))

theorem P_2 {tx : Nat → Int32} {n : Nat} (hb : byteOk tx n) (hn : n ≤ 200) (fr m he : Nat) (z : MS) (q : TS) (hfr : fr ≤ 2) (hm : 8 ≤ m + fr) (hz : z.1 = he) (hhe : he ≤ n) (hw : z.2.1 = -1) (hq : fq q z) (hno : ∀ x, fr ≤ x → x < 2 → ¬ mat (sC tx) n he x) : stR (t2 tx n fr z) (cls (sC tx) n m fr he q) := by
  unfold t2 mPq
  rw [hw, hz]
  by_cases p : (mPs (sC tx) n he (-1) 3).1 = true
  · rw [if_pos p]
    have hM := (mat_ps (w := 2)).mp p
    have hle := mPs_le (s := sC tx) (n := n) (wr := (-1)) (i := 3) hhe
    obtain ⟨m', rfl, e⟩ := cls_go (q := q) hm hfr (by omega) hM hno
    obtain ⟨a1, a2, a3, a4, a5, a6, a7, a8, a9, b1, b2, b3, b4, b5, b6⟩ := hq
    have er : rbF (sC tx) n 2 (mPs (sC tx) n he (-1) 3).2 q = (true, (mPs (sC tx) n he (-1) 3).2, tsFc q 2 (nI 2 - 2 + 1).toInt64) := rfl
    rw [e, er, if_pos rfl]
    exact P_5 hb hn 5 m' _ _ _ (by omega) (by omega) rfl hle rfl ⟨a1, a2, a3, rfl, a5, a6, a7, a8, a9, b1, (show 0 ≤ (1 : Int32).toInt ∧ (1 : Int32).toInt ≤ 3 by decide), b3, b4, b5, b6⟩ (fun x a b => absurd a (by omega))
  · rw [if_neg p]
    exact P_3 hb hn fr m he z q (by omega) hm hz hhe hw hq (fun x a b => by
      by_cases y : x = 2
      · rw [y]; exact fun M => p (mat_ps.mpr M)
      · exact hno x a (by omega))

theorem P_1 {tx : Nat → Int32} {n : Nat} (hb : byteOk tx n) (hn : n ≤ 200) (fr m he : Nat) (z : MS) (q : TS) (hfr : fr ≤ 1) (hm : 8 ≤ m + fr) (hz : z.1 = he) (hhe : he ≤ n) (hw : z.2.1 = -1) (hq : fq q z) (hno : ∀ x, fr ≤ x → x < 1 → ¬ mat (sC tx) n he x) : stR (t1 tx n fr z) (cls (sC tx) n m fr he q) := by
  unfold t1 mPq
  rw [hw, hz]
  by_cases p : (mPs (sC tx) n he (-1) 2).1 = true
  · rw [if_pos p]
    have hM := (mat_ps (w := 1)).mp p
    have hle := mPs_le (s := sC tx) (n := n) (wr := (-1)) (i := 2) hhe
    obtain ⟨m', rfl, e⟩ := cls_go (q := q) hm hfr (by omega) hM hno
    obtain ⟨a1, a2, a3, a4, a5, a6, a7, a8, a9, b1, b2, b3, b4, b5, b6⟩ := hq
    have er : rbF (sC tx) n 1 (mPs (sC tx) n he (-1) 2).2 q = (true, (mPs (sC tx) n he (-1) 2).2, (q.1, q.2.1, 1, q.2.2.2)) := rfl
    rw [e, er, if_pos rfl]
    exact P_2 hb hn 2 m' _ _ _ (by omega) (by omega) rfl hle rfl ⟨a1, a2, rfl, a4, a5, a6, a7, a8, a9, b1, b2, b3, b4, b5, b6⟩ (fun x a b => absurd a (by omega))
  · rw [if_neg p]
    exact P_2 hb hn fr m he z q (by omega) hm hz hhe hw hq (fun x a b => by
      by_cases y : x = 1
      · rw [y]; exact fun M => p (mat_ps.mpr M)
      · exact hno x a (by omega))

theorem P_0 {tx : Nat → Int32} {n : Nat} (hb : byteOk tx n) (hn : n ≤ 200) (fr m he : Nat) (z : MS) (q : TS) (hfr : fr ≤ 0) (hm : 8 ≤ m + fr) (hz : z.1 = he) (hhe : he ≤ n) (hw : z.2.1 = -1) (hq : fq q z) (hno : ∀ x, fr ≤ x → x < 0 → ¬ mat (sC tx) n he x) : stR (t0 tx n fr z) (cls (sC tx) n m fr he q) := by
  unfold t0 mPq
  rw [hw, hz]
  by_cases p : (mPs (sC tx) n he (-1) 1).1 = true
  · rw [if_pos p]
    have hM := (mat_ps (w := 0)).mp p
    have hle := mPs_le (s := sC tx) (n := n) (wr := (-1)) (i := 1) hhe
    obtain ⟨m', rfl, e⟩ := cls_go (q := q) hm hfr (by omega) hM hno
    obtain ⟨a1, a2, a3, a4, a5, a6, a7, a8, a9, b1, b2, b3, b4, b5, b6⟩ := hq
    rw [e]
    generalize (mPs (sC tx) n he (-1) 1).2 = K at hle ⊢
    have ex := exp_tk (tx := tx) (n := n) (k := K) (c := 32) (by omega)
    by_cases bl : tk (sC tx) n K 32 = true
    · rw [if_pos (c := tk (sC tx) n K (nI 32) = true) bl] at ex
      have em : mBn tx n K (-1) 500 = mNum tx n (K + 1) (-1) 0 500 := by
        unfold mBn
        rw [show (32 : Int32) = nI 32 from rfl, ex]
      have er := rbF_0t (q := q) bl
      rw [em, er]
      have hK : K + 1 ≤ n := by have := tk_lt bl; omega
      have hR := num_rel (tx := tx) (n := n) (k := K + 1) hb (le := 0) (mo := 500) (most := 500) (by decide) (by decide) num_same
      have hk2 := rdN_le (sC tx) n (K + 1) 0 500 hK (by decide)
      rw [show (500 : Int64).toInt = 500 by decide] at hR
      rcases hR with ⟨r1, r1b, r2, r3, r4, r5⟩ | ⟨r1, r2⟩
      · rw [if_pos (c := decide (0 ≤ (rdN (sC tx) n (K + 1) 0 500).1) = true) (decide_eq_true (by rw [z_le, n0L]; exact r1)), r2]
        exact P_1 hb hn 1 m' _ _ _ (by omega) (by omega) rfl hk2.2 rfl ⟨a1, z_li (by omega) (by omega), a3, a4, a5, a6, a7, a8, a9, by show 0 ≤ ((rdN (sC tx) n (K + 1) 0 500).1.toInt32).toInt ∧ _ ≤ _; rw [z_i rfl (by omega) (by omega)]; omega, b2, b3, b4, b5, b6⟩ (fun x a b => absurd a (by omega))
      · rw [if_neg (c := decide (0 ≤ (rdN (sC tx) n (K + 1) 0 500).1) = true) (fun y => by have := of_decide_eq_true y; rw [r1] at this; exact absurd this (by decide))]
        refine stR_f ?_
        rcases r2 with r2 | ⟨r2, r3, r4⟩
        · rw [t1_no (by show ¬ (mNum tx n (K + 1) (-1) 0 500).2.2 = -1; rw [r2]; exact nI_ne1 (by omega))]
          exact r2
        · rw [t1_d hb hn r2 (by show 0 ≤ (dg (sC tx) n (mNum tx n (K + 1) (-1) 0 500).2.1).toInt; rw [r3]; exact r4)]
          show nI (mNum tx n (K + 1) (-1) 0 500).2.1 = _
          rw [r3]
    · rw [if_neg (c := tk (sC tx) n K (nI 32) = true) bl] at ex
      have em : mBn tx n K (-1) 500 = (0, K, nI K) := by
        unfold mBn
        rw [show (32 : Int32) = nI 32 from rfl, ex]
        exact num_no (nI_ne1 (by omega))
      have er := rbF_0f (q := q) bl
      rw [em, er, if_neg Bool.false_ne_true]
      refine stR_f ?_
      exact t1_no (nI_ne1 (by omega))
  · rw [if_neg p]
    exact P_1 hb hn fr m he z q (by omega) hm hz hhe hw hq (fun x a b => by
      by_cases y : x = 0
      · rw [y]; exact fun M => p (mat_ps.mpr M)
      · exact hno x a (by omega))
