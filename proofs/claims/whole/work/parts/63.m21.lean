theorem few_go {w : Nat → Int64} (hw : ∀ h, h < 8 → 0 ≤ (w h).toInt) (hb : sumZ (fun h => (w h).toInt) 8 ≤ 1000000000000000000) {all : Int64} (hall : all.toInt = sumZ (fun h => (w h).toInt) 8) : ∀ (n i : Nat) (hv : Int64), n + i = 8 → hv.toInt = vZ w (gS w i) → (∀ j, j < i → 2 * vZ w (gS w j) ≤ all.toInt) → ∃ K, i ≤ K ∧ K ≤ 8 ∧ fwL w all n i hv (nI (gS w i)) = (nI K, nI (gS w K)) ∧ (∀ j, j < K → 2 * vZ w (gS w j) ≤ all.toInt) ∧ (K = 8 ∨ all.toInt < 2 * vZ w (gS w K))
  | 0, i, hv, hn, _, hj => ⟨i, Nat.le_refl i, by omega, fwL_0 _ _ _ _ _, hj, Or.inl (by omega)⟩
  | n + 1, i, hv, hn, hh, hj => by
    have hle : vZ w (gS w i) ≤ sumZ (fun h => (w h).toInt) 8 := sumZ_mono (fun h h8 => by have := hw h h8; split <;> omega)
    have hge : 0 ≤ vZ w (gS w i) := sumZ_nn (fun h h8 => by have := hw h h8; split <;> omega)
    have h2 : (2 * hv).toInt = 2 * vZ w (gS w i) := z_mul (show (2 : Int64).toInt = 2 by decide) hh (by omega) (by omega)
    by_cases q : all < 2 * hv
    · rw [fwL_t q]
      rw [z_lt, h2] at q
      exact ⟨i, Nat.le_refl i, by omega, rfl, hj, Or.inr q⟩
    · rw [fwL_f q]
      rw [z_lt, h2] at q
      have hr := rkN_r (u := w) (j := i) (by omega)
      have e1 : nI (gS w i) ||| 1 <<< (nI (rkN w 8 i) &&& 31) = nI (gS w (i + 1)) := by
        rw [gS_s]
        exact (nI_or ⟨gS w i, gS_lt w i (by omega)⟩ ⟨rkN w 8 i, hr.1⟩).1
      have e2 : vZ w (gS w (i + 1)) = vZ w (gS w i) + (w (rkN w 8 i)).toInt := by rw [gS_sum w (by omega), gS_sum w (by omega), sumZ]
      have hle2 : vZ w (gS w (i + 1)) ≤ sumZ (fun h => (w h).toInt) 8 := sumZ_mono (fun h h8 => by have := hw h h8; split <;> omega)
      have hr0 := hw _ hr.1
      rw [e1]
      obtain ⟨K, a, b, c, d, f⟩ := few_go hw hb hall n (i + 1) (hv + w (rkN w 8 i)) (by omega) (by rw [e2]; exact z_add hh rfl (by omega) (by omega)) (fun j hj2 => by
        by_cases z : j = i
        · rw [z]; omega
        · exact hj j (by omega))
      exact ⟨K, by omega, b, c, d, f⟩
/-- how many of the first ones have more than half, and which -/
theorem few_K {w : Nat → Int64} (hw : ∀ h, h < 8 → 0 ≤ (w h).toInt) (hb : sumZ (fun h => (w h).toInt) 8 ≤ 1000000000000000000) (hne : ¬ sumF 0 w 8 = 0) : ∃ K, 1 ≤ K ∧ K ≤ 8 ∧ x_few w = (nI K, some [(nI (gS w K)).toInt64]) ∧ (∀ j, j < K → 2 * vZ w (gS w j) ≤ (sumF 0 w 8).toInt) ∧ (sumF 0 w 8).toInt < 2 * vZ w (gS w K) := by
  have hall : (sumF 0 w 8).toInt = sumZ (fun h => (w h).toInt) 8 := sumF_z0 (fun _ _ => rfl) hw (by omega)
  have h0 : vZ w (gS w 0) = 0 := by rw [gS_sum w (by omega)]; rfl
  have hnn := sumZ_nn (n := 8) hw
  have hpos : 0 < (sumF 0 w 8).toInt := by
    have : (sumF 0 w 8).toInt ≠ 0 := fun q => hne (Int64.toInt_inj.mp (by rw [q]; rfl))
    omega
  obtain ⟨K, a, b, c, d, f⟩ := few_go hw hb hall 8 0 0 (by omega) (by rw [h0]; rfl) (fun j hj => absurd hj (by omega))
  rw [gS_0, show nI 0 = 0 from rfl] at c
  have hK : (sumF 0 w 8).toInt < 2 * vZ w (gS w K) := by
    rcases f with f | f
    · rw [f, gS_all, ← hall]; omega
    · exact f
  refine ⟨K, ?_, b, ?_, d, hK⟩
  · by_cases z : K = 0
    · rw [z, h0] at hK; omega
    · omega
  · unfold x_few
    rw [if_neg hne, c]
/-- the first of the greatest that the set hasn't, among the first i -/
def topB (w : Nat → Int64) (s i : Nat) (bv : Int32) : Prop := (bv = -1 ∧ ∀ o, o < i → sBit (nI s) o = 1) ∨ ∃ b, bv = nI b ∧ b < i ∧ ¬ sBit (nI s) b = 1 ∧ ∀ o, o < i → ¬ sBit (nI s) o = 1 → ¬ ahB w b o
theorem topB_0 (w : Nat → Int64) (s : Nat) : topB w s 0 (-1) := Or.inl ⟨rfl, fun o ho => absurd ho (by omega)⟩
theorem topB_b {w : Nat → Int64} {s i : Nat} {bv : Int32} (h : topB w s i bv) (q : ¬ bv = -1) : ∃ b, bv = nI b ∧ b < i ∧ ¬ sBit (nI s) b = 1 ∧ ∀ o, o < i → ¬ sBit (nI s) o = 1 → ¬ ahB w b o := h.elim (fun z => absurd z.1 q) id
theorem topB_skip {w : Nat → Int64} {s i : Nat} {bv : Int32} (h : topB w s i bv) (q : sBit (nI s) i = 1) : topB w s (i + 1) bv := by
  rcases h with ⟨a, b⟩ | ⟨b, c, d, e, f⟩
  · exact Or.inl ⟨a, fun o ho => by
      by_cases z : o = i
      · rw [z]; exact q
      · exact b o (by omega)⟩
  · exact Or.inr ⟨b, c, by omega, e, fun o ho n => by
      by_cases z : o = i
      · rw [z] at n; exact absurd q n
      · exact f o (by omega) n⟩
theorem topB_first {w : Nat → Int64} {s i : Nat} {bv : Int32} (h : topB w s i bv) (q : ¬ sBit (nI s) i = 1) (e : bv = -1) (hi : i < 8) : topB w s (i + 1) (nI i) := by
  rcases h with ⟨a, b⟩ | ⟨b, c, d, _, _⟩
  · exact Or.inr ⟨i, rfl, by omega, q, fun o ho n => by
      by_cases z : o = i
      · rw [z]; exact ahB_self w i
      · exact absurd (b o (by omega)) n⟩
  · exfalso
    rw [c] at e
    have := congrArg Int32.toInt e
    rw [nI_toInt (by omega), show (-1 : Int32).toInt = -1 by decide] at this
    omega
theorem topB_take {w : Nat → Int64} {s i b : Nat} (h : ∀ o, o < i → ¬ sBit (nI s) o = 1 → ¬ ahB w b o) (q : ¬ sBit (nI s) i = 1) (l : w b < w i) : topB w s (i + 1) (nI i) := by
  refine Or.inr ⟨i, rfl, by omega, q, fun o ho n => ?_⟩
  by_cases z : o = i
  · rw [z]; exact ahB_self w i
  · intro y
    apply h o (by omega) n
    rw [z_lt] at l
    rcases y with y | y
    · rw [z_lt] at y; exact Or.inl (by rw [z_lt]; omega)
    · exact Or.inl (by rw [z_lt, y.1]; omega)
theorem topB_stay {w : Nat → Int64} {s i b : Nat} (hb : b < i) (hs : ¬ sBit (nI s) b = 1) (h : ∀ o, o < i → ¬ sBit (nI s) o = 1 → ¬ ahB w b o) (l : ¬ w b < w i) : topB w s (i + 1) (nI b) := by
  refine Or.inr ⟨b, rfl, by omega, hs, fun o ho n => ?_⟩
  by_cases z : o = i
  · rw [z]
    rintro (y | y)
    · exact l y
    · omega
  · exact h o (by omega) n
theorem topB_end {w : Nat → Int64} {k : Nat} {bv : Int32} (hk : k < 8) (h : topB w (gS w k) 8 bv) : bv = nI (rkN w 8 k) := by
  have g256 := gS_lt w k (by omega)
  have hbit : ∀ o, o < 8 → (sBit (nI (gS w k)) o = 1 ↔ ahN w o 8 < k) := fun o ho => by
    rw [sBit_nI ⟨gS w k, g256⟩ ⟨o, ho⟩]
    exact gS_bit w ho k (by omega)
  have hr := rkN_r (u := w) (j := k) hk
  rcases h with ⟨a, b⟩ | ⟨b, rfl, d, e, f⟩
  · have := (hbit _ hr.1).mp (b _ hr.1)
    omega
  · have e1 : ¬ ahN w b 8 < k := fun q => e ((hbit b d).mpr q)
    have f1 := f _ hr.1 (fun q => by have := (hbit _ hr.1).mp q; omega)
    by_cases z : b = rkN w 8 k
    · rw [z]
    · rcases ahB_total (u := w) z with y | y
      · exact absurd y f1
      · have := ahN_of hr.1 d y
        omega
theorem gS_next (w : Nat → Int64) {k : Nat} (hk : k < 8) : nI (gS w k) ||| 1 <<< (nI (rkN w 8 k) &&& 31) = nI (gS w (k + 1)) := by
  rw [gS_s]
  exact (nI_or ⟨gS w k, gS_lt w k (by omega)⟩ ⟨rkN w 8 k, (rkN_r hk).1⟩).1
theorem ones_gS (w : Nat → Int64) {k : Nat} (hk : k ≤ 8) : onesN (gS w k) = k := by rw [onesN_bc 256 _ (by have := gS_lt w k hk; omega) (gS_lt w k hk), gS_ones w hk]
theorem vZ_next (w : Nat → Int64) {k : Nat} (hk : k < 8) : vZ w (gS w (k + 1)) = vZ w (gS w k) + (w (rkN w 8 k)).toInt := by rw [gS_sum w (by omega), gS_sum w (by omega), sumZ]
theorem vZ_b {w : Nat → Int64} (hw : ∀ h, h < 8 → 0 ≤ (w h).toInt) (s : Nat) : 0 ≤ vZ w s ∧ vZ w s ≤ sumZ (fun h => (w h).toInt) 8 := ⟨sumZ_nn (fun h h8 => by have := hw h h8; split <;> omega), sumZ_mono (fun h h8 => by have := hw h h8; split <;> omega)⟩
/-- the best of the sets ahead of i -/
def optB (w : Nat → Int64) (A : Int) (i b : Nat) : Prop := (b = 0 ∧ ∀ s, 1 ≤ s → s < i → 2 * vZ w s ≤ A) ∨ (1 ≤ b ∧ b < i ∧ A < 2 * vZ w b ∧ ∀ s, 1 ≤ s → s < i → A < 2 * vZ w s → bcN b < bcN s ∨ (bcN b = bcN s ∧ (vZ w s < vZ w b ∨ (vZ w s = vZ w b ∧ b ≤ s))))
theorem optB_lt {w : Nat → Int64} {A : Int} {i b : Nat} (h : optB w A i b) (hi : 1 ≤ i) : b < i := h.elim (fun z => by have := z.1; omega) (fun z => z.2.1)
theorem optB_no {w : Nat → Int64} {A : Int} {i b : Nat} (h : optB w A i b) (q : ¬ A < 2 * vZ w i) : optB w A (i + 1) b := by
  rcases h with ⟨a, c⟩ | ⟨a, c, d, e⟩
  · exact Or.inl ⟨a, fun s h1 h2 => by
      by_cases z : s = i
      · rw [z]; omega
      · exact c s h1 (by omega)⟩
  · exact Or.inr ⟨a, by omega, d, fun s h1 h2 h3 => by
      by_cases z : s = i
      · rw [z] at h3; exact absurd h3 q
      · exact e s h1 (by omega) h3⟩
theorem optB_first {w : Nat → Int64} {A : Int} {i b : Nat} (h : optB w A i b) (hi : 1 ≤ i) (q : A < 2 * vZ w i) (e : b = 0) : optB w A (i + 1) i := by
  rcases h with ⟨_, c⟩ | ⟨a, _⟩
  · exact Or.inr ⟨hi, by omega, q, fun s h1 h2 h3 => by
      by_cases z : s = i
      · rw [z]; exact Or.inr ⟨rfl, Or.inr ⟨rfl, Nat.le_refl i⟩⟩
      · have := c s h1 (by omega); omega⟩
  · omega
theorem optB_take {w : Nat → Int64} {A : Int} {i b : Nat} (h : optB w A i b) (hi : 1 ≤ i) (q : A < 2 * vZ w i) (e : ¬ b = 0) (l : bcN i < bcN b ∨ (bcN i = bcN b ∧ vZ w b < vZ w i)) : optB w A (i + 1) i := by
  rcases h with ⟨a, _⟩ | ⟨a, c, d, f⟩
  · exact absurd a e
  · exact Or.inr ⟨hi, by omega, q, fun s h1 h2 h3 => by
      by_cases z : s = i
      · rw [z]; exact Or.inr ⟨rfl, Or.inr ⟨rfl, Nat.le_refl i⟩⟩
      · have := f s h1 (by omega) h3; omega⟩
theorem optB_stay {w : Nat → Int64} {A : Int} {i b : Nat} (h : optB w A i b) (e : ¬ b = 0) (l : ¬ (bcN i < bcN b) ∧ (¬ bcN i = bcN b ∨ ¬ vZ w b < vZ w i)) : optB w A (i + 1) b := by
  rcases h with ⟨a, _⟩ | ⟨a, c, d, f⟩
  · exact absurd a e
  · exact Or.inr ⟨a, by omega, d, fun s h1 h2 h3 => by
      by_cases z : s = i
      · rw [z]; omega
      · exact f s h1 (by omega) h3⟩
theorem optB_end {w : Nat → Int64} (hw : ∀ h, h < 8 → 0 ≤ (w h).toInt) {A : Int} {K b : Nat} (h1 : 1 ≤ K) (hK : K ≤ 8) (hl : ∀ j, j < K → 2 * vZ w (gS w j) ≤ A) (hg : A < 2 * vZ w (gS w K)) (hA : 0 ≤ A) (h : optB w A 256 b) : b = gS w K := by
  have g256 := gS_lt w K hK
  have g1 : 1 ≤ gS w K := by
    by_cases z : gS w K = 0
    · have := gS_ones w hK
      rw [z, show bcN 0 = 0 from rfl] at this
      omega
    · omega
  rcases h with ⟨_, c⟩ | ⟨a, c, d, f⟩
  · have := c _ g1 g256; omega
  · have hb8 : bcN b ≤ 8 := by
      have e (h : Nat) : (if b.testBit h then 1 else 0 : Nat) ≤ 1 := by split <;> omega
      unfold bcN
      have := e 0
      have := e 1
      have := e 2
      have := e 3
      have := e 4
      have := e 5
      have := e 6
      have := e 7
      omega
    have hb1 : 1 ≤ bcN b := by
      by_cases z : bcN b = 0
      · exfalso
        have zz : (bcN b : Int) = 0 := by omega
        rw [bcN_z] at zz
        have hv0 : vZ w b = 0 := by
          unfold vZ
          rw [sumZ_ext (k := fun _ => 0) (fun i hi => ?_), sumZ_zero]
          have h2 := sumZ_at (g := bZ b) (n := 8) (fun i hi => by unfold bZ; split <;> omega) i hi
          rw [zz] at h2
          unfold bZ at h2
          by_cases y : b.testBit i = true
          · rw [if_pos y] at h2; omega
          · rw [if_neg y]
        rw [hv0] at d
        omega
      · omega
    have hbK : K ≤ bcN b := by
      by_cases z : bcN b < K
      · have := (vZ_le (w := w) (s := b) hb1 hb8 rfl).1
        have := hl _ z
        omega
      · omega
    have hm := f _ g1 g256 hg
    rw [gS_ones w hK] at hm
    have hbe : bcN b = K := by omega
    have hv := (vZ_le (w := w) (s := b) h1 hK hbe).1
    have hve : vZ w b = vZ w (gS w K) := by omega
    have := gS_least h1 hK c hbe hve
    omega
theorem sBit_nIi {s c : Nat} (hs : s < 256) (hc : c < 8) : sBit (nI s) c = 1 ↔ s.testBit c = true := by rw [sBit_nI ⟨s, hs⟩ ⟨c, hc⟩]
theorem setV_z {f : Nat → Int64} {T s : Nat} (hw : ∀ h, h < 8 → 0 ≤ (cVotes f h T).toInt) (hb : sumZ (fun h => (cVotes f h T).toInt) 8 ≤ 1000000000000000000) (hs : s < 256) : ∀ n : Nat, n ≤ 8 → (setV f T (nI s) n).toInt = sumZ (fun h => if s.testBit h then (cVotes f h T).toInt else 0) n
  | 0, _ => by rw [setV_0]; rfl
  | n + 1, hn => by
    have ih := setV_z hw hb hs n (by omega)
    have h0 : ∀ m, m ≤ 8 → 0 ≤ sumZ (fun h => if s.testBit h then (cVotes f h T).toInt else 0) m := fun m hm => sumZ_nn (fun h h8 => by have := hw h (by omega); split <;> omega)
    have hle : sumZ (fun h => if s.testBit h then (cVotes f h T).toInt else 0) (n + 1) ≤ 1000000000000000000 := by
      have a : ∀ d m, m + d = 8 → sumZ (fun h => if s.testBit h then (cVotes f h T).toInt else 0) m ≤ sumZ (fun h => (cVotes f h T).toInt) 8 := by
        intro d
        induction d with
        | zero => intro m hm; rw [show m = 8 by omega]; exact sumZ_mono (fun h h8 => by have := hw h h8; split <;> omega)
        | succ d ihd =>
          intro m hm
          have := ihd (m + 1) (by omega)
          rw [sumZ] at this
          have h2 := hw m (by omega)
          have : 0 ≤ (if s.testBit m then (cVotes f m T).toInt else 0) := by split <;> omega
          omega
      have := a (8 - (n + 1)) (n + 1) (by omega)
      omega
    have g0 := h0 n (by omega)
    rw [sumZ] at hle
    rw [setV_s, sumZ]
    by_cases q : s.testBit n = true
    · rw [if_pos q] at hle
      rw [if_pos ((sBit_nIi hs (by omega)).mpr q), if_pos q]
      have := hw n (by omega)
      exact z_add ih rfl (by omega) (by omega)
    · rw [if_neg (fun z => q ((sBit_nIi hs (by omega)).mp z)), if_neg q, Int64.add_zero, ih]
      omega

set_option maxRecDepth 100000 in
set_option maxHeartbeats 4000000 in
theorem c_X8_greatest (l : Launch) (E : rhE) (B : Nat → Nat) (u : Nat → Int32) (kp : Nat → Int32) (ik : Int32) (ps : Nat → Int32) (pm : Nat) (dd : Int32) (tx : Nat → Int32) (ty : Nat) (rw : Nat → Int64) (rm : Nat) (th : Int32) (sz : Nat) (he : Nat) (wr : Int32) (mn : Nat → Int32) (vl : Int32) (tp : Int32) (lt : Int32) (ra : Int32) (pf : Int32) (pt : Int32) (pl : Int32) (pd : Int64) (prc : Int64) (ns : Int64) (tu : Nat) (ba : Int64) (na : Int64) (ca : Nat → Int64) (bo : Nat → Int32) (tr : Nat → Int64) (tH : Int32) (asd : Nat → Int32) (pa : Nat → Int64) (tg : Nat → Int64) (sd : Int64) (sr : Int64)  (C : CT) (hCu : C.1 = fm u) (T : Nat) (hM : mOk u T)  : Ctr l E yX8_greatest cX8_greatest 5 (some .int) (rmL 5) [.ref (B 0)] (wM E B u kp ik ps pm dd tx ty rw rm th sz he wr mn vl tp lt ra pf pt pl pd prc ns tu ba na ca bo tr tH asd pa tg sd sr) (fun r w => ∃ rw1 rm1, r = some (Value.int (x_greatest C T).1) ∧ mTold rw rm rw1 rm1 (x_greatest C T).2 ∧ w = (wM E B u kp ik ps pm dd tx ty rw1 rm1 0 sz he wr mn vl tp lt ra pf pt pl pd prc ns tu ba na ca bo tr tH asd pa tg sd sr)) := by
  refine Ctr.of (by decide) (Nat.le_of_ble_eq_true rfl) rfl rfl 4 ?_
  intro X hX hR
  obtain ⟨hT, hT1, hT6, hcv⟩ := id hM
  refine rh_aload_n hX dX8_greatest_0 rfl ?_
  refine rh_iconst hX dX8_greatest_1 ki_0 ?_
  refine rh_put hX gl_X8_48 0 dX8_greatest_2 rfl rfl rfl (Nat.le_of_ble_eq_true rfl) rfl ?_
  dsimp only [List.cons_append, List.nil_append, List.set_cons_succ, List.set_cons_zero, vput]
  refine rh_aload_n hX dX8_greatest_5 rfl ?_
  refine rh_iconst hX dX8_greatest_6 ki_0 ?_
  refine rh_put hX gl_X8_52 0 dX8_greatest_7 rfl rfl rfl (Nat.le_of_ble_eq_true rfl) rfl ?_
  dsimp only [List.cons_append, List.nil_append, List.set_cons_succ, List.set_cons_zero, vput]
  refine rh_iconst hX dX8_greatest_10 ki_0 ?_
  refine rh_istn1 hX dX8_greatest_11 (by decide) rfl ?_
  obtain ⟨W9, hW9⟩ : ∃ W9 : Nat → Int64, W9 = (fun h => cClaim (fm u) h T) := ⟨_, rfl⟩
  refine rh_iconst hX dX8_greatest_12 ki_0 ?_
  refine rh_istn2 hX dX8_greatest_13 (by decide) rfl ?_
  suffices hP0 : G X 14 [some (.ref (B 0)), some (.int (nI (gS W9 0))), some (.int 0), none, none] [] (wM E B u kp ik ps pm dd tx ty rw 0 0 sz he wr mn vl tp lt ra pf pt pl pd prc ns tu ba na ca bo tr tH asd pa tg sd sr) by rw [gS_0] at hP0; exact hP0
  refine (rh_loop (P := fun k => ∀ g1, rowOk g1 ((List.range k).map (fun i => (nI (rkN W9 8 i)).toInt64)) → G X 14 [some (.ref (B 0)), some (.int (nI (gS W9 k))), some (.int (nI k)), none, none] [] (wM E B u kp ik ps pm dd tx ty g1 k 0 sz he wr mn vl tp lt ra pf pt pl pd prc ns tu ba na ca bo tr tH asd pa tg sd sr)) (0) (8) (by omega) ?_ ?_) _ (rowOk_nil _)
  · intro g1 hg
    refine rh_iload_n hX dX8_greatest_14 rfl ?_
    refine rh_bipush hX dX8_greatest_15 kb_8 ?_
    refine rh_icmp_ge_t (tgt := 88) hX dX8_greatest_17 (by decide) (nI_le (a := 8) (b := 8) (Nat.le_refl 8) (by decide)) ?_
    refine rh_aload_n hX dX8_greatest_88 rfl ?_
    refine rh_get hX gl_X8_23 0 dX8_greatest_89 rfl rfl ?_
    refine rh_iconst hX dX8_greatest_92 ki_0 ?_
    refine rh_laload hX 5 0 dX8_greatest_93 rfl rn_c0 (by omega) (by decide) ?_
    rw [hg 0 (nI (rkN W9 8 0)).toInt64 (by simp)]
    refine rh_l2i hX dX8_greatest_94 ?_
    exact rh_iret hX hR dX8_greatest_95 (by simp only [List.map_cons, List.map_nil, List.cons_append, List.nil_append]) ⟨g1, 8, by rw [x_greatest, show UcF C T = W9 by unfold UcF; rw [hCu, hW9], Int32.toInt32_toInt64], by rw [x_greatest, show UcF C T = W9 by unfold UcF; rw [hCu, hW9]]; exact ⟨hg, by rw [List.length_map, List.length_range]⟩, rfl⟩
  · intro k hk0 hk ihk g1 hg
    refine rh_iload_n hX dX8_greatest_14 rfl ?_
    refine rh_bipush hX dX8_greatest_15 kb_8 ?_
    refine rh_icmp_ge_f (tgt := 88) hX dX8_greatest_17 (by decide) (nI_ge (b := 8) hk (by decide)) ?_
    refine rh_iconst hX dX8_greatest_20 ki_m1 ?_
    refine rh_istn3 hX dX8_greatest_21 (by decide) rfl ?_
    refine rh_iconst hX dX8_greatest_22 ki_0 ?_
    refine rh_ist4 hX dX8_greatest_23 (by decide) rfl ?_
    refine (rh_loop (P := fun j => ∀ bv, (topB W9 (gS W9 k) j bv) → G X 25 [some (.ref (B 0)), some (.int (nI (gS W9 k))), some (.int (nI k)), some (.int bv), some (.int (nI j))] [] (wM E B u kp ik ps pm dd tx ty g1 k 0 sz he wr mn vl tp lt ra pf pt pl pd prc ns tu ba na ca bo tr tH asd pa tg sd sr)) (0) (8) (by omega) ?_ ?_) (-1) (topB_0 _ _)
    · intro bv hT2
      obtain rfl := topB_end hk hT2
      have hr := (rkN_r (u := W9) hk).1
      refine rh_iload hX dX8_greatest_25 rfl ?_
      refine rh_bipush hX dX8_greatest_27 kb_8 ?_
      refine rh_icmp_ge_t (tgt := 70) hX dX8_greatest_29 (by decide) (nI_le (a := 8) (b := 8) (Nat.le_refl 8) (by decide)) ?_
      refine rh_iload_n hX dX8_greatest_70 rfl ?_
      refine rh_iconst hX dX8_greatest_71 ki_1 ?_
      refine rh_iload_n hX dX8_greatest_72 rfl ?_
      refine rh_ishl hX dX8_greatest_73 ?_
      refine rh_ior hX dX8_greatest_74 ?_
      rw [gS_next W9 hk]
      refine rh_istn1 hX dX8_greatest_75 (by decide) rfl ?_
      refine rh_aload_n hX dX8_greatest_76 rfl ?_
      refine rh_iload_n hX dX8_greatest_77 rfl ?_
      refine rh_i2l hX dX8_greatest_78 ?_
      refine rh_uV hX lk_X8_299 mvX8_tell (fun l => c_X8_tell l E _ _ _ _ _ _ _ _ _ _ k _ _ _ _ _ _ _ _ _ _ _ _ _ _ _ _ _ _ _ _ _ _ _ _ _ _ _ _ (by omega)) ⟨rfl, rfl⟩ ⟨Nat.le_of_ble_eq_true rfl, Nat.le_of_ble_eq_true rfl⟩ [0, 1, 2, 3, 4, 5, 6, 7, 8, 9, 10, 11, 12] rfl rfl 0 rfl dX8_greatest_79 rfl rfl (Nat.le_of_ble_eq_true rfl) rfl ?_
      dsimp only [List.cons_append, List.nil_append, List.set_cons_succ, List.set_cons_zero, vput]
      refine rh_inc2 hX dX8_greatest_82 (by decide) rfl (rn_i1 _) ?_
      refine rh_goto (tgt := 14) hX dX8_greatest_85 (by decide) ?_
      exact rh_wk (by exact ⟨rfl, rfl, rfl, trivial⟩) (ihk _ (by rw [range_push]; exact rowOk_push _ hg (by rw [List.length_map, List.length_range])))
    · intro j hj0 hj ihj bv hT2
      refine rh_iload hX dX8_greatest_25 rfl ?_
      refine rh_bipush hX dX8_greatest_27 kb_8 ?_
      refine rh_icmp_ge_f (tgt := 70) hX dX8_greatest_29 (by decide) (nI_ge (b := 8) hj (by decide)) ?_
      refine rh_iload_n hX dX8_greatest_32 rfl ?_
      refine rh_iload hX dX8_greatest_33 rfl ?_
      refine rh_ishr hX dX8_greatest_35 ?_
      refine rh_iconst hX dX8_greatest_36 ki_1 ?_
      refine rh_iand hX dX8_greatest_37 ?_
      refine rh_if_ne (tgt := 64) hX dX8_greatest_38 (by decide) (fun h38 => ?_) (fun h38 => ?_)
      · skip
        have h38 : ¬ sBit (nI (gS W9 k)) j = 0 := h38
        refine rh_inc4 hX dX8_greatest_64 (by decide) rfl (rn_i1 _) ?_
        refine rh_goto (tgt := 25) hX dX8_greatest_67 (by decide) ?_
        first | exact ihj _ (topB_skip hT2 ((sBit_01 _ _).resolve_left h38)) | exact ihj _ (topB_first hT2 h38 h43 hj) | exact ihj _ (topB_stay hb1 hb2 hb3 (fun q => by have q2 : cClaim (fm u) b T < cClaim (fm u) j T := (by rw [hW9] at q; exact q); rw [z_lt] at q2; rw [z_le] at h58; omega)) | exact ihj _ (topB_take hb3 h38 (by have q2 : cClaim (fm u) b T < cClaim (fm u) j T := (by rw [z_lt]; rw [z_le] at h58; omega); rw [hW9]; exact q2))
      · skip
        have h38 : ¬ sBit (nI (gS W9 k)) j = 1 := fun q => absurd ((show sBit (nI (gS W9 k)) j = 0 from h38).symm.trans q) (by decide)
        refine rh_iload_n hX dX8_greatest_41 rfl ?_
        refine rh_iconst hX dX8_greatest_42 ki_m1 ?_
        refine rh_icmp_eq (tgt := 61) hX dX8_greatest_43 (by decide) (fun h43 => ?_) (fun h43 => ?_)
        · skip
          refine rh_iload hX dX8_greatest_61 rfl ?_
          refine rh_istn3 hX dX8_greatest_63 (by decide) rfl ?_
          refine rh_inc4 hX dX8_greatest_64 (by decide) rfl (rn_i1 _) ?_
          refine rh_goto (tgt := 25) hX dX8_greatest_67 (by decide) ?_
          first | exact ihj _ (topB_skip hT2 ((sBit_01 _ _).resolve_left h38)) | exact ihj _ (topB_first hT2 h38 h43 hj) | exact ihj _ (topB_stay hb1 hb2 hb3 (fun q => by have q2 : cClaim (fm u) b T < cClaim (fm u) j T := (by rw [hW9] at q; exact q); rw [z_lt] at q2; rw [z_le] at h58; omega)) | exact ihj _ (topB_take hb3 h38 (by have q2 : cClaim (fm u) b T < cClaim (fm u) j T := (by rw [z_lt]; rw [z_le] at h58; omega); rw [hW9]; exact q2))
        · skip
          obtain ⟨b, rfl, hb1, hb2, hb3⟩ := topB_b hT2 h43
          refine rh_aload_n hX dX8_greatest_46 rfl ?_
          refine rh_iload hX dX8_greatest_47 rfl ?_
          refine rh_pV hX lk_X8_149 mvX8_stakeOf (fun l => c_X8_stakeOf l E _ _ _ _ _ _ _ _ _ _ _ _ _ _ _ _ _ _ _ _ _ _ _ _ _ _ _ _ _ _ _ _ _ _ _ _ _ _ j T hM (by omega)) ⟨rfl, rfl⟩ ⟨Nat.le_of_ble_eq_true rfl, Nat.le_of_ble_eq_true rfl⟩ [0, 1, 2, 3, 4, 5, 6, 7, 8, 9, 10, 11, 12] rfl rfl 0 rfl dX8_greatest_49 rfl rfl (Nat.le_of_ble_eq_true rfl) ?_
          refine rh_aload_n hX dX8_greatest_52 rfl ?_
          refine rh_iload_n hX dX8_greatest_53 rfl ?_
          refine rh_pV hX lk_X8_149 mvX8_stakeOf (fun l => c_X8_stakeOf l E _ _ _ _ _ _ _ _ _ _ _ _ _ _ _ _ _ _ _ _ _ _ _ _ _ _ _ _ _ _ _ _ _ _ _ _ _ _ b T hM (by omega)) ⟨rfl, rfl⟩ ⟨Nat.le_of_ble_eq_true rfl, Nat.le_of_ble_eq_true rfl⟩ [0, 1, 2, 3, 4, 5, 6, 7, 8, 9, 10, 11, 12] rfl rfl 0 rfl dX8_greatest_54 rfl rfl (Nat.le_of_ble_eq_true rfl) ?_
          refine rh_lle (tgt := 64) hX dX8_greatest_57 dX8_greatest_58 (by decide) (fun h58 => ?_) (fun h58 => ?_)
          · skip
            refine rh_inc4 hX dX8_greatest_64 (by decide) rfl (rn_i1 _) ?_
            refine rh_goto (tgt := 25) hX dX8_greatest_67 (by decide) ?_
            first | exact ihj _ (topB_skip hT2 ((sBit_01 _ _).resolve_left h38)) | exact ihj _ (topB_first hT2 h38 h43 hj) | exact ihj _ (topB_stay hb1 hb2 hb3 (fun q => by have q2 : cClaim (fm u) b T < cClaim (fm u) j T := (by rw [hW9] at q; exact q); rw [z_lt] at q2; rw [z_le] at h58; omega)) | exact ihj _ (topB_take hb3 h38 (by have q2 : cClaim (fm u) b T < cClaim (fm u) j T := (by rw [z_lt]; rw [z_le] at h58; omega); rw [hW9]; exact q2))
          · skip
            refine rh_iload hX dX8_greatest_61 rfl ?_
            refine rh_istn3 hX dX8_greatest_63 (by decide) rfl ?_
            refine rh_inc4 hX dX8_greatest_64 (by decide) rfl (rn_i1 _) ?_
            refine rh_goto (tgt := 25) hX dX8_greatest_67 (by decide) ?_
            first | exact ihj _ (topB_skip hT2 ((sBit_01 _ _).resolve_left h38)) | exact ihj _ (topB_first hT2 h38 h43 hj) | exact ihj _ (topB_stay hb1 hb2 hb3 (fun q => by have q2 : cClaim (fm u) b T < cClaim (fm u) j T := (by rw [hW9] at q; exact q); rw [z_lt] at q2; rw [z_le] at h58; omega)) | exact ihj _ (topB_take hb3 h38 (by have q2 : cClaim (fm u) b T < cClaim (fm u) j T := (by rw [z_lt]; rw [z_le] at h58; omega); rw [hW9]; exact q2))
