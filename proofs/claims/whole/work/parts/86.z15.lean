/-! ===== a round worked out: the model's beside the class's ===== -/
/-- the model's answer and row, the class's answer and house -/
def rkR (T : Nat) (mn : Nat → Int32) (ra pf pt pl vl : Int32) (pd : Int64) (R : LPR) (X : Int32 × Option ((Nat → Int64) × Int64 × Nat × Int64)) : Prop := (R.2 = none ∧ ¬ 0 ≤ R.1 ∧ X = (R.1, none)) ∨ (∃ p fd, R.2 = some p ∧ T < 6 ∧ p.2.2.2 ≤ 200 ∧ (1 ≤ p.2.1.toInt ∧ p.2.1.toInt ≤ 100000000) ∧ X = (p.2.1.toInt32, some (fd, p.2.2.1, p.2.2.2, cSize (fm (aM3 (aMq T mn ra pf pt pl vl pd p) T)) (T + 1))) ∧ (∀ x, x < 172 → fd x = fm (aM3 (aMq T mn ra pf pt pl vl pd p) T) x) ∧ mI (aM3 (aMq T mn ra pf pt pl vl pd p) T) (T + 1))
theorem rk_core {U : Nat → Int32} {T : Nat} {vl tp lt ra pf pt pl : Int32} {mn : Nat → Int32} {pd : Int64} {ca : Nat → Int64} {q : TS} (hI : mI U T) (hm : mnOk mn q.2.2.2.2.1 pd) (hpd : pd = q.2.2.2.2.2) (hF : rdF q (0, 0, vl, tp, lt, ra, pf, pt, pl)) : rkR T mn ra pf pt pl vl pd (if T = 6 then (-2, none) else mLp T vl tp lt mn pd (row1 (fun t => (U (64 + t)).toInt64) ca T) (cSize (fm U) T) (cAllVotes (fm U) T) (U 56) 200 U 0) (dSettle (fm U) T q.1 q.2.1 q.2.2.1 q.2.2.2.1 q.2.2.2.2.1 q.2.2.2.2.2) := by
  obtain ⟨hT, hT1, hT6, -⟩ := hI.ok
  obtain ⟨p1, p2, p3, p4, p5, p6, p7, p10, p11, p12, p13, p14, p15⟩ := hF
  have p1' : vl.toInt64 = q.1 := p1
  have p2' : tp.toInt64 = q.2.1 := p2
  have p3' : lt = q.2.2.1 := p3
  unfold dSettle
  by_cases e : T = 6
  · rw [if_pos e, if_pos (show 6 ≤ T by omega)]
    exact Or.inl ⟨rfl, by decide, rfl⟩
  · rw [if_neg e, if_neg (show ¬ 6 ≤ T by omega), ← p1', ← p2', ← p3', ← hpd, if_neg (c := 1000000000 < vl.toInt64) (fun z => by rw [z_lt, z_l, bil_z] at z; have : vl.toInt ≤ 1000000000 := p15.2; omega)]
    have hpool : fm U 170 = (U 56).toInt64 := (fm_pool U).symm
    have hca : ∀ t, 1 ≤ t → t < T → row1 (fun c => cFact (fm U) c 1) (fun _ => 0) T t = row1 (fun t => (U (64 + t)).toInt64) ca T t ∧ 1 ≤ (row1 (fun t => (U (64 + t)).toInt64) ca T t).toInt ∧ (row1 (fun t => (U (64 + t)).toInt64) ca T t).toInt ≤ (cFact (fm U) t 0).toInt := by
      intro t t1 t2
      have e1 : (U (64 + t)).toInt64 = cFact (fm U) t 1 := fm_fact U (k := 1) (by omega) (by omega)
      obtain ⟨b1, b2, b3⟩ := hI.b.2.2.2.2.1 t t1 t2
      unfold row1
      rw [if_pos ⟨t1, t2⟩, if_pos ⟨t1, t2⟩]
      show cFact (fm U) t 1 = (U (64 + t)).toInt64 ∧ 1 ≤ (U (64 + t)).toInt64.toInt ∧ (U (64 + t)).toInt64.toInt ≤ _
      rw [e1]
      exact ⟨rfl, b1, b2⟩
    have h := lp_rel (u := U) (T := T) (vl := vl) (tp := tp) (lt := lt) (pA := U 56) hm p15 p10 hI.size_b hI.votes_b hI.rest.2.1 hca 200 U 0 hI.t (fun _ _ _ => rfl)
    rw [Nat.zero_add, ← hpool] at h
    have hneg := mLp_neg T vl tp lt mn pd (row1 (fun t => (U (64 + t)).toInt64) ca T) (cSize (fm U) T) (cAllVotes (fm U) T) (U 56) 200 U 0
    rcases h with ⟨h1, h2⟩ | ⟨p, h1, h2, h3⟩
    · rw [h2]
      refine Or.inl ⟨h1, ?_, rfl⟩
      rcases hneg with z | ⟨z, z1, z2⟩
      · exact z.2
      · rw [h1] at z1; cases z1
    · rw [h2]
      obtain ⟨a1, a2, a3, a4⟩ := add_rel (vl := vl) (fc := q.2.2.2.1) hI (by omega) hm h3 p11 p12 p13 p14 p4 p5 p6 p7
      refine Or.inr ⟨p, acF (fm p.1) T q.2.2.2.1 q.2.2.2.2.1 p.2.1 vl.toInt64 pd p.2.2.1 (nI p.2.2.2).toInt64 (cSize (fm p.1) T + p.2.2.1), h1, by omega, h3.2.2.2.1, h3.2.1, ?_, a3, a2⟩
      show (p.2.1.toInt32, some _) = _
      rw [a4]
theorem rk_rel {u : Nat → Int32} {T : Nat} {vl tp lt ra pf pt pl : Int32} {mn : Nat → Int32} {pd : Int64} {ca tr : Nat → Int64} {q : TS} (hI : mI u T) (hm : mnOk mn q.2.2.2.2.1 pd) (hpd : pd = q.2.2.2.2.2) (hF : rdF q (0, 0, vl, tp, lt, ra, pf, pt, pl)) : rkR T mn ra pf pt pl vl pd (mRk u T vl tp lt mn pd ca tr) (xDS (fm u) T q) := by
  have hr := pT_rel (tr := tr) (lst := fun _ => 0) hI hm T (Nat.le_refl T)
  have e : (xBg (fm u) T q).1 = fm (mU0 u T mn pd tr) := by
    unfold xBg mU0
    rw [← hpd]
    exact hr.1
  unfold mRk xDS
  rw [e]
  exact rk_core hr.2.2.2 hm hpd hF
theorem hc8_of {u : Nat → Int32} {T : Nat} (hI : mI u T) : ∀ t, 1 ≤ t → t < T → 1 ≤ (u (64 + t)).toInt ∧ (u (64 + t)).toInt ≤ 100000000 := by
  intro t t1 t2
  have h6 := hI.ok.2.2.1
  have e1 : (u (64 + t)).toInt64 = cFact (fm u) t 1 := fm_fact u (k := 1) (by omega) (by omega)
  obtain ⟨b1, b2, b3⟩ := hI.b.2.2.2.2.1 t t1 t2
  rw [← z_l, e1]
  omega
/-! all ratchets of one kind -/
def uRk (u : Nat → Int32) (k : Int32) (c : Nat) : Nat → Int32 := fun x => if 71 ≤ x ∧ x < 70 + c then k else u x
theorem uRk_1 (u : Nat → Int32) (k : Int32) : uRk u k 1 = u := by
  funext x
  unfold uRk
  rw [if_neg (by omega)]
theorem uRk_s (u : Nat → Int32) (k : Int32) {c : Nat} (h : 1 ≤ c) : va_up (uRk u k c) (70 + c) k = uRk u k (c + 1) := by
  funext x
  unfold va_up uRk
  by_cases e : x = 70 + c
  · rw [if_pos e, if_pos (by omega)]
  · rw [if_neg e]
    by_cases a : 71 ≤ x ∧ x < 70 + c
    · rw [if_pos a, if_pos (by omega)]
    · rw [if_neg a, if_neg (by omega)]
theorem uRk_57 (u : Nat → Int32) (k : Int32) {c : Nat} : uRk u k c 57 = u 57 := by
  unfold uRk
  rw [if_neg (by omega)]
theorem piM_rat {x T : Nat} (hT : T ≤ 6) : (71 ≤ piM x ∧ piM x < 70 + T) ↔ (115 ≤ x ∧ x < 104 + T * 11 ∧ (x - 104) % 11 = 2) := by
  unfold piM
  by_cases a : x < 48
  · rw [if_pos a]; omega
  · rw [if_neg a]
    by_cases b : x < 96
    · rw [if_pos b]; omega
    · rw [if_neg b]
      by_cases c : x < 104
      · rw [if_pos c]; omega
      · rw [if_neg c]
        by_cases d : x < 170
        · rw [if_pos d]
          obtain ⟨t, w, ht, hw, hx⟩ : ∃ t w, t < 6 ∧ w < 11 ∧ x = 104 + t * 11 + w := ⟨(x - 104) / 11, (x - 104) % 11, by omega, by omega, by omega⟩
          have e1 : (x - 104) % 11 = w := by omega
          have e2 : (x - 104) / 11 = t := by omega
          rw [e1, e2]
          by_cases g : w < 6
          · rw [if_pos g]
            rcases (show w = 0 ∨ w = 1 ∨ w = 2 ∨ 3 ≤ w by omega) with q | q | q | q
            · rw [q]; omega
            · rw [q]; omega
            · rw [q]; omega
            · omega
          · rw [if_neg g]; omega
        · rw [if_neg d]
          by_cases g : x = 170
          · rw [if_pos g]; omega
          · rw [if_neg g]; omega
theorem fm_uRk (u : Nat → Int32) (k : Int32) {T : Nat} (hT : T ≤ 6) : fm (uRk u k T) = srF (fm u) k.toInt64 T := by
  funext x
  unfold fm uRk srF
  by_cases h : 71 ≤ piM x ∧ piM x < 70 + T
  · rw [if_pos h, if_pos ((piM_rat hT).mp h)]
  · rw [if_neg h, if_neg (fun q => h ((piM_rat hT).mpr q))]
theorem mI_uRk {u : Nat → Int32} {T k : Nat} (hI : mI u T) (hk : k < 4) : mI (uRk u (nI k) T) T := by
  obtain ⟨hT, hT1, hT6, hcv⟩ := hI.ok
  have hx : ∀ x, ¬ (71 ≤ x ∧ x < 70 + T) → uRk u (nI k) T x = u x := fun x h => by unfold uRk; rw [if_neg h]
  have cF : ∀ t w, t < 6 → w < 6 → ¬ w = 2 → cFact (fm (uRk u (nI k) T)) t w = cFact (fm u) t w := fun t w h1 hw h2 => by
    rw [← fm_fact _ h1 hw, ← fm_fact u h1 hw, hx _ (by omega)]
  have cH : ∀ h t, h < 8 → t < 6 → cHeld (fm (uRk u (nI k) T)) h t = cHeld (fm u) h t := fun h t hh h1 => by
    rw [← fm_held _ hh h1, ← fm_held u hh h1, hx _ (by omega)]
  have cG : ∀ h, h < 8 → cGranted (fm (uRk u (nI k) T)) h = cGranted (fm u) h := fun h hh => by
    rw [← fm_granted _ hh, ← fm_granted u hh, hx _ (by omega)]
  have cP : fm (uRk u (nI k) T) 170 = fm u 170 := by rw [← fm_pool, ← fm_pool, hx _ (by omega)]
  have hg : gB (fm (uRk u (nI k) T)) T := by
    refine ⟨hT6, fun h t hh h1 => by rw [cH h t hh (by omega)]; exact hI.b.2.1 h t hh h1, fun h hh => by rw [cG h hh]; exact hI.b.2.2.1 h hh, by rw [cP]; exact hI.b.2.2.2.1, fun t t1 t2 => ?_⟩
    rw [cF t 0 (by omega) (by omega) (by omega), cF t 1 (by omega) (by omega) (by omega)]
    exact hI.b.2.2.2.2.1 t t1 t2
  have hz : zSz (fm (uRk u (nI k) T)) T = zSz (fm u) T := by
    unfold zSz zAV zV
    rw [sumZ_ext (k := fun h => sumZ (fun c => zC (fm u) c (cHeld (fm u) h c).toInt) T) (fun h hh => sumZ_ext (fun c hc => by rw [cH h c hh (by omega), zC_same (f := fm u) (cF c 0 (by omega) (by omega) (by omega)) (cF c 1 (by omega) (by omega) (by omega))])), cP, show zAG (fm (uRk u (nI k) T)) = zAG (fm u) from sumZ_ext (fun h hh => by rw [cG h hh])]
  have hsz := hI.2.2.2.2.2
  refine ⟨⟨by rw [hx _ (by omega)]; exact hT, hT1, hT6, fun t t1 t2 => by rw [cF t 1 (by omega) (by omega) (by omega)]; exact hcv t t1 t2⟩, hg.mk (by omega), fun t t1 t2 => ?_, fun h t hh h1 h2 => by rw [hx _ (by omega)]; exact hI.2.2.2.1 h t hh h1 h2, fun h t hh h6 => ?_, by omega⟩
  · have e2 : cFact (fm (uRk u (nI k) T)) t 2 = (nI k).toInt64 := by
      rw [← fm_fact _ (by omega) (by omega)]
      unfold uRk
      rw [if_pos (by omega)]
    rw [e2, cF t 3 (by omega) (by omega) (by omega), cF t 4 (by omega) (by omega) (by omega), cF t 5 (by omega) (by omega) (by omega), z_l, nI_toInt (by omega)]
    exact ⟨by omega, (hI.r t t1 t2).2⟩
  · rw [← fm_given _ hh h6, hx _ (by omega), fm_given u hh h6]
    exact hI.2.2.2.2.1 h t hh h6
/-- two rows that differ in ratchets alone play alike -/
theorem pGo_rat {mn : Nat → Int32} {pd : Int64} {t : Nat} {all : Int64} {h : Nat} {k : Int32} {c : Nat} {s d : PL} (hh : h < 8) (h1 : 1 ≤ t) (ht : t < 6) (hc : c ≤ 6) (hs : s.1 = uRk d.1 k c) (h2 : s.2 = d.2) : (pGo mn pd 1 t all h s).1 = uRk (pGo mn pd 1 t all h d).1 k c ∧ (pGo mn pd 1 t all h s).2 = (pGo mn pd 1 t all h d).2 := by
  have e : ∀ x, ¬ (71 ≤ x ∧ x < 70 + c) → s.1 x = d.1 x := fun x hx => by rw [hs]; unfold uRk; rw [if_neg hx]
  have hg : mGo s.1 mn pd h t all = mGo d.1 mn pd h t all := by
    unfold mGo
    rw [e _ (by omega), e _ (by omega)]
  have hcv : ∀ v, cConv (fm s.1) t v = cConv (fm d.1) t v := fun v => by
    unfold cConv
    rw [show cFact (fm s.1) t 0 = cFact (fm d.1) t 0 by rw [← fm_fact s.1 ht (by omega), ← fm_fact d.1 ht (by omega), e _ (by omega)], show cFact (fm s.1) t 1 = cFact (fm d.1) t 1 by rw [← fm_fact s.1 ht (by omega), ← fm_fact d.1 ht (by omega), e _ (by omega)]]
  unfold pGo
  rw [hg]
  by_cases q : mGo d.1 mn pd h t all = true
  · rw [if_pos q, if_pos q, if_neg (show ¬ (1 : Int32) = 0 by decide), if_neg (show ¬ (1 : Int32) = 0 by decide), hcv, e _ (by omega), e _ (by omega), h2]
    refine ⟨?_, rfl⟩
    funext x
    show va_up (va_up s.1 (6 * h + 0) (d.1 (6 * h + 0) + (cConv (fm d.1) t (d.1 (6 * h + t)).toInt64).toInt32)) (6 * h + t) 0 x = uRk (va_up (va_up d.1 (6 * h + 0) (d.1 (6 * h + 0) + (cConv (fm d.1) t (d.1 (6 * h + t)).toInt64).toInt32)) (6 * h + t) 0) k c x
    by_cases a : 71 ≤ x ∧ x < 70 + c
    · rw [up_ne _ _ (by omega), up_ne _ _ (by omega), hs]
      unfold uRk
      rw [if_pos a, if_pos a]
    · unfold uRk
      rw [if_neg a]
      by_cases b : x = 6 * h + t
      · rw [b, up_same, up_same]
      · rw [up_ne _ _ b, up_ne _ _ b]
        by_cases g : x = 6 * h + 0
        · rw [g, up_same, up_same]
        · rw [up_ne _ _ g, up_ne _ _ g]; exact e x a
  · rw [if_neg q, if_neg q]
    exact ⟨hs, h2⟩
theorem pH_rat {mn : Nat → Int32} {pd : Int64} {t : Nat} {all : Int64} {k : Int32} {c : Nat} {s d : PL} (h1 : 1 ≤ t) (ht : t < 6) (hc : c ≤ 6) (hs : s.1 = uRk d.1 k c) (h2 : s.2 = d.2) : ∀ h : Nat, h ≤ 8 → (pH mn pd 1 t all s h).1 = uRk (pH mn pd 1 t all d h).1 k c ∧ (pH mn pd 1 t all s h).2 = (pH mn pd 1 t all d h).2
  | 0, _ => by rw [pH_0, pH_0]; exact ⟨hs, h2⟩
  | h + 1, hh => by
    obtain ⟨a, b⟩ := pH_rat (mn := mn) (pd := pd) (all := all) h1 ht hc hs h2 h (by omega)
    rw [pH_s, pH_s]
    exact pGo_rat (by omega) h1 ht hc a b
theorem pT_rat {mn : Nat → Int32} {pd : Int64} {k : Int32} {c : Nat} {u : Nat → Int32} {tr : Nat → Int64} (hc : c ≤ 6) : ∀ t : Nat, t ≤ 6 → (pT mn pd 1 (uRk u k c, tr, 0) t).1 = uRk (pT mn pd 1 (u, tr, 0) t).1 k c ∧ (pT mn pd 1 (uRk u k c, tr, 0) t).2 = (pT mn pd 1 (u, tr, 0) t).2
  | 0, _ => by rw [pT, pT]; exact ⟨rfl, rfl⟩
  | t + 1, ht => by
    by_cases e : t = 0
    · rw [pT, pT, if_pos e, if_pos e]; exact ⟨rfl, rfl⟩
    · obtain ⟨a, b⟩ := pT_rat (mn := mn) (pd := pd) (k := k) (u := u) (tr := tr) hc t (by omega)
      rw [pT_s _ _ _ _ (by omega), pT_s _ _ _ _ (by omega)]
      have ha : cAllHeld (fm (pT mn pd 1 (uRk u k c, tr, 0) t).1) t = cAllHeld (fm (pT mn pd 1 (u, tr, 0) t).1) t := by
        unfold cAllHeld
        refine sumF_ext (fun h hh => ?_)
        rw [← fm_held _ hh (by omega), ← fm_held _ hh (by omega), a]
        unfold uRk
        rw [if_neg (by omega)]
      rw [ha, b]
      exact pH_rat (t := t) (s := ((pT mn pd 1 (uRk u k c, tr, 0) t).1, va_up (pT mn pd 1 (u, tr, 0) t).2.1 t 0, (pT mn pd 1 (u, tr, 0) t).2.2)) (d := ((pT mn pd 1 (u, tr, 0) t).1, va_up (pT mn pd 1 (u, tr, 0) t).2.1 t 0, (pT mn pd 1 (u, tr, 0) t).2.2)) (by omega) (by omega) hc a rfl 8 (by omega)
theorem rk_rat {u : Nat → Int32} {T k : Nat} {vl tp lt ra pf pt pl : Int32} {mn : Nat → Int32} {pd : Int64} {ca tr : Nat → Int64} {q : TS} (hI : mI u T) (hk : k < 4) (hm : mnOk mn q.2.2.2.2.1 pd) (hpd : pd = q.2.2.2.2.2) (hF : rdF q (0, 0, vl, tp, lt, ra, pf, pt, pl)) : rkR T mn ra pf pt pl vl pd (mRk (uRk u (nI k) T) T vl tp lt mn pd ca tr) (dSettle (srF (xBg (fm u) T q).1 (nI k).toInt64 T) T q.1 q.2.1 q.2.2.1 q.2.2.2.1 q.2.2.2.2.1 q.2.2.2.2.2) := by
  have h6 := hI.ok.2.2.1
  have hr := pT_rel (tr := tr) (lst := fun _ => 0) hI hm T (Nat.le_refl T)
  have hr2 := pT_rat (mn := mn) (pd := pd) (k := nI k) (u := u) (tr := tr) h6 T h6
  have e : srF (xBg (fm u) T q).1 (nI k).toInt64 T = fm (mU0 (uRk u (nI k) T) T mn pd tr) := by
    unfold xBg mU0
    rw [← hpd, hr.1, hr2.1, fm_uRk _ _ h6]
  unfold mRk
  rw [e]
  have hIk : mI (mU0 (uRk u (nI k) T) T mn pd tr) T := by
    unfold mU0
    rw [hr2.1]
    exact mI_uRk hr.2.2.2 hk
  exact rk_core hIk hm hpd hF
/-! the founders -/
theorem fdL_in (g : Nat → Int64) {h : Nat} (hh : h < 8) : ∀ i : Nat, i ≤ 8 → ∀ t, t < 6 → fdL g i (0 + h * 6 + t) = if t = 0 ∧ h < i then g h else 0
  | 0, _, t, ht => by
    rw [fdL_0, if_neg (by omega)]
    unfold cInit
    rw [if_neg (by omega)]
  | i + 1, hi, t, ht => by
    have ih := fdL_in g hh i (by omega) t ht
    rw [fdL_s]
    by_cases e : 0 + h * 6 + t = 0 + i * 6 + 0
    · have e1 : h = i := by omega
      have e2 : t = 0 := by omega
      rw [e, up_same, if_pos (by omega)]
      have := fdL_in g (h := i) (by omega) i (by omega) 0 (by omega)
      unfold cHeld
      rw [this, if_neg (by omega), Int64.zero_add, e1]
    · rw [up_ne _ _ e, ih]
      by_cases q : t = 0 ∧ h < i
      · rw [if_pos q, if_pos (by omega)]
      · rw [if_neg q, if_neg (by omega)]
def fR1 (X : Int32 × CT) (Y : YR) (C : CT) : Prop := X.1 = Y.1 ∧ (Y.2 = none → X.2 = clT C) ∧ ∀ u1, Y.2 = some u1 → ∃ fd, X.2 = accC (clT C) fd ∧ (∀ x, x < 172 → fd x = fm u1 x) ∧ mI u1 1
theorem eq_founds {C : CT} {tx : Nat → Int32} {n : Nat} (hb : byteOk tx n) (hn : n ≤ 200) (ht : C.2.2.2.2.2.2.2.1 = sC tx) (hl : C.2.2.2.2.2.2.2.2.1 = n) : fR1 (x_founds C) (y_founds tx n) C := by
  have hr := fa_rel hb hn
  have hN : tNums C = rNums (sC tx) n := by unfold tNums; rw [ht, hl]
  unfold x_founds y_founds
  rw [hN]
  generalize rNums (sC tx) n = c at hr ⊢
  generalize mFa tx n = R at hr ⊢
  by_cases g : c.1 = true
  · obtain ⟨r1, r2⟩ := hr.1 g
    rw [if_pos g, if_pos r1]
    have cH : ∀ h t, h < 8 → t < 6 → cHeld (fdL c.2.2 8) h t = if t = 0 then (R.2 h).toInt64 else 0 := fun h t hh h6 => by
      show fdL c.2.2 8 (0 + h * 6 + t) = _
      rw [fdL_in _ hh 8 (Nat.le_refl 8) t h6]
      by_cases q : t = 0
      · rw [if_pos (by omega), if_pos q, (r2 h hh).1]
      · rw [if_neg (by omega), if_neg q]
    have cI : ∀ x, 48 ≤ x → fdL c.2.2 8 x = cInit x := fun x hx => fdL_at _ x hx 8 (Nat.le_refl 8)
    have i0 : ∀ x, ¬ x = 171 → cInit x = 0 := fun x hx => by unfold cInit; rw [if_neg hx]
    have hg : gB (fdL c.2.2 8) 1 := by
      refine ⟨by omega, fun h t hh h1 => ?_, fun h hh => ?_, ?_, fun t t1 t2 => absurd t2 (by omega)⟩
      · rw [cH h t hh (by omega), if_pos (by omega), z_l]; exact (r2 h hh).2.1
      · rw [show cGranted (fdL c.2.2 8) h = 0 by unfold cGranted; rw [cI _ (by omega), i0 _ (by omega)]]; decide
      · rw [cI _ (by omega), i0 _ (by omega)]; decide
    have zT : zTot (fdL c.2.2 8) 1 = sumZ (fun h => (R.2 h).toInt) 8 := sumZ_ext (fun h hh => by rw [sumZ, sumZ, cH h 0 hh (by omega), if_pos rfl, z_l]; omega)
    have zG : zAG (fdL c.2.2 8) = 0 := by
      unfold zAG
      rw [sumZ_ext (k := fun _ => 0) (fun h hh => by rw [show cGranted (fdL c.2.2 8) h = 0 by unfold cGranted; rw [cI _ (by omega), i0 _ (by omega)]]; rfl)]
      exact sumZ_zero 8
    have zP : (fdL c.2.2 8 170).toInt = 0 := by rw [cI _ (by omega), i0 _ (by omega)]; rfl
    have hle := sumZ_le_c (g := fun h => (R.2 h).toInt) (c := 999999999) (n := 8) (fun h hh => (r2 h hh).2.2)
    have h0 := sumZ_nn (g := fun h => (R.2 h).toInt) (n := 8) (fun h hh => (r2 h hh).2.1)
    have hB : fB (fdL c.2.2 8) 1 := hg.mk2 (by rw [zT]; omega) (by rw [zG]; omega) (by rw [zP]; omega)
    have zA : zAV (fdL c.2.2 8) 1 = sumZ (fun h => (R.2 h).toInt) 8 := sumZ_ext (fun h hh => by unfold zV; rw [sumZ, sumZ, zC_0, cH h 0 hh (by omega), if_pos rfl, z_l]; omega)
    have zS : zSz (fdL c.2.2 8) 1 = sumZ (fun h => (R.2 h).toInt) 8 := by unfold zSz; rw [zA, zG, zP]; omega
    have hS : fdS R.2 = cSize (fdL c.2.2 8) 1 := by
      apply Int64.toInt_inj.mp
      rw [cSize_z hB, zS]
      exact sumF_z0 (fun h hh => z_l _) (fun h hh => (r2 h hh).2.1) (by omega)
    rw [hS]
    unfold xDeed
    by_cases m : 1000000000 < cSize (fdL c.2.2 8) 1
    · rw [if_pos m, if_pos m]
      exact ⟨rfl, fun _ => rfl, (fun _ h => by cases h)⟩
    · rw [if_neg m, if_neg m]
      rw [much_z hB, zS] at m
      refine ⟨rfl, (fun h => by cases h), (fun u1 h => ?_)⟩
      cases h
      have uin : ∀ x, x < 48 → fdU R.2 8 x = if x % 6 = 0 then R.2 (x / 6) else 0 := fun x hx => by
        unfold fdU
        by_cases q : x % 6 = 0
        · rw [if_pos (by omega), if_pos q]
        · rw [if_neg (by omega), if_neg q, if_neg (by omega)]
      have uhi : ∀ x, 48 ≤ x → ¬ x = 57 → fdU R.2 8 x = 0 := fun x hx h57 => by
        unfold fdU
        rw [if_neg (by omega), if_neg h57]
      have u57 : fdU R.2 8 57 = 1 := rfl
      have hcell : ∀ x, x < 172 → fdL c.2.2 8 x = fm (fdU R.2 8) x := by
        intro x hx
        by_cases p1 : x < 48
        · have ex : 0 + x / 6 * 6 + x % 6 = x := by omega
          have := cH (x / 6) (x % 6) (by omega) (by omega)
          unfold cHeld at this
          rw [ex] at this
          rw [this]
          unfold fm
          rw [show piM x = x by unfold piM; rw [if_pos p1], uin x p1]
          by_cases q : x % 6 = 0
          · rw [if_pos q, if_pos q]
          · rw [if_neg q, if_neg q]; rfl
        · rw [cI _ (by omega)]
          by_cases p2 : x = 171
          · rw [p2, ← fm_types, u57]; rfl
          · rw [i0 _ p2]
            unfold fm
            have p48 : 48 ≤ piM x := by
              unfold piM
              repeat' split
              all_goals omega
            rw [uhi _ p48 (fun z => by
              have : ∀ y, y < 172 → piM y = 57 → y = 171 := by
                intro y hy
                unfold piM
                repeat' split
                all_goals omega
              exact p2 (this x hx z))]
            rfl
      have cH2 : ∀ h t, h < 8 → t < 6 → cHeld (fm (fdU R.2 8)) h t = cHeld (fdL c.2.2 8) h t := fun h t hh h6 => (hcell _ (by omega)).symm
      have cG2 : ∀ h, h < 8 → cGranted (fm (fdU R.2 8)) h = cGranted (fdL c.2.2 8) h := fun h hh => (hcell _ (by omega)).symm
      have cP2 : fm (fdU R.2 8) 170 = fdL c.2.2 8 170 := (hcell _ (by omega)).symm
      have hg2 : gB (fm (fdU R.2 8)) 1 := ⟨by omega, fun h t hh h1 => by rw [cH2 h t hh (by omega)]; exact hg.2.1 h t hh h1, fun h hh => by rw [cG2 h hh]; exact hg.2.2.1 h hh, by rw [cP2]; exact hg.2.2.2.1, fun t t1 t2 => absurd t2 (by omega)⟩
      have zS2 : zSz (fm (fdU R.2 8)) 1 = zSz (fdL c.2.2 8) 1 := by
        unfold zSz zAV zV
        rw [cP2, show zAG (fm (fdU R.2 8)) = zAG (fdL c.2.2 8) from sumZ_ext (fun h hh => by rw [cG2 h hh]), sumZ_ext (k := fun h => sumZ (fun c_1 => zC (fdL c.2.2 8) c_1 (cHeld (fdL c.2.2 8) h c_1).toInt) 1) (fun h hh => by rw [sumZ, sumZ, sumZ, sumZ, zC_0, zC_0, cH2 h 0 hh (by omega)])]
      refine ⟨_, rfl, hcell, ⟨u57, by omega, by omega, fun t t1 t2 => absurd t2 (by omega)⟩, hg2.mk (by omega), fun t t1 t2 => absurd t2 (by omega), fun h t hh h1 h2 => ?_, fun h t hh h6 => ?_, by omega⟩
      · rw [uin _ (by omega), if_neg (by omega)]
      · rw [← fm_given _ hh h6, uhi _ (by omega) (by omega)]; decide
  · obtain ⟨r1, r2⟩ := hr.2 (by cases h : c.1 with
      | true => exact absurd h g
      | false => rfl)
    rw [if_neg g, if_neg (by rw [r1]; exact nI_ne1 (by omega)), r1]
    exact ⟨rfl, fun _ => rfl, (fun _ h => by cases h)⟩
