/-! ===== the new class: the model's rows beside the class's cells ===== -/
/-- cells that the new class doesn't touch -/
theorem aM_old {U : Nat → Int32} {T : Nat} {mn : Nat → Int32} {ra pf pt pl vl : Int32} {pd : Int64} {q : (Nat → Int32) × Int64 × Int64 × Nat} (hq : q.1 = U) (hT : T < 6) {x : Nat} (h0 : ¬ (x < 48 ∧ x % 6 = T)) (h1 : ¬ x = 57) (h2 : ¬ (58 ≤ x ∧ x < 94 ∧ (x - 58) % 6 = T)) (h3 : ¬ (94 ≤ x ∧ x < 124 ∧ (x - 94) / 5 = T)) (h4 : ¬ (124 ≤ x ∧ (x - 124) % 6 = T)) : aM3 (aMq T mn ra pf pt pl vl pd q) T x = U x := by
  unfold aM3 aMq aM2
  rw [up_ne _ _ (by omega), up_ne _ _ (by omega), up_ne _ _ (by omega), up_ne _ _ (by omega), up_ne _ _ (by omega), up_ne _ _ (by omega), up_ne _ _ (by omega), up_ne _ _ (by omega), up_ne _ _ (by omega), up_ne _ _ (by omega), up_ne _ _ (by omega)]
  unfold aM1
  rw [if_neg (by omega), if_neg (by omega), up_ne _ _ (by omega), hq]
theorem aM_57 {T : Nat} {mn : Nat → Int32} {ra pf pt pl vl : Int32} {pd : Int64} {q : (Nat → Int32) × Int64 × Int64 × Nat} (hT : T < 6) : aM3 (aMq T mn ra pf pt pl vl pd q) T 57 = nI T + 1 := by
  unfold aM3 aMq aM2
  rw [up_ne _ _ (by omega), up_ne _ _ (by omega), up_ne _ _ (by omega), up_ne _ _ (by omega), up_ne _ _ (by omega), up_ne _ _ (by omega), up_ne _ _ (by omega), up_ne _ _ (by omega), up_ne _ _ (by omega), up_ne _ _ (by omega), up_ne _ _ (by omega)]
  unfold aM1
  rw [if_neg (by omega), if_neg (by omega), up_same]
theorem aM_held {T : Nat} {mn : Nat → Int32} {ra pf pt pl vl : Int32} {pd : Int64} {q : (Nat → Int32) × Int64 × Int64 × Nat} (hT : T < 6) {h : Nat} (hh : h < 8) : aM3 (aMq T mn ra pf pt pl vl pd q) T (6 * h + T) = (10000 * (mn h).toInt64 / q.2.1).toInt32 := by
  unfold aM3 aMq aM2
  rw [up_ne _ _ (by omega), up_ne _ _ (by omega), up_ne _ _ (by omega), up_ne _ _ (by omega), up_ne _ _ (by omega), up_ne _ _ (by omega), up_ne _ _ (by omega), up_ne _ _ (by omega), up_ne _ _ (by omega), up_ne _ _ (by omega), up_ne _ _ (by omega)]
  unfold aM1
  rw [if_pos (by omega), show (6 * h + T) / 6 = h by omega]
theorem aM_given {T : Nat} {mn : Nat → Int32} {ra pf pt pl vl : Int32} {pd : Int64} {q : (Nat → Int32) × Int64 × Int64 × Nat} (hT : T < 6) {h : Nat} (hh : h < 8) : aM3 (aMq T mn ra pf pt pl vl pd q) T (124 + 6 * h + T) = mn h := by
  unfold aM3 aMq aM2
  rw [up_ne _ _ (by omega), up_ne _ _ (by omega), up_ne _ _ (by omega), up_ne _ _ (by omega), up_ne _ _ (by omega), up_ne _ _ (by omega), up_ne _ _ (by omega), up_ne _ _ (by omega), up_ne _ _ (by omega), up_ne _ _ (by omega), up_ne _ _ (by omega)]
  unfold aM1
  rw [if_neg (by omega), if_pos (by omega), show (124 + 6 * h + T - 124) / 6 = h by omega]
/-- the new class's facts, by their number -/
def aMf (q : (Nat → Int32) × Int64 × Int64 × Nat) (ra pf pt pl vl : Int32) (pd : Int64) (fl : Int32) : Nat → Int32
  | 0 => q.2.1.toInt32
  | 1 => q.2.1.toInt32
  | 2 => ra
  | 3 => pf
  | 4 => pt
  | 5 => pl
  | 6 => vl
  | 7 => pd.toInt32
  | 8 => q.2.2.1.toInt32
  | 9 => nI q.2.2.2
  | _ => fl
theorem aM_fact {T : Nat} {mn : Nat → Int32} {ra pf pt pl vl : Int32} {pd : Int64} {q : (Nat → Int32) × Int64 × Int64 × Nat} (hT : T < 6) {w : Nat} (hw : w < 6) : aM3 (aMq T mn ra pf pt pl vl pd q) T (58 + 6 * w + T) = aMf q ra pf pt pl vl pd (cSize (fm (aMq T mn ra pf pt pl vl pd q)) (T + 1)).toInt32 w := by
  unfold aM3 aMq aM2
  match w, hw with
  | 0, _ => rw [up_ne _ _ (by omega), up_ne _ _ (by omega), up_ne _ _ (by omega), up_ne _ _ (by omega), up_ne _ _ (by omega), up_ne _ _ (by omega), up_ne _ _ (by omega), up_ne _ _ (by omega), up_ne _ _ (by omega), up_ne _ _ (by omega)]; exact up_same _ _ _
  | 1, _ => rw [up_ne _ _ (by omega), up_ne _ _ (by omega), up_ne _ _ (by omega), up_ne _ _ (by omega), up_ne _ _ (by omega), up_ne _ _ (by omega), up_ne _ _ (by omega), up_ne _ _ (by omega), up_ne _ _ (by omega)]; exact up_same _ _ _
  | 2, _ => rw [up_ne _ _ (by omega), up_ne _ _ (by omega), up_ne _ _ (by omega), up_ne _ _ (by omega), up_ne _ _ (by omega), up_ne _ _ (by omega), up_ne _ _ (by omega), up_ne _ _ (by omega)]; exact up_same _ _ _
  | 3, _ => rw [up_ne _ _ (by omega), up_ne _ _ (by omega), up_ne _ _ (by omega), up_ne _ _ (by omega), up_ne _ _ (by omega), up_ne _ _ (by omega), up_ne _ _ (by omega)]; exact up_same _ _ _
  | 4, _ => rw [up_ne _ _ (by omega), up_ne _ _ (by omega), up_ne _ _ (by omega), up_ne _ _ (by omega), up_ne _ _ (by omega), up_ne _ _ (by omega)]; exact up_same _ _ _
  | 5, _ => rw [up_ne _ _ (by omega), up_ne _ _ (by omega), up_ne _ _ (by omega), up_ne _ _ (by omega), up_ne _ _ (by omega)]; exact up_same _ _ _
theorem aM_told {T : Nat} {mn : Nat → Int32} {ra pf pt pl vl : Int32} {pd : Int64} {q : (Nat → Int32) × Int64 × Int64 × Nat} (hT : T < 6) {w : Nat} (hw : w < 5) : aM3 (aMq T mn ra pf pt pl vl pd q) T (94 + 5 * T + w) = aMf q ra pf pt pl vl pd (cSize (fm (aMq T mn ra pf pt pl vl pd q)) (T + 1)).toInt32 (6 + w) := by
  unfold aM3
  match w, hw with
  | 4, _ => exact up_same _ _ _
  | 0, _ => rw [up_ne _ _ (by omega)]; unfold aMq aM2; rw [up_ne _ _ (by omega), up_ne _ _ (by omega), up_ne _ _ (by omega)]; exact up_same _ _ _
  | 1, _ => rw [up_ne _ _ (by omega)]; unfold aMq aM2; rw [up_ne _ _ (by omega), up_ne _ _ (by omega)]; exact up_same _ _ _
  | 2, _ => rw [up_ne _ _ (by omega)]; unfold aMq aM2; rw [up_ne _ _ (by omega)]; exact up_same _ _ _
  | 3, _ => rw [up_ne _ _ (by omega)]; unfold aMq aM2; exact up_same _ _ _
def acBf (fc : Nat → Int64) (pr vl sm is tn fl : Int64) : Nat → Int64
  | 0 => pr
  | 1 => pr
  | 2 => fc 2
  | 3 => fc 3
  | 4 => fc 4
  | 5 => fc 5
  | 6 => vl
  | 7 => sm
  | 8 => is
  | 9 => tn
  | _ => fl
theorem acB_old {f : Nat → Int64} {T : Nat} {fc : Nat → Int64} {pr vl sm is tn fl : Int64} {x : Nat} (h : ¬ x = 171) (h2 : ¬ (104 + T * 11 ≤ x ∧ x < 104 + T * 11 + 11)) : acB f T fc pr vl sm is tn fl x = f x := by
  unfold acB
  rw [up_ne _ _ (by omega), up_ne _ _ (by omega), up_ne _ _ (by omega), up_ne _ _ (by omega), up_ne _ _ (by omega), up_ne _ _ (by omega), up_ne _ _ (by omega)]
  unfold acA
  rw [if_neg h, if_neg (by omega)]
theorem acB_171 {f : Nat → Int64} {T : Nat} (hT : T < 6) {fc : Nat → Int64} {pr vl sm is tn fl : Int64} : acB f T fc pr vl sm is tn fl 171 = (nI T + 1).toInt64 := by
  unfold acB
  rw [up_ne _ _ (by omega), up_ne _ _ (by omega), up_ne _ _ (by omega), up_ne _ _ (by omega), up_ne _ _ (by omega), up_ne _ _ (by omega), up_ne _ _ (by omega)]
  unfold acA
  rw [if_pos rfl]
theorem acB_fact {f : Nat → Int64} {T : Nat} (hT : T < 6) {fc : Nat → Int64} {pr vl sm is tn fl : Int64} {w : Nat} (hw : w < 11) : acB f T fc pr vl sm is tn fl (104 + T * 11 + w) = acBf fc pr vl sm is tn fl w := by
  unfold acB
  match w, hw with
  | 0, _ => rw [up_ne _ _ (by omega), up_ne _ _ (by omega), up_ne _ _ (by omega), up_ne _ _ (by omega), up_ne _ _ (by omega), up_ne _ _ (by omega), up_same]; rfl
  | 1, _ => rw [up_ne _ _ (by omega), up_ne _ _ (by omega), up_ne _ _ (by omega), up_ne _ _ (by omega), up_ne _ _ (by omega), up_same]; rfl
  | 2, _ => rw [up_ne _ _ (by omega), up_ne _ _ (by omega), up_ne _ _ (by omega), up_ne _ _ (by omega), up_ne _ _ (by omega), up_ne _ _ (by omega), up_ne _ _ (by omega)]; unfold acA; rw [if_neg (by omega), if_pos (by omega), show 104 + T * 11 + 2 - (104 + T * 11) = 2 by omega]; rfl
  | 3, _ => rw [up_ne _ _ (by omega), up_ne _ _ (by omega), up_ne _ _ (by omega), up_ne _ _ (by omega), up_ne _ _ (by omega), up_ne _ _ (by omega), up_ne _ _ (by omega)]; unfold acA; rw [if_neg (by omega), if_pos (by omega), show 104 + T * 11 + 3 - (104 + T * 11) = 3 by omega]; rfl
  | 4, _ => rw [up_ne _ _ (by omega), up_ne _ _ (by omega), up_ne _ _ (by omega), up_ne _ _ (by omega), up_ne _ _ (by omega), up_ne _ _ (by omega), up_ne _ _ (by omega)]; unfold acA; rw [if_neg (by omega), if_pos (by omega), show 104 + T * 11 + 4 - (104 + T * 11) = 4 by omega]; rfl
  | 5, _ => rw [up_ne _ _ (by omega), up_ne _ _ (by omega), up_ne _ _ (by omega), up_ne _ _ (by omega), up_ne _ _ (by omega), up_ne _ _ (by omega), up_ne _ _ (by omega)]; unfold acA; rw [if_neg (by omega), if_pos (by omega), show 104 + T * 11 + 5 - (104 + T * 11) = 5 by omega]; rfl
  | 6, _ => rw [up_ne _ _ (by omega), up_ne _ _ (by omega), up_ne _ _ (by omega), up_ne _ _ (by omega), up_same]; rfl
  | 7, _ => rw [up_ne _ _ (by omega), up_ne _ _ (by omega), up_ne _ _ (by omega), up_same]; rfl
  | 8, _ => rw [up_ne _ _ (by omega), up_ne _ _ (by omega), up_same]; rfl
  | 9, _ => rw [up_ne _ _ (by omega), up_same]; rfl
  | 10, _ => rw [up_same]; rfl
/-- the size doesn't hang on what is only told -/
theorem cSize_ext {f g : Nat → Int64} {T : Nat} (hT : T ≤ 6) (h1 : ∀ x, x < 48 → g x = f x) (h2 : ∀ x, 96 ≤ x → x < 104 → g x = f x) (h3 : ∀ t w, t < T → w < 2 → g (104 + t * 11 + w) = f (104 + t * 11 + w)) (h4 : g 170 = f 170) : cSize g T = cSize f T ∧ cAllVotes g T = cAllVotes f T ∧ ∀ h, h < 8 → cClaim g h T = cClaim f h T := by
  have hv : ∀ h, h < 8 → cVotes g h T = cVotes f h T := by
    intro h hh
    unfold cVotes
    refine sumF_ext (fun c hc => ?_)
    rw [show cHeld g h c = cHeld f h c from h1 _ (by omega)]
    unfold cConv
    rw [show cFact g c 0 = cFact f c 0 from h3 c 0 hc (by omega), show cFact g c 1 = cFact f c 1 from h3 c 1 hc (by omega)]
  have ha : cAllVotes g T = cAllVotes f T := sumF_ext (fun h hh => hv h hh)
  have hg : cAllGranted g = cAllGranted f := sumF_ext (fun h hh => show cGranted g h = cGranted f h from h2 _ (by omega) (by omega))
  refine ⟨?_, ha, fun h hh => ?_⟩
  · unfold cSize
    rw [ha, hg, h4]
  · unfold cClaim
    rw [hv h hh, show cGranted g h = cGranted f h from h2 _ (by omega) (by omega)]
set_option maxHeartbeats 4000000 in
theorem add_rel {u mn : Nat → Int32} {mnq : Nat → Int64} {pd : Int64} {T : Nat} {ra pf pt pl vl : Int32} {q : (Nat → Int32) × Int64 × Int64 × Nat} (hI : mI u T) (hT5 : T < 6) (hm : mnOk mn mnq pd) (hq : gdQ u T mn 200 q) (hra : 0 ≤ ra.toInt ∧ ra.toInt ≤ 3) (hpf : 0 ≤ pf.toInt ∧ pf.toInt ≤ 50) (hpt : pt = 0 ∨ pt = 1) (hpl : pl = 0 ∨ pl = 1) {fc : Nat → Int64} (f2 : ra.toInt64 = fc 2) (f3 : pf.toInt64 = fc 3) (f4 : pt.toInt64 = fc 4) (f5 : pl.toInt64 = fc 5) : cSize (fm (aMq T mn ra pf pt pl vl pd q)) (T + 1) = cSize (fm q.1) T + q.2.2.1 ∧ mI (aM3 (aMq T mn ra pf pt pl vl pd q) T) (T + 1) ∧ (∀ x, x < 172 → acF (fm q.1) T fc mnq q.2.1 vl.toInt64 pd q.2.2.1 (nI q.2.2.2).toInt64 (cSize (fm q.1) T + q.2.2.1) x = fm (aM3 (aMq T mn ra pf pt pl vl pd q) T) x) ∧ cSize (fm (aM3 (aMq T mn ra pf pt pl vl pd q) T)) (T + 1) = cSize (fm q.1) T + q.2.2.1 := by
  obtain ⟨hT, hT1, hT6, -⟩ := hI.ok
  obtain ⟨ht, hp, hns, htu, hz, hk⟩ := hq
  obtain ⟨n1, n2, n3, n4, n5⟩ := mNs_z hm hp.1
  have hB := ht.b
  have hz0 := zSz_nn hB
  have hpne : ¬ q.2.1 = 0 := fun z => by rw [z] at hp; exact absurd hp.1 (by decide)
  have hpl32 : q.2.1.toInt32.toInt64 = q.2.1 := z_li (by omega) (by omega)
  have hpi32 : q.2.1.toInt32.toInt = q.2.1.toInt := z_i rfl (by omega) (by omega)
  rw [hns] at hz ⊢
  -- new shares
  have hnw : ∀ h, h < 8 → (10000 * (mn h).toInt64 / q.2.1).toInt32.toInt = 10000 * (mn h).toInt / q.2.1.toInt ∧ (10000 * (mn h).toInt64 / q.2.1).toInt32.toInt64 = 10000 * (mn h).toInt64 / q.2.1 ∧ 0 ≤ 10000 * (mn h).toInt / q.2.1.toInt := by
    intro h hh
    obtain ⟨a1, a2, a3⟩ := n5 h hh
    have := sumZ_at (g := fun h => 10000 * (mn h).toInt / q.2.1.toInt) (n := 8) (fun i hi => (n5 i hi).2.1) h hh
    exact ⟨z_i a1 (by omega) (by omega), z_li (by omega) (by omega), a2⟩
  obtain ⟨U, hU⟩ : ∃ U, U = aM3 (aMq T mn ra pf pt pl vl pd q) T := ⟨_, rfl⟩
  have uold : ∀ x, ¬ (x < 48 ∧ x % 6 = T) → ¬ x = 57 → ¬ (58 ≤ x ∧ x < 94 ∧ (x - 58) % 6 = T) → ¬ (94 ≤ x ∧ x < 124 ∧ (x - 94) / 5 = T) → ¬ (124 ≤ x ∧ (x - 124) % 6 = T) → U x = q.1 x := fun x a b c d e => by rw [hU]; exact aM_old rfl hT5 a b c d e
  have uheld : ∀ h, h < 8 → U (6 * h + T) = (10000 * (mn h).toInt64 / q.2.1).toInt32 := fun h hh => by rw [hU]; exact aM_held hT5 hh
  have ugiven : ∀ h, h < 8 → U (124 + 6 * h + T) = mn h := fun h hh => by rw [hU]; exact aM_given hT5 hh
  have ufact : ∀ w, w < 6 → U (58 + 6 * w + T) = aMf q ra pf pt pl vl pd (cSize (fm (aMq T mn ra pf pt pl vl pd q)) (T + 1)).toInt32 w := fun w hw => by rw [hU]; exact aM_fact hT5 hw
  have u57 : U 57 = nI (T + 1) := by rw [hU, aM_57 hT5]; exact rn_add T 1
  -- cells of the house
  have cH : ∀ h t, h < 8 → t < T → cHeld (fm U) h t = cHeld (fm q.1) h t := fun h t hh h1 => by
    rw [← fm_held U hh (by omega), ← fm_held q.1 hh (by omega), uold _ (by omega) (by omega) (by omega) (by omega) (by omega)]
  have cHT : ∀ h, h < 8 → (cHeld (fm U) h T).toInt = 10000 * (mn h).toInt / q.2.1.toInt := fun h hh => by
    rw [← fm_held U hh hT5, z_l, uheld h hh]; exact (hnw h hh).1
  have cG : ∀ h, h < 8 → cGranted (fm U) h = cGranted (fm q.1) h := fun h hh => by
    rw [← fm_granted U hh, ← fm_granted q.1 hh, uold _ (by omega) (by omega) (by omega) (by omega) (by omega)]
  have cP : fm U 170 = fm q.1 170 := by rw [← fm_pool, ← fm_pool, uold _ (by omega) (by omega) (by omega) (by omega) (by omega)]
  have cF : ∀ t w, t < T → w < 6 → cFact (fm U) t w = cFact (fm q.1) t w := fun t w h1 hw => by
    rw [← fm_fact U (by omega) hw, ← fm_fact q.1 (by omega) hw, uold _ (by omega) (by omega) (by omega) (by omega) (by omega)]
  have cFT : ∀ w, w < 6 → cFact (fm U) T w = (aMf q ra pf pt pl vl pd (cSize (fm (aMq T mn ra pf pt pl vl pd q)) (T + 1)).toInt32 w).toInt64 := fun w hw => by
    rw [← fm_fact U hT5 hw, ufact w hw]
  have cF0 : cFact (fm U) T 0 = q.2.1 := by rw [cFT 0 (by omega)]; exact hpl32
  have cF1 : cFact (fm U) T 1 = q.2.1 := by rw [cFT 1 (by omega)]; exact hpl32
  -- signs and size
  have hg : gB (fm U) (T + 1) := by
    refine ⟨by omega, fun h t hh h1 => ?_, fun h hh => by rw [cG h hh]; exact hB.2.2.1 h hh, by rw [cP]; exact hB.2.2.2.1, fun t t1 t2 => ?_⟩
    · by_cases e : t = T
      · rw [e, cHT h hh]; exact (hnw h hh).2.2
      · rw [cH h t hh (by omega)]; exact hB.2.1 h t hh (by omega)
    · by_cases e : t = T
      · rw [e, cF0, cF1]; omega
      · rw [cF t 0 (by omega) (by omega), cF t 1 (by omega) (by omega)]; exact hB.2.2.2.2.1 t t1 (by omega)
  have hzV : ∀ h, h < 8 → zV (fm U) h (T + 1) = zV (fm q.1) h T + 10000 * (mn h).toInt / q.2.1.toInt := by
    intro h hh
    unfold zV
    rw [sumZ, sumZ_ext (k := fun c => zC (fm q.1) c (cHeld (fm q.1) h c).toInt) (fun c hc => by rw [cH h c hh hc, zC_same (f := fm q.1) (cF c 0 hc (by omega)) (cF c 1 hc (by omega))]), cHT h hh]
    have : zC (fm U) T (10000 * (mn h).toInt / q.2.1.toInt) = 10000 * (mn h).toInt / q.2.1.toInt := by
      unfold zC
      rw [if_neg (by omega), cF0, cF1, Int.mul_ediv_cancel _ (by omega)]
    rw [this]
  have hzS : zSz (fm U) (T + 1) = zSz (fm q.1) T + (mNs mn q.2.1).toInt := by
    unfold zSz zAV
    rw [sumZ_ext (k := fun h => zV (fm q.1) h T + 10000 * (mn h).toInt / q.2.1.toInt) (fun h hh => hzV h hh), sumZ_add, ← n2, cP, show zAG (fm U) = zAG (fm q.1) from sumZ_ext (fun h hh => by rw [cG h hh])]
    omega
  have hBU : fB (fm U) (T + 1) := hg.mk (by omega)
  -- the row ahead of its last cell has the same size
  have hsame : cSize (fm (aMq T mn ra pf pt pl vl pd q)) (T + 1) = cSize (fm U) (T + 1) := by
    have hx : ∀ x, ¬ x = 94 + 5 * T + 4 → U x = aMq T mn ra pf pt pl vl pd q x := fun x hx => by rw [hU]; unfold aM3; exact up_ne _ _ hx
    refine ((cSize_ext (by omega) (fun x hx2 => ?_) (fun x a b => ?_) (fun t w h1 hw => ?_) ?_).1).symm
    · unfold fm; rw [hx _ (by unfold piM; rw [if_pos hx2]; omega)]
    · unfold fm; rw [hx _ (by unfold piM; rw [if_neg (by omega), if_neg (by omega), if_pos b]; omega)]
    · show cFact (fm U) t w = cFact (fm (aMq T mn ra pf pt pl vl pd q)) t w
      rw [← fm_fact U (by omega) (by omega), ← fm_fact _ (by omega) (by omega), hx _ (by omega)]
    · rw [← fm_pool, ← fm_pool, hx _ (by omega)]
  have hfl : cSize (fm U) (T + 1) = cSize (fm q.1) T + mNs mn q.2.1 := by
    apply Int64.toInt_inj.mp
    rw [cSize_z hBU, hzS, z_add (cSize_z hB) rfl (by omega) (by omega)]
  have hflz : (cSize (fm q.1) T + mNs mn q.2.1).toInt = zSz (fm q.1) T + (mNs mn q.2.1).toInt := z_add (cSize_z hB) rfl (by omega) (by omega)
  have hmI : mI U (T + 1) := by
    refine ⟨⟨u57, by omega, by omega, fun t t1 t2 => by rw [z_lt, n0L]; have := (hg.2.2.2.2 t t1 t2).1; omega⟩, hBU, fun t t1 t2 => ?_, fun h t hh h1 h2 => ?_, fun h t hh h6 => ?_, by rw [hzS]; omega⟩
    · by_cases e : t = T
      · rw [e, cFT 2 (by omega), cFT 3 (by omega), cFT 4 (by omega), cFT 5 (by omega)]
        show (0 ≤ ra.toInt64.toInt ∧ ra.toInt64.toInt ≤ 3) ∧ (0 ≤ pf.toInt64.toInt ∧ pf.toInt64.toInt ≤ 50) ∧ (pt.toInt64 = 0 ∨ pt.toInt64 = 1) ∧ (pl.toInt64 = 0 ∨ pl.toInt64 = 1)
        rw [z_l, z_l]
        refine ⟨hra, hpf, ?_, ?_⟩
        · rcases hpt with z | z
          · rw [z]; exact Or.inl rfl
          · rw [z]; exact Or.inr rfl
        · rcases hpl with z | z
          · rw [z]; exact Or.inl rfl
          · rw [z]; exact Or.inr rfl
      · have key : ∀ w, 2 ≤ w → w < 6 → cFact (fm U) t w = cFact (fm u) t w := fun w w1 w2 => by
          rw [cF t w (by omega) w2, ← fm_fact q.1 (by omega) w2, ← fm_fact u (by omega) w2, hk _ (by omega) (by omega)]
        rw [key 2 (by omega) (by omega), key 3 (by omega) (by omega), key 4 (by omega) (by omega), key 5 (by omega) (by omega)]
        exact hI.r t t1 (by omega)
    · rw [uold _ (by omega) (by omega) (by omega) (by omega) (by omega), hk _ (by omega) (by omega)]
      exact hI.2.2.2.1 h t hh (by omega) h2
    · by_cases e : t = T
      · rw [e, ← fm_given U hh hT5, z_l, ugiven h hh]; exact (hm.1 h hh).2
      · rw [← fm_given U hh h6, uold _ (by omega) (by omega) (by omega) (by omega) (by omega), hk _ (by omega) (by omega), fm_given u hh h6]
        exact hI.2.2.2.2.1 h t hh h6
  refine ⟨by rw [hsame]; exact hfl, by rw [← hU]; exact hmI, fun x hx => ?_, by rw [← hU]; exact hfl⟩
  rw [← hU]
  -- cell by cell
  have tail : ∀ h, h < 8 → fm q.1 (0 + h * 6 + T) = 0 := fun h hh => by
    rw [show fm q.1 (0 + h * 6 + T) = cHeld (fm q.1) h T from rfl, ← fm_held q.1 hh hT5, hk _ (by omega) (by omega), hI.2.2.2.1 h T hh (Nat.le_refl T) hT5]; rfl
  unfold acF acC
  by_cases p1 : x < 48
  · have ex : 0 + x / 6 * 6 + x % 6 = x := by omega
    by_cases p2 : x % 6 = T
    · have eT : 0 + x / 6 * 6 + T = x := by omega
      have eB : acB (fm q.1) T fc q.2.1 vl.toInt64 pd (mNs mn q.2.1) (nI q.2.2.2).toInt64 (cSize (fm q.1) T + mNs mn q.2.1) x = 0 := by
        rw [acB_old (by omega) (by omega), ← eT]
        exact tail _ (by omega)
      rw [if_pos (by omega), eB, ← eT, show fm U (0 + x / 6 * 6 + T) = cHeld (fm U) (x / 6) T from rfl, ← fm_held U (by omega) hT5, uheld _ (by omega), (hnw _ (by omega)).2.1, show (0 + x / 6 * 6 + T) / 6 = x / 6 by omega]
      show 0 + cQuot (10000 * mnq (x / 6)) q.2.1 = _
      rw [cQuot_n hpne (by rw [z_le, n0L]; omega), (hm.1 _ (by omega)).1, Int64.zero_add]
    · rw [if_neg (by omega), if_neg (by omega)]
      rw [acB_old (by omega) (by omega)]
      unfold fm
      rw [uold _ (by unfold piM; rw [if_pos p1]; omega) (by unfold piM; rw [if_pos p1]; omega) (by unfold piM; rw [if_pos p1]; omega) (by unfold piM; rw [if_pos p1]; omega) (by unfold piM; rw [if_pos p1]; omega)]
  · by_cases p2 : x < 96
    · have ex : 48 + (x - 48) / 6 * 6 + (x - 48) % 6 = x := by omega
      by_cases p3 : (x - 48) % 6 = T
      · have eT : 48 + (x - 48) / 6 * 6 + T = x := by omega
        rw [if_neg (by omega), if_pos (by omega), show fm U x = cGiven (fm U) ((x - 48) / 6) T by unfold cGiven; rw [eT], ← fm_given U (by omega) hT5, ugiven _ (by omega), (hm.1 _ (by omega)).1]
      · rw [if_neg (by omega), if_neg (by omega)]
        rw [acB_old (by omega) (by omega)]
        unfold fm
        rw [uold _ (by unfold piM; rw [if_neg p1, if_pos p2]; omega) (by unfold piM; rw [if_neg p1, if_pos p2]; omega) (by unfold piM; rw [if_neg p1, if_pos p2]; omega) (by unfold piM; rw [if_neg p1, if_pos p2]; omega) (by unfold piM; rw [if_neg p1, if_pos p2]; omega)]
    · rw [if_neg (by omega), if_neg (by omega)]
      by_cases p3 : x < 104
      · rw [acB_old (by omega) (by omega)]
        have := cG (x - 96) (by omega)
        unfold cGranted at this
        rw [show 96 + (x - 96) = x by omega] at this
        exact this.symm
      · by_cases p4 : x < 170
        · obtain ⟨t, w, h1, hw, rfl⟩ : ∃ t w, t < 6 ∧ w < 11 ∧ x = 104 + t * 11 + w := ⟨(x - 104) / 11, (x - 104) % 11, by omega, by omega, by omega⟩
          by_cases e : t = T
          · subst e
            have hr : fm U (104 + t * 11 + w) = (aMf q ra pf pt pl vl pd (cSize (fm (aMq t mn ra pf pt pl vl pd q)) (t + 1)).toInt32 w).toInt64 := by
              by_cases w6 : w < 6
              · exact cFT w w6
              · rw [show fm U (104 + t * 11 + w) = cFact (fm U) t (6 + (w - 6)) by unfold cFact; rw [show 6 + (w - 6) = w by omega], ← fm_told U (by omega) (by omega), hU, aM_told hT5 (by omega), show 6 + (w - 6) = w by omega]
            have pd32 : pd.toInt32.toInt64 = pd := z_li (by have := hm.2; omega) (by have := hm.2; omega)
            have ns32 : q.2.2.1.toInt32.toInt64 = mNs mn q.2.1 := by rw [hns]; exact z_li (by omega) (by omega)
            have fl32 : (cSize (fm (aMq t mn ra pf pt pl vl pd q)) (t + 1)).toInt32.toInt64 = cSize (fm q.1) t + mNs mn q.2.1 := by rw [hsame, hfl]; exact z_li (by rw [hflz]; omega) (by rw [hflz]; omega)
            rw [hr, acB_fact hT5 hw]
            match w, hw with
            | 0, _ => exact hpl32.symm
            | 1, _ => exact hpl32.symm
            | 2, _ => exact f2.symm
            | 3, _ => exact f3.symm
            | 4, _ => exact f4.symm
            | 5, _ => exact f5.symm
            | 6, _ => rfl
            | 7, _ => exact pd32.symm
            | 8, _ => exact ns32.symm
            | 9, _ => rfl
            | 10, _ => exact fl32.symm
          · rw [acB_old (by omega) (by omega)]
            by_cases w6 : w < 6
            · rw [show fm U (104 + t * 11 + w) = cFact (fm U) t w from rfl, show fm q.1 (104 + t * 11 + w) = cFact (fm q.1) t w from rfl, ← fm_fact U h1 w6, ← fm_fact q.1 h1 w6, uold _ (by omega) (by omega) (by omega) (by omega) (by omega)]
            · rw [show fm U (104 + t * 11 + w) = cFact (fm U) t (6 + (w - 6)) by unfold cFact; rw [show 6 + (w - 6) = w by omega], show fm q.1 (104 + t * 11 + w) = cFact (fm q.1) t (6 + (w - 6)) by unfold cFact; rw [show 6 + (w - 6) = w by omega], ← fm_told U h1 (by omega), ← fm_told q.1 h1 (by omega), uold _ (by omega) (by omega) (by omega) (by omega) (by omega)]
        · by_cases p5 : x = 170
          · rw [acB_old (by omega) (by omega), p5]; exact cP.symm
          · rw [show x = 171 by omega, acB_171 hT5, ← fm_types, u57]
            exact congrArg Int32.toInt64 (rn_add T 1)
