def nextW (w : Nat) : Nat := (if w < 2 then w else if 4 < w then w else 4) + 1
theorem nextW_le {w : Nat} (h : w < 8) : nextW w ≤ 8 := by
  unfold nextW
  split
  · omega
  · split <;> omega
/-- words of the terms: m may come still, from fr on -/
def rwF (s : Nat → Int32) (n : Nat) : Nat → Nat → Nat → TS → Bool × Nat × TS
  | 0, _, k, q => (true, k, q)
  | m + 1, fr, k, q => if 8 ≤ fr then (true, k, q) else if tk s n k 32 = true then (if (rdW s n (k + 1) fr).1 = none then (false, (rdW s n (k + 1) fr).2, q) else if (rbF s n ((rdW s n (k + 1) fr).1.getD 0) (rdW s n (k + 1) fr).2 q).1 = true then rwF s n m (nextW ((rdW s n (k + 1) fr).1.getD 0)) (rbF s n ((rdW s n (k + 1) fr).1.getD 0) (rdW s n (k + 1) fr).2 q).2.1 (rbF s n ((rdW s n (k + 1) fr).1.getD 0) (rdW s n (k + 1) fr).2 q).2.2 else (false, (rbF s n ((rdW s n (k + 1) fr).1.getD 0) (rdW s n (k + 1) fr).2 q).2.1, (rbF s n ((rdW s n (k + 1) fr).1.getD 0) (rdW s n (k + 1) fr).2 q).2.2)) else (true, k, q)
termination_by m => m
theorem rwF_0 (s : Nat → Int32) (n fr k : Nat) (q : TS) : rwF s n 0 fr k q = (true, k, q) := by rw [rwF]
theorem rwF_8 {s : Nat → Int32} {n m fr k : Nat} {q : TS} (h : 8 ≤ fr) : rwF s n (m + 1) fr k q = (true, k, q) := by rw [rwF, if_pos h]
theorem rwF_t {s : Nat → Int32} {n m fr k : Nat} {q : TS} (h : ¬ 8 ≤ fr) (ht : ¬ tk s n k 32 = true) : rwF s n (m + 1) fr k q = (true, k, q) := by rw [rwF, if_neg h, if_neg ht]
theorem rwF_n {s : Nat → Int32} {n m fr k : Nat} {q : TS} (h : ¬ 8 ≤ fr) (ht : tk s n k 32 = true) (hr : (rdW s n (k + 1) fr).1 = none) : rwF s n (m + 1) fr k q = (false, (rdW s n (k + 1) fr).2, q) := by rw [rwF, if_neg h, if_pos ht, if_pos hr]
theorem rwF_b {s : Nat → Int32} {n m fr k w : Nat} {q : TS} (h : ¬ 8 ≤ fr) (ht : tk s n k 32 = true) (hr : (rdW s n (k + 1) fr).1 = some w) (hb : ¬ (rbF s n w (rdW s n (k + 1) fr).2 q).1 = true) : rwF s n (m + 1) fr k q = (false, (rbF s n w (rdW s n (k + 1) fr).2 q).2.1, (rbF s n w (rdW s n (k + 1) fr).2 q).2.2) := by
  rw [rwF, if_neg h, if_pos ht, if_neg (by rw [hr]; exact fun q => by cases q), hr]
  show (if (rbF s n w (rdW s n (k + 1) fr).2 q).1 = true then _ else _) = _
  rw [if_neg hb] <;> rfl
theorem rwF_g {s : Nat → Int32} {n m fr k w : Nat} {q : TS} (h : ¬ 8 ≤ fr) (ht : tk s n k 32 = true) (hr : (rdW s n (k + 1) fr).1 = some w) (hb : (rbF s n w (rdW s n (k + 1) fr).2 q).1 = true) : rwF s n (m + 1) fr k q = rwF s n m (nextW w) (rbF s n w (rdW s n (k + 1) fr).2 q).2.1 (rbF s n w (rdW s n (k + 1) fr).2 q).2.2 := by
  rw [rwF, if_neg h, if_pos ht, if_neg (by rw [hr]; exact fun q => by cases q), hr]
  show (if (rbF s n w (rdW s n (k + 1) fr).2 q).1 = true then _ else _) = _
  rw [if_pos hb] <;> rfl
def tsPut (q : TS) (h : Nat) (v : Int64) : TS := (q.1, q.2.1, q.2.2.1, q.2.2.2.1, va_up q.2.2.2.2.1 h v, q.2.2.2.2.2 + v)
/-- MONEY of holders: m may come still, above la -/
def rmF (s : Nat → Int32) (n : Nat) : Nat → Int32 → Nat → TS → Bool × Nat × TS
  | 0, _, k, q => (false, k, q)
  | m + 1, la, k, q => if dg s n k ≤ la then (false, k, q) else if ¬ dg s n k < 8 then (false, k, q) else if ¬ tk s n (k + 1) 61 = true then (false, k + 1, q) else if (rdN s n (k + 1 + 1) 1 100000000).1 < 1 then (false, (rdN s n (k + 1 + 1) 1 100000000).2, q) else if (rdN s n (k + 1 + 1) 1 100000000).2 = n then (true, (rdN s n (k + 1 + 1) 1 100000000).2, tsPut q (dg s n k).toNatClampNeg (rdN s n (k + 1 + 1) 1 100000000).1) else if dg s n k = 7 then (false, (rdN s n (k + 1 + 1) 1 100000000).2, tsPut q (dg s n k).toNatClampNeg (rdN s n (k + 1 + 1) 1 100000000).1) else if ¬ tk s n (rdN s n (k + 1 + 1) 1 100000000).2 44 = true then (false, (rdN s n (k + 1 + 1) 1 100000000).2, tsPut q (dg s n k).toNatClampNeg (rdN s n (k + 1 + 1) 1 100000000).1) else rmF s n m (dg s n k) ((rdN s n (k + 1 + 1) 1 100000000).2 + 1) (tsPut q (dg s n k).toNatClampNeg (rdN s n (k + 1 + 1) 1 100000000).1)
termination_by m => m
theorem rmF_0 (s : Nat → Int32) (n k : Nat) (la : Int32) (q : TS) : rmF s n 0 la k q = (false, k, q) := by rw [rmF]
theorem rmF_s (s : Nat → Int32) (n m k : Nat) (la : Int32) (q : TS) (v : Int64) (k2 : Nat) (h : (v, k2) = rdN s n (k + 1 + 1) 1 100000000) : rmF s n (m + 1) la k q = if dg s n k ≤ la then (false, k, q) else if ¬ dg s n k < 8 then (false, k, q) else if ¬ tk s n (k + 1) 61 = true then (false, k + 1, q) else if v < 1 then (false, k2, q) else if k2 = n then (true, k2, tsPut q (dg s n k).toNatClampNeg v) else if dg s n k = 7 then (false, k2, tsPut q (dg s n k).toNatClampNeg v) else if ¬ tk s n k2 44 = true then (false, k2, tsPut q (dg s n k).toNatClampNeg v) else rmF s n m (dg s n k) (k2 + 1) (tsPut q (dg s n k).toNatClampNeg v) := by
  rw [rmF, ← h]
def ts0 : TS := (0, 0, 0, cFc0, fun _ => 0, 0)
/-- a round as a text: good, where reading stopped, its terms -/
def rrF (s : Nat → Int32) (n : Nat) : Bool × Nat × TS :=
  if ¬ (tkA s n 0 0).1 = true then (false, (tkA s n 0 0).2, ts0)
  else if (rdN s n (tkA s n 0 0).2 1 1000000000).1 ≤ 0 then (false, (rdN s n (tkA s n 0 0).2 1 1000000000).2, ((rdN s n (tkA s n 0 0).2 1 1000000000).1, ts0.2))
  else if ¬ (rwF s n 8 0 (rdN s n (tkA s n 0 0).2 1 1000000000).2 ((rdN s n (tkA s n 0 0).2 1 1000000000).1, ts0.2)).1 = true then (false, (rwF s n 8 0 (rdN s n (tkA s n 0 0).2 1 1000000000).2 ((rdN s n (tkA s n 0 0).2 1 1000000000).1, ts0.2)).2)
  else if ¬ tk s n (rwF s n 8 0 (rdN s n (tkA s n 0 0).2 1 1000000000).2 ((rdN s n (tkA s n 0 0).2 1 1000000000).1, ts0.2)).2.1 58 = true then (false, (rwF s n 8 0 (rdN s n (tkA s n 0 0).2 1 1000000000).2 ((rdN s n (tkA s n 0 0).2 1 1000000000).1, ts0.2)).2)
  else rmF s n 8 (-1) ((rwF s n 8 0 (rdN s n (tkA s n 0 0).2 1 1000000000).2 ((rdN s n (tkA s n 0 0).2 1 1000000000).1, ts0.2)).2.1 + 1) (rwF s n 8 0 (rdN s n (tkA s n 0 0).2 1 1000000000).2 ((rdN s n (tkA s n 0 0).2 1 1000000000).1, ts0.2)).2.2
theorem rrF_eq (s : Nat → Int32) (n : Nat) (k1 k2 k3 : Nat) (b1 b3 : Bool) (v : Int64) (q3 : TS) (h1 : (b1, k1) = tkA s n 0 0) (h2 : (v, k2) = rdN s n k1 1 1000000000) (h3 : (b3, k3, q3) = rwF s n 8 0 k2 (v, ts0.2)) : rrF s n = if ¬ b1 = true then (false, k1, ts0) else if v ≤ 0 then (false, k2, (v, ts0.2)) else if ¬ b3 = true then (false, k3, q3) else if ¬ tk s n k3 58 = true then (false, k3, q3) else rmF s n 8 (-1) (k3 + 1) q3 := by
  unfold rrF
  rw [← h1, ← h2, ← h3]
theorem dg_nI {s : Nat → Int32} {n k : Nat} {la : Int32} (h : ¬ dg s n k ≤ la) (hla : -1 ≤ la) (h8 : dg s n k < 8) : ∃ d, dg s n k = nI d ∧ d < 8 := by
  rw [Int32.le_iff_toInt_le] at h hla
  have e : (-1 : Int32).toInt = -1 := by decide
  have e8 : (8 : Int32).toInt = 8 := by decide
  obtain ⟨d, hd, hd2⟩ := rn_ex (x := dg s n k) (by rw [Int32.le_iff_toInt_le]; have : (0 : Int32).toInt = 0 := by decide
                                                   omega)
  refine ⟨d, hd, ?_⟩
  rw [Int32.lt_iff_toInt_lt, hd, nI_toInt hd2] at h8
  omega
theorem rwF_le (s : Nat → Int32) (n : Nat) : ∀ (m fr k : Nat) (q : TS), k ≤ n → (rwF s n m fr k q).2.1 ≤ n
  | 0, fr, k, q, h => by rw [rwF_0]; exact h
  | m + 1, fr, k, q, h => by
    by_cases h8 : 8 ≤ fr
    · rw [rwF_8 h8]; exact h
    · by_cases ht : tk s n k 32 = true
      · have hkl := tk_lt ht
        have hrd := rdWF_le s n (k + 1) hkl (8 - fr) fr (k + 1) hkl
        cases hw : (rdW s n (k + 1) fr).1 with
        | none => rw [rwF_n h8 ht hw]; exact hrd.1
        | some w =>
          by_cases hb : (rbF s n w (rdW s n (k + 1) fr).2 q).1 = true
          · rw [rwF_g h8 ht hw hb]
            exact rwF_le s n m _ _ _ (rbF_le s n w _ q hrd.1)
          · rw [rwF_b h8 ht hw hb]
            exact rbF_le s n w _ q hrd.1
      · rw [rwF_t h8 ht]; exact h

set_option maxRecDepth 100000 in
set_option maxHeartbeats 4000000 in
theorem c_X6_readsWords (l : Launch) (E : rhE) (o a : Nat) (s : Nat → Int32) (n k to ta tb : Nat) (q : TS) (hk : k ≤ n) (hn : n ≤ 200) : Ctr l E yX6_readsWords cX6_readsWords 5 (some .boolean) (rmL 6) [.ref o, .ref to] (wX E o a s n k ++ wTs E to ta tb q) (One (some (.int (if (rwF s n 8 0 k q).1 = true then 1 else 0))) (wX E o a s n (rwF s n 8 0 k q).2.1 ++ wTs E to ta tb (rwF s n 8 0 k q).2.2)) := by
  refine Ctr.of (by decide) (Nat.le_of_ble_eq_true rfl) rfl rfl 3 ?_
  intro X hX hR
  refine rh_iconst hX dX6_readsWords_0 ki_0 ?_
  refine rh_istn2 hX dX6_readsWords_1 (by decide) rfl ?_
  refine rh_iconst hX dX6_readsWords_2 ki_0 ?_
  refine rh_istn3 hX dX6_readsWords_3 (by decide) rfl ?_
  refine (rh_loop (P := fun i => ∀ (fr k1 : Nat) (q1 : TS), (fr ≤ 8 ∧ k1 ≤ n ∧ rwF s n 8 0 k q = rwF s n (8 - i) fr k1 q1) → G X 4 [some (.ref o), some (.ref to), some (.int (nI fr)), some (.int (nI i)), none] [] (wX E o a s n k1 ++ wTs E to ta tb q1)) (0) (8) (by omega) ?_ ?_) 0 k q ⟨Nat.zero_le _, hk, rfl⟩
  · intro fr k1 q1 hH
    obtain ⟨hfr, hk1, hH⟩ := hH
    rw [Nat.sub_self, rwF_0] at hH
    have hfin : rwF s n 8 0 k q = (true, k1, q1) := hH
    refine rh_iload_n hX dX6_readsWords_4 rfl ?_
    refine rh_bipush hX dX6_readsWords_5 kb_8 ?_
    refine rh_icmp_ge_t (tgt := 77) hX dX6_readsWords_7 (by decide) (nI_le (a := 8) (b := 8) (Nat.le_refl 8) (by decide)) ?_
    refine rh_iconst hX dX6_readsWords_77 ki_1 ?_
    exact rh_zret hX hR dX6_readsWords_78 rfl (by simp only [List.map_cons, List.map_nil, List.cons_append, List.nil_append]) ⟨by rw [hfin] <;> rfl, by rw [hfin] <;> rfl⟩
  · intro i hi0 hi ih fr k1 q1 hH
    obtain ⟨m, hm⟩ : ∃ m, 8 - i = m + 1 := ⟨8 - i - 1, by omega⟩
    have hm2 : 8 - (i + 1) = m := by omega
    obtain ⟨hfr, hk1, hH⟩ := hH
    rw [hm] at hH
    rw [hm2] at ih
    refine rh_iload_n hX dX6_readsWords_4 rfl ?_
    refine rh_bipush hX dX6_readsWords_5 kb_8 ?_
    refine rh_icmp_ge_f (tgt := 77) hX dX6_readsWords_7 (by decide) (nI_ge (b := 8) hi (by decide)) ?_
    refine rh_iload_n hX dX6_readsWords_10 rfl ?_
    refine rh_bipush hX dX6_readsWords_11 kb_8 ?_
    refine rh_icmp_ge (tgt := 77) hX dX6_readsWords_13 (by decide) (fun h13 => ?_) (fun h13 => ?_)
    · skip
      have h13 : 8 ≤ fr := rn_leI (a := 8) h13 (by decide) (by omega)
      have hfin := hH.trans (rwF_8 h13)
      refine rh_iconst hX dX6_readsWords_77 ki_1 ?_
      exact rh_zret hX hR dX6_readsWords_78 rfl (by simp only [List.map_cons, List.map_nil, List.cons_append, List.nil_append]) ⟨by rw [hfin] <;> rfl, by rw [hfin] <;> rfl⟩
    · skip
      have h13 : ¬ 8 ≤ fr := fun q => h13 (nI_le (a := 8) q (by omega))
      refine rh_aload_n hX dX6_readsWords_16 rfl ?_
      refine rh_bipush hX dX6_readsWords_17 kb_32 ?_
      refine rh_wV hX lk_X6_31 mvX6_takes (fun l => c_X6_takes l E _ _ _ _ _ _ (by omega) (by omega)) ⟨rfl, rfl⟩ ⟨Nat.le_of_ble_eq_true rfl, Nat.le_of_ble_eq_true rfl⟩ [0, 1] rfl rfl 0 rfl dX6_readsWords_19 rfl rfl (Nat.le_of_ble_eq_true rfl) rfl ?_
      dsimp only [List.cons_append, List.nil_append, List.set_cons_succ, List.set_cons_zero, vput]
      refine rh_if_eq (tgt := 77) hX dX6_readsWords_22 (by decide) (fun h22 => ?_) (fun h22 => ?_)
      · skip
        have h22 : ¬ tk s n k1 32 = true := fun q => by rw [if_pos q] at h22; exact absurd h22 (by decide)
        have hfin := hH.trans (rwF_t h13 h22)
        rw [tkN, if_neg h22]
        refine rh_iconst hX dX6_readsWords_77 ki_1 ?_
        exact rh_zret hX hR dX6_readsWords_78 rfl (by simp only [List.map_cons, List.map_nil, List.cons_append, List.nil_append]) ⟨by rw [hfin] <;> rfl, by rw [hfin] <;> rfl⟩
      · skip
        have h22 : tk s n k1 32 = true := Classical.not_not.mp (fun q => h22 (if_neg q))
        have hkl := tk_lt h22
        rw [tkN, if_pos h22]
        have hrd := rdWF_le s n (k1 + 1) hkl (8 - fr) fr (k1 + 1) hkl
        have hcase : (rdW s n (k1 + 1) fr).1 = none ∨ ∃ w, (rdW s n (k1 + 1) fr).1 = some w ∧ fr ≤ w ∧ w < 8 := by
          cases hw : (rdW s n (k1 + 1) fr).1 with
          | none => exact Or.inl rfl
          | some w => have := hrd.2 w hw; exact Or.inr ⟨w, rfl, by omega, by omega⟩
        have hrk : (rdW s n (k1 + 1) fr).2 ≤ n := hrd.1
        refine rh_aload_n hX dX6_readsWords_25 rfl ?_
        refine rh_iload_n hX dX6_readsWords_26 rfl ?_
        refine rh_wV hX lk_X6_70 mvX6_readWord (fun l => c_X6_readWord l E _ _ _ _ _ _ (by omega) (by omega) (by omega)) ⟨rfl, rfl⟩ ⟨Nat.le_of_ble_eq_true rfl, Nat.le_of_ble_eq_true rfl⟩ [0, 1] rfl rfl 0 rfl dX6_readsWords_27 rfl rfl (Nat.le_of_ble_eq_true rfl) rfl ?_
        dsimp only [List.cons_append, List.nil_append, List.set_cons_succ, List.set_cons_zero, vput]
        refine rh_ist4 hX dX6_readsWords_30 (by decide) rfl ?_
        refine rh_iload hX dX6_readsWords_32 rfl ?_
        refine rh_iload_n hX dX6_readsWords_34 rfl ?_
        refine rh_icmp_lt (tgt := 48) hX dX6_readsWords_35 (by decide) (fun h35 => ?_) (fun h35 => ?_)
        · skip
          have hr : (rdW s n (k1 + 1) fr).1 = none := by
            rcases hcase with h | ⟨w, h, h1, h2⟩
            · exact h
            · exact absurd h35 (by rw [h]; exact nI_nlt h1 (by omega))
          refine rh_iconst hX dX6_readsWords_48 ki_0 ?_
          exact rh_zret hX hR dX6_readsWords_49 rfl (by simp only [List.map_cons, List.map_nil, List.cons_append, List.nil_append]) ⟨by first | (rw [hH, rwF_n h13 h22 hr] <;> rfl) | (rw [hH, rwF_b h13 h22 hr h45] <;> rfl), by first | (rw [hH, rwF_n h13 h22 hr] <;> rfl) | (rw [hH, rwF_b h13 h22 hr h45] <;> rfl)⟩
        · skip
          obtain ⟨w, hr, hw1, hw2⟩ : ∃ w, (rdW s n (k1 + 1) fr).1 = some w ∧ fr ≤ w ∧ w < 8 := by
            rcases hcase with h | h
            · refine absurd ?_ h35
              rw [h, Int32.lt_iff_toInt_lt, nI_toInt (by omega)]
              show (-1 : Int32).toInt < _
              rw [show (-1 : Int32).toInt = -1 by decide]
              omega
            · exact h
          rw [hr]
          rw [show wdI (some w) = nI w from rfl]
          refine rh_aload_n hX dX6_readsWords_38 rfl ?_
          refine rh_iload hX dX6_readsWords_39 rfl ?_
          refine rh_aload_n hX dX6_readsWords_41 rfl ?_
          refine rh_wV hX lk_X6_74 mvX6_readsBehind (fun l => c_X6_readsBehind l E _ _ _ _ _ _ _ _ _ w (by omega) (by omega) (by omega)) ⟨rfl, rfl⟩ ⟨Nat.le_of_ble_eq_true rfl, Nat.le_of_ble_eq_true rfl⟩ [0, 1, 2, 3, 4] rfl rfl 0 rfl dX6_readsWords_42 rfl rfl (Nat.le_of_ble_eq_true rfl) rfl ?_
          dsimp only [List.cons_append, List.nil_append, List.set_cons_succ, List.set_cons_zero, vput]
          refine rh_if_ne (tgt := 50) hX dX6_readsWords_45 (by decide) (fun h45 => ?_) (fun h45 => ?_)
          · skip
            have h45 : (rbF s n w (rdW s n (k1 + 1) fr).2 q1).1 = true := Classical.not_not.mp (fun q => h45 (if_neg q))
            refine rh_iload hX dX6_readsWords_50 rfl ?_
            refine rh_iconst hX dX6_readsWords_52 ki_2 ?_
            refine rh_icmp_lt (tgt := 66) hX dX6_readsWords_53 (by decide) (fun h53 => ?_) (fun h53 => ?_)
            · skip
              have h53 : w < 2 := Nat.lt_of_not_le (fun q => nI_nlt (b := 2) q (by omega) h53)
              refine rh_iload hX dX6_readsWords_66 rfl ?_
              refine rh_iconst hX dX6_readsWords_68 ki_1 ?_
              refine rh_iadd hX dX6_readsWords_69 ?_
              first | (rw [show (4 : Int32) + 1 = nI (nextW w) by rw [nextW, if_neg h53, if_neg h59]; rfl]) | (rw [show nI w + 1 = nI (nextW w) by rw [nextW, if_pos h53]; exact (nI_succ w).symm]) | (rw [show nI w + 1 = nI (nextW w) by rw [nextW, if_neg h53, if_pos h59]; exact (nI_succ w).symm])
              refine rh_istn2 hX dX6_readsWords_70 (by decide) rfl ?_
              refine rh_inc3 hX dX6_readsWords_71 (by decide) rfl (rn_i1 _) ?_
              refine rh_goto (tgt := 4) hX dX6_readsWords_74 (by decide) ?_
              exact rh_wk (by exact ⟨rfl, rfl, rfl, rfl, trivial⟩) (ih (nextW w) _ _ ⟨nextW_le hw2, rbF_le s n w _ q1 hrd.1, by rw [hH, rwF_g h13 h22 hr h45]⟩)
            · skip
              have h53 : ¬ w < 2 := fun q => h53 (nI_lt (b := 2) q (by decide))
              refine rh_iload hX dX6_readsWords_56 rfl ?_
              refine rh_iconst hX dX6_readsWords_58 ki_4 ?_
              refine rh_icmp_gt (tgt := 66) hX dX6_readsWords_59 (by decide) (fun h59 => ?_) (fun h59 => ?_)
              · skip
                have h59 : 4 < w := Nat.lt_of_not_le (fun q => nI_nlt (b := w) (a := 4) q (by decide) h59)
                refine rh_iload hX dX6_readsWords_66 rfl ?_
                refine rh_iconst hX dX6_readsWords_68 ki_1 ?_
                refine rh_iadd hX dX6_readsWords_69 ?_
                first | (rw [show (4 : Int32) + 1 = nI (nextW w) by rw [nextW, if_neg h53, if_neg h59]; rfl]) | (rw [show nI w + 1 = nI (nextW w) by rw [nextW, if_pos h53]; exact (nI_succ w).symm]) | (rw [show nI w + 1 = nI (nextW w) by rw [nextW, if_neg h53, if_pos h59]; exact (nI_succ w).symm])
                refine rh_istn2 hX dX6_readsWords_70 (by decide) rfl ?_
                refine rh_inc3 hX dX6_readsWords_71 (by decide) rfl (rn_i1 _) ?_
                refine rh_goto (tgt := 4) hX dX6_readsWords_74 (by decide) ?_
                exact rh_wk (by exact ⟨rfl, rfl, rfl, rfl, trivial⟩) (ih (nextW w) _ _ ⟨nextW_le hw2, rbF_le s n w _ q1 hrd.1, by rw [hH, rwF_g h13 h22 hr h45]⟩)
              · skip
                have h59 : ¬ 4 < w := fun q => h59 (nI_lt (a := 4) q (by omega))
                refine rh_iconst hX dX6_readsWords_62 ki_4 ?_
                refine rh_goto (tgt := 68) hX dX6_readsWords_63 (by decide) ?_
                refine rh_iconst hX dX6_readsWords_68 ki_1 ?_
                refine rh_iadd hX dX6_readsWords_69 ?_
                first | (rw [show (4 : Int32) + 1 = nI (nextW w) by rw [nextW, if_neg h53, if_neg h59]; rfl]) | (rw [show nI w + 1 = nI (nextW w) by rw [nextW, if_pos h53]; exact (nI_succ w).symm]) | (rw [show nI w + 1 = nI (nextW w) by rw [nextW, if_neg h53, if_pos h59]; exact (nI_succ w).symm])
                refine rh_istn2 hX dX6_readsWords_70 (by decide) rfl ?_
                refine rh_inc3 hX dX6_readsWords_71 (by decide) rfl (rn_i1 _) ?_
                refine rh_goto (tgt := 4) hX dX6_readsWords_74 (by decide) ?_
                exact rh_wk (by exact ⟨rfl, rfl, rfl, rfl, trivial⟩) (ih (nextW w) _ _ ⟨nextW_le hw2, rbF_le s n w _ q1 hrd.1, by rw [hH, rwF_g h13 h22 hr h45]⟩)
          · skip
            have h45 : ¬ (rbF s n w (rdW s n (k1 + 1) fr).2 q1).1 = true := fun q => by rw [if_pos q] at h45; exact absurd h45 (by decide)
            refine rh_iconst hX dX6_readsWords_48 ki_0 ?_
            exact rh_zret hX hR dX6_readsWords_49 rfl (by simp only [List.map_cons, List.map_nil, List.cons_append, List.nil_append]) ⟨by first | (rw [hH, rwF_n h13 h22 hr] <;> rfl) | (rw [hH, rwF_b h13 h22 hr h45] <;> rfl), by first | (rw [hH, rwF_n h13 h22 hr] <;> rfl) | (rw [hH, rwF_b h13 h22 hr h45] <;> rfl)⟩

set_option maxRecDepth 100000 in
set_option maxHeartbeats 4000000 in
theorem c_X6_readsMoney (l : Launch) (E : rhE) (o a : Nat) (s : Nat → Int32) (n k to ta tb : Nat) (q : TS) (hk : k ≤ n) (hn : n ≤ 200) : Ctr l E yX6_readsMoney cX6_readsMoney 7 (some .boolean) (rmL 2) [.ref o, .ref to] (wX E o a s n k ++ wTs E to ta tb q) (One (some (.int (if (rmF s n 8 (-1) k q).1 = true then 1 else 0))) (wX E o a s n (rmF s n 8 (-1) k q).2.1 ++ wTs E to ta tb (rmF s n 8 (-1) k q).2.2)) := by
  refine Ctr.of (by decide) (Nat.le_of_ble_eq_true rfl) rfl rfl 5 ?_
  intro X hX hR
  refine rh_iconst hX dX6_readsMoney_0 ki_m1 ?_
  refine rh_istn2 hX dX6_readsMoney_1 (by decide) rfl ?_
  refine rh_iconst hX dX6_readsMoney_2 ki_0 ?_
  refine rh_istn3 hX dX6_readsMoney_3 (by decide) rfl ?_
  refine (rh_loop (P := fun i => ∀ (la : Int32) (k1 : Nat) (q1 : TS), (-1 ≤ la ∧ k1 ≤ n ∧ rmF s n 8 (-1) k q = rmF s n (8 - i) la k1 q1) → G X 4 [some (.ref o), some (.ref to), some (.int la), some (.int (nI i)), none, none, none] [] (wX E o a s n k1 ++ wTs E to ta tb q1)) (0) (8) (by omega) ?_ ?_) (-1) k q ⟨by decide, hk, rfl⟩
  · intro la k1 q1 hH
    obtain ⟨hla, hk1, hH⟩ := hH
    rw [Nat.sub_self, rmF_0] at hH
    refine rh_iload_n hX dX6_readsMoney_4 rfl ?_
    refine rh_bipush hX dX6_readsMoney_5 kb_8 ?_
    refine rh_icmp_ge_t (tgt := 122) hX dX6_readsMoney_7 (by decide) (nI_le (a := 8) (b := 8) (Nat.le_refl 8) (by decide)) ?_
    refine rh_iconst hX dX6_readsMoney_122 ki_0 ?_
    exact rh_zret hX hR dX6_readsMoney_123 rfl (by simp only [List.map_cons, List.map_nil, List.cons_append, List.nil_append]) ⟨by rw [hH] <;> rfl, by rw [hH]⟩
  · intro i hi0 hi ih la k1 q1 hH
    obtain ⟨m, hm⟩ : ∃ m, 8 - i = m + 1 := ⟨8 - i - 1, by omega⟩
    have hm2 : 8 - (i + 1) = m := by omega
    obtain ⟨hla, hk1, hH⟩ := hH
    obtain ⟨v, ev⟩ : ∃ z, z = (rdN s n (k1 + 1 + 1) 1 100000000).1 := ⟨_, rfl⟩
    obtain ⟨k2, ek⟩ : ∃ z, z = (rdN s n (k1 + 1 + 1) 1 100000000).2 := ⟨_, rfl⟩
    rw [hm, rmF_s s n m k1 la q1 v k2 (by rw [ev, ek])] at hH
    rw [hm2] at ih
    refine rh_iload_n hX dX6_readsMoney_4 rfl ?_
    refine rh_bipush hX dX6_readsMoney_5 kb_8 ?_
    refine rh_icmp_ge_f (tgt := 122) hX dX6_readsMoney_7 (by decide) (nI_ge (b := 8) hi (by decide)) ?_
    refine rh_aload_n hX dX6_readsMoney_10 rfl ?_
    refine rh_pV hX lk_X6_35 mvX6_digitHere (fun l => c_X6_digitHere l E _ _ _ _ _ (by omega) (by omega)) ⟨rfl, rfl⟩ ⟨Nat.le_of_ble_eq_true rfl, Nat.le_of_ble_eq_true rfl⟩ [0, 1] rfl rfl 0 rfl dX6_readsMoney_11 rfl rfl (Nat.le_of_ble_eq_true rfl) ?_
    refine rh_ist4 hX dX6_readsMoney_14 (by decide) rfl ?_
    refine rh_iload hX dX6_readsMoney_16 rfl ?_
    refine rh_iload_n hX dX6_readsMoney_18 rfl ?_
    refine rh_icmp_le (tgt := 29) hX dX6_readsMoney_19 (by decide) (fun h19 => ?_) (fun h19 => ?_)
    · skip
      refine rh_iconst hX dX6_readsMoney_29 ki_0 ?_
      exact rh_zret hX hR dX6_readsMoney_30 rfl (by simp only [List.map_cons, List.map_nil, List.cons_append, List.nil_append]) ⟨by first | (rw [hH, if_pos h19] <;> rfl) | (rw [hH, if_neg h19, if_pos h26] <;> rfl), by first | (rw [hH, if_pos h19] <;> rfl) | (rw [hH, if_neg h19, if_pos h26] <;> rfl)⟩
    · skip
      refine rh_iload hX dX6_readsMoney_22 rfl ?_
      refine rh_bipush hX dX6_readsMoney_24 kb_8 ?_
      refine rh_icmp_lt (tgt := 31) hX dX6_readsMoney_26 (by decide) (fun h26 => ?_) (fun h26 => ?_)
      · skip
        obtain ⟨hd, ehd, hd8⟩ := dg_nI h19 hla h26
        have hk1l : k1 < n := dg_lt s n k1 (fun z => h19 (by rw [z]; exact hla))
        have hcl : (dg s n k1).toNatClampNeg = hd := by rw [ehd]; exact nI_clamp (by omega)
        refine rh_aload_n hX dX6_readsMoney_31 rfl ?_
        refine rh_dup hX dX6_readsMoney_32 rfl ?_
        refine rh_get hX gl_X6_19 0 dX6_readsMoney_33 rfl rfl ?_
        refine rh_iconst hX dX6_readsMoney_36 ki_1 ?_
        refine rh_iadd hX dX6_readsMoney_37 ?_
        rw [show nI k1 + 1 = nI (k1 + 1) from (nI_succ k1).symm]
        refine rh_put hX gl_X6_19 0 dX6_readsMoney_38 rfl rfl rfl (Nat.le_of_ble_eq_true rfl) rfl ?_
        dsimp only [List.cons_append, List.nil_append, List.set_cons_succ, List.set_cons_zero, vput]
        refine rh_aload_n hX dX6_readsMoney_41 rfl ?_
        refine rh_bipush hX dX6_readsMoney_42 kb_61 ?_
        refine rh_wV hX lk_X6_31 mvX6_takes (fun l => c_X6_takes l E _ _ _ _ _ _ (by omega) (by omega)) ⟨rfl, rfl⟩ ⟨Nat.le_of_ble_eq_true rfl, Nat.le_of_ble_eq_true rfl⟩ [0, 1] rfl rfl 0 rfl dX6_readsMoney_44 rfl rfl (Nat.le_of_ble_eq_true rfl) rfl ?_
        dsimp only [List.cons_append, List.nil_append, List.set_cons_succ, List.set_cons_zero, vput]
        refine rh_if_eq (tgt := 61) hX dX6_readsMoney_47 (by decide) (fun h47 => ?_) (fun h47 => ?_)
        · skip
          have h47 : ¬ tk s n (k1 + 1) 61 = true := fun q => by rw [if_pos q] at h47; exact absurd h47 (by decide)
          rw [tkN, if_neg h47]
          refine rh_ldc2 hX dX6_readsMoney_61 kl_X6_38 ?_
          refine rh_lst5 hX dX6_readsMoney_64 (by decide) rfl ?_
          refine rh_lload hX dX6_readsMoney_66 rfl ?_
          refine rh_lconst hX dX6_readsMoney_68 kL_1 ?_
          refine rh_lge_f (tgt := 75) hX dX6_readsMoney_69 dX6_readsMoney_70 (by decide) (by decide) ?_
          refine rh_iconst hX dX6_readsMoney_73 ki_0 ?_
          exact rh_zret hX hR dX6_readsMoney_74 rfl (by simp only [List.map_cons, List.map_nil, List.cons_append, List.nil_append]) ⟨by first | (rw [hH, if_neg h19, if_neg (not_not_intro h26), if_pos h47] <;> rfl) | (rw [hH, if_neg h19, if_neg (not_not_intro h26), if_neg (not_not_intro h47), if_pos h69] <;> rfl), by first | (rw [hH, if_neg h19, if_neg (not_not_intro h26), if_pos h47] <;> rfl) | (rw [hH, if_neg h19, if_neg (not_not_intro h26), if_neg (not_not_intro h47), if_pos h69] <;> rfl)⟩
        · skip
          have h47 : tk s n (k1 + 1) 61 = true := Classical.not_not.mp (fun q => h47 (if_neg q))
          have hkl := tk_lt h47
          rw [tkN, if_pos h47]
          have hk2 : k2 ≤ n := by rw [ek]; exact (rdN_le s n (k1 + 1 + 1) 1 _ hkl (by decide)).2
          refine rh_aload_n hX dX6_readsMoney_50 rfl ?_
          refine rh_iconst hX dX6_readsMoney_51 ki_1 ?_
          refine rh_ldc2 hX dX6_readsMoney_52 kl_X6_118 ?_
          refine rh_wV hX lk_X6_44 mvX6_readNumber (fun l => c_X6_readNumber l E _ _ _ _ _ _ _ (by omega) (by omega) (by decide)) ⟨rfl, rfl⟩ ⟨Nat.le_of_ble_eq_true rfl, Nat.le_of_ble_eq_true rfl⟩ [0, 1] rfl rfl 0 rfl dX6_readsMoney_55 rfl rfl (Nat.le_of_ble_eq_true rfl) rfl ?_
          dsimp only [List.cons_append, List.nil_append, List.set_cons_succ, List.set_cons_zero, vput]
          rw [← ev, ← ek]
          refine rh_goto (tgt := 64) hX dX6_readsMoney_58 (by decide) ?_
          refine rh_lst5 hX dX6_readsMoney_64 (by decide) rfl ?_
          refine rh_lload hX dX6_readsMoney_66 rfl ?_
          refine rh_lconst hX dX6_readsMoney_68 kL_1 ?_
          refine rh_lge (tgt := 75) hX dX6_readsMoney_69 dX6_readsMoney_70 (by decide) (fun h69 => ?_) (fun h69 => ?_)
          · skip
            have h69 := rh_le64.mp h69
            refine rh_aload_n hX dX6_readsMoney_75 rfl ?_
            refine rh_iload hX dX6_readsMoney_76 rfl ?_
            refine rh_lload hX dX6_readsMoney_78 rfl ?_
            rw [ehd]
            refine rh_uV hX lk_X6_120 mvX5_puts (fun l => c_X5_puts l E _ _ _ _ _ _ _ _ _ _ _ (by omega)) ⟨rfl, rfl⟩ ⟨Nat.le_of_ble_eq_true rfl, Nat.le_of_ble_eq_true rfl⟩ [2, 3, 4] rfl rfl 2 rfl dX6_readsMoney_80 rfl rfl (Nat.le_of_ble_eq_true rfl) rfl ?_
            dsimp only [List.cons_append, List.nil_append, List.set_cons_succ, List.set_cons_zero, vput]
            refine rh_iload hX dX6_readsMoney_83 rfl ?_
            refine rh_istn2 hX dX6_readsMoney_85 (by decide) rfl ?_
            refine rh_aload_n hX dX6_readsMoney_86 rfl ?_
            refine rh_get hX gl_X6_19 0 dX6_readsMoney_87 rfl rfl ?_
            refine rh_aload_n hX dX6_readsMoney_90 rfl ?_
            refine rh_get hX gl_X6_15 0 dX6_readsMoney_91 rfl rfl ?_
            refine rh_icmp_ne (tgt := 99) hX dX6_readsMoney_94 (by decide) (fun h94 => ?_) (fun h94 => ?_)
            · skip
              have h94 : ¬ k2 = n := fun q => h94 (by rw [q])
              refine rh_iload_n hX dX6_readsMoney_99 rfl ?_
              refine rh_bipush hX dX6_readsMoney_100 kb_7 ?_
              refine rh_icmp_eq (tgt := 114) hX dX6_readsMoney_102 (by decide) (fun h102 => ?_) (fun h102 => ?_)
              · skip
                have h102 : dg s n k1 = 7 := ehd.trans h102
                refine rh_iconst hX dX6_readsMoney_114 ki_0 ?_
                exact rh_zret hX hR dX6_readsMoney_115 rfl (by simp only [List.map_cons, List.map_nil, List.cons_append, List.nil_append]) ⟨by first | (rw [hH, if_neg h19, if_neg (not_not_intro h26), if_neg (not_not_intro h47), if_neg h69, if_neg h94, if_pos h102] <;> rfl) | (rw [hH, if_neg h19, if_neg (not_not_intro h26), if_neg (not_not_intro h47), if_neg h69, if_neg h94, if_neg h102, if_pos h111] <;> rfl), by first | (rw [hH, if_neg h19, if_neg (not_not_intro h26), if_neg (not_not_intro h47), if_neg h69, if_neg h94, if_pos h102, hcl] <;> rfl) | (rw [hH, if_neg h19, if_neg (not_not_intro h26), if_neg (not_not_intro h47), if_neg h69, if_neg h94, if_neg h102, if_pos h111, hcl, tkN, if_neg h111] <;> rfl)⟩
              · skip
                have h102 : ¬ dg s n k1 = 7 := fun q => h102 (by rw [← ehd]; exact q)
                refine rh_aload_n hX dX6_readsMoney_105 rfl ?_
                refine rh_bipush hX dX6_readsMoney_106 kb_44 ?_
                refine rh_wV hX lk_X6_31 mvX6_takes (fun l => c_X6_takes l E _ _ _ _ _ _ (by omega) (by omega)) ⟨rfl, rfl⟩ ⟨Nat.le_of_ble_eq_true rfl, Nat.le_of_ble_eq_true rfl⟩ [0, 1] rfl rfl 0 rfl dX6_readsMoney_108 rfl rfl (Nat.le_of_ble_eq_true rfl) rfl ?_
                dsimp only [List.cons_append, List.nil_append, List.set_cons_succ, List.set_cons_zero, vput]
                refine rh_if_ne (tgt := 116) hX dX6_readsMoney_111 (by decide) (fun h111 => ?_) (fun h111 => ?_)
                · skip
                  have h111 : tk s n k2 44 = true := Classical.not_not.mp (fun q => h111 (if_neg q))
                  refine rh_inc3 hX dX6_readsMoney_116 (by decide) rfl (rn_i1 _) ?_
                  refine rh_goto (tgt := 4) hX dX6_readsMoney_119 (by decide) ?_
                  exact rh_wk (by exact ⟨rfl, rfl, rfl, rfl, trivial⟩) (ih (nI hd) (tkN s n k2 44) (tsPut q1 hd v) ⟨by rw [Int32.le_iff_toInt_le, nI_toInt (by omega), show (-1 : Int32).toInt = -1 by decide]; omega, tkN_le s n k2 44 hk2, by rw [hH, if_neg h19, if_neg (not_not_intro h26), if_neg (not_not_intro h47), if_neg h69, if_neg h94, if_neg h102, if_neg (not_not_intro h111), tkN, if_pos h111, hcl, ehd] <;> rfl⟩)
                · skip
                  have h111 : ¬ tk s n k2 44 = true := fun q => by rw [if_pos q] at h111; exact absurd h111 (by decide)
                  refine rh_iconst hX dX6_readsMoney_114 ki_0 ?_
                  exact rh_zret hX hR dX6_readsMoney_115 rfl (by simp only [List.map_cons, List.map_nil, List.cons_append, List.nil_append]) ⟨by first | (rw [hH, if_neg h19, if_neg (not_not_intro h26), if_neg (not_not_intro h47), if_neg h69, if_neg h94, if_pos h102] <;> rfl) | (rw [hH, if_neg h19, if_neg (not_not_intro h26), if_neg (not_not_intro h47), if_neg h69, if_neg h94, if_neg h102, if_pos h111] <;> rfl), by first | (rw [hH, if_neg h19, if_neg (not_not_intro h26), if_neg (not_not_intro h47), if_neg h69, if_neg h94, if_pos h102, hcl] <;> rfl) | (rw [hH, if_neg h19, if_neg (not_not_intro h26), if_neg (not_not_intro h47), if_neg h69, if_neg h94, if_neg h102, if_pos h111, hcl, tkN, if_neg h111] <;> rfl)⟩
            · skip
              have h94 : k2 = n := rn_inj h94 (by omega) (by omega)
              refine rh_iconst hX dX6_readsMoney_97 ki_1 ?_
              exact rh_zret hX hR dX6_readsMoney_98 rfl (by simp only [List.map_cons, List.map_nil, List.cons_append, List.nil_append]) ⟨by rw [hH, if_neg h19, if_neg (not_not_intro h26), if_neg (not_not_intro h47), if_neg h69, if_pos h94] <;> rfl, by rw [hH, if_neg h19, if_neg (not_not_intro h26), if_neg (not_not_intro h47), if_neg h69, if_pos h94, hcl] <;> rfl⟩
          · skip
            have h69 : v < 1 := Classical.not_not.mp (fun q => h69 (rh_le64.mpr q))
            refine rh_iconst hX dX6_readsMoney_73 ki_0 ?_
            exact rh_zret hX hR dX6_readsMoney_74 rfl (by simp only [List.map_cons, List.map_nil, List.cons_append, List.nil_append]) ⟨by first | (rw [hH, if_neg h19, if_neg (not_not_intro h26), if_pos h47] <;> rfl) | (rw [hH, if_neg h19, if_neg (not_not_intro h26), if_neg (not_not_intro h47), if_pos h69] <;> rfl), by first | (rw [hH, if_neg h19, if_neg (not_not_intro h26), if_pos h47] <;> rfl) | (rw [hH, if_neg h19, if_neg (not_not_intro h26), if_neg (not_not_intro h47), if_pos h69] <;> rfl)⟩
      · skip
        refine rh_iconst hX dX6_readsMoney_29 ki_0 ?_
        exact rh_zret hX hR dX6_readsMoney_30 rfl (by simp only [List.map_cons, List.map_nil, List.cons_append, List.nil_append]) ⟨by first | (rw [hH, if_pos h19] <;> rfl) | (rw [hH, if_neg h19, if_pos h26] <;> rfl), by first | (rw [hH, if_pos h19] <;> rfl) | (rw [hH, if_neg h19, if_pos h26] <;> rfl)⟩

set_option maxRecDepth 100000 in
set_option maxHeartbeats 4000000 in
theorem c_X6_readsRound (l : Launch) (E : rhE) (o a : Nat) (s : Nat → Int32) (n k to ta tb : Nat) (q : TS) (hn : n ≤ 200) : Ctr l E yX6_readsRound cX6_readsRound 2 (some .boolean) (rmL 7) [.ref o, .ref to] (wX E o a s n k ++ wTs E to ta tb q) (One (some (.int (if (rrF s n).1 = true then 1 else 0))) (wX E o a s n (rrF s n).2.1 ++ wTs E to ta tb (rrF s n).2.2)) := by
  refine Ctr.of (by decide) (Nat.le_of_ble_eq_true rfl) rfl rfl 0 ?_
  intro X hX hR
  obtain ⟨b1, eb1⟩ : ∃ z, z = (tkA s n 0 0).1 := ⟨_, rfl⟩
  obtain ⟨k1, ek1⟩ : ∃ z, z = (tkA s n 0 0).2 := ⟨_, rfl⟩
  obtain ⟨v, ev⟩ : ∃ z, z = (rdN s n k1 1 1000000000).1 := ⟨_, rfl⟩
  obtain ⟨k2, ek2⟩ : ∃ z, z = (rdN s n k1 1 1000000000).2 := ⟨_, rfl⟩
  obtain ⟨b3, eb3⟩ : ∃ z, z = (rwF s n 8 0 k2 (v, ts0.2)).1 := ⟨_, rfl⟩
  obtain ⟨k3, ek3⟩ : ∃ z, z = (rwF s n 8 0 k2 (v, ts0.2)).2.1 := ⟨_, rfl⟩
  obtain ⟨q3, eq3⟩ : ∃ z, z = (rwF s n 8 0 k2 (v, ts0.2)).2.2 := ⟨_, rfl⟩
  have hR0 := rrF_eq s n k1 k2 k3 b1 b3 v q3 (by rw [eb1, ek1]) (by rw [ev, ek2]) (by rw [eb3, ek3, eq3])
  have hk1 : k1 ≤ n := by rw [ek1]; exact (tkA_le s n 0 0 (Nat.zero_le _)).2
  have hk2 : k2 ≤ n := by rw [ek2]; exact (rdN_le s n k1 1 _ hk1 (by decide)).2
  have hk3 : k3 ≤ n := by rw [ek3]; exact rwF_le s n 8 0 k2 _ hk2
  refine rh_aload_n hX dX6_readsRound_0 rfl ?_
  refine rh_iconst hX dX6_readsRound_1 ki_0 ?_
  refine rh_put hX gl_X6_19 0 dX6_readsRound_2 rfl rfl rfl (Nat.le_of_ble_eq_true rfl) rfl ?_
  dsimp only [List.cons_append, List.nil_append, List.set_cons_succ, List.set_cons_zero, vput]
  refine rh_aload_n hX dX6_readsRound_5 rfl ?_
  refine rh_uV hX lk_X6_48 mvX5_clear (fun l => c_X5_clear l E _ _ _ _ _ _ _ _ _) ⟨rfl, rfl⟩ ⟨Nat.le_of_ble_eq_true rfl, Nat.le_of_ble_eq_true rfl⟩ [2, 3, 4] rfl rfl 2 rfl dX6_readsRound_6 rfl rfl (Nat.le_of_ble_eq_true rfl) rfl ?_
  dsimp only [List.cons_append, List.nil_append, List.set_cons_succ, List.set_cons_zero, vput]
  refine rh_aload_n hX dX6_readsRound_9 rfl ?_
  refine rh_ldcS hX dX6_readsRound_10 (List.mem_of_getElem? (i := 0) rfl) ?_
  refine rh_wV hX lk_X6_55 mvX6_takesAll (fun l => c_X6_takesAll l E o a s n 0 0 (Nat.zero_le _) (by omega) (by omega)) ⟨rfl, rfl⟩ ⟨Nat.le_of_ble_eq_true rfl, Nat.le_of_ble_eq_true rfl⟩ [0, 1] rfl rfl 0 rfl dX6_readsRound_12 rfl rfl (Nat.le_of_ble_eq_true rfl) rfl ?_
  dsimp only [List.cons_append, List.nil_append, List.set_cons_succ, List.set_cons_zero, vput]
  rw [← eb1, ← ek1]
  refine rh_if_ne (tgt := 20) hX dX6_readsRound_15 (by decide) (fun h15 => ?_) (fun h15 => ?_)
  · skip
    have h15 : b1 = true := Classical.not_not.mp (fun q => h15 (if_neg q))
    refine rh_aload_n hX dX6_readsRound_20 rfl ?_
    refine rh_aload_n hX dX6_readsRound_21 rfl ?_
    refine rh_iconst hX dX6_readsRound_22 ki_1 ?_
    refine rh_ldc2 hX dX6_readsRound_23 kl_X6_42 ?_
    refine rh_wV hX lk_X6_44 mvX6_readNumber (fun l => c_X6_readNumber l E _ _ _ _ _ _ _ (by omega) (by omega) (by decide)) ⟨rfl, rfl⟩ ⟨Nat.le_of_ble_eq_true rfl, Nat.le_of_ble_eq_true rfl⟩ [0, 1] rfl rfl 0 rfl dX6_readsRound_26 rfl rfl (Nat.le_of_ble_eq_true rfl) rfl ?_
    dsimp only [List.cons_append, List.nil_append, List.set_cons_succ, List.set_cons_zero, vput]
    rw [← ev, ← ek2]
    refine rh_put hX gl_X6_59 2 dX6_readsRound_29 rfl rfl rfl (Nat.le_of_ble_eq_true rfl) rfl ?_
    dsimp only [List.cons_append, List.nil_append, List.set_cons_succ, List.set_cons_zero, vput]
    refine rh_aload_n hX dX6_readsRound_32 rfl ?_
    refine rh_get hX gl_X6_59 2 dX6_readsRound_33 rfl rfl ?_
    refine rh_lconst hX dX6_readsRound_36 kL_0 ?_
    refine rh_lle (tgt := 70) hX dX6_readsRound_37 dX6_readsRound_38 (by decide) (fun h37 => ?_) (fun h37 => ?_)
    · skip
      refine rh_iconst hX dX6_readsRound_70 ki_0 ?_
      exact rh_zret hX hR dX6_readsRound_71 rfl (by simp only [List.map_cons, List.map_nil, List.cons_append, List.nil_append]) ⟨by first | (rw [hR0, if_neg (not_not_intro h15), if_pos h37] <;> rfl) | (rw [hR0, if_neg (not_not_intro h15), if_neg h37, if_pos h46] <;> rfl) | (rw [hR0, if_neg (not_not_intro h15), if_neg h37, if_neg (not_not_intro h46), if_pos h55] <;> rfl) | (rw [hR0, if_neg (not_not_intro h15), if_neg h37, if_neg (not_not_intro h46), if_neg (not_not_intro h55), if_neg h63] <;> rfl) | (rw [hR0, if_neg (not_not_intro h15), if_neg h37, if_neg (not_not_intro h46), if_neg (not_not_intro h55), if_pos h63] <;> rfl), by first | (rw [hR0, if_neg (not_not_intro h15), if_pos h37] <;> rfl) | (rw [hR0, if_neg (not_not_intro h15), if_neg h37, if_pos h46] <;> rfl) | (rw [hR0, if_neg (not_not_intro h15), if_neg h37, if_neg (not_not_intro h46), if_pos h55] <;> rfl) | (rw [hR0, if_neg (not_not_intro h15), if_neg h37, if_neg (not_not_intro h46), if_neg (not_not_intro h55)] <;> rfl)⟩
    · skip
      refine rh_aload_n hX dX6_readsRound_41 rfl ?_
      refine rh_aload_n hX dX6_readsRound_42 rfl ?_
      refine rh_wV hX lk_X6_63 mvX6_readsWords (fun l => c_X6_readsWords l E o a s n k2 to ta tb (v, ts0.2) (by omega) (by omega)) ⟨rfl, rfl⟩ ⟨Nat.le_of_ble_eq_true rfl, Nat.le_of_ble_eq_true rfl⟩ [0, 1, 2, 3, 4] rfl rfl 0 rfl dX6_readsRound_43 rfl rfl (Nat.le_of_ble_eq_true rfl) rfl ?_
      dsimp only [List.cons_append, List.nil_append, List.set_cons_succ, List.set_cons_zero, vput]
      rw [← eb3, ← ek3, ← eq3]
      refine rh_if_eq (tgt := 70) hX dX6_readsRound_46 (by decide) (fun h46 => ?_) (fun h46 => ?_)
      · skip
        have h46 : ¬ b3 = true := fun q => by rw [if_pos q] at h46; exact absurd h46 (by decide)
        refine rh_iconst hX dX6_readsRound_70 ki_0 ?_
        exact rh_zret hX hR dX6_readsRound_71 rfl (by simp only [List.map_cons, List.map_nil, List.cons_append, List.nil_append]) ⟨by first | (rw [hR0, if_neg (not_not_intro h15), if_pos h37] <;> rfl) | (rw [hR0, if_neg (not_not_intro h15), if_neg h37, if_pos h46] <;> rfl) | (rw [hR0, if_neg (not_not_intro h15), if_neg h37, if_neg (not_not_intro h46), if_pos h55] <;> rfl) | (rw [hR0, if_neg (not_not_intro h15), if_neg h37, if_neg (not_not_intro h46), if_neg (not_not_intro h55), if_neg h63] <;> rfl) | (rw [hR0, if_neg (not_not_intro h15), if_neg h37, if_neg (not_not_intro h46), if_neg (not_not_intro h55), if_pos h63] <;> rfl), by first | (rw [hR0, if_neg (not_not_intro h15), if_pos h37] <;> rfl) | (rw [hR0, if_neg (not_not_intro h15), if_neg h37, if_pos h46] <;> rfl) | (rw [hR0, if_neg (not_not_intro h15), if_neg h37, if_neg (not_not_intro h46), if_pos h55] <;> rfl) | (rw [hR0, if_neg (not_not_intro h15), if_neg h37, if_neg (not_not_intro h46), if_neg (not_not_intro h55)] <;> rfl)⟩
      · skip
        have h46 : b3 = true := Classical.not_not.mp (fun q => h46 (if_neg q))
        refine rh_aload_n hX dX6_readsRound_49 rfl ?_
        refine rh_bipush hX dX6_readsRound_50 kb_58 ?_
        refine rh_wV hX lk_X6_31 mvX6_takes (fun l => c_X6_takes l E _ _ _ _ _ _ (by omega) (by omega)) ⟨rfl, rfl⟩ ⟨Nat.le_of_ble_eq_true rfl, Nat.le_of_ble_eq_true rfl⟩ [0, 1] rfl rfl 0 rfl dX6_readsRound_52 rfl rfl (Nat.le_of_ble_eq_true rfl) rfl ?_
        dsimp only [List.cons_append, List.nil_append, List.set_cons_succ, List.set_cons_zero, vput]
        refine rh_if_eq (tgt := 70) hX dX6_readsRound_55 (by decide) (fun h55 => ?_) (fun h55 => ?_)
        · skip
          have h55 : ¬ tk s n k3 58 = true := fun q => by rw [if_pos q] at h55; exact absurd h55 (by decide)
          rw [tkN, if_neg h55]
          refine rh_iconst hX dX6_readsRound_70 ki_0 ?_
          exact rh_zret hX hR dX6_readsRound_71 rfl (by simp only [List.map_cons, List.map_nil, List.cons_append, List.nil_append]) ⟨by first | (rw [hR0, if_neg (not_not_intro h15), if_pos h37] <;> rfl) | (rw [hR0, if_neg (not_not_intro h15), if_neg h37, if_pos h46] <;> rfl) | (rw [hR0, if_neg (not_not_intro h15), if_neg h37, if_neg (not_not_intro h46), if_pos h55] <;> rfl) | (rw [hR0, if_neg (not_not_intro h15), if_neg h37, if_neg (not_not_intro h46), if_neg (not_not_intro h55), if_neg h63] <;> rfl) | (rw [hR0, if_neg (not_not_intro h15), if_neg h37, if_neg (not_not_intro h46), if_neg (not_not_intro h55), if_pos h63] <;> rfl), by first | (rw [hR0, if_neg (not_not_intro h15), if_pos h37] <;> rfl) | (rw [hR0, if_neg (not_not_intro h15), if_neg h37, if_pos h46] <;> rfl) | (rw [hR0, if_neg (not_not_intro h15), if_neg h37, if_neg (not_not_intro h46), if_pos h55] <;> rfl) | (rw [hR0, if_neg (not_not_intro h15), if_neg h37, if_neg (not_not_intro h46), if_neg (not_not_intro h55)] <;> rfl)⟩
        · skip
          have h55 : tk s n k3 58 = true := Classical.not_not.mp (fun q => h55 (if_neg q))
          have hkl := tk_lt h55
          rw [tkN, if_pos h55]
          refine rh_aload_n hX dX6_readsRound_58 rfl ?_
          refine rh_aload_n hX dX6_readsRound_59 rfl ?_
          refine rh_wV hX lk_X6_67 mvX6_readsMoney (fun l => c_X6_readsMoney l E o a s n (k3 + 1) to ta tb q3 (by omega) (by omega)) ⟨rfl, rfl⟩ ⟨Nat.le_of_ble_eq_true rfl, Nat.le_of_ble_eq_true rfl⟩ [0, 1, 2, 3, 4] rfl rfl 0 rfl dX6_readsRound_60 rfl rfl (Nat.le_of_ble_eq_true rfl) rfl ?_
          dsimp only [List.cons_append, List.nil_append, List.set_cons_succ, List.set_cons_zero, vput]
          refine rh_if_eq (tgt := 70) hX dX6_readsRound_63 (by decide) (fun h63 => ?_) (fun h63 => ?_)
          · skip
            have h63 : ¬ (rmF s n 8 (-1) (k3 + 1) q3).1 = true := fun q => by rw [if_pos q] at h63; exact absurd h63 (by decide)
            refine rh_iconst hX dX6_readsRound_70 ki_0 ?_
            exact rh_zret hX hR dX6_readsRound_71 rfl (by simp only [List.map_cons, List.map_nil, List.cons_append, List.nil_append]) ⟨by first | (rw [hR0, if_neg (not_not_intro h15), if_pos h37] <;> rfl) | (rw [hR0, if_neg (not_not_intro h15), if_neg h37, if_pos h46] <;> rfl) | (rw [hR0, if_neg (not_not_intro h15), if_neg h37, if_neg (not_not_intro h46), if_pos h55] <;> rfl) | (rw [hR0, if_neg (not_not_intro h15), if_neg h37, if_neg (not_not_intro h46), if_neg (not_not_intro h55), if_neg h63] <;> rfl) | (rw [hR0, if_neg (not_not_intro h15), if_neg h37, if_neg (not_not_intro h46), if_neg (not_not_intro h55), if_pos h63] <;> rfl), by first | (rw [hR0, if_neg (not_not_intro h15), if_pos h37] <;> rfl) | (rw [hR0, if_neg (not_not_intro h15), if_neg h37, if_pos h46] <;> rfl) | (rw [hR0, if_neg (not_not_intro h15), if_neg h37, if_neg (not_not_intro h46), if_pos h55] <;> rfl) | (rw [hR0, if_neg (not_not_intro h15), if_neg h37, if_neg (not_not_intro h46), if_neg (not_not_intro h55)] <;> rfl)⟩
          · skip
            have h63 : (rmF s n 8 (-1) (k3 + 1) q3).1 = true := Classical.not_not.mp (fun q => h63 (if_neg q))
            refine rh_iconst hX dX6_readsRound_66 ki_1 ?_
            refine rh_goto (tgt := 71) hX dX6_readsRound_67 (by decide) ?_
            exact rh_zret hX hR dX6_readsRound_71 rfl (by simp only [List.map_cons, List.map_nil, List.cons_append, List.nil_append]) ⟨by first | (rw [hR0, if_neg (not_not_intro h15), if_pos h37] <;> rfl) | (rw [hR0, if_neg (not_not_intro h15), if_neg h37, if_pos h46] <;> rfl) | (rw [hR0, if_neg (not_not_intro h15), if_neg h37, if_neg (not_not_intro h46), if_pos h55] <;> rfl) | (rw [hR0, if_neg (not_not_intro h15), if_neg h37, if_neg (not_not_intro h46), if_neg (not_not_intro h55), if_neg h63] <;> rfl) | (rw [hR0, if_neg (not_not_intro h15), if_neg h37, if_neg (not_not_intro h46), if_neg (not_not_intro h55), if_pos h63] <;> rfl), by first | (rw [hR0, if_neg (not_not_intro h15), if_pos h37] <;> rfl) | (rw [hR0, if_neg (not_not_intro h15), if_neg h37, if_pos h46] <;> rfl) | (rw [hR0, if_neg (not_not_intro h15), if_neg h37, if_neg (not_not_intro h46), if_pos h55] <;> rfl) | (rw [hR0, if_neg (not_not_intro h15), if_neg h37, if_neg (not_not_intro h46), if_neg (not_not_intro h55)] <;> rfl)⟩
  · skip
    have h15 : ¬ b1 = true := fun q => by rw [if_pos q] at h15; exact absurd h15 (by decide)
    refine rh_iconst hX dX6_readsRound_18 ki_0 ?_
    exact rh_zret hX hR dX6_readsRound_19 rfl (by simp only [List.map_cons, List.map_nil, List.cons_append, List.nil_append]) ⟨by rw [hR0, if_pos h15] <;> rfl, by rw [hR0, if_pos h15] <;> rfl⟩
