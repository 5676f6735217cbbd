/-! money, the whole round, the founders -/
theorem xH_z {w : Int32} : xH w = 0 ↔ (w.toInt < 0 ∨ 8 ≤ w.toInt) := by
  unfold xH
  by_cases a : w < 0
  · rw [if_pos a]
    rw [z_lt32, show (0 : Int32).toInt = 0 by decide] at a
    exact ⟨fun _ => Or.inl a, fun _ => rfl⟩
  · rw [if_neg a]
    rw [z_lt32, show (0 : Int32).toInt = 0 by decide] at a
    by_cases b : 8 ≤ w
    · rw [if_pos b]
      rw [z_le32, show (8 : Int32).toInt = 8 by decide] at b
      exact ⟨fun _ => Or.inr b, fun _ => rfl⟩
    · rw [if_neg b]
      rw [z_le32, show (8 : Int32).toInt = 8 by decide] at b
      exact ⟨fun q => absurd q (by decide), fun q => by omega⟩
theorem mSee_b {tx : Nat → Int32} {n k : Nat} (hb : byteOk tx n) : -1 ≤ (mSee tx n k).toInt ∧ (mSee tx n k).toInt ≤ 255 := by
  unfold mSee
  by_cases h : k < n
  · rw [if_pos h]
    have := sC_b hb h
    unfold sC at this
    omega
  · rw [if_neg h, nm1]; omega
theorem mEnd_no {n k : Nat} {wr : Int32} (h : ¬ wr = -1) : mEnd n k wr = wr := by unfold mEnd; rw [if_neg h]
theorem mEnd_lt {n k : Nat} (h : k < n) : mEnd n k (-1) = nI k := by unfold mEnd; rw [if_pos rfl, if_pos h]; rfl
theorem mEnd_ge {n k : Nat} (h : ¬ k < n) : mEnd n k (-1) = -1 := by unfold mEnd; rw [if_pos rfl, if_neg h]
def myR (mnq : Nat → Int64) (R : Nat × Int32 × (Nat → Int32) × Int64) (c : Bool × Nat × TS) : Prop := (c.1 = true → R.2.1 = -1 ∧ (∀ h, h < 8 → (R.2.2.1 h).toInt64 = c.2.2.2.2.2.2.1 h ∧ 0 ≤ (R.2.2.1 h).toInt ∧ (R.2.2.1 h).toInt ≤ 100000000) ∧ R.2.2.2 = c.2.2.2.2.2.2.2 ∧ 0 ≤ R.2.2.2.toInt ∧ R.2.2.2.toInt ≤ 800000000) ∧ (c.1 = false → R.2.1 = nI c.2.1)
theorem myR_f {mnq : Nat → Int64} {R : Nat × Int32 × (Nat → Int32) × Int64} {k : Nat} {q : TS} (h : R.2.1 = nI k) : myR mnq R (false, k, q) := ⟨fun x => absurd x Bool.false_ne_true, fun _ => h⟩
theorem my_rel {tx : Nat → Int32} {n : Nat} (hb : byteOk tx n) (hn : n ≤ 200) : ∀ (m : Nat) (la : Int32) (he : Nat) (mn : Nat → Int32) (pd : Int64) (q : TS), (8 : Int) - m - 1 ≤ la.toInt → la.toInt < 7 → -1 ≤ la.toInt → he ≤ n → (∀ h, h < 8 → (mn h).toInt64 = q.2.2.2.2.1 h ∧ 0 ≤ (mn h).toInt ∧ (mn h).toInt ≤ 100000000) → pd = q.2.2.2.2.2 → 0 ≤ pd.toInt → pd.toInt ≤ (la.toInt + 1) * 100000000 → myR (fun _ => 0) (mMy tx n m la he mn pd) (rmF (sC tx) n m la he q)
  | 0, la, he, mn, pd, q, h1, h2, _, _, _, _, _, _ => by omega
  | m + 1, la, he, mn, pd, q, h1, h2, h3, hhe, hmn, hpd, hp0, hp1 => by
    obtain ⟨v, k2, hv⟩ : ∃ v k2, (v, k2) = rdN (sC tx) n (he + 1 + 1) 1 100000000 := ⟨_, _, rfl⟩
    have hs := mSee_b (k := he) hb
    have e48 : (mSee tx n he - 48).toInt = (mSee tx n he).toInt - 48 := z_sub32 rfl n48 (by omega) (by omega)
    rw [rmF_s _ _ _ _ _ _ v k2 hv, mMy_s]
    rcases dg_c (k := he) hb with ⟨x, d⟩ | ⟨x, hk, d1, d2, d3, d4⟩
    · rw [xIn_0, n48L, n57L] at x
      rw [if_pos (c := dg (sC tx) n he ≤ la) (by rw [d, z_le32, nm1]; exact h3)]
      refine myR_f ?_
      by_cases a : mSee tx n he = -1
      · rw [if_pos a]
      · rw [if_neg a, if_pos (xH_z.mpr (by omega))]
    · have a : ¬ mSee tx n he = -1 := fun z => by rw [z, nm1] at d1; omega
      rw [if_neg a, ← d4]
      by_cases h8 : 8 ≤ (dg (sC tx) n he).toInt
      · rw [if_pos (xH_z.mpr (Or.inr h8))]
        by_cases b : dg (sC tx) n he ≤ la
        · rw [if_pos b]; exact myR_f rfl
        · rw [if_neg b, if_pos (c := ¬ dg (sC tx) n he < 8) (fun z => by rw [z_lt32, show (8 : Int32).toInt = 8 by decide] at z; omega)]; exact myR_f rfl
      · rw [if_neg (fun z => by rw [xH_z] at z; omega)]
        by_cases b : dg (sC tx) n he ≤ la
        · rw [if_pos b, if_neg (c := la < dg (sC tx) n he) (fun z => by rw [z_lt32] at z; rw [z_le32] at b; omega)]; exact myR_f rfl
        · rw [if_neg b, if_neg (c := ¬ dg (sC tx) n he < 8) (fun z => z (by rw [z_lt32, show (8 : Int32).toInt = 8 by decide]; omega)), if_pos (c := la < dg (sC tx) n he) (by rw [z_lt32]; rw [z_le32] at b; omega)]
          rw [z_le32] at b
          have ex := exp_tk (tx := tx) (n := n) (k := he + 1) (c := 61) (by omega)
          by_cases eq : tk (sC tx) n (he + 1) 61 = true
          · rw [if_pos (c := tk (sC tx) n (he + 1) (nI 61) = true) eq] at ex
            have em : mMn tx n he = mNum tx n (he + 1 + 1) (-1) 1 100000000 := by
              unfold mMn
              rw [show (61 : Int32) = nI 61 from rfl, ex]
            rw [if_neg (c := ¬ tk (sC tx) n (he + 1) 61 = true) (fun z => z eq)]
            have hK : he + 1 + 1 ≤ n := by have := tk_lt eq; omega
            have hR := num_rel (tx := tx) (n := n) (k := he + 1 + 1) hb (le := 1) (mo := 100000000) (most := 100000000) (by decide) (by decide) num_same
            have hk2 := rdN_le (sC tx) n (he + 1 + 1) 1 100000000 hK (by decide)
            rw [show (100000000 : Int64).toInt = 100000000 by decide, show (1 : Int32).toInt = 1 by decide, ← em, ← hv] at hR
            rw [← hv] at hk2
            rcases hR with ⟨r1, r1b, r2, r3, r4, r5⟩ | ⟨r1, r2⟩
            · rw [r2]
              have r1' : 0 ≤ v.toInt := r1
              have r1b' : 1 ≤ v.toInt := r1b
              have r5' : v.toInt ≤ 100000000 := r5
              have r3' : dg (sC tx) n k2 = -1 := r3
              have hk2' : k2 ≤ n := hk2.2
              rw [if_neg (c := v < 1) (fun z => by rw [z_lt, show (1 : Int64).toInt = 1 by decide] at z; omega)]
              obtain ⟨dn, hdn, hd8⟩ : ∃ dn : Nat, dg (sC tx) n he = nI dn ∧ dn < 8 := by
                obtain ⟨dn, z1, z2⟩ := nI_ex (w := dg (sC tx) n he) d2
                exact ⟨dn, z1, by omega⟩
              have hcl : (dg (sC tx) n he).toNatClampNeg = dn := by rw [hdn, nI_clamp (by omega)]
              have hdi : (dg (sC tx) n he).toInt = dn := by rw [hdn, nI_toInt (by omega)]
              have v64 : v.toInt32.toInt64 = v := z_li (by omega) (by omega)
              have v32 : v.toInt32.toInt = v.toInt := z_i rfl (by omega) (by omega)
              have hmn' : ∀ h, h < 8 → (va_up mn (dg (sC tx) n he).toNatClampNeg v.toInt32 h).toInt64 = (tsPut q (dg (sC tx) n he).toNatClampNeg v).2.2.2.2.1 h ∧ 0 ≤ (va_up mn (dg (sC tx) n he).toNatClampNeg v.toInt32 h).toInt ∧ (va_up mn (dg (sC tx) n he).toNatClampNeg v.toInt32 h).toInt ≤ 100000000 := by
                intro h hh
                show (va_up mn _ v.toInt32 h).toInt64 = va_up q.2.2.2.2.1 _ v h ∧ _
                unfold va_up
                by_cases z : h = (dg (sC tx) n he).toNatClampNeg
                · rw [if_pos z, if_pos z, v64, v32]; exact ⟨rfl, r1', r5'⟩
                · rw [if_neg z, if_neg z]; exact hmn h hh
              have hpd' : pd + v.toInt32.toInt64 = (tsPut q (dg (sC tx) n he).toNatClampNeg v).2.2.2.2.2 := by
                show pd + v.toInt32.toInt64 = q.2.2.2.2.2 + v
                rw [v64, hpd]
              have hpz : (pd + v.toInt32.toInt64).toInt = pd.toInt + v.toInt := by rw [v64]; exact z_add rfl rfl (by omega) (by omega)
              by_cases kn : k2 = n
              · rw [if_pos kn]
                have s44 : ¬ mSee tx n k2 = 44 := fun z => by
                  have := mSee_lt (tx := tx) (n := n) (p := k2) (by rw [z]; decide)
                  omega
                rw [if_neg (c := mSee tx n k2 = 44) s44]
                refine ⟨fun _ => ⟨mEnd_ge (show ¬ k2 < n by omega), hmn', hpd', ?_, ?_⟩, fun z => absurd z (by simp)⟩
                · show 0 ≤ (pd + v.toInt32.toInt64).toInt; omega
                · show (pd + v.toInt32.toInt64).toInt ≤ 800000000; omega
              · rw [if_neg kn]
                by_cases d7 : dg (sC tx) n he = 7
                · rw [if_pos d7]
                  refine myR_f ?_
                  have : (7 : Int32) ≤ dg (sC tx) n he := by rw [d7]; decide
                  by_cases s44 : mSee tx n k2 = 44
                  · rw [if_pos (c := mSee tx n k2 = 44) s44, if_pos this]; exact mEnd_lt (show k2 < n by omega)
                  · rw [if_neg (c := mSee tx n k2 = 44) s44]; exact mEnd_lt (show k2 < n by omega)
                · rw [if_neg d7]
                  have n7 : ¬ (7 : Int32) ≤ dg (sC tx) n he := fun z => d7 (Int32.toInt_inj.mp (by rw [z_le32, show (7 : Int32).toInt = 7 by decide] at z; rw [show (7 : Int32).toInt = 7 by decide]; omega))
                  by_cases cm : tk (sC tx) n k2 44 = true
                  · have s44 : mSee tx n k2 = 44 := (mSee_tk (c := 44) (by omega)).mpr cm
                    rw [if_neg (c := ¬ tk (sC tx) n k2 44 = true) (fun z => z cm), if_pos (c := mSee tx n k2 = 44) s44, if_neg n7, if_pos rfl]
                    rw [z_le32, show (7 : Int32).toInt = 7 by decide] at n7
                    exact my_rel hb hn m _ _ _ _ _ (by omega) (by omega) (by omega) (show k2 + 1 ≤ n by have := tk_lt cm; omega) hmn' hpd' (by rw [hpz]; omega) (by rw [hpz]; omega)
                  · have s44 : ¬ mSee tx n k2 = 44 := fun z => cm ((mSee_tk (c := 44) (by omega)).mp z)
                    rw [if_pos (c := ¬ tk (sC tx) n k2 44 = true) cm, if_neg (c := mSee tx n k2 = 44) s44]
                    exact myR_f (mEnd_lt (show k2 < n by omega))
            · have r1' : v = -1 := r1
              have hk2' : k2 ≤ n := hk2.2
              rw [if_pos (c := v < 1) (by rw [r1']; decide)]
              refine myR_f ?_
              rcases r2 with r2 | ⟨r2, r3, r4⟩
              · have r2' : (mMn tx n he).2.2 = nI k2 := r2
                have ne : ¬ (mMn tx n he).2.2 = -1 := by rw [r2']; exact nI_ne1 (by omega)
                by_cases s44 : mSee tx n (mMn tx n he).2.1 = 44
                · rw [if_pos s44]
                  by_cases n7 : (7 : Int32) ≤ dg (sC tx) n he
                  · rw [if_pos n7]; show mEnd _ _ _ = _; rw [mEnd_no ne]; exact r2'
                  · rw [if_neg n7, if_neg ne]; exact r2'
                · rw [if_neg s44]; show mEnd _ _ _ = _; rw [mEnd_no ne]; exact r2'
              · have r3' : (mMn tx n he).2.1 = k2 := r3
                have r4' : 0 ≤ (dg (sC tx) n k2).toInt := r4
                have hkn : k2 < n := by
                  rcases dg_c (k := k2) hb with ⟨-, d⟩ | ⟨-, hk, -⟩
                  · rw [d, nm1] at r4'; omega
                  · exact hk
                have s44 : ¬ mSee tx n (mMn tx n he).2.1 = 44 := fun z => by
                  rw [r3'] at z
                  exact dgt_tk (c := 44) hb r4' (by omega) (by omega) ((mSee_tk (by omega)).mp z)
                rw [if_neg s44]
                show mEnd _ _ _ = _
                rw [r3', r2]
                exact mEnd_lt hkn
          · rw [if_neg (c := tk (sC tx) n (he + 1) (nI 61) = true) eq] at ex
            have em : mMn tx n he = (1, he + 1, nI (he + 1)) := by
              unfold mMn
              rw [show (61 : Int32) = nI 61 from rfl, ex]
              exact num_no (nI_ne1 (by omega))
            rw [if_pos (c := ¬ tk (sC tx) n (he + 1) 61 = true) eq, em]
            refine myR_f ?_
            have ne : ¬ nI (he + 1) = -1 := nI_ne1 (by omega)
            by_cases s44 : mSee tx n (he + 1) = 44
            · rw [if_pos (c := mSee tx n (he + 1) = 44) s44]
              by_cases n7 : (7 : Int32) ≤ dg (sC tx) n he
              · rw [if_pos n7]; show mEnd _ _ _ = _; rw [mEnd_no ne]
              · rw [if_neg n7, if_neg (c := nI (he + 1) = -1) ne]
            · rw [if_neg (c := mSee tx n (he + 1) = 44) s44]; show mEnd _ _ _ = _; rw [mEnd_no ne]
theorem rmF_keep (s : Nat → Int32) (n : Nat) : ∀ (m : Nat) (la : Int32) (k : Nat) (q : TS), (rmF s n m la k q).2.2.1 = q.1 ∧ (rmF s n m la k q).2.2.2.1 = q.2.1 ∧ (rmF s n m la k q).2.2.2.2.1 = q.2.2.1 ∧ (rmF s n m la k q).2.2.2.2.2.1 = q.2.2.2.1
  | 0, la, k, q => by rw [rmF_0]; exact ⟨rfl, rfl, rfl, rfl⟩
  | m + 1, la, k, q => by
    rw [rmF_s _ _ _ _ _ _ _ _ rfl]
    split
    · exact ⟨rfl, rfl, rfl, rfl⟩
    · split
      · exact ⟨rfl, rfl, rfl, rfl⟩
      · split
        · exact ⟨rfl, rfl, rfl, rfl⟩
        · split
          · exact ⟨rfl, rfl, rfl, rfl⟩
          · split
            · exact ⟨rfl, rfl, rfl, rfl⟩
            · split
              · exact ⟨rfl, rfl, rfl, rfl⟩
              · split
                · exact ⟨rfl, rfl, rfl, rfl⟩
                · exact rmF_keep s n m _ _ _
theorem rmF_le2 (s : Nat → Int32) (n : Nat) : ∀ (m : Nat) (la : Int32) (k : Nat) (q : TS), k ≤ n → (rmF s n m la k q).2.1 ≤ n + 1
  | 0, la, k, q, h => by rw [rmF_0]; exact Nat.le_succ_of_le h
  | m + 1, la, k, q, h => by
    obtain ⟨v, k2, hv⟩ : ∃ v k2, (v, k2) = rdN s n (k + 1 + 1) 1 100000000 := ⟨_, _, rfl⟩
    rw [rmF_s _ _ _ _ _ _ v k2 hv]
    by_cases a : dg s n k ≤ la
    · rw [if_pos a]; exact Nat.le_succ_of_le h
    · rw [if_neg a]
      by_cases b : ¬ dg s n k < 8
      · rw [if_pos b]; exact Nat.le_succ_of_le h
      · rw [if_neg b]
        by_cases c : ¬ tk s n (k + 1) 61 = true
        · rw [if_pos c]; show k + 1 ≤ n + 1; omega
        · rw [if_neg c]
          have := tk_lt (Classical.not_not.mp c)
          have h2 := (rdN_le s n (k + 1 + 1) 1 100000000 (by omega) (by decide)).2
          rw [← hv] at h2
          by_cases d : v < 1
          · rw [if_pos d]; exact Nat.le_succ_of_le h2
          · rw [if_neg d]
            by_cases e : k2 = n
            · rw [if_pos e]; exact Nat.le_succ_of_le h2
            · rw [if_neg e]
              by_cases f : dg s n k = 7
              · rw [if_pos f]; exact Nat.le_succ_of_le h2
              · rw [if_neg f]
                by_cases g : ¬ tk s n k2 44 = true
                · rw [if_pos g]; exact Nat.le_succ_of_le h2
                · rw [if_neg g]
                  have := tk_lt (Classical.not_not.mp g)
                  exact rmF_le2 s n m _ _ _ (by omega)
/-- what a round's text gave the model, beside what it gives the class -/
def rdF (q : TS) (z : MS) : Prop := z.2.2.1.toInt64 = q.1 ∧ z.2.2.2.1.toInt64 = q.2.1 ∧ z.2.2.2.2.1 = q.2.2.1 ∧ z.2.2.2.2.2.1.toInt64 = q.2.2.2.1 2 ∧ z.2.2.2.2.2.2.1.toInt64 = q.2.2.2.1 3 ∧ z.2.2.2.2.2.2.2.1.toInt64 = q.2.2.2.1 4 ∧ z.2.2.2.2.2.2.2.2.toInt64 = q.2.2.2.1 5 ∧ (0 ≤ z.2.2.2.1.toInt ∧ z.2.2.2.1.toInt ≤ 500) ∧ (0 ≤ z.2.2.2.2.2.1.toInt ∧ z.2.2.2.2.2.1.toInt ≤ 3) ∧ (0 ≤ z.2.2.2.2.2.2.1.toInt ∧ z.2.2.2.2.2.2.1.toInt ≤ 50) ∧ (z.2.2.2.2.2.2.2.1 = 0 ∨ z.2.2.2.2.2.2.2.1 = 1) ∧ (z.2.2.2.2.2.2.2.2 = 0 ∨ z.2.2.2.2.2.2.2.2 = 1) ∧ (1 ≤ z.2.2.1.toInt ∧ z.2.2.1.toInt ≤ 1000000000)
def rdI (c : Bool × Nat × TS) (R : Nat × Int32 × (Nat → Int32) × Int64) (z : MS) : Prop := (c.1 = true → R.2.1 = -1 ∧ rdF c.2.2 z ∧ (∀ h, h < 8 → (R.2.2.1 h).toInt64 = c.2.2.2.2.2.2.1 h ∧ 0 ≤ (R.2.2.1 h).toInt ∧ (R.2.2.1 h).toInt ≤ 100000000) ∧ R.2.2.2 = c.2.2.2.2.2.2.2 ∧ 0 ≤ R.2.2.2.toInt ∧ R.2.2.2.toInt ≤ 800000000) ∧ (c.1 = false → R.2.1 = nI c.2.1 ∧ c.2.1 ≤ 400)
theorem rdI_f {k : Nat} {q : TS} {R : Nat × Int32 × (Nat → Int32) × Int64} {z : MS} (h : R.2.1 = nI k) (hk : k ≤ 400) : rdI (false, k, q) R z := ⟨fun x => absurd x Bool.false_ne_true, fun _ => ⟨h, hk⟩⟩
theorem mRd_no {tx : Nat → Int32} {n : Nat} {z : MS} (h : ¬ z.2.1 = -1) : (mRd tx n z).2.1 = z.2.1 := by unfold mRd; rw [if_neg h]
theorem rrF_b (s : Nat → Int32) (n : Nat) : rrF s n = rrF s n := rfl
theorem tk_rh {tx : Nat → Int32} {n k : Nat} {j : Nat} (hj : j < 4) : tk (sC tx) n k (rhCh 0 j) = true ↔ mSee tx n k = rhCh 0 j := by
  have e : ∀ j, j < 4 → (rhCh 0 j).toNatClampNeg < 256 ∧ rhCh 0 j = nI (rhCh 0 j).toNatClampNeg := by decide
  obtain ⟨h1, h2⟩ := e j hj
  rw [h2, mSee_tk h1]
theorem rd_rel {tx : Nat → Int32} {n : Nat} (hb : byteOk tx n) (hn : n ≤ 200) (z0 : MS) : rdI (rrF (sC tx) n) (mRd tx n (tS tx n z0)) (tS tx n z0) := by
  have c0 : rhCh 10 0 = rhCh 0 0 := by decide
  have c1 : rhCh 10 1 = rhCh 0 1 := by decide
  have c2 : rhCh 10 2 = rhCh 0 2 := by decide
  have h4 : rhLen.getD 0 0 = 4 := by decide
  obtain ⟨v, k2, hv⟩ : ∃ v k2, (v, k2) = rdN (sC tx) n 4 1 1000000000 := ⟨_, _, rfl⟩
  obtain ⟨b3, k3, q3, h3⟩ : ∃ b3 k3 q3, (b3, k3, q3) = rwF (sC tx) n 8 0 k2 (v, ts0.2) := ⟨_, _, _, rfl⟩
  unfold tS
  rw [c0, c1, c2]
  by_cases a0 : mSee tx n 0 = rhCh 0 0
  · rw [if_pos a0]
    by_cases a1 : mSee tx n 1 = rhCh 0 1
    · rw [if_pos a1]
      by_cases a2 : mSee tx n 2 = rhCh 0 2
      · rw [if_pos a2]
        have hn3 : 2 < n := mSee_lt (tx := tx) (n := n) (p := 2) (by rw [a2]; decide)
        by_cases a3 : mSee tx n 3 = rhCh 0 3
        · have e1 : (true, 4) = tkA (sC tx) n 0 0 := by
            unfold tkA
            rw [h4, tkaF, if_pos ((tk_rh (by omega)).mpr a0), tkaF, if_pos ((tk_rh (by omega)).mpr a1), tkaF, if_pos ((tk_rh (by omega)).mpr a2), tkaF, if_pos ((tk_rh (by omega)).mpr a3), tkaF]
          have hn4 : 3 < n := mSee_lt (tx := tx) (n := n) (p := 3) (by rw [a3]; decide)
          have a3' : tk (sC tx) n 3 (nI 32) = true := (tk_rh (by omega)).mpr a3
          have em : mVn tx n = mNum tx n 4 (-1) 1 1000000000 := by
            unfold mVn
            rw [show (32 : Int32) = nI 32 from rfl, exp_tk (by omega), if_pos a3']
          have hR := num_rel (tx := tx) (n := n) (k := 4) hb (le := 1) (mo := 1000000000) (most := 1000000000) (by decide) (by decide) num_same
          have hk2 := rdN_le (sC tx) n 4 1 1000000000 (by omega) (by decide)
          rw [show (1000000000 : Int64).toInt = 1000000000 by decide, show (1 : Int32).toInt = 1 by decide, ← em, ← hv] at hR
          rw [← hv] at hk2
          have hk2' : k2 ≤ n := hk2.2
          rw [rrF_eq (sC tx) n 4 k2 k3 true b3 v q3 e1 hv h3, if_neg (c := ¬ true = true) (fun x => x rfl)]
          rcases hR with ⟨r1, r1b, r2, r3, r4, r5⟩ | ⟨r1, r2⟩
          · have r1' : 1 ≤ v.toInt := r1b
            have r5' : v.toInt ≤ 1000000000 := r5
            rw [if_neg (c := v ≤ 0) (fun x => by rw [z_le, n0L] at x; omega)]
            have hz := P_0 hb hn 0 8 k2 ((mVn tx n).2.1, (mVn tx n).2.2, (mVn tx n).1, 0, 0, 0, 10, 0, 0) (v, ts0.2) (by omega) (by omega) (by rw [r2]) hk2' (by rw [r2]) (by
              rw [r2]
              exact ⟨z_li (show -2147483648 ≤ v.toInt by omega) (show v.toInt < 2147483648 by omega), rfl, rfl, rfl, rfl, rfl, rfl, rfl, rfl, (by decide : 0 ≤ (0 : Int32).toInt ∧ (0 : Int32).toInt ≤ 500), (by decide : 0 ≤ (0 : Int32).toInt ∧ (0 : Int32).toInt ≤ 3), (by decide : 0 ≤ (10 : Int32).toInt ∧ (10 : Int32).toInt ≤ 50), Or.inl rfl, Or.inl rfl, by
                show 1 ≤ v.toInt32.toInt ∧ v.toInt32.toInt ≤ 1000000000
                rw [z_i rfl (by omega) (by omega)]
                omega⟩) (fun x a b => absurd b (by omega))
            generalize t0 tx n 0 ((mVn tx n).2.1, (mVn tx n).2.2, (mVn tx n).1, 0, 0, 0, 10, 0, 0) = z at hz ⊢
            unfold cls at hz
            rw [← h3] at hz
            have hk3 : k3 ≤ n := by
              have := rwF_le (sC tx) n 8 0 k2 (v, ts0.2) hk2'
              rw [← h3] at this
              exact this
            by_cases g3 : b3 = true
            · rw [if_neg (c := ¬ b3 = true) (fun x => x g3)]
              rw [if_pos (c := b3 = true) g3] at hz
              by_cases cl : tk (sC tx) n k3 58 = true
              · rw [if_neg (c := ¬ tk (sC tx) n k3 58 = true) (fun x => x cl)]
                rw [if_pos (c := tk (sC tx) n k3 58 = true) cl] at hz
                obtain ⟨z1, z2, z3⟩ := hz.1 rfl
                have z1' : z.1 = k3 + 1 := z1
                obtain ⟨p1, p2, p3, p4, p5, p6, p7, p8, p9, p10, p11, p12, p13, p14, p15⟩ := z3
                have hm := my_rel hb hn 8 (-1) (k3 + 1) (fun _ => 0) 0 q3 (by rw [nm1]; omega) (by rw [nm1]; omega) (by rw [nm1]; omega) (by have := tk_lt cl; omega) (fun h hh => ⟨by rw [p8]; rfl, by decide, by decide⟩) (by rw [p9]) (by decide) (by rw [nm1]; decide)
                have hkeep := rmF_keep (sC tx) n 8 (-1) (k3 + 1) q3
                have e5 : mRd tx n z = mMy tx n 8 (-1) (k3 + 1) (fun _ => 0) 0 := by
                  unfold mRd
                  rw [if_pos z2, z1']
                have hrl := rmF_le2 (sC tx) n 8 (-1) (k3 + 1) q3 (by have := tk_lt cl; omega)
                rw [e5]
                refine ⟨fun x => ?_, fun x => ⟨hm.2 x, by omega⟩⟩
                obtain ⟨m1, m2, m3, m4, m5⟩ := hm.1 x
                exact ⟨m1, by
                  unfold rdF
                  rw [hkeep.1, hkeep.2.1, hkeep.2.2.1, hkeep.2.2.2]
                  exact ⟨p1, p2, p3, p4, p5, p6, p7, p10, p11, p12, p13, p14, p15⟩, m2, m3, m4, m5⟩
              · rw [if_pos (c := ¬ tk (sC tx) n k3 58 = true) cl]
                rw [if_neg (c := tk (sC tx) n k3 58 = true) cl] at hz
                have z2 : z.2.1 = nI k3 := hz.2 rfl
                exact rdI_f (by rw [mRd_no (by rw [z2]; exact nI_ne1 (by omega))]; exact z2) (by omega)
            · rw [if_pos (c := ¬ b3 = true) g3]
              rw [if_neg (c := b3 = true) g3] at hz
              have z2 : z.2.1 = nI k3 := hz.2 rfl
              exact rdI_f (by rw [mRd_no (by rw [z2]; exact nI_ne1 (by omega))]; exact z2) (by omega)
          · have r1' : v = -1 := r1
            rw [if_pos (c := v ≤ 0) (by rw [r1']; decide)]
            have z2 : (t0 tx n 0 ((mVn tx n).2.1, (mVn tx n).2.2, (mVn tx n).1, 0, 0, 0, 10, 0, 0)).2.1 = nI k2 := by
              rcases r2 with r2 | ⟨r2, r3, r4⟩
              · rw [t0_no (by show ¬ (mVn tx n).2.2 = -1; rw [r2]; exact nI_ne1 (by show k2 < 2 ^ 31; omega))]
                exact r2
              · rw [t0_d hb hn r2 (by show 0 ≤ (dg (sC tx) n (mVn tx n).2.1).toInt; rw [r3]; exact r4)]
                show nI (mVn tx n).2.1 = nI k2
                rw [r3]
            exact rdI_f (by rw [mRd_no (by rw [z2]; exact nI_ne1 (by omega))]; exact z2) (by omega)
        · have e1 : (false, 3) = tkA (sC tx) n 0 0 := by
            unfold tkA
            rw [h4, tkaF, if_pos ((tk_rh (by omega)).mpr a0), tkaF, if_pos ((tk_rh (by omega)).mpr a1), tkaF, if_pos ((tk_rh (by omega)).mpr a2), tkaF, if_neg (fun x => a3 ((tk_rh (by omega)).mp x))]
          have a3' : ¬ tk (sC tx) n 3 (nI 32) = true := fun x => a3 ((tk_rh (j := 3) (by omega)).mp x)
          have em : mVn tx n = (1, 3, nI 3) := by
            unfold mVn
            rw [show (32 : Int32) = nI 32 from rfl, exp_tk (by omega), if_neg a3']
            exact num_no (nI_ne1 (by omega))
          have hf : rrF (sC tx) n = (false, 3, ts0) := by
            unfold rrF
            rw [← e1, if_pos (c := ¬ (false, 3).1 = true) Bool.false_ne_true]
          rw [hf, em]
          have z2 : (t0 tx n 0 (3, nI 3, 1, 0, 0, 0, 10, 0, 0)).2.1 = nI 3 := t0_no (nI_ne1 (by omega))
          exact rdI_f (by rw [mRd_no (by rw [z2]; exact nI_ne1 (by omega))]; exact z2) (by omega)
      · rw [if_neg a2]
        have e1 : (false, 2) = tkA (sC tx) n 0 0 := by
          unfold tkA
          rw [h4, tkaF, if_pos ((tk_rh (by omega)).mpr a0), tkaF, if_pos ((tk_rh (by omega)).mpr a1), tkaF, if_neg (fun x => a2 ((tk_rh (by omega)).mp x))]
        have hf : rrF (sC tx) n = (false, 2, ts0) := by
          unfold rrF
          rw [← e1, if_pos (c := ¬ (false, 2).1 = true) Bool.false_ne_true]
        rw [hf]
        exact rdI_f (mRd_no (nI_ne1 (by omega))) (by omega)
    · rw [if_neg a1]
      have e1 : (false, 1) = tkA (sC tx) n 0 0 := by
        unfold tkA
        rw [h4, tkaF, if_pos ((tk_rh (by omega)).mpr a0), tkaF, if_neg (fun x => a1 ((tk_rh (by omega)).mp x))]
      have hf : rrF (sC tx) n = (false, 1, ts0) := by
        unfold rrF
        rw [← e1, if_pos (c := ¬ (false, 1).1 = true) Bool.false_ne_true]
      rw [hf]
      exact rdI_f (mRd_no (nI_ne1 (by omega))) (by omega)
  · rw [if_neg a0]
    have e1 : (false, 0) = tkA (sC tx) n 0 0 := by
      unfold tkA
      rw [h4, tkaF, if_neg (fun x => a0 ((tk_rh (by omega)).mp x))]
    have hf : rrF (sC tx) n = (false, 0, ts0) := by
      unfold rrF
      rw [← e1, if_pos (c := ¬ (false, 0).1 = true) Bool.false_ne_true]
    rw [hf]
    exact rdI_f (mRd_no (nI_ne1 (by omega))) (by omega)
/-! the founders -/
def fdR (R : Int32 × (Nat → Int32)) (c : Bool × Nat × (Nat → Int64)) : Prop := (c.1 = true → R.1 = -1 ∧ ∀ h, h < 8 → (R.2 h).toInt64 = c.2.2 h ∧ 0 ≤ (R.2 h).toInt ∧ (R.2 h).toInt ≤ 999999999) ∧ (c.1 = false → R.1 = nI c.2.1 ∧ c.2.1 ≤ 400)
theorem fdR_f {R : Int32 × (Nat → Int32)} {k : Nat} {g : Nat → Int64} (h : R.1 = nI k) (hk : k ≤ 400) : fdR R (false, k, g) := ⟨fun x => absurd x Bool.false_ne_true, fun _ => ⟨h, hk⟩⟩
theorem fd_rel {tx : Nat → Int32} {n : Nat} (hb : byteOk tx n) (hn : n ≤ 200) : ∀ (m i k : Nat) (mn : Nat → Int32) (g : Nat → Int64), k ≤ n → (∀ h, h < 8 → (mn h).toInt64 = g h ∧ 0 ≤ (mn h).toInt ∧ (mn h).toInt ≤ 999999999) → fdR (mFd tx n m (i + 1) (mFn tx n k).2.1 (mFn tx n k).2.2 (va_up mn i (mFn tx n k).1)) (rnF (sC tx) n (m + 1) i k g) := by
  intro m
  induction m with
  | zero => ?_
  | succ m ih => ?_
  all_goals
    intro i k mn g hk hg
    obtain ⟨v, k2, hv⟩ : ∃ v k2, (v, k2) = rdN (sC tx) n k 0 1000000000 := ⟨_, _, rfl⟩
    rw [rnF_s _ _ _ _ _ _ v k2 hv]
    have hR : numR (sC tx) n 0 999999999 (mFn tx n k) (v, k2) := by
      have h := num_rel (tx := tx) (n := n) (k := k) hb (le := 0) (mo := 999999999) (most := 1000000000) (by decide) (by decide) (fun x hx => by rw [show (999999999 : Int64).toInt = 999999999 by decide, show (1000000000 : Int64).toInt = 1000000000 by decide]; omega)
      rw [← hv] at h
      exact h
    have hk2 : k2 ≤ n := by
      have := (rdN_le (sC tx) n k 0 1000000000 hk (by decide)).2
      rw [← hv] at this
      exact this
    rcases hR with ⟨r1, r1b, r2, r3, r4, r5⟩ | ⟨r1, r2⟩
    · have r1' : 0 ≤ v.toInt := r1
      have r4' : v.toInt ≤ 999999999 := r4
      have hg' : ∀ h, h < 8 → (va_up mn i v.toInt32 h).toInt64 = va_up g i v h ∧ 0 ≤ (va_up mn i v.toInt32 h).toInt ∧ (va_up mn i v.toInt32 h).toInt ≤ 999999999 := by
        intro h hh
        unfold va_up
        by_cases z : h = i
        · rw [if_pos z, if_pos z, z_i rfl (by omega) (by omega)]; exact ⟨z_li (by omega) (by omega), r1', r4'⟩
        · rw [if_neg z, if_neg z]; exact hg h hh
      rw [r2, if_neg (c := v < 0) (fun x => by rw [z_lt, n0L] at x; omega)]
      first
        | (rw [mFd_0]
           by_cases kn : k2 = n
           · rw [if_pos kn]
             exact ⟨fun _ => ⟨mEnd_ge (show ¬ k2 < n by omega), hg'⟩, fun x => absurd x (by simp)⟩
           · rw [if_neg kn, if_pos rfl]
             exact fdR_f (mEnd_lt (show k2 < n by omega)) (by omega))
        | (rw [mFd_s, if_pos rfl]
           by_cases kn : k2 = n
           · have s44 : ¬ mSee tx n k2 = 44 := fun z => by
               have := mSee_lt (tx := tx) (n := n) (p := k2) (by rw [z]; decide)
               omega
             rw [if_pos kn, if_neg (c := mSee tx n k2 = 44) s44]
             exact ⟨fun _ => ⟨mEnd_ge (show ¬ k2 < n by omega), hg'⟩, fun x => absurd x (by simp)⟩
           · rw [if_neg kn, if_neg (show ¬ m + 1 = 0 by omega)]
             by_cases cm : tk (sC tx) n k2 44 = true
             · rw [if_pos cm, if_pos (c := mSee tx n k2 = 44) ((mSee_tk (c := 44) (by omega)).mpr cm)]
               exact ih (i + 1) (k2 + 1) _ _ (by have := tk_lt cm; omega) hg'
             · rw [if_neg cm, if_neg (c := mSee tx n k2 = 44) (fun z => cm ((mSee_tk (c := 44) (by omega)).mp z))]
               exact fdR_f (mEnd_lt (show k2 < n by omega)) (by omega))
    · have r1' : v = -1 := r1
      rw [if_pos (c := v < 0) (by rw [r1']; decide)]
      rcases r2 with r2 | ⟨r2, r3, r4⟩
      · have r2' : (mFn tx n k).2.2 = nI k2 := r2
        have ne : ¬ (mFn tx n k).2.2 = -1 := by rw [r2']; exact nI_ne1 (by omega)
        first
          | (rw [mFd_0]; exact fdR_f (by show mEnd _ _ _ = _; rw [mEnd_no ne]; exact r2') (by omega))
          | (rw [mFd_s, if_neg ne]; exact fdR_f (by show mEnd _ _ _ = _; rw [mEnd_no ne]; exact r2') (by omega))
      · have r3' : (mFn tx n k).2.1 = k2 := r3
        have r4' : 0 ≤ (dg (sC tx) n k2).toInt := r4
        have hkn : k2 < n := by
          rcases dg_c (k := k2) hb with ⟨-, d⟩ | ⟨-, hk, -⟩
          · rw [d, nm1] at r4'; omega
          · exact hk
        have s44 : ¬ mSee tx n (mFn tx n k).2.1 = 44 := fun z => by
          rw [r3'] at z
          exact dgt_tk (c := 44) hb r4' (by omega) (by omega) ((mSee_tk (by omega)).mp z)
        first
          | (rw [mFd_0]; exact fdR_f (by show mEnd _ _ _ = _; rw [r3', r2]; exact mEnd_lt hkn) (by omega))
          | (rw [mFd_s, if_pos r2, if_neg s44]; exact fdR_f (by show mEnd _ _ _ = _; rw [r3', r2]; exact mEnd_lt hkn) (by omega))
theorem fa_rel {tx : Nat → Int32} {n : Nat} (hb : byteOk tx n) (hn : n ≤ 200) : fdR (mFa tx n) (rNums (sC tx) n) := by
  unfold mFa rNums
  by_cases e : n = 0
  · rw [if_pos e, if_pos e]
    exact ⟨fun _ => ⟨rfl, fun h _ => ⟨rfl, (by decide : 0 ≤ (0 : Int32).toInt), (by decide : (0 : Int32).toInt ≤ 999999999)⟩⟩, fun x => absurd x (by simp)⟩
  · rw [if_neg e, if_neg e]
    exact fd_rel hb hn 7 0 0 (fun _ => 0) (fun _ => 0) (by omega) (fun h _ => ⟨rfl, by decide, by decide⟩)
