theorem rowTo_lt (g f : Nat → Int64) (i j : Nat) (h : j < i) : g j = rowTo g f i j := by
  unfold rowTo
  rw [if_pos h]
/-! ranks -/
/-- o goes before h -/
abbrev ahB (u : Nat → Int64) (h o : Nat) : Prop := u h < u o ∨ (u o = u h ∧ o < h)
def ahN (u : Nat → Int64) (h : Nat) : Nat → Nat
  | 0 => 0
  | o + 1 => if ahB u h o then ahN u h o + 1 else ahN u h o
termination_by o => o
theorem ahN_0 (u : Nat → Int64) (h : Nat) : ahN u h 0 = 0 := by rw [ahN]
theorem ahN_t {u : Nat → Int64} {h o : Nat} (q : ahB u h o) : ahN u h (o + 1) = ahN u h o + 1 := by rw [ahN, if_pos q]
theorem ahN_f {u : Nat → Int64} {h o : Nat} (q : ¬ ahB u h o) : ahN u h (o + 1) = ahN u h o := by rw [ahN, if_neg q]
theorem ahB_self (u : Nat → Int64) (h : Nat) : ¬ ahB u h h := by
  intro q
  rcases q with q | q
  · rw [Int64.lt_iff_toInt_lt] at q; omega
  · omega
theorem ahB_trans {u : Nat → Int64} {a b c : Nat} (h1 : ahB u a b) (h2 : ahB u b c) : ahB u a c := by
  unfold ahB at *
  rw [Int64.lt_iff_toInt_lt] at *
  rcases h1 with h1 | ⟨e1, h1⟩
  · rcases h2 with h2 | ⟨e2, h2⟩
    · left; omega
    · left; rw [e2]; omega
  · rcases h2 with h2 | ⟨e2, h2⟩
    · left; rw [← e1]; exact h2
    · right; exact ⟨e2.trans e1, by omega⟩
theorem ahB_total {u : Nat → Int64} {a b : Nat} (h : a ≠ b) : ahB u a b ∨ ahB u b a := by
  unfold ahB
  rw [Int64.lt_iff_toInt_lt, Int64.lt_iff_toInt_lt]
  by_cases e : (u a).toInt = (u b).toInt
  · have e2 : u a = u b := Int64.toInt_inj.mp e
    by_cases l : a < b
    · right; right; exact ⟨e2, l⟩
    · left; right; exact ⟨e2.symm, by omega⟩
  · by_cases l : (u a).toInt < (u b).toInt
    · left; left; exact l
    · right; left; omega
theorem ahN_le (u : Nat → Int64) (h : Nat) : ∀ n, ahN u h n ≤ n
  | 0 => by rw [ahN_0]; omega
  | n + 1 => by
    have := ahN_le u h n
    rw [ahN]
    split <;> omega
theorem ahN_lt (u : Nat → Int64) (h : Nat) : ∀ n, h < n → ahN u h n < n
  | 0, q => by omega
  | n + 1, q => by
    by_cases e : h = n
    · rw [e, ahN_f (ahB_self u n)]
      have := ahN_le u n n
      omega
    · have := ahN_lt u h n (by omega)
      rw [ahN]
      split <;> omega
theorem ahN_mono {u : Nat → Int64} {a b : Nat} (h : ∀ o, ahB u a o → ahB u b o) : ∀ n, ahN u a n ≤ ahN u b n
  | 0 => by rw [ahN_0]; omega
  | n + 1 => by
    have := ahN_mono h n
    by_cases q : ahB u a n
    · rw [ahN_t q, ahN_t (h n q)]; omega
    · rw [ahN_f q, ahN]; split <;> omega
theorem ahN_strict {u : Nat → Int64} {a b k : Nat} (h : ∀ o, ahB u a o → ahB u b o) (hk : ahB u b k) (hk2 : ¬ ahB u a k) : ∀ n, k < n → ahN u a n < ahN u b n
  | 0, q => by omega
  | n + 1, q => by
    by_cases e : k = n
    · subst e
      have := ahN_mono h k
      rw [ahN_f hk2, ahN_t hk]; omega
    · have := ahN_strict h hk hk2 n (by omega)
      by_cases q : ahB u a n
      · rw [ahN_t q, ahN_t (h n q)]; omega
      · rw [ahN_f q, ahN]; split <;> omega
theorem ahN_onto (u : Nat → Int64) : ∀ n i, i < n → ∃ h, h < n ∧ ahN u h n = i
  | 0, i, q => by omega
  | n + 1, i, q => by
    have hr := ahN_le u n n
    have ha : ∀ h, h < n → ahB u h n → ahN u n n ≤ ahN u h n := fun h hh b => ahN_mono (fun o q => ahB_trans b q) n
    have hb : ∀ h, h < n → ¬ ahB u h n → ahN u h n < ahN u n n := fun h hh b =>
      have b2 : ahB u n h := (ahB_total (u := u) (a := h) (b := n) (by omega)).resolve_left b
      ahN_strict (k := h) (fun o q => ahB_trans b2 q) b2 (ahB_self u h) n hh
    by_cases e1 : i = ahN u n n
    · exact ⟨n, by omega, by rw [ahN_f (ahB_self u n), e1]⟩
    · by_cases e2 : i < ahN u n n
      · obtain ⟨h, hh, hi⟩ := ahN_onto u n i (by omega)
        refine ⟨h, by omega, ?_⟩
        by_cases b : ahB u h n
        · have := ha h hh b; omega
        · rw [ahN_f b, hi]
      · obtain ⟨h, hh, hi⟩ := ahN_onto u n (i - 1) (by omega)
        refine ⟨h, by omega, ?_⟩
        by_cases b : ahB u h n
        · rw [ahN_t b]; omega
        · have := hb h hh b; omega
def rkF (u : Nat → Int64) (q : Nat → Int32) : Nat → Nat → Int32
  | 0 => q
  | h + 1 => va_up (rkF u q h) (ahN u h 8) (nI h)
termination_by h => h
theorem rkF_0 (u : Nat → Int64) (q : Nat → Int32) : rkF u q 0 = q := by rw [rkF]
theorem rkF_s (u : Nat → Int64) (q : Nat → Int32) (h : Nat) : rkF u q (h + 1) = va_up (rkF u q h) (ahN u h 8) (nI h) := by rw [rkF]
/-- who is at a rank -/
def rkN (u : Nat → Int64) : Nat → Nat → Nat
  | 0, _ => 0
  | h + 1, j => if j = ahN u h 8 then h else rkN u h j
termination_by h => h
theorem rkN_lt (u : Nat → Int64) (j : Nat) : ∀ n, n ≤ 8 → rkN u n j < 8
  | 0, _ => by rw [rkN]; omega
  | n + 1, h => by
    have := rkN_lt u j n (by omega)
    rw [rkN]
    split <;> omega
theorem rkN_at (u : Nat → Int64) (j : Nat) : ∀ n, (∃ h, h < n ∧ ahN u h 8 = j) → ahN u (rkN u n j) 8 = j
  | 0, h => by obtain ⟨h, hh, _⟩ := h; omega
  | n + 1, h => by
    rw [rkN]
    split
    · rename_i e; exact e.symm
    · rename_i e
      refine rkN_at u j n ?_
      obtain ⟨h, hh, hj⟩ := h
      refine ⟨h, Nat.lt_of_le_of_ne (by omega) (fun q => e ?_), hj⟩
      rw [← hj, q]
theorem rkF_at (u : Nat → Int64) (q : Nat → Int32) (j : Nat) : ∀ n, (∃ h, h < n ∧ ahN u h 8 = j) → rkF u q n j = nI (rkN u n j)
  | 0, h => by obtain ⟨h, hh, _⟩ := h; omega
  | n + 1, h => by
    rw [rkN, rkF_s]
    unfold va_up
    by_cases e : j = ahN u n 8
    · rw [if_pos e, if_pos e]
    · rw [if_neg e, if_neg e]
      refine rkF_at u q j n ?_
      obtain ⟨h, hh, hj⟩ := h
      refine ⟨h, Nat.lt_of_le_of_ne (by omega) (fun q => e ?_), hj⟩
      rw [← hj, q]
theorem rkF_all (u : Nat → Int64) (q : Nat → Int32) (j : Nat) (hj : j < 8) : nI (rkN u 8 j) = rkF u q 8 j := (rkF_at u q j 8 (ahN_onto u 8 j hj)).symm
theorem ahB_gt {u : Nat → Int64} {h o : Nat} (q : u h < u o) : ahB u h o := Or.inl q
theorem ahB_ne {u : Nat → Int64} {h o : Nat} (q : ¬ u h < u o) (e : ¬ u o = u h) : ¬ ahB u h o := fun x => x.elim q (fun y => e y.1)
theorem ahB_ge {u : Nat → Int64} {h o : Nat} (q : ¬ u h < u o) (e : ¬ o < h) : ¬ ahB u h o := fun x => x.elim q (fun y => e y.2)
theorem ahB_eq {u : Nat → Int64} {h o : Nat} (q : u o = u h) (e : o < h) : ahB u h o := Or.inr ⟨q, e⟩
/-- taking by rank until there is more than half -/
def fwL (u : Nat → Int64) (all : Int64) : Nat → Nat → Int64 → Int32 → Int32 × Int32
  | 0, i, _, b => (nI i, b)
  | n + 1, i, hv, b => if all < 2 * hv then (nI i, b) else fwL u all n (i + 1) (hv + u (rkN u 8 i)) (b ||| (1 <<< (nI (rkN u 8 i) &&& 31)))
termination_by n => n
theorem fwL_0 (u : Nat → Int64) (all : Int64) (i : Nat) (hv : Int64) (b : Int32) : fwL u all 0 i hv b = (nI i, b) := by rw [fwL]
theorem fwL_t {u : Nat → Int64} {all : Int64} {n i : Nat} {hv : Int64} {b : Int32} (q : all < 2 * hv) : fwL u all (n + 1) i hv b = (nI i, b) := by rw [fwL, if_pos q]
theorem fwL_f {u : Nat → Int64} {all : Int64} {n i : Nat} {hv : Int64} {b : Int32} (q : ¬ all < 2 * hv) : fwL u all (n + 1) i hv b = fwL u all n (i + 1) (hv + u (rkN u 8 i)) (b ||| (1 <<< (nI (rkN u 8 i) &&& 31))) := by rw [fwL, if_neg q]
def x_few (u : Nat → Int64) : Int32 × Option (List Int64) := if sumF 0 u 8 = 0 then (-2, none) else ((fwL u (sumF 0 u 8) 8 0 0 0).1, some [(fwL u (sumF 0 u 8) 8 0 0 0).2.toInt64])

set_option maxRecDepth 100000 in
set_option maxHeartbeats 4000000 in
theorem c_X7_weighVotes (l : Launch) (E : rhE) (A : Nat → Nat) (C : CT) (Z : ZT) (T : Nat) (hC : cOk C T)  : Ctr l E yX7_weighVotes cX7_weighVotes 2 none (rmL 3) [.ref (A 0)] (wC E A C Z) (One none (wC E A C (Z.1, Z.2.1, Z.2.2.1, Z.2.2.2.1, Z.2.2.2.2.1, (fun h => cVotes C.1 h T), Z.2.2.2.2.2.2))) := by
  refine Ctr.of (by decide) (Nat.le_of_ble_eq_true rfl) rfl rfl 1 ?_
  intro X hX hR
  obtain ⟨hT, hT1, hT6, hnx, hud, hn, hrn⟩ := id hC
  refine rh_iconst hX dX7_weighVotes_0 ki_0 ?_
  refine rh_istn1 hX dX7_weighVotes_1 (by decide) rfl ?_
  suffices hP0 : G X 2 [some (.ref (A 0)), some (.int 0)] [] (wC E A C (Z.1, Z.2.1, Z.2.2.1, Z.2.2.2.1, Z.2.2.2.2.1, (rowTo (fun h => cVotes C.1 h T) Z.2.2.2.2.2.1 0), Z.2.2.2.2.2.2)) by rw [rowTo_0] at hP0; exact hP0
  refine rh_loop (P := fun i => G X 2 [some (.ref (A 0)), some (.int (nI i))] [] (wC E A C (Z.1, Z.2.1, Z.2.2.1, Z.2.2.2.1, Z.2.2.2.2.1, (rowTo (fun h => cVotes C.1 h T) Z.2.2.2.2.2.1 i), Z.2.2.2.2.2.2))) (0) (8) (by omega) ?_ ?_
  · skip
    refine rh_ext (q := 34) (g := (fun h => cVotes C.1 h T)) rfl (fun j hj => rowTo_lt (fun h => cVotes C.1 h T) Z.2.2.2.2.2.1 8 j hj) rfl ?_
    dsimp only [List.cons_append, List.nil_append, List.set_cons_succ, List.set_cons_zero]
    refine rh_iload_n hX dX7_weighVotes_2 rfl ?_
    refine rh_bipush hX dX7_weighVotes_3 kb_8 ?_
    refine rh_icmp_ge_t (tgt := 28) hX dX7_weighVotes_5 (by decide) (nI_le (a := 8) (b := 8) (Nat.le_refl 8) (by decide)) ?_
    exact rh_vret hX hR dX7_weighVotes_28 (by simp only [List.map_cons, List.map_nil, List.cons_append, List.nil_append]) ⟨rfl, rfl⟩
  · intro i hi0 hi ih
    refine rh_iload_n hX dX7_weighVotes_2 rfl ?_
    refine rh_bipush hX dX7_weighVotes_3 kb_8 ?_
    refine rh_icmp_ge_f (tgt := 28) hX dX7_weighVotes_5 (by decide) (nI_ge (b := 8) hi (by decide)) ?_
    refine rh_aload_n hX dX7_weighVotes_8 rfl ?_
    refine rh_get hX gl_X7_65 0 dX7_weighVotes_9 rfl rfl ?_
    refine rh_iload_n hX dX7_weighVotes_12 rfl ?_
    refine rh_aload_n hX dX7_weighVotes_13 rfl ?_
    refine rh_get hX gl_X7_12 0 dX7_weighVotes_14 rfl rfl ?_
    refine rh_iload_n hX dX7_weighVotes_17 rfl ?_
    refine rh_pV hX lk_X7_237 mvX1_votes (fun l => c_X1_votes l E _ _ _ i T hT hT6 (by omega)) ⟨rfl, rfl⟩ ⟨Nat.le_of_ble_eq_true rfl, Nat.le_of_ble_eq_true rfl⟩ [1, 2] rfl rfl 1 rfl dX7_weighVotes_18 rfl rfl (Nat.le_of_ble_eq_true rfl) ?_
    refine rh_lastore hX 34 _ dX7_weighVotes_21 rfl rfl (by omega) (by decide) rfl ?_
    dsimp only [List.cons_append, List.nil_append, List.set_cons_succ, List.set_cons_zero, vput]
    refine rh_inc1 hX dX7_weighVotes_22 (by decide) rfl (rn_i1 _) ?_
    refine rh_goto (tgt := 2) hX dX7_weighVotes_25 (by decide) ?_
    rw [← rowTo_s (fun h => cVotes C.1 h T)] at ih
    exact ih

set_option maxRecDepth 100000 in
set_option maxHeartbeats 4000000 in
theorem c_X7_weighHeld (l : Launch) (E : rhE) (A : Nat → Nat) (C : CT) (Z : ZT) (T : Nat) (hC : cOk C T) (td : Nat) (htd : td < 6)  : Ctr l E yX7_weighHeld cX7_weighHeld 3 none (rmL 2) [.ref (A 0), .int (nI td)] (wC E A C Z) (One none (wC E A C (Z.1, Z.2.1, Z.2.2.1, Z.2.2.2.1, Z.2.2.2.2.1, (fun h => cHeld C.1 h td), Z.2.2.2.2.2.2))) := by
  refine Ctr.of (by decide) (Nat.le_of_ble_eq_true rfl) rfl rfl 1 ?_
  intro X hX hR
  obtain ⟨hT, hT1, hT6, hnx, hud, hn, hrn⟩ := id hC
  refine rh_iconst hX dX7_weighHeld_0 ki_0 ?_
  refine rh_istn2 hX dX7_weighHeld_1 (by decide) rfl ?_
  suffices hP0 : G X 2 [some (.ref (A 0)), some (.int (nI td)), some (.int 0)] [] (wC E A C (Z.1, Z.2.1, Z.2.2.1, Z.2.2.2.1, Z.2.2.2.2.1, (rowTo (fun h => cHeld C.1 h td) Z.2.2.2.2.2.1 0), Z.2.2.2.2.2.2)) by rw [rowTo_0] at hP0; exact hP0
  refine rh_loop (P := fun i => G X 2 [some (.ref (A 0)), some (.int (nI td)), some (.int (nI i))] [] (wC E A C (Z.1, Z.2.1, Z.2.2.1, Z.2.2.2.1, Z.2.2.2.2.1, (rowTo (fun h => cHeld C.1 h td) Z.2.2.2.2.2.1 i), Z.2.2.2.2.2.2))) (0) (8) (by omega) ?_ ?_
  · skip
    refine rh_ext (q := 34) (g := (fun h => cHeld C.1 h td)) rfl (fun j hj => rowTo_lt (fun h => cHeld C.1 h td) Z.2.2.2.2.2.1 8 j hj) rfl ?_
    dsimp only [List.cons_append, List.nil_append, List.set_cons_succ, List.set_cons_zero]
    refine rh_iload_n hX dX7_weighHeld_2 rfl ?_
    refine rh_bipush hX dX7_weighHeld_3 kb_8 ?_
    refine rh_icmp_ge_t (tgt := 29) hX dX7_weighHeld_5 (by decide) (nI_le (a := 8) (b := 8) (Nat.le_refl 8) (by decide)) ?_
    exact rh_vret hX hR dX7_weighHeld_29 (by simp only [List.map_cons, List.map_nil, List.cons_append, List.nil_append]) ⟨rfl, rfl⟩
  · intro i hi0 hi ih
    refine rh_iload_n hX dX7_weighHeld_2 rfl ?_
    refine rh_bipush hX dX7_weighHeld_3 kb_8 ?_
    refine rh_icmp_ge_f (tgt := 29) hX dX7_weighHeld_5 (by decide) (nI_ge (b := 8) hi (by decide)) ?_
    refine rh_aload_n hX dX7_weighHeld_8 rfl ?_
    refine rh_get hX gl_X7_65 0 dX7_weighHeld_9 rfl rfl ?_
    refine rh_iload_n hX dX7_weighHeld_12 rfl ?_
    refine rh_aload_n hX dX7_weighHeld_13 rfl ?_
    refine rh_get hX gl_X7_12 0 dX7_weighHeld_14 rfl rfl ?_
    refine rh_iload_n hX dX7_weighHeld_17 rfl ?_
    refine rh_iload_n hX dX7_weighHeld_18 rfl ?_
    refine rh_pV hX lk_X7_113 mvX1_held (fun l => c_X1_held l E _ _ _ i td (by omega) (by omega)) ⟨rfl, rfl⟩ ⟨Nat.le_of_ble_eq_true rfl, Nat.le_of_ble_eq_true rfl⟩ [1, 2] rfl rfl 1 rfl dX7_weighHeld_19 rfl rfl (Nat.le_of_ble_eq_true rfl) ?_
    refine rh_lastore hX 34 _ dX7_weighHeld_22 rfl rfl (by omega) (by decide) rfl ?_
    dsimp only [List.cons_append, List.nil_append, List.set_cons_succ, List.set_cons_zero, vput]
    refine rh_inc2 hX dX7_weighHeld_23 (by decide) rfl (rn_i1 _) ?_
    refine rh_goto (tgt := 2) hX dX7_weighHeld_26 (by decide) ?_
    rw [← rowTo_s (fun h => cHeld C.1 h td)] at ih
    exact ih

set_option maxRecDepth 100000 in
set_option maxHeartbeats 4000000 in
theorem c_X7_rank (l : Launch) (E : rhE) (A : Nat → Nat) (C : CT) (Z : ZT)  : Ctr l E yX7_rank cX7_rank 4 none (rmL 0) [.ref (A 0)] (wC E A C Z) (One none (wC E A C (Z.1, Z.2.1, Z.2.2.1, Z.2.2.2.1, Z.2.2.2.2.1, Z.2.2.2.2.2.1, (fun i => nI (rkN Z.2.2.2.2.2.1 8 i))))) := by
  refine Ctr.of (by decide) (Nat.le_of_ble_eq_true rfl) rfl rfl 3 ?_
  intro X hX hR
  refine rh_iconst hX dX7_rank_0 ki_0 ?_
  refine rh_istn1 hX dX7_rank_1 (by decide) rfl ?_
  suffices hP0 : G X 2 [some (.ref (A 0)), some (.int 0), none, none] [] (wC E A C (Z.1, Z.2.1, Z.2.2.1, Z.2.2.2.1, Z.2.2.2.2.1, Z.2.2.2.2.2.1, (rkF Z.2.2.2.2.2.1 Z.2.2.2.2.2.2 0))) by rw [rkF_0] at hP0; exact hP0
  refine rh_loop (P := fun i => G X 2 [some (.ref (A 0)), some (.int (nI i)), none, none] [] (wC E A C (Z.1, Z.2.1, Z.2.2.1, Z.2.2.2.1, Z.2.2.2.2.1, Z.2.2.2.2.2.1, (rkF Z.2.2.2.2.2.1 Z.2.2.2.2.2.2 i)))) (0) (8) (by omega) ?_ ?_
  · skip
    refine rh_extI (q := 35) (g := (fun i => nI (rkN Z.2.2.2.2.2.1 8 i))) rfl (fun j hj => rkF_all _ _ j hj) rfl ?_
    dsimp only [List.cons_append, List.nil_append, List.set_cons_succ, List.set_cons_zero]
    refine rh_iload_n hX dX7_rank_2 rfl ?_
    refine rh_bipush hX dX7_rank_3 kb_8 ?_
    refine rh_icmp_ge_t (tgt := 83) hX dX7_rank_5 (by decide) (nI_le (a := 8) (b := 8) (Nat.le_refl 8) (by decide)) ?_
    exact rh_vret hX hR dX7_rank_83 (by simp only [List.map_cons, List.map_nil, List.cons_append, List.nil_append]) ⟨rfl, rfl⟩
  · intro i hi0 hi ih
    refine rh_iload_n hX dX7_rank_2 rfl ?_
    refine rh_bipush hX dX7_rank_3 kb_8 ?_
    refine rh_icmp_ge_f (tgt := 83) hX dX7_rank_5 (by decide) (nI_ge (b := 8) hi (by decide)) ?_
    refine rh_iconst hX dX7_rank_8 ki_0 ?_
    refine rh_istn2 hX dX7_rank_9 (by decide) rfl ?_
    refine rh_iconst hX dX7_rank_10 ki_0 ?_
    refine rh_istn3 hX dX7_rank_11 (by decide) rfl ?_
    suffices hP1 : G X 12 [some (.ref (A 0)), some (.int (nI i)), some (.int (nI (ahN Z.2.2.2.2.2.1 i 0))), some (.int 0)] [] (wC E A C (Z.1, Z.2.1, Z.2.2.1, Z.2.2.2.1, Z.2.2.2.2.1, Z.2.2.2.2.2.1, (rkF Z.2.2.2.2.2.1 Z.2.2.2.2.2.2 i))) by rw [ahN_0] at hP1; exact hP1
    refine rh_loop (P := fun o => G X 12 [some (.ref (A 0)), some (.int (nI i)), some (.int (nI (ahN Z.2.2.2.2.2.1 i o))), some (.int (nI o))] [] (wC E A C (Z.1, Z.2.1, Z.2.2.1, Z.2.2.2.1, Z.2.2.2.2.1, Z.2.2.2.2.2.1, (rkF Z.2.2.2.2.2.1 Z.2.2.2.2.2.2 i)))) (0) (8) (by omega) ?_ ?_
    · skip
      refine rh_iload_n hX dX7_rank_12 rfl ?_
      refine rh_bipush hX dX7_rank_13 kb_8 ?_
      refine rh_icmp_ge_t (tgt := 64) hX dX7_rank_15 (by decide) (nI_le (a := 8) (b := 8) (Nat.le_refl 8) (by decide)) ?_
      refine rh_iload_n hX dX7_rank_64 rfl ?_
      refine rh_bipush hX dX7_rank_65 kb_8 ?_
      refine rh_icmp_ge_f (tgt := 77) hX dX7_rank_67 (by decide) (nI_ge (b := 8) (ahN_lt Z.2.2.2.2.2.1 i 8 hi) (by decide)) ?_
      refine rh_aload_n hX dX7_rank_70 rfl ?_
      refine rh_get hX gl_X7_68 0 dX7_rank_71 rfl rfl ?_
      refine rh_iload_n hX dX7_rank_74 rfl ?_
      refine rh_iload_n hX dX7_rank_75 rfl ?_
      refine rh_iastore hX 35 _ dX7_rank_76 rfl rfl (ahN_lt _ i 8 hi) (by decide) rfl ?_
      dsimp only [List.cons_append, List.nil_append, List.set_cons_succ, List.set_cons_zero, vput]
      refine rh_inc1 hX dX7_rank_77 (by decide) rfl (rn_i1 _) ?_
      refine rh_goto (tgt := 2) hX dX7_rank_80 (by decide) ?_
      rw [rkF_s] at ih
      exact rh_wk (by exact ⟨rfl, rfl, trivial⟩) ih
    · intro o ho0 ho iho
      refine rh_iload_n hX dX7_rank_12 rfl ?_
      refine rh_bipush hX dX7_rank_13 kb_8 ?_
      refine rh_icmp_ge_f (tgt := 64) hX dX7_rank_15 (by decide) (nI_ge (b := 8) ho (by decide)) ?_
      refine rh_aload_n hX dX7_rank_18 rfl ?_
      refine rh_get hX gl_X7_65 0 dX7_rank_19 rfl rfl ?_
      refine rh_iload_n hX dX7_rank_22 rfl ?_
      refine rh_laload hX 34 _ dX7_rank_23 rfl rfl (by omega) (by decide) ?_
      refine rh_aload_n hX dX7_rank_24 rfl ?_
      refine rh_get hX gl_X7_65 0 dX7_rank_25 rfl rfl ?_
      refine rh_iload_n hX dX7_rank_28 rfl ?_
      refine rh_laload hX 34 _ dX7_rank_29 rfl rfl (by omega) (by decide) ?_
      refine rh_lgt (tgt := 55) hX dX7_rank_30 dX7_rank_31 (by decide) (fun h31 => ?_) (fun h31 => ?_)
      · skip
        refine rh_inc2 hX dX7_rank_55 (by decide) rfl (rn_i1 _) ?_
        refine rh_inc3 hX dX7_rank_58 (by decide) rfl (rn_i1 _) ?_
        refine rh_goto (tgt := 12) hX dX7_rank_61 (by decide) ?_
        first | (rw [ahN_t (ahB_gt h31)] at iho; exact iho) | (rw [ahN_f (ahB_ne h31 h47)] at iho; exact iho) | (rw [ahN_f (ahB_ge h31 (Nat.not_lt.mpr (rn_leI h52 (by omega) (by omega))))] at iho; exact iho) | (rw [ahN_t (ahB_eq h47 (rn_leN h52 (by omega) (by omega)))] at iho; exact iho)
      · skip
        refine rh_aload_n hX dX7_rank_34 rfl ?_
        refine rh_get hX gl_X7_65 0 dX7_rank_35 rfl rfl ?_
        refine rh_iload_n hX dX7_rank_38 rfl ?_
        refine rh_laload hX 34 _ dX7_rank_39 rfl rfl (by omega) (by decide) ?_
        refine rh_aload_n hX dX7_rank_40 rfl ?_
        refine rh_get hX gl_X7_65 0 dX7_rank_41 rfl rfl ?_
        refine rh_iload_n hX dX7_rank_44 rfl ?_
        refine rh_laload hX 34 _ dX7_rank_45 rfl rfl (by omega) (by decide) ?_
        refine rh_lne (tgt := 58) hX dX7_rank_46 dX7_rank_47 (by decide) (fun h47 => ?_) (fun h47 => ?_)
        · skip
          refine rh_inc3 hX dX7_rank_58 (by decide) rfl (rn_i1 _) ?_
          refine rh_goto (tgt := 12) hX dX7_rank_61 (by decide) ?_
          first | (rw [ahN_t (ahB_gt h31)] at iho; exact iho) | (rw [ahN_f (ahB_ne h31 h47)] at iho; exact iho) | (rw [ahN_f (ahB_ge h31 (Nat.not_lt.mpr (rn_leI h52 (by omega) (by omega))))] at iho; exact iho) | (rw [ahN_t (ahB_eq h47 (rn_leN h52 (by omega) (by omega)))] at iho; exact iho)
        · skip
          refine rh_iload_n hX dX7_rank_50 rfl ?_
          refine rh_iload_n hX dX7_rank_51 rfl ?_
          refine rh_icmp_ge (tgt := 58) hX dX7_rank_52 (by decide) (fun h52 => ?_) (fun h52 => ?_)
          · skip
            refine rh_inc3 hX dX7_rank_58 (by decide) rfl (rn_i1 _) ?_
            refine rh_goto (tgt := 12) hX dX7_rank_61 (by decide) ?_
            first | (rw [ahN_t (ahB_gt h31)] at iho; exact iho) | (rw [ahN_f (ahB_ne h31 h47)] at iho; exact iho) | (rw [ahN_f (ahB_ge h31 (Nat.not_lt.mpr (rn_leI h52 (by omega) (by omega))))] at iho; exact iho) | (rw [ahN_t (ahB_eq h47 (rn_leN h52 (by omega) (by omega)))] at iho; exact iho)
          · skip
            refine rh_inc2 hX dX7_rank_55 (by decide) rfl (rn_i1 _) ?_
            refine rh_inc3 hX dX7_rank_58 (by decide) rfl (rn_i1 _) ?_
            refine rh_goto (tgt := 12) hX dX7_rank_61 (by decide) ?_
            first | (rw [ahN_t (ahB_gt h31)] at iho; exact iho) | (rw [ahN_f (ahB_ne h31 h47)] at iho; exact iho) | (rw [ahN_f (ahB_ge h31 (Nat.not_lt.mpr (rn_leI h52 (by omega) (by omega))))] at iho; exact iho) | (rw [ahN_t (ahB_eq h47 (rn_leN h52 (by omega) (by omega)))] at iho; exact iho)

set_option maxRecDepth 100000 in
set_option maxHeartbeats 4000000 in
theorem c_X7_fewest (l : Launch) (E : rhE) (A : Nat → Nat) (C : CT) (Z : ZT)  (T : Nat) (hC : cOk C T) (hz : zOk Z) : Ctr l E yX7_fewest cX7_fewest 8 (some .int) (rmL 4) [.ref (A 0)] (wC E A C Z) (fun r w => ∃ Z1 C1, r = some (Value.int (x_few Z.2.2.2.2.2.1).1) ∧ zOk Z1 ∧ rowTold C C1 (x_few Z.2.2.2.2.2.1).2 ∧ w = wC E A C1 Z1) := by
  refine Ctr.of (by decide) (Nat.le_of_ble_eq_true rfl) rfl rfl 7 ?_
  intro X hX hR
  obtain ⟨hT, hT1, hT6, hnx, hud, hn, hrn⟩ := id hC
  refine rh_lconst hX dX7_fewest_0 kL_0 ?_
  refine rh_lstn1 hX dX7_fewest_1 (by decide) rfl ?_
  refine rh_iconst hX dX7_fewest_2 ki_0 ?_
  refine rh_istn3 hX dX7_fewest_3 (by decide) rfl ?_
  refine rh_loop (P := fun i => G X 4 [some (.ref (A 0)), some (.long (sumF 0 Z.2.2.2.2.2.1 i)), none, some (.int (nI i)), none, none, none, none] [] (wC E A C Z)) (0) (8) (by omega) ?_ ?_
  · skip
    refine rh_iload_n hX dX7_fewest_4 rfl ?_
    refine rh_bipush hX dX7_fewest_5 kb_8 ?_
    refine rh_icmp_ge_t (tgt := 25) hX dX7_fewest_7 (by decide) (nI_le (a := 8) (b := 8) (Nat.le_refl 8) (by decide)) ?_
    refine rh_lload_n hX dX7_fewest_25 rfl ?_
    refine rh_lconst hX dX7_fewest_26 kL_0 ?_
    refine rh_lne (tgt := 34) hX dX7_fewest_27 dX7_fewest_28 (by decide) (fun h28 => ?_) (fun h28 => ?_)
    · skip
      refine rh_aload_n hX dX7_fewest_34 rfl ?_
      refine rh_uV hX lk_X7_254 mvX7_rank (fun l => c_X7_rank l E _ _ _) ⟨rfl, rfl⟩ ⟨Nat.le_of_ble_eq_true rfl, Nat.le_of_ble_eq_true rfl⟩ [0, 1, 2, 3, 4, 5, 6, 7, 8, 9, 10, 11, 12, 13, 14, 15, 16, 17, 18, 19, 20, 21, 22, 23, 24, 25, 26, 27, 28, 29, 30, 31, 32, 33, 34, 35] rfl rfl 0 rfl dX7_fewest_35 rfl rfl (Nat.le_of_ble_eq_true rfl) rfl ?_
      dsimp only [List.cons_append, List.nil_append, List.set_cons_succ, List.set_cons_zero, vput]
      refine rh_lconst hX dX7_fewest_38 kL_0 ?_
      refine rh_lstn3 hX dX7_fewest_39 (by decide) rfl ?_
      refine rh_iconst hX dX7_fewest_40 ki_0 ?_
      refine rh_ist5 hX dX7_fewest_41 (by decide) rfl ?_
      refine rh_iconst hX dX7_fewest_43 ki_0 ?_
      refine rh_ist6 hX dX7_fewest_44 (by decide) rfl ?_
      refine rh_iconst hX dX7_fewest_46 ki_0 ?_
      refine rh_ist7 hX dX7_fewest_47 (by decide) rfl ?_
      refine (rh_loop (P := fun k => ∀ hv bt, fwL Z.2.2.2.2.2.1 (sumF 0 Z.2.2.2.2.2.1 8) (8 - k) k hv bt = fwL Z.2.2.2.2.2.1 (sumF 0 Z.2.2.2.2.2.1 8) 8 0 0 0 → G X 49 [some (.ref (A 0)), some (.long (sumF 0 Z.2.2.2.2.2.1 8)), none, some (.long hv), none, some (.int bt), some (.int (nI k)), some (.int (nI k))] [] (wC E A C (Z.1, Z.2.1, Z.2.2.1, Z.2.2.2.1, Z.2.2.2.2.1, Z.2.2.2.2.2.1, (fun i => nI (rkN Z.2.2.2.2.2.1 8 i))))) (0) (8) (by omega) ?_ ?_) _ _ rfl
      · intro hv bt hE
        rw [show 8 - 8 = 0 from rfl, fwL_0] at hE
        refine rh_iload hX dX7_fewest_49 rfl ?_
        refine rh_bipush hX dX7_fewest_51 kb_8 ?_
        refine rh_icmp_ge_t (tgt := 104) hX dX7_fewest_53 (by decide) (nI_le (a := 8) (b := 8) (Nat.le_refl 8) (by decide)) ?_
        refine rh_aload_n hX dX7_fewest_104 rfl ?_
        refine rh_get hX gl_X7_40 0 dX7_fewest_105 rfl rfl ?_
        refine rh_uV hX lk_X7_184 mvX3_clear (fun l => c_X3_clear l E _ _ _ _) ⟨rfl, rfl⟩ ⟨Nat.le_of_ble_eq_true rfl, Nat.le_of_ble_eq_true rfl⟩ [18, 19] rfl rfl 18 rfl dX7_fewest_108 rfl rfl (Nat.le_of_ble_eq_true rfl) rfl ?_
        dsimp only [List.cons_append, List.nil_append, List.set_cons_succ, List.set_cons_zero, vput]
        refine rh_aload_n hX dX7_fewest_111 rfl ?_
        refine rh_get hX gl_X7_40 0 dX7_fewest_112 rfl rfl ?_
        refine rh_iload hX dX7_fewest_115 rfl ?_
        refine rh_i2l hX dX7_fewest_117 ?_
        refine rh_uV hX lk_X7_181 mvX3_tell (fun l => c_X3_tell l E _ _ _ 0 _ (by omega)) ⟨rfl, rfl⟩ ⟨Nat.le_of_ble_eq_true rfl, Nat.le_of_ble_eq_true rfl⟩ [18, 19] rfl rfl 18 rfl dX7_fewest_118 rfl rfl (Nat.le_of_ble_eq_true rfl) rfl ?_
        dsimp only [List.cons_append, List.nil_append, List.set_cons_succ, List.set_cons_zero, vput]
        refine rh_iload hX dX7_fewest_121 rfl ?_
        exact rh_iret hX hR dX7_fewest_123 (by simp only [List.map_cons, List.map_nil, List.cons_append, List.nil_append]) (by refine ⟨(Z.1, Z.2.1, Z.2.2.1, Z.2.2.2.1, Z.2.2.2.2.1, Z.2.2.2.2.2.1, (fun i => nI (rkN Z.2.2.2.2.2.1 8 i))), setRow C (va_up C.2.2.2.2.2.2.2.2.2.1 0 _) (0 + 1), ?ga, hz, ?gb, rfl⟩; (case ga => rw [x_few, if_neg h28, ← hE] <;> rfl); (case gb => rw [x_few, if_neg h28, ← hE]; exact ⟨_, rowOk1 _ _, rfl⟩))
      · intro k hk0 hk ihk hv bt hE
        rw [show 8 - k = (8 - (k + 1)) + 1 by omega] at hE
        refine rh_iload hX dX7_fewest_49 rfl ?_
        refine rh_bipush hX dX7_fewest_51 kb_8 ?_
        refine rh_icmp_ge_f (tgt := 104) hX dX7_fewest_53 (by decide) (nI_ge (b := 8) hk (by decide)) ?_
        refine rh_ldc2 hX dX7_fewest_56 kl_X7_266 ?_
        refine rh_lload_n hX dX7_fewest_59 rfl ?_
        refine rh_lmul hX dX7_fewest_60 ?_
        refine rh_lload_n hX dX7_fewest_61 rfl ?_
        refine rh_lgt (tgt := 104) hX dX7_fewest_62 dX7_fewest_63 (by decide) (fun h63 => ?_) (fun h63 => ?_)
        · skip
          rw [fwL_t h63] at hE
          refine rh_aload_n hX dX7_fewest_104 rfl ?_
          refine rh_get hX gl_X7_40 0 dX7_fewest_105 rfl rfl ?_
          refine rh_uV hX lk_X7_184 mvX3_clear (fun l => c_X3_clear l E _ _ _ _) ⟨rfl, rfl⟩ ⟨Nat.le_of_ble_eq_true rfl, Nat.le_of_ble_eq_true rfl⟩ [18, 19] rfl rfl 18 rfl dX7_fewest_108 rfl rfl (Nat.le_of_ble_eq_true rfl) rfl ?_
          dsimp only [List.cons_append, List.nil_append, List.set_cons_succ, List.set_cons_zero, vput]
          refine rh_aload_n hX dX7_fewest_111 rfl ?_
          refine rh_get hX gl_X7_40 0 dX7_fewest_112 rfl rfl ?_
          refine rh_iload hX dX7_fewest_115 rfl ?_
          refine rh_i2l hX dX7_fewest_117 ?_
          refine rh_uV hX lk_X7_181 mvX3_tell (fun l => c_X3_tell l E _ _ _ 0 _ (by omega)) ⟨rfl, rfl⟩ ⟨Nat.le_of_ble_eq_true rfl, Nat.le_of_ble_eq_true rfl⟩ [18, 19] rfl rfl 18 rfl dX7_fewest_118 rfl rfl (Nat.le_of_ble_eq_true rfl) rfl ?_
          dsimp only [List.cons_append, List.nil_append, List.set_cons_succ, List.set_cons_zero, vput]
          refine rh_iload hX dX7_fewest_121 rfl ?_
          exact rh_iret hX hR dX7_fewest_123 (by simp only [List.map_cons, List.map_nil, List.cons_append, List.nil_append]) (by refine ⟨(Z.1, Z.2.1, Z.2.2.1, Z.2.2.2.1, Z.2.2.2.2.1, Z.2.2.2.2.2.1, (fun i => nI (rkN Z.2.2.2.2.2.1 8 i))), setRow C (va_up C.2.2.2.2.2.2.2.2.2.1 0 _) (0 + 1), ?ga, hz, ?gb, rfl⟩; (case ga => rw [x_few, if_neg h28, ← hE] <;> rfl); (case gb => rw [x_few, if_neg h28, ← hE]; exact ⟨_, rowOk1 _ _, rfl⟩))
        · skip
          refine rh_lload_n hX dX7_fewest_66 rfl ?_
          refine rh_aload_n hX dX7_fewest_67 rfl ?_
          refine rh_get hX gl_X7_65 0 dX7_fewest_68 rfl rfl ?_
          refine rh_aload_n hX dX7_fewest_71 rfl ?_
          refine rh_get hX gl_X7_68 0 dX7_fewest_72 rfl rfl ?_
          refine rh_iload hX dX7_fewest_75 rfl ?_
          refine rh_iaload hX 35 _ dX7_fewest_77 rfl rfl (by omega) (by decide) ?_
          refine rh_laload hX 34 (rkN Z.2.2.2.2.2.1 8 k) dX7_fewest_78 rfl rfl (rkN_lt _ _ 8 (Nat.le_refl 8)) (by decide) ?_
          refine rh_ladd hX dX7_fewest_79 ?_
          refine rh_lstn3 hX dX7_fewest_80 (by decide) rfl ?_
          refine rh_iload hX dX7_fewest_81 rfl ?_
          refine rh_iconst hX dX7_fewest_83 ki_1 ?_
          refine rh_aload_n hX dX7_fewest_84 rfl ?_
          refine rh_get hX gl_X7_68 0 dX7_fewest_85 rfl rfl ?_
          refine rh_iload hX dX7_fewest_88 rfl ?_
          refine rh_iaload hX 35 _ dX7_fewest_90 rfl rfl (by omega) (by decide) ?_
          refine rh_ishl hX dX7_fewest_91 ?_
          refine rh_ior hX dX7_fewest_92 ?_
          refine rh_ist5 hX dX7_fewest_93 (by decide) rfl ?_
          refine rh_inc6 hX dX7_fewest_95 (by decide) rfl (rn_i1 _) ?_
          refine rh_inc7 hX dX7_fewest_98 (by decide) rfl (rn_i1 _) ?_
          refine rh_goto (tgt := 49) hX dX7_fewest_101 (by decide) ?_
          exact ihk _ _ ((fwL_f h63).symm.trans hE)
    · skip
      refine rh_bipush hX dX7_fewest_31 kb_m2 ?_
      exact rh_iret hX hR dX7_fewest_33 (by simp only [List.map_cons, List.map_nil, List.cons_append, List.nil_append]) (by first | exact ⟨Z, C, by rw [x_few, if_pos h28] <;> rfl, hz, by rw [x_few, if_pos h28] <;> rfl, rfl⟩)
  · intro i hi0 hi ih
    refine rh_iload_n hX dX7_fewest_4 rfl ?_
    refine rh_bipush hX dX7_fewest_5 kb_8 ?_
    refine rh_icmp_ge_f (tgt := 25) hX dX7_fewest_7 (by decide) (nI_ge (b := 8) hi (by decide)) ?_
    refine rh_lload_n hX dX7_fewest_10 rfl ?_
    refine rh_aload_n hX dX7_fewest_11 rfl ?_
    refine rh_get hX gl_X7_65 0 dX7_fewest_12 rfl rfl ?_
    refine rh_iload_n hX dX7_fewest_15 rfl ?_
    refine rh_laload hX 34 _ dX7_fewest_16 rfl rfl (by omega) (by decide) ?_
    refine rh_ladd hX dX7_fewest_17 ?_
    refine rh_lstn1 hX dX7_fewest_18 (by decide) rfl ?_
    refine rh_inc3 hX dX7_fewest_19 (by decide) rfl (rn_i1 _) ?_
    refine rh_goto (tgt := 4) hX dX7_fewest_22 (by decide) ?_
    exact ih
