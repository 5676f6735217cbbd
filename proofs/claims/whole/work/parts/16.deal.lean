def maxl (x y : Int64) : Int64 := if y < x then x else y
/-- CONV behind a round -/
def cRatch (was kd p is mo ah : Int64) : Int64 := if kd = 0 then was else if was ≤ p then was else if kd = 1 then p else if ah + is ≤ 0 then was else maxl 1 (minl was (cQuot (was * ah + 10000 * mo) (ah + is)))

set_option maxRecDepth 100000 in
set_option maxHeartbeats 4000000 in
theorem c_X7_ratcheted (l : Launch) (E : rhE) (was kd p is mo ah : Int64)  : Ctr l E yX7_ratcheted cX7_ratcheted 14 (some .long) (rmL 1) [.long was, .long kd, .long p, .long is, .long mo, .long ah] [] (One (some (.long (cRatch was kd p is mo ah))) []) := by
  refine Ctr.of (by decide) (Nat.le_of_ble_eq_true rfl) rfl rfl 2 ?_
  intro X hX hR
  refine rh_lload_n hX dX7_ratcheted_0 rfl ?_
  refine rh_lconst hX dX7_ratcheted_1 kL_0 ?_
  refine rh_leq (tgt := 13) hX dX7_ratcheted_2 dX7_ratcheted_3 (by decide) (fun h2 => ?_) (fun h2 => ?_)
  · skip
    refine rh_lload_n hX dX7_ratcheted_13 rfl ?_
    exact rh_lret hX hR dX7_ratcheted_14 (by simp only [List.map_cons, List.map_nil, List.cons_append, List.nil_append]) ⟨by first | (rw [cRatch, if_pos h2]; done) | (rw [cRatch, if_neg h2, if_pos (rh_le64.mpr h9)]; done), rfl⟩
  · skip
    refine rh_lload_n hX dX7_ratcheted_6 rfl ?_
    refine rh_lload hX dX7_ratcheted_7 rfl ?_
    refine rh_lgt (tgt := 15) hX dX7_ratcheted_9 dX7_ratcheted_10 (by decide) (fun h9 => ?_) (fun h9 => ?_)
    · skip
      refine rh_lload_n hX dX7_ratcheted_15 rfl ?_
      refine rh_lconst hX dX7_ratcheted_16 kL_1 ?_
      refine rh_lne (tgt := 24) hX dX7_ratcheted_17 dX7_ratcheted_18 (by decide) (fun h17 => ?_) (fun h17 => ?_)
      · skip
        refine rh_lload hX dX7_ratcheted_24 rfl ?_
        refine rh_lload hX dX7_ratcheted_26 rfl ?_
        refine rh_ladd hX dX7_ratcheted_28 ?_
        refine rh_lconst hX dX7_ratcheted_29 kL_0 ?_
        refine rh_lgt (tgt := 36) hX dX7_ratcheted_30 dX7_ratcheted_31 (by decide) (fun h30 => ?_) (fun h30 => ?_)
        · skip
          refine rh_lload_n hX dX7_ratcheted_36 rfl ?_
          refine rh_lload hX dX7_ratcheted_37 rfl ?_
          refine rh_lmul hX dX7_ratcheted_39 ?_
          refine rh_ldc2 hX dX7_ratcheted_40 kl_X7_274 ?_
          refine rh_lload hX dX7_ratcheted_43 rfl ?_
          refine rh_lmul hX dX7_ratcheted_45 ?_
          refine rh_ladd hX dX7_ratcheted_46 ?_
          refine rh_lload hX dX7_ratcheted_47 rfl ?_
          refine rh_lload hX dX7_ratcheted_49 rfl ?_
          refine rh_ladd hX dX7_ratcheted_51 ?_
          refine rh_pS hX lk_X7_187 msX7_quotient (fun l => c_X7_quotient l E _ _) ⟨rfl, rfl⟩ ⟨Nat.le_of_ble_eq_true rfl, Nat.le_of_ble_eq_true rfl⟩ [] rfl rfl dX7_ratcheted_52 rfl rfl (Nat.le_of_ble_eq_true rfl) ?_
          refine rh_lst12 hX dX7_ratcheted_55 (by decide) rfl ?_
          refine rh_lconst hX dX7_ratcheted_57 kL_1 ?_
          refine rh_lload_n hX dX7_ratcheted_58 rfl ?_
          refine rh_lload hX dX7_ratcheted_59 rfl ?_
          refine rh_minl hX mm_X7_373 dX7_ratcheted_61 (Nat.le_of_ble_eq_true rfl) (Nat.le_of_ble_eq_true rfl) ?_
          refine rh_maxl hX mm_X7_280 dX7_ratcheted_64 (Nat.le_of_ble_eq_true rfl) (Nat.le_of_ble_eq_true rfl) ?_
          exact rh_lret hX hR dX7_ratcheted_67 (by simp only [List.map_cons, List.map_nil, List.cons_append, List.nil_append]) ⟨by rw [cRatch, if_neg h2, if_neg (fun q => rh_le64.mp q h9), if_neg h17, if_neg (fun q => rh_le64.mp q h30)]; rfl, rfl⟩
        · skip
          refine rh_lload_n hX dX7_ratcheted_34 rfl ?_
          exact rh_lret hX hR dX7_ratcheted_35 (by simp only [List.map_cons, List.map_nil, List.cons_append, List.nil_append]) ⟨by rw [cRatch, if_neg h2, if_neg (fun q => rh_le64.mp q h9), if_neg h17, if_pos (rh_le64.mpr h30)], rfl⟩
      · skip
        refine rh_lload hX dX7_ratcheted_21 rfl ?_
        exact rh_lret hX hR dX7_ratcheted_23 (by simp only [List.map_cons, List.map_nil, List.cons_append, List.nil_append]) ⟨by rw [cRatch, if_neg h2, if_neg (fun q => rh_le64.mp q h9), if_pos h17], rfl⟩
    · skip
      refine rh_lload_n hX dX7_ratcheted_13 rfl ?_
      exact rh_lret hX hR dX7_ratcheted_14 (by simp only [List.map_cons, List.map_nil, List.cons_append, List.nil_append]) ⟨by first | (rw [cRatch, if_pos h2]; done) | (rw [cRatch, if_neg h2, if_pos (rh_le64.mpr h9)]; done), rfl⟩

/-- a deal: its object, its house, three rows -/
abbrev wD (E : rhE) (o ho ha ac al an : Nat) (f cvs lst nws : Nat → Int64) (ls : Int32) (pA bA nA pr is : Int64) (tn : Int32) (fl : Int64) : va_W := [(o, .inr (0, [.ref ho, .ref ac, .ref al, .ref an, .int ls, .long pA, .long bA, .long nA, .long pr, .long is, .int tn, .long fl])), (ho, .inr (1, [.ref ha])), (ha, aL E 172 f), (ac, aL E 6 cvs), (al, aL E 6 lst), (an, aL E 8 nws)]
/-- who must pay to play, and doesn't: holder i of class t -/
def dmGo (mn : Nat → Int64) (sm all : Int64) (t i : Nat) (s : (Nat → Int64) × Int64 × Int32) : (Nat → Int64) × Int64 × Int32 := if cHeld s.1 i t ≤ 0 then s else if cQuot (sm * cHeld s.1 i t) all ≤ mn i then s else (va_up (va_up s.1 (0 + i * 6 + t) (cHeld s.1 i t + -(cHeld s.1 i t))) (0 + i * 6 + 0) (cHeld (va_up s.1 (0 + i * 6 + t) (cHeld s.1 i t + -(cHeld s.1 i t))) i 0 + cConv (va_up s.1 (0 + i * 6 + t) (cHeld s.1 i t + -(cHeld s.1 i t))) t (cHeld s.1 i t)), s.2.1 + cHeld s.1 i t, s.2.2 ||| (1 <<< (nI i &&& 31)))
def dm (mn : Nat → Int64) (sm all : Int64) (t : Nat) (s : (Nat → Int64) × Int64 × Int32) : Nat → (Nat → Int64) × Int64 × Int32
  | 0 => s
  | i + 1 => dmGo mn sm all t i (dm mn sm all t s i)
termination_by i => i
theorem dm_0 (mn : Nat → Int64) (sm all : Int64) (t : Nat) (s : (Nat → Int64) × Int64 × Int32) : dm mn sm all t s 0 = s := by rw [dm]
theorem dm_s (mn : Nat → Int64) (sm all : Int64) (t : Nat) (s : (Nat → Int64) × Int64 × Int32) (i : Nat) : dm mn sm all t s (i + 1) = dmGo mn sm all t i (dm mn sm all t s i) := by rw [dm]
theorem vu_self {α : Type} (f : Nat → α) (k : Nat) : va_up f k (f k) = f := by
  funext x
  unfold va_up
  by_cases e : x = k
  · rw [if_pos e, e]
  · rw [if_neg e]
theorem vu_up {α : Type} (f : Nat → α) (k : Nat) (u v : α) : va_up (va_up f k u) k v = va_up f k v := by
  funext x
  unfold va_up
  by_cases e : x = k
  · rw [if_pos e, if_pos e]
  · rw [if_neg e, if_neg e, if_neg e]
theorem vu_eq {α : Type} (f : Nat → α) (k : Nat) (u : α) : va_up f k u k = u := if_pos rfl
theorem dmGo_big (mn : Nat → Int64) (sm all : Int64) (t i : Nat) (s : (Nat → Int64) × Int64 × Int32) (ht : t < 6) (hi : i < 8) (x : Nat) (hx : 48 ≤ x) : (dmGo mn sm all t i s).1 x = s.1 x := by
  unfold dmGo
  by_cases h1 : cHeld s.1 i t ≤ 0
  · rw [if_pos h1]
  · rw [if_neg h1]
    by_cases h2 : cQuot (sm * cHeld s.1 i t) all ≤ mn i
    · rw [if_pos h2]
    · rw [if_neg h2]
      show va_up (va_up s.1 _ _) _ _ x = _
      unfold va_up
      rw [if_neg (by omega), if_neg (by omega)]
theorem dm_big (mn : Nat → Int64) (sm all : Int64) (t : Nat) (s : (Nat → Int64) × Int64 × Int32) (ht : t < 6) (x : Nat) (hx : 48 ≤ x) : ∀ i, i ≤ 8 → (dm mn sm all t s i).1 x = s.1 x
  | 0, _ => by rw [dm_0]
  | i + 1, h => by
    rw [dm_s, dmGo_big mn sm all t i _ ht (by omega) x hx, dm_big mn sm all t s ht x hx i (by omega)]

set_option maxRecDepth 100000 in
set_option maxHeartbeats 4000000 in
theorem c_X0_demote (l : Launch) (E : rhE) (o ho ha ac al an : Nat) (f cvs lst nws : Nat → Int64) (ls : Int32) (pA bA nA pr is : Int64) (tn : Int32) (fl : Int64) (to ta tb : Nat) (vl tp : Int64) (lt : Int32) (fc mn : Nat → Int64) (sm : Int64) (t : Nat) (ht : t < 6) (ht1 : 1 ≤ t) : Ctr l E yX0_demote cX0_demote 8 none (rmL 2) [.ref o, .int (nI t), .ref to] (wD E o ho ha ac al an f cvs lst nws ls pA bA nA pr is tn fl ++ wT E to ta tb vl tp lt fc mn sm) (One none (wD E o ho ha ac al an (dm mn sm (cAllHeld f t) t (f, lst t, ls) 8).1 cvs (va_up lst t (dm mn sm (cAllHeld f t) t (f, lst t, ls) 8).2.1) nws (dm mn sm (cAllHeld f t) t (f, lst t, ls) 8).2.2 pA bA nA pr is tn fl ++ wT E to ta tb vl tp lt fc mn sm)) := by
  refine Ctr.of (by decide) (Nat.le_of_ble_eq_true rfl) rfl rfl 5 ?_
  intro X hX hR
  refine rh_aload_n hX dX0_demote_0 rfl ?_
  refine rh_get hX gl_X0_12 0 dX0_demote_1 rfl rfl ?_
  refine rh_iload_n hX dX0_demote_4 rfl ?_
  refine rh_pV hX lk_X0_59 mvX1_allHeld (fun l => c_X1_allHeld l E _ _ _ _ (by omega)) ⟨rfl, rfl⟩ ⟨Nat.le_of_ble_eq_true rfl, Nat.le_of_ble_eq_true rfl⟩ [1, 2] rfl rfl 1 rfl dX0_demote_5 rfl rfl (Nat.le_of_ble_eq_true rfl) ?_
  refine rh_lstn3 hX dX0_demote_8 (by decide) rfl ?_
  refine rh_iconst hX dX0_demote_9 ki_0 ?_
  refine rh_ist5 hX dX0_demote_10 (by decide) rfl ?_
  rw [show lst = va_up lst t (lst t) from (vu_self lst t).symm]
  suffices hP0 : G X 12 [some (.ref o), some (.int (nI t)), some (.ref to), some (.long (cAllHeld f t)), none, some (.int 0), none, none] [] (wD E o ho ha ac al an (dm mn sm (cAllHeld f t) t (f, lst t, ls) 0).1 cvs (va_up lst t (dm mn sm (cAllHeld f t) t (f, lst t, ls) 0).2.1) nws (dm mn sm (cAllHeld f t) t (f, lst t, ls) 0).2.2 pA bA nA pr is tn fl ++ wT E to ta tb vl tp lt fc mn sm) by rw [dm_0] at hP0; exact hP0
  refine rh_loop (P := fun i => G X 12 [some (.ref o), some (.int (nI t)), some (.ref to), some (.long (cAllHeld f t)), none, some (.int (nI i)), none, none] [] (wD E o ho ha ac al an (dm mn sm (cAllHeld f t) t (f, lst t, ls) i).1 cvs (va_up lst t (dm mn sm (cAllHeld f t) t (f, lst t, ls) i).2.1) nws (dm mn sm (cAllHeld f t) t (f, lst t, ls) i).2.2 pA bA nA pr is tn fl ++ wT E to ta tb vl tp lt fc mn sm)) (0) (8) (by omega) ?_ ?_
  · skip
    refine rh_iload hX dX0_demote_12 rfl ?_
    refine rh_bipush hX dX0_demote_14 kb_8 ?_
    refine rh_icmp_ge_t (tgt := 123) hX dX0_demote_16 (by decide) (nI_le (a := 8) (b := 8) (Nat.le_refl 8) (by decide)) ?_
    exact rh_vret hX hR dX0_demote_123 (by simp only [List.map_cons, List.map_nil, List.cons_append, List.nil_append]) ⟨rfl, rfl⟩
  · intro i hi0 hi ih
    have hdm : dm mn sm (cAllHeld f t) t (f, lst t, ls) (i + 1) = dmGo mn sm (cAllHeld f t) t i (dm mn sm (cAllHeld f t) t (f, lst t, ls) i) := dm_s ..
    rw [hdm] at ih
    revert ih
    generalize dm mn sm (cAllHeld f t) t (f, lst t, ls) i = S
    intro ih
    refine rh_iload hX dX0_demote_12 rfl ?_
    refine rh_bipush hX dX0_demote_14 kb_8 ?_
    refine rh_icmp_ge_f (tgt := 123) hX dX0_demote_16 (by decide) (nI_ge (b := 8) hi (by decide)) ?_
    refine rh_aload_n hX dX0_demote_19 rfl ?_
    refine rh_get hX gl_X0_12 0 dX0_demote_20 rfl rfl ?_
    refine rh_iload hX dX0_demote_23 rfl ?_
    refine rh_iload_n hX dX0_demote_25 rfl ?_
    refine rh_pV hX lk_X0_63 mvX1_held (fun l => c_X1_held l E _ _ _ _ _ (by omega) (by omega)) ⟨rfl, rfl⟩ ⟨Nat.le_of_ble_eq_true rfl, Nat.le_of_ble_eq_true rfl⟩ [1, 2] rfl rfl 1 rfl dX0_demote_26 rfl rfl (Nat.le_of_ble_eq_true rfl) ?_
    refine rh_lst6 hX dX0_demote_29 (by decide) rfl ?_
    refine rh_lload hX dX0_demote_31 rfl ?_
    refine rh_lconst hX dX0_demote_33 kL_0 ?_
    refine rh_lle (tgt := 117) hX dX0_demote_34 dX0_demote_35 (by decide) (fun h34 => ?_) (fun h34 => ?_)
    · skip
      refine rh_inc5 hX dX0_demote_117 (by decide) rfl (rn_i1 _) ?_
      refine rh_goto (tgt := 12) hX dX0_demote_120 (by decide) ?_
      first | (rw [dmGo, if_pos h34] at ih; exact rh_wk (by exact ⟨rfl, rfl, rfl, rfl, rfl, trivial⟩) ih) | (rw [dmGo, if_neg h34, if_pos h56] at ih; exact rh_wk (by exact ⟨rfl, rfl, rfl, rfl, rfl, trivial⟩) ih) | (rw [dmGo, if_neg h34, if_neg h56] at ih; rw [vu_up, vu_eq]; exact rh_wk (by exact ⟨rfl, rfl, rfl, rfl, rfl, trivial⟩) ih)
    · skip
      refine rh_aload_n hX dX0_demote_38 rfl ?_
      refine rh_get hX gl_X0_66 6 dX0_demote_39 rfl rfl ?_
      refine rh_iload hX dX0_demote_42 rfl ?_
      refine rh_laload hX 8 _ dX0_demote_44 rfl rfl (by omega) (by decide) ?_
      refine rh_aload_n hX dX0_demote_45 rfl ?_
      refine rh_get hX gl_X0_71 6 dX0_demote_46 rfl rfl ?_
      refine rh_lload hX dX0_demote_49 rfl ?_
      refine rh_lmul hX dX0_demote_51 ?_
      refine rh_lload_n hX dX0_demote_52 rfl ?_
      refine rh_pS hX lk_X0_75 msX7_quotient (fun l => c_X7_quotient l E _ _) ⟨rfl, rfl⟩ ⟨Nat.le_of_ble_eq_true rfl, Nat.le_of_ble_eq_true rfl⟩ [] rfl rfl dX0_demote_53 rfl rfl (Nat.le_of_ble_eq_true rfl) ?_
      refine rh_lge (tgt := 117) hX dX0_demote_56 dX0_demote_57 (by decide) (fun h56 => ?_) (fun h56 => ?_)
      · skip
        refine rh_inc5 hX dX0_demote_117 (by decide) rfl (rn_i1 _) ?_
        refine rh_goto (tgt := 12) hX dX0_demote_120 (by decide) ?_
        first | (rw [dmGo, if_pos h34] at ih; exact rh_wk (by exact ⟨rfl, rfl, rfl, rfl, rfl, trivial⟩) ih) | (rw [dmGo, if_neg h34, if_pos h56] at ih; exact rh_wk (by exact ⟨rfl, rfl, rfl, rfl, rfl, trivial⟩) ih) | (rw [dmGo, if_neg h34, if_neg h56] at ih; rw [vu_up, vu_eq]; exact rh_wk (by exact ⟨rfl, rfl, rfl, rfl, rfl, trivial⟩) ih)
      · skip
        refine rh_aload_n hX dX0_demote_60 rfl ?_
        refine rh_get hX gl_X0_22 0 dX0_demote_61 rfl rfl ?_
        refine rh_iload_n hX dX0_demote_64 rfl ?_
        refine rh_dup2 hX dX0_demote_65 rfl rfl ?_
        refine rh_laload hX 4 _ dX0_demote_66 rfl rfl (by omega) (by decide) ?_
        refine rh_lload hX dX0_demote_67 rfl ?_
        refine rh_ladd hX dX0_demote_69 ?_
        refine rh_lastore hX 4 _ dX0_demote_70 rfl rfl (by omega) (by decide) rfl ?_
        dsimp only [List.cons_append, List.nil_append, List.set_cons_succ, List.set_cons_zero, vput]
        refine rh_aload_n hX dX0_demote_71 rfl ?_
        refine rh_dup hX dX0_demote_72 rfl ?_
        refine rh_get hX gl_X0_43 0 dX0_demote_73 rfl rfl ?_
        refine rh_iconst hX dX0_demote_76 ki_1 ?_
        refine rh_iload hX dX0_demote_77 rfl ?_
        refine rh_ishl hX dX0_demote_79 ?_
        refine rh_ior hX dX0_demote_80 ?_
        refine rh_put hX gl_X0_43 0 dX0_demote_81 rfl rfl rfl (Nat.le_of_ble_eq_true rfl) rfl ?_
        dsimp only [List.cons_append, List.nil_append, List.set_cons_succ, List.set_cons_zero, vput]
        refine rh_aload_n hX dX0_demote_84 rfl ?_
        refine rh_get hX gl_X0_12 0 dX0_demote_85 rfl rfl ?_
        refine rh_iload hX dX0_demote_88 rfl ?_
        refine rh_iload_n hX dX0_demote_90 rfl ?_
        refine rh_lload hX dX0_demote_91 rfl ?_
        refine rh_lneg hX dX0_demote_93 ?_
        refine rh_uV hX lk_X0_79 mvX1_addHeld (fun l => c_X1_addHeld l E _ _ _ _ _ _ (by omega) (by omega)) ⟨rfl, rfl⟩ ⟨Nat.le_of_ble_eq_true rfl, Nat.le_of_ble_eq_true rfl⟩ [1, 2] rfl rfl 1 rfl dX0_demote_94 rfl rfl (Nat.le_of_ble_eq_true rfl) rfl ?_
        dsimp only [List.cons_append, List.nil_append, List.set_cons_succ, List.set_cons_zero, vput]
        refine rh_aload_n hX dX0_demote_97 rfl ?_
        refine rh_get hX gl_X0_12 0 dX0_demote_98 rfl rfl ?_
        refine rh_iload hX dX0_demote_101 rfl ?_
        refine rh_iconst hX dX0_demote_103 ki_0 ?_
        refine rh_aload_n hX dX0_demote_104 rfl ?_
        refine rh_get hX gl_X0_12 0 dX0_demote_105 rfl rfl ?_
        refine rh_iload_n hX dX0_demote_108 rfl ?_
        refine rh_lload hX dX0_demote_109 rfl ?_
        refine rh_pV hX lk_X0_83 mvX1_converted (fun l => c_X1_converted l E _ _ _ _ _ (by omega)) ⟨rfl, rfl⟩ ⟨Nat.le_of_ble_eq_true rfl, Nat.le_of_ble_eq_true rfl⟩ [1, 2] rfl rfl 1 rfl dX0_demote_111 rfl rfl (Nat.le_of_ble_eq_true rfl) ?_
        refine rh_uV hX lk_X0_79 mvX1_addHeld (fun l => c_X1_addHeld l E _ _ _ _ 0 _ (by omega) (by omega)) ⟨rfl, rfl⟩ ⟨Nat.le_of_ble_eq_true rfl, Nat.le_of_ble_eq_true rfl⟩ [1, 2] rfl rfl 1 rfl dX0_demote_114 rfl rfl (Nat.le_of_ble_eq_true rfl) rfl ?_
        dsimp only [List.cons_append, List.nil_append, List.set_cons_succ, List.set_cons_zero, vput]
        refine rh_inc5 hX dX0_demote_117 (by decide) rfl (rn_i1 _) ?_
        refine rh_goto (tgt := 12) hX dX0_demote_120 (by decide) ?_
        first | (rw [dmGo, if_pos h34] at ih; exact rh_wk (by exact ⟨rfl, rfl, rfl, rfl, rfl, trivial⟩) ih) | (rw [dmGo, if_neg h34, if_pos h56] at ih; exact rh_wk (by exact ⟨rfl, rfl, rfl, rfl, rfl, trivial⟩) ih) | (rw [dmGo, if_neg h34, if_neg h56] at ih; rw [vu_up, vu_eq]; exact rh_wk (by exact ⟨rfl, rfl, rfl, rfl, rfl, trivial⟩) ih)
