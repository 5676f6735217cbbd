/-- class c of those with PLAY -/
def bgGo (mn : Nat → Int64) (sm : Int64) (c : Nat) (s : (Nat → Int64) × (Nat → Int64) × Int32) : (Nat → Int64) × (Nat → Int64) × Int32 := if cFact s.1 c 5 = 1 then ((dm mn sm (cAllHeld s.1 c) c (s.1, (va_up s.2.1 c 0) c, s.2.2) 8).1, va_up (va_up s.2.1 c 0) c (dm mn sm (cAllHeld s.1 c) c (s.1, (va_up s.2.1 c 0) c, s.2.2) 8).2.1, (dm mn sm (cAllHeld s.1 c) c (s.1, (va_up s.2.1 c 0) c, s.2.2) 8).2.2) else (s.1, va_up s.2.1 c 0, s.2.2)
def bg (mn : Nat → Int64) (sm : Int64) (s : (Nat → Int64) × (Nat → Int64) × Int32) : Nat → (Nat → Int64) × (Nat → Int64) × Int32
  | 0 => s
  | c + 1 => if c = 0 then s else bgGo mn sm c (bg mn sm s c)
theorem bgGo_big (mn : Nat → Int64) (sm : Int64) (c : Nat) (s : (Nat → Int64) × (Nat → Int64) × Int32) (hc : c < 6) (x : Nat) (hx : 48 ≤ x) : (bgGo mn sm c s).1 x = s.1 x := by
  unfold bgGo
  by_cases h : cFact s.1 c 5 = 1
  · rw [if_pos h]
    exact dm_big mn sm (cAllHeld s.1 c) c (s.1, (va_up s.2.1 c 0) c, s.2.2) hc x hx 8 (Nat.le_refl 8)
  · rw [if_neg h]
theorem bg_big (mn : Nat → Int64) (sm : Int64) (s : (Nat → Int64) × (Nat → Int64) × Int32) (x : Nat) (hx : 48 ≤ x) : ∀ c, c ≤ 6 → (bg mn sm s c).1 x = s.1 x
  | 0, _ => rfl
  | c + 1, h => by
    unfold bg
    by_cases e : c = 0
    · rw [if_pos e]
    · rw [if_neg e, bgGo_big mn sm c _ (by omega) x hx, bg_big mn sm s x hx c (by omega)]

set_option maxRecDepth 100000 in
set_option maxHeartbeats 4000000 in
theorem c_X0_begin (l : Launch) (E : rhE) (o ho ha ac al an : Nat) (f cvs lst nws : Nat → Int64) (ls : Int32) (pA bA nA pr is : Int64) (tn : Int32) (fl : Int64) (to ta tb : Nat) (vl tp : Int64) (lt : Int32) (fc mn : Nat → Int64) (sm : Int64) (go ga : Nat) (g : Nat → Int64) (T : Nat) (hT : (g 171).toInt32 = nI T) (hT6 : T ≤ 6) (hT1 : 1 ≤ T) : Ctr l E yX0_begin cX0_begin 4 none (rmL 3) [.ref o, .ref go, .ref to] ((wD E o ho ha ac al an f cvs lst nws ls pA bA nA pr is tn fl ++ wT E to ta tb vl tp lt fc mn sm) ++ wH E go ga g) (One none ((wD E o ho ha ac al an (bg mn sm (g, lst, 0) T).1 cvs (bg mn sm (g, lst, 0) T).2.1 nws (bg mn sm (g, lst, 0) T).2.2 pA bA nA pr is tn fl ++ wT E to ta tb vl tp lt fc mn sm) ++ wH E go ga g)) := by
  refine Ctr.of (by decide) (Nat.le_of_ble_eq_true rfl) rfl rfl 1 ?_
  intro X hX hR
  refine rh_aload_n hX dX0_begin_0 rfl ?_
  refine rh_get hX gl_X0_12 0 dX0_begin_1 rfl rfl ?_
  refine rh_aload_n hX dX0_begin_4 rfl ?_
  refine rh_get hX gl_X0_36 9 dX0_begin_5 rfl rfl ?_
  refine rh_uV hX lk_X0_39 mvX1_load (fun l => c_X1_load l E _ _ _ _ _) ⟨rfl, rfl⟩ ⟨Nat.le_of_ble_eq_true rfl, Nat.le_of_ble_eq_true rfl⟩ [1, 2, 10] rfl rfl 1 rfl dX0_begin_8 rfl rfl (Nat.le_of_ble_eq_true rfl) rfl ?_
  dsimp only [List.cons_append, List.nil_append, List.set_cons_succ, List.set_cons_zero, vput]
  refine rh_aload_n hX dX0_begin_11 rfl ?_
  refine rh_iconst hX dX0_begin_12 ki_0 ?_
  refine rh_put hX gl_X0_43 0 dX0_begin_13 rfl rfl rfl (Nat.le_of_ble_eq_true rfl) rfl ?_
  dsimp only [List.cons_append, List.nil_append, List.set_cons_succ, List.set_cons_zero, vput]
  refine rh_iconst hX dX0_begin_16 ki_1 ?_
  refine rh_istn3 hX dX0_begin_17 (by decide) rfl ?_
  show G X 18 _ _ ((wD E o ho ha ac al an (bg mn sm (g, lst, 0) 1).1 cvs (bg mn sm (g, lst, 0) 1).2.1 nws (bg mn sm (g, lst, 0) 1).2.2 pA bA nA pr is tn fl ++ wT E to ta tb vl tp lt fc mn sm) ++ wH E go ga g)
  refine rh_loop (P := fun c => G X 18 [some (.ref o), some (.ref go), some (.ref to), some (.int (nI c))] [] ((wD E o ho ha ac al an (bg mn sm (g, lst, 0) c).1 cvs (bg mn sm (g, lst, 0) c).2.1 nws (bg mn sm (g, lst, 0) c).2.2 pA bA nA pr is tn fl ++ wT E to ta tb vl tp lt fc mn sm) ++ wH E go ga g)) (1) (T) (by omega) ?_ ?_
  · skip
    have hT2 : ((bg mn sm (g, lst, 0) T).1 171).toInt32 = nI T := by rw [bg_big mn sm _ 171 (by decide) T (by omega)]; exact hT
    refine rh_iload_n hX dX0_begin_18 rfl ?_
    refine rh_aload_n hX dX0_begin_19 rfl ?_
    refine rh_get hX gl_X0_12 0 dX0_begin_20 rfl rfl ?_
    refine rh_pV hX lk_X0_47 mvX1_types (fun l => c_X1_types l E _ _ _ T hT2 hT6) ⟨rfl, rfl⟩ ⟨Nat.le_of_ble_eq_true rfl, Nat.le_of_ble_eq_true rfl⟩ [1, 2] rfl rfl 1 rfl dX0_begin_23 rfl rfl (Nat.le_of_ble_eq_true rfl) ?_
    refine rh_icmp_ge_t (tgt := 62) hX dX0_begin_26 (by decide) (nI_le (Nat.le_refl T) (by omega)) ?_
    exact rh_vret hX hR dX0_begin_62 (by simp only [List.map_cons, List.map_nil, List.cons_append, List.nil_append]) ⟨rfl, rfl⟩
  · intro c hc0 hc ihc
    have hT2 : ((bg mn sm (g, lst, 0) c).1 171).toInt32 = nI T := by rw [bg_big mn sm _ 171 (by decide) c (by omega)]; exact hT
    have hbg : bg mn sm (g, lst, 0) (c + 1) = bgGo mn sm c (bg mn sm (g, lst, 0) c) := by rw [bg, if_neg (by omega)]
    rw [hbg] at ihc
    revert ihc hT2 hbg
    generalize bg mn sm (g, lst, 0) c = S
    intro ihc hT2 hbg
    refine rh_iload_n hX dX0_begin_18 rfl ?_
    refine rh_aload_n hX dX0_begin_19 rfl ?_
    refine rh_get hX gl_X0_12 0 dX0_begin_20 rfl rfl ?_
    refine rh_pV hX lk_X0_47 mvX1_types (fun l => c_X1_types l E _ _ _ T hT2 hT6) ⟨rfl, rfl⟩ ⟨Nat.le_of_ble_eq_true rfl, Nat.le_of_ble_eq_true rfl⟩ [1, 2] rfl rfl 1 rfl dX0_begin_23 rfl rfl (Nat.le_of_ble_eq_true rfl) ?_
    refine rh_icmp_ge_f (tgt := 62) hX dX0_begin_26 (by decide) (nI_ge hc (by omega)) ?_
    refine rh_aload_n hX dX0_begin_29 rfl ?_
    refine rh_get hX gl_X0_22 0 dX0_begin_30 rfl rfl ?_
    refine rh_iload_n hX dX0_begin_33 rfl ?_
    refine rh_lconst hX dX0_begin_34 kL_0 ?_
    refine rh_lastore hX 4 _ dX0_begin_35 rfl rfl (by omega) (by decide) rfl ?_
    dsimp only [List.cons_append, List.nil_append, List.set_cons_succ, List.set_cons_zero, vput]
    refine rh_aload_n hX dX0_begin_36 rfl ?_
    refine rh_get hX gl_X0_12 0 dX0_begin_37 rfl rfl ?_
    refine rh_iload_n hX dX0_begin_40 rfl ?_
    refine rh_iconst hX dX0_begin_41 ki_5 ?_
    refine rh_pV hX lk_X0_51 mvX1_fact (fun l => c_X1_fact l E _ _ _ _ 5 (by omega) (by omega)) ⟨rfl, rfl⟩ ⟨Nat.le_of_ble_eq_true rfl, Nat.le_of_ble_eq_true rfl⟩ [1, 2] rfl rfl 1 rfl dX0_begin_42 rfl rfl (Nat.le_of_ble_eq_true rfl) ?_
    refine rh_lconst hX dX0_begin_45 kL_1 ?_
    refine rh_lne (tgt := 56) hX dX0_begin_46 dX0_begin_47 (by decide) (fun h46 => ?_) (fun h46 => ?_)
    · skip
      refine rh_inc3 hX dX0_begin_56 (by decide) rfl (rn_i1 _) ?_
      refine rh_goto (tgt := 18) hX dX0_begin_59 (by decide) ?_
      first | (rw [bgGo, if_pos h46] at ihc; exact ihc) | (rw [bgGo, if_neg h46] at ihc; exact ihc)
    · skip
      refine rh_aload_n hX dX0_begin_50 rfl ?_
      refine rh_iload_n hX dX0_begin_51 rfl ?_
      refine rh_aload_n hX dX0_begin_52 rfl ?_
      refine rh_uV hX lk_X0_55 mvX0_demote (fun l => c_X0_demote l E _ _ _ _ _ _ _ _ _ _ _ _ _ _ _ _ _ _ _ _ _ _ _ _ _ _ _ _ (by omega) (by omega)) ⟨rfl, rfl⟩ ⟨Nat.le_of_ble_eq_true rfl, Nat.le_of_ble_eq_true rfl⟩ [0, 1, 2, 3, 4, 5, 6, 7, 8] rfl rfl 0 rfl dX0_begin_53 rfl rfl (Nat.le_of_ble_eq_true rfl) rfl ?_
      dsimp only [List.cons_append, List.nil_append, List.set_cons_succ, List.set_cons_zero, vput]
      refine rh_inc3 hX dX0_begin_56 (by decide) rfl (rn_i1 _) ?_
      refine rh_goto (tgt := 18) hX dX0_begin_59 (by decide) ?_
      first | (rw [bgGo, if_pos h46] at ihc; exact ihc) | (rw [bgGo, if_neg h46] at ihc; exact ihc)

def srF (f : Nat → Int64) (k : Int64) (c : Nat) : Nat → Int64 := fun x => if 115 ≤ x ∧ x < 104 + c * 11 ∧ (x - 104) % 11 = 2 then k else f x
theorem srF_1 (f : Nat → Int64) (k : Int64) : srF f k 1 = f := by
  funext x
  unfold srF
  rw [if_neg (by omega)]
theorem srF_at (f : Nat → Int64) (k : Int64) (c : Nat) (hc : c ≤ 6) : srF f k c 171 = f 171 := by
  unfold srF
  rw [if_neg (by omega)]
theorem srF_s (f : Nat → Int64) (k : Int64) (c : Nat) (h1 : 1 ≤ c) (hc : c < 6) : va_up (srF f k c) (104 + c * 11 + 2) k = srF f k (c + 1) := by
  funext x
  unfold va_up srF
  by_cases e : x = 104 + c * 11 + 2
  · rw [if_pos e, if_pos (by omega)]
  · rw [if_neg e]
    by_cases h : 115 ≤ x ∧ x < 104 + c * 11 ∧ (x - 104) % 11 = 2
    · rw [if_pos h, if_pos (by omega)]
    · rw [if_neg h, if_neg (by omega)]
def row1 (g f : Nat → Int64) (i : Nat) : Nat → Int64 := fun x => if 1 ≤ x ∧ x < i then g x else f x
theorem row1_1 (g f : Nat → Int64) : row1 g f 1 = f := by
  funext x
  unfold row1
  rw [if_neg (by omega)]
theorem row1_s (g f : Nat → Int64) (i : Nat) (h1 : 1 ≤ i) : va_up (row1 g f i) i (g i) = row1 g f (i + 1) := by
  funext x
  unfold va_up row1
  by_cases e : x = i
  · rw [if_pos e, if_pos (by omega), e]
  · rw [if_neg e]
    by_cases h : 1 ≤ x ∧ x < i
    · rw [if_pos h, if_pos (by omega)]
    · rw [if_neg h, if_neg (by omega)]
def cTop (tp rest : Int64) : Int64 := cQuot (tp * rest + (1000 - tp) - 1) (1000 - tp)
/-- CONVS of a turn: class c -/
def mcGo (cvs : Nat → Int64) (pr is sm nA bA : Int64) (c : Nat) (s : (Nat → Int64) × Int32) : (Nat → Int64) × Int32 := (va_up s.1 (104 + c * 11 + 1) (cRatch (cvs c) (cFact s.1 c 2) pr is sm (if cFact s.1 c 2 = 3 then nA else bA)), if s.2 = 0 then (if cRatch (cvs c) (cFact s.1 c 2) pr is sm (if cFact s.1 c 2 = 3 then nA else bA) = cFact s.1 c 1 then 0 else 1) else 1)
def mc (cvs : Nat → Int64) (pr is sm nA bA : Int64) (s : (Nat → Int64) × Int32) : Nat → (Nat → Int64) × Int32
  | 0 => s
  | c + 1 => if c = 0 then s else mcGo cvs pr is sm nA bA c (mc cvs pr is sm nA bA s c)
theorem mc_at (cvs : Nat → Int64) (pr is sm nA bA : Int64) (s : (Nat → Int64) × Int32) (x : Nat) (hx : 170 ≤ x) : ∀ c, c ≤ 6 → (mc cvs pr is sm nA bA s c).1 x = s.1 x
  | 0, _ => rfl
  | c + 1, h => by
    unfold mc
    by_cases e : c = 0
    · rw [if_pos e]
    · rw [if_neg e, ← mc_at cvs pr is sm nA bA s x hx c (by omega)]
      unfold mcGo
      show va_up _ _ _ x = _
      unfold va_up
      rw [if_neg (by omega)]
theorem if01 (p q : Prop) [Decidable p] [Decidable q] : (if p then (if q then (0 : Int32) else 1) else 1) = 0 ∨ (if p then (if q then (0 : Int32) else 1) else 1) = 1 := by
  by_cases hp : p
  · rw [if_pos hp]
    by_cases hq : q
    · rw [if_pos hq]; exact Or.inl rfl
    · rw [if_neg hq]; exact Or.inr rfl
  · rw [if_neg hp]; exact Or.inr rfl
theorem mc_bool (cvs : Nat → Int64) (pr is sm nA bA : Int64) (s : (Nat → Int64) × Int32) (h : s.2 = 0 ∨ s.2 = 1) (c : Nat) : narrow .boolean (.int (mc cvs pr is sm nA bA s c).2) = .int (mc cvs pr is sm nA bA s c).2 := by
  have key : (mc cvs pr is sm nA bA s c).2 = 0 ∨ (mc cvs pr is sm nA bA s c).2 = 1 := by
    cases c with
    | zero => exact h
    | succ c =>
      unfold mc
      by_cases e : c = 0
      · rw [if_pos e]; exact h
      · rw [if_neg e]
        unfold mcGo
        exact if01 _ _
  rcases key with h | h <;> rw [h] <;> rfl

set_option maxRecDepth 100000 in
set_option maxHeartbeats 4000000 in
theorem c_X0_setRatchets (l : Launch) (E : rhE) (o ho ha ac al an : Nat) (f cvs lst nws : Nat → Int64) (ls : Int32) (pA bA nA pr is : Int64) (tn : Int32) (fl : Int64) (k : Int32) (T : Nat) (hT : (f 171).toInt32 = nI T) (hT6 : T ≤ 6) (hT1 : 1 ≤ T) : Ctr l E yX0_setRatchets cX0_setRatchets 3 none (rmL 1) [.ref o, .int k] (wD E o ho ha ac al an f cvs lst nws ls pA bA nA pr is tn fl) (One none (wD E o ho ha ac al an (srF f k.toInt64 T) cvs lst nws ls pA bA nA pr is tn fl)) := by
  refine Ctr.of (by decide) (Nat.le_of_ble_eq_true rfl) rfl rfl 1 ?_
  intro X hX hR
  refine rh_iconst hX dX0_setRatchets_0 ki_1 ?_
  refine rh_istn2 hX dX0_setRatchets_1 (by decide) rfl ?_
  rw [← srF_1 f k.toInt64]
  refine rh_loop (P := fun c => G X 2 [some (.ref o), some (.int k), some (.int (nI c))] [] (wD E o ho ha ac al an (srF f k.toInt64 c) cvs lst nws ls pA bA nA pr is tn fl)) (1) (T) (by omega) ?_ ?_
  · skip
    refine rh_iload_n hX dX0_setRatchets_2 rfl ?_
    refine rh_aload_n hX dX0_setRatchets_3 rfl ?_
    refine rh_get hX gl_X0_12 0 dX0_setRatchets_4 rfl rfl ?_
    refine rh_pV hX lk_X0_47 mvX1_types (fun l => c_X1_types l E _ _ _ T (by rw [srF_at _ _ _ (by omega)]; exact hT) hT6) ⟨rfl, rfl⟩ ⟨Nat.le_of_ble_eq_true rfl, Nat.le_of_ble_eq_true rfl⟩ [1, 2] rfl rfl 1 rfl dX0_setRatchets_7 rfl rfl (Nat.le_of_ble_eq_true rfl) ?_
    refine rh_icmp_ge_t (tgt := 30) hX dX0_setRatchets_10 (by decide) (nI_le (Nat.le_refl T) (by omega)) ?_
    exact rh_vret hX hR dX0_setRatchets_30 (by simp only [List.map_cons, List.map_nil, List.cons_append, List.nil_append]) ⟨rfl, rfl⟩
  · intro c hc0 hc ihc
    refine rh_iload_n hX dX0_setRatchets_2 rfl ?_
    refine rh_aload_n hX dX0_setRatchets_3 rfl ?_
    refine rh_get hX gl_X0_12 0 dX0_setRatchets_4 rfl rfl ?_
    refine rh_pV hX lk_X0_47 mvX1_types (fun l => c_X1_types l E _ _ _ T (by rw [srF_at _ _ _ (by omega)]; exact hT) hT6) ⟨rfl, rfl⟩ ⟨Nat.le_of_ble_eq_true rfl, Nat.le_of_ble_eq_true rfl⟩ [1, 2] rfl rfl 1 rfl dX0_setRatchets_7 rfl rfl (Nat.le_of_ble_eq_true rfl) ?_
    refine rh_icmp_ge_f (tgt := 30) hX dX0_setRatchets_10 (by decide) (nI_ge hc (by omega)) ?_
    refine rh_aload_n hX dX0_setRatchets_13 rfl ?_
    refine rh_get hX gl_X0_12 0 dX0_setRatchets_14 rfl rfl ?_
    refine rh_iload_n hX dX0_setRatchets_17 rfl ?_
    refine rh_iconst hX dX0_setRatchets_18 ki_2 ?_
    refine rh_iload_n hX dX0_setRatchets_19 rfl ?_
    refine rh_i2l hX dX0_setRatchets_20 ?_
    refine rh_uV hX lk_X0_87 mvX1_setFact (fun l => c_X1_setFact l E _ _ _ _ 2 _ (by omega) (by omega)) ⟨rfl, rfl⟩ ⟨Nat.le_of_ble_eq_true rfl, Nat.le_of_ble_eq_true rfl⟩ [1, 2] rfl rfl 1 rfl dX0_setRatchets_21 rfl rfl (Nat.le_of_ble_eq_true rfl) rfl ?_
    dsimp only [List.cons_append, List.nil_append, List.set_cons_succ, List.set_cons_zero, vput]
    refine rh_inc2 hX dX0_setRatchets_24 (by decide) rfl (rn_i1 _) ?_
    refine rh_goto (tgt := 2) hX dX0_setRatchets_27 (by decide) ?_
    rw [srF_s f _ c hc0 (by omega)]
    exact ihc

set_option maxRecDepth 100000 in
set_option maxHeartbeats 4000000 in
theorem c_X0_notesAhead (l : Launch) (E : rhE) (o ho ha ac al an : Nat) (f cvs lst nws : Nat → Int64) (ls : Int32) (pA bA nA pr is : Int64) (tn : Int32) (fl : Int64) (T : Nat) (hT : (f 171).toInt32 = nI T) (hT6 : T ≤ 6) (hT1 : 1 ≤ T) : Ctr l E yX0_notesAhead cX0_notesAhead 2 none (rmL 4) [.ref o] (wD E o ho ha ac al an f cvs lst nws ls pA bA nA pr is tn fl) (One none (wD E o ho ha ac al an f (row1 (fun c => cFact f c 1) cvs T) lst nws ls (f 170) (cSize f T) (cAllVotes f T) pr is tn fl)) := by
  refine Ctr.of (by decide) (Nat.le_of_ble_eq_true rfl) rfl rfl 1 ?_
  intro X hX hR
  refine rh_aload_n hX dX0_notesAhead_0 rfl ?_
  refine rh_aload_n hX dX0_notesAhead_1 rfl ?_
  refine rh_get hX gl_X0_12 0 dX0_notesAhead_2 rfl rfl ?_
  refine rh_pV hX lk_X0_113 mvX1_spare (fun l => c_X1_spare l E _ _ _) ⟨rfl, rfl⟩ ⟨Nat.le_of_ble_eq_true rfl, Nat.le_of_ble_eq_true rfl⟩ [1, 2] rfl rfl 1 rfl dX0_notesAhead_5 rfl rfl (Nat.le_of_ble_eq_true rfl) ?_
  refine rh_put hX gl_X0_101 0 dX0_notesAhead_8 rfl rfl rfl (Nat.le_of_ble_eq_true rfl) rfl ?_
  dsimp only [List.cons_append, List.nil_append, List.set_cons_succ, List.set_cons_zero, vput]
  refine rh_aload_n hX dX0_notesAhead_11 rfl ?_
  refine rh_aload_n hX dX0_notesAhead_12 rfl ?_
  refine rh_get hX gl_X0_12 0 dX0_notesAhead_13 rfl rfl ?_
  refine rh_pV hX lk_X0_130 mvX1_size (fun l => c_X1_size l E _ _ _ T hT hT6) ⟨rfl, rfl⟩ ⟨Nat.le_of_ble_eq_true rfl, Nat.le_of_ble_eq_true rfl⟩ [1, 2] rfl rfl 1 rfl dX0_notesAhead_16 rfl rfl (Nat.le_of_ble_eq_true rfl) ?_
  refine rh_put hX gl_X0_98 0 dX0_notesAhead_19 rfl rfl rfl (Nat.le_of_ble_eq_true rfl) rfl ?_
  dsimp only [List.cons_append, List.nil_append, List.set_cons_succ, List.set_cons_zero, vput]
  refine rh_aload_n hX dX0_notesAhead_22 rfl ?_
  refine rh_aload_n hX dX0_notesAhead_23 rfl ?_
  refine rh_get hX gl_X0_12 0 dX0_notesAhead_24 rfl rfl ?_
  refine rh_pV hX lk_X0_157 mvX1_allVotes (fun l => c_X1_allVotes l E _ _ _ T hT hT6) ⟨rfl, rfl⟩ ⟨Nat.le_of_ble_eq_true rfl, Nat.le_of_ble_eq_true rfl⟩ [1, 2] rfl rfl 1 rfl dX0_notesAhead_27 rfl rfl (Nat.le_of_ble_eq_true rfl) ?_
  refine rh_put hX gl_X0_160 0 dX0_notesAhead_30 rfl rfl rfl (Nat.le_of_ble_eq_true rfl) rfl ?_
  dsimp only [List.cons_append, List.nil_append, List.set_cons_succ, List.set_cons_zero, vput]
  refine rh_iconst hX dX0_notesAhead_33 ki_1 ?_
  refine rh_istn1 hX dX0_notesAhead_34 (by decide) rfl ?_
  rw [← row1_1 (fun c => cFact f c 1) cvs]
  refine rh_loop (P := fun c => G X 35 [some (.ref o), some (.int (nI c))] [] (wD E o ho ha ac al an f (row1 (fun c => cFact f c 1) cvs c) lst nws ls (f 170) (cSize f T) (cAllVotes f T) pr is tn fl)) (1) (T) (by omega) ?_ ?_
  · skip
    refine rh_iload_n hX dX0_notesAhead_35 rfl ?_
    refine rh_aload_n hX dX0_notesAhead_36 rfl ?_
    refine rh_get hX gl_X0_12 0 dX0_notesAhead_37 rfl rfl ?_
    refine rh_pV hX lk_X0_47 mvX1_types (fun l => c_X1_types l E _ _ _ T hT hT6) ⟨rfl, rfl⟩ ⟨Nat.le_of_ble_eq_true rfl, Nat.le_of_ble_eq_true rfl⟩ [1, 2] rfl rfl 1 rfl dX0_notesAhead_40 rfl rfl (Nat.le_of_ble_eq_true rfl) ?_
    refine rh_icmp_ge_t (tgt := 67) hX dX0_notesAhead_43 (by decide) (nI_le (Nat.le_refl T) (by omega)) ?_
    exact rh_vret hX hR dX0_notesAhead_67 (by simp only [List.map_cons, List.map_nil, List.cons_append, List.nil_append]) ⟨rfl, rfl⟩
  · intro c hc0 hc ihc
    refine rh_iload_n hX dX0_notesAhead_35 rfl ?_
    refine rh_aload_n hX dX0_notesAhead_36 rfl ?_
    refine rh_get hX gl_X0_12 0 dX0_notesAhead_37 rfl rfl ?_
    refine rh_pV hX lk_X0_47 mvX1_types (fun l => c_X1_types l E _ _ _ T hT hT6) ⟨rfl, rfl⟩ ⟨Nat.le_of_ble_eq_true rfl, Nat.le_of_ble_eq_true rfl⟩ [1, 2] rfl rfl 1 rfl dX0_notesAhead_40 rfl rfl (Nat.le_of_ble_eq_true rfl) ?_
    refine rh_icmp_ge_f (tgt := 67) hX dX0_notesAhead_43 (by decide) (nI_ge hc (by omega)) ?_
    refine rh_aload_n hX dX0_notesAhead_46 rfl ?_
    refine rh_get hX gl_X0_18 0 dX0_notesAhead_47 rfl rfl ?_
    refine rh_iload_n hX dX0_notesAhead_50 rfl ?_
    refine rh_aload_n hX dX0_notesAhead_51 rfl ?_
    refine rh_get hX gl_X0_12 0 dX0_notesAhead_52 rfl rfl ?_
    refine rh_iload_n hX dX0_notesAhead_55 rfl ?_
    refine rh_iconst hX dX0_notesAhead_56 ki_1 ?_
    refine rh_pV hX lk_X0_51 mvX1_fact (fun l => c_X1_fact l E _ _ _ _ 1 (by omega) (by omega)) ⟨rfl, rfl⟩ ⟨Nat.le_of_ble_eq_true rfl, Nat.le_of_ble_eq_true rfl⟩ [1, 2] rfl rfl 1 rfl dX0_notesAhead_57 rfl rfl (Nat.le_of_ble_eq_true rfl) ?_
    refine rh_lastore hX 3 _ dX0_notesAhead_60 rfl rfl (by omega) (by decide) rfl ?_
    dsimp only [List.cons_append, List.nil_append, List.set_cons_succ, List.set_cons_zero, vput]
    refine rh_inc1 hX dX0_notesAhead_61 (by decide) rfl (rn_i1 _) ?_
    refine rh_goto (tgt := 35) hX dX0_notesAhead_64 (by decide) ?_
    rw [row1_s (fun c => cFact f c 1) cvs c hc0]
    exact ihc

set_option maxRecDepth 100000 in
set_option maxHeartbeats 4000000 in
theorem c_X0_allots (l : Launch) (E : rhE) (o ho ha ac al an : Nat) (f cvs lst nws : Nat → Int64) (ls : Int32) (pA bA nA pr is : Int64) (tn : Int32) (fl : Int64) (to ta tb : Nat) (vl tp : Int64) (lt : Int32) (fc mn : Nat → Int64) (sm : Int64)  : Ctr l E yX0_allots cX0_allots 3 none (rmL 1) [.ref o, .ref to] (wD E o ho ha ac al an f cvs lst nws ls pA bA nA pr is tn fl ++ wT E to ta tb vl tp lt fc mn sm) (One none (wD E o ho ha ac al an f cvs lst (fun h => cQuot (10000 * mn h) pr) ls pA bA nA pr (sumF 0 (fun h => cQuot (10000 * mn h) pr) 8) tn fl ++ wT E to ta tb vl tp lt fc mn sm)) := by
  refine Ctr.of (by decide) (Nat.le_of_ble_eq_true rfl) rfl rfl 1 ?_
  intro X hX hR
  refine rh_aload_n hX dX0_allots_0 rfl ?_
  refine rh_lconst hX dX0_allots_1 kL_0 ?_
  refine rh_put hX gl_X0_133 0 dX0_allots_2 rfl rfl rfl (Nat.le_of_ble_eq_true rfl) rfl ?_
  dsimp only [List.cons_append, List.nil_append, List.set_cons_succ, List.set_cons_zero, vput]
  refine rh_iconst hX dX0_allots_5 ki_0 ?_
  refine rh_istn2 hX dX0_allots_6 (by decide) rfl ?_
  rw [← rowTo_0 (fun h => cQuot (10000 * mn h) pr) nws]
  refine rh_loop (P := fun i => G X 7 [some (.ref o), some (.ref to), some (.int (nI i))] [] (wD E o ho ha ac al an f cvs lst (rowTo (fun h => cQuot (10000 * mn h) pr) nws i) ls pA bA nA pr (sumF 0 (fun h => cQuot (10000 * mn h) pr) i) tn fl ++ wT E to ta tb vl tp lt fc mn sm)) (0) (8) (by omega) ?_ ?_
  · skip
    refine rh_iload_n hX dX0_allots_7 rfl ?_
    refine rh_bipush hX dX0_allots_8 kb_8 ?_
    refine rh_icmp_ge_t (tgt := 57) hX dX0_allots_10 (by decide) (nI_le (a := 8) (b := 8) (Nat.le_refl 8) (by decide)) ?_
    refine rh_ext (q := 5) (g := (fun h => cQuot (10000 * mn h) pr)) rfl (fun j hj => by unfold rowTo; rw [if_pos hj]) rfl ?_
    dsimp only [List.cons_append, List.nil_append, List.set_cons_succ, List.set_cons_zero]
    exact rh_vret hX hR dX0_allots_57 (by simp only [List.map_cons, List.map_nil, List.cons_append, List.nil_append]) ⟨rfl, rfl⟩
  · intro i hi0 hi ih
    refine rh_iload_n hX dX0_allots_7 rfl ?_
    refine rh_bipush hX dX0_allots_8 kb_8 ?_
    refine rh_icmp_ge_f (tgt := 57) hX dX0_allots_10 (by decide) (nI_ge (b := 8) hi (by decide)) ?_
    refine rh_aload_n hX dX0_allots_13 rfl ?_
    refine rh_get hX gl_X0_25 0 dX0_allots_14 rfl rfl ?_
    refine rh_iload_n hX dX0_allots_17 rfl ?_
    refine rh_ldc2 hX dX0_allots_18 kl_X0_107 ?_
    refine rh_aload_n hX dX0_allots_21 rfl ?_
    refine rh_get hX gl_X0_66 6 dX0_allots_22 rfl rfl ?_
    refine rh_iload_n hX dX0_allots_25 rfl ?_
    refine rh_laload hX 8 _ dX0_allots_26 rfl rfl (by omega) (by decide) ?_
    refine rh_lmul hX dX0_allots_27 ?_
    refine rh_aload_n hX dX0_allots_28 rfl ?_
    refine rh_get hX gl_X0_117 0 dX0_allots_29 rfl rfl ?_
    refine rh_pS hX lk_X0_75 msX7_quotient (fun l => c_X7_quotient l E _ _) ⟨rfl, rfl⟩ ⟨Nat.le_of_ble_eq_true rfl, Nat.le_of_ble_eq_true rfl⟩ [] rfl rfl dX0_allots_32 rfl rfl (Nat.le_of_ble_eq_true rfl) ?_
    refine rh_lastore hX 5 _ dX0_allots_35 rfl rfl (by omega) (by decide) rfl ?_
    dsimp only [List.cons_append, List.nil_append, List.set_cons_succ, List.set_cons_zero, vput]
    rw [rowTo_s (fun h => cQuot (10000 * mn h) pr) nws i]
    refine rh_aload_n hX dX0_allots_36 rfl ?_
    refine rh_dup hX dX0_allots_37 rfl ?_
    refine rh_get hX gl_X0_133 0 dX0_allots_38 rfl rfl ?_
    refine rh_aload_n hX dX0_allots_41 rfl ?_
    refine rh_get hX gl_X0_25 0 dX0_allots_42 rfl rfl ?_
    refine rh_iload_n hX dX0_allots_45 rfl ?_
    refine rh_laload hX 5 _ dX0_allots_46 rfl rfl (by omega) (by decide) ?_
    rw [show rowTo (fun h => cQuot (10000 * mn h) pr) nws (i + 1) i = cQuot (10000 * mn i) pr by unfold rowTo; rw [if_pos (by omega)]]
    refine rh_ladd hX dX0_allots_47 ?_
    refine rh_put hX gl_X0_133 0 dX0_allots_48 rfl rfl rfl (Nat.le_of_ble_eq_true rfl) rfl ?_
    dsimp only [List.cons_append, List.nil_append, List.set_cons_succ, List.set_cons_zero, vput]
    refine rh_inc2 hX dX0_allots_51 (by decide) rfl (rn_i1 _) ?_
    refine rh_goto (tgt := 7) hX dX0_allots_54 (by decide) ?_
    exact ih

set_option maxRecDepth 100000 in
set_option maxHeartbeats 4000000 in
theorem c_X0_movesConvs (l : Launch) (E : rhE) (o ho ha ac al an : Nat) (f cvs lst nws : Nat → Int64) (ls : Int32) (pA bA nA pr is : Int64) (tn : Int32) (fl : Int64) (to ta tb : Nat) (vl tp : Int64) (lt : Int32) (fc mn : Nat → Int64) (sm : Int64) (T : Nat) (hT : (f 171).toInt32 = nI T) (hT6 : T ≤ 6) (hT1 : 1 ≤ T) : Ctr l E yX0_movesConvs cX0_movesConvs 10 (some .boolean) (rmL 2) [.ref o, .ref to] (wD E o ho ha ac al an f cvs lst nws ls pA bA nA pr is tn fl ++ wT E to ta tb vl tp lt fc mn sm) (One (some (.int (mc cvs pr is sm nA bA (f, 0) T).2)) (wD E o ho ha ac al an (mc cvs pr is sm nA bA (f, 0) T).1 cvs lst nws ls pA bA nA pr is tn fl ++ wT E to ta tb vl tp lt fc mn sm)) := by
  refine Ctr.of (by decide) (Nat.le_of_ble_eq_true rfl) rfl rfl 8 ?_
  intro X hX hR
  refine rh_iconst hX dX0_movesConvs_0 ki_0 ?_
  refine rh_istn2 hX dX0_movesConvs_1 (by decide) rfl ?_
  refine rh_iconst hX dX0_movesConvs_2 ki_1 ?_
  refine rh_istn3 hX dX0_movesConvs_3 (by decide) rfl ?_
  show G X 4 [some (.ref o), some (.ref to), some (.int (mc cvs pr is sm nA bA (f, 0) 1).2), some (.int (nI 1)), none, none, none, none, none, none] [] (wD E o ho ha ac al an (mc cvs pr is sm nA bA (f, 0) 1).1 cvs lst nws ls pA bA nA pr is tn fl ++ wT E to ta tb vl tp lt fc mn sm)
  refine rh_loop (P := fun c => G X 4 [some (.ref o), some (.ref to), some (.int (mc cvs pr is sm nA bA (f, 0) c).2), some (.int (nI c)), none, none, none, none, none, none] [] (wD E o ho ha ac al an (mc cvs pr is sm nA bA (f, 0) c).1 cvs lst nws ls pA bA nA pr is tn fl ++ wT E to ta tb vl tp lt fc mn sm)) (1) (T) (by omega) ?_ ?_
  · skip
    have hT2 : ((mc cvs pr is sm nA bA (f, 0) T).1 171).toInt32 = nI T := by rw [mc_at _ _ _ _ _ _ _ 171 (by decide) T (by omega)]; exact hT
    have h01 : narrow .boolean (.int (mc cvs pr is sm nA bA (f, 0) T).2) = .int (mc cvs pr is sm nA bA (f, 0) T).2 := mc_bool _ _ _ _ _ _ _ (Or.inl rfl) T
    refine rh_iload_n hX dX0_movesConvs_4 rfl ?_
    refine rh_aload_n hX dX0_movesConvs_5 rfl ?_
    refine rh_get hX gl_X0_12 0 dX0_movesConvs_6 rfl rfl ?_
    refine rh_pV hX lk_X0_47 mvX1_types (fun l => c_X1_types l E _ _ _ T hT2 hT6) ⟨rfl, rfl⟩ ⟨Nat.le_of_ble_eq_true rfl, Nat.le_of_ble_eq_true rfl⟩ [1, 2] rfl rfl 1 rfl dX0_movesConvs_9 rfl rfl (Nat.le_of_ble_eq_true rfl) ?_
    refine rh_icmp_ge_t (tgt := 117) hX dX0_movesConvs_12 (by decide) (nI_le (Nat.le_refl T) (by omega)) ?_
    refine rh_iload_n hX dX0_movesConvs_117 rfl ?_
    exact rh_zret hX hR dX0_movesConvs_118 h01 (by simp only [List.map_cons, List.map_nil, List.cons_append, List.nil_append]) ⟨rfl, rfl⟩
  · intro c hc0 hc ihc
    have hT2 : ((mc cvs pr is sm nA bA (f, 0) c).1 171).toInt32 = nI T := by rw [mc_at _ _ _ _ _ _ _ 171 (by decide) c (by omega)]; exact hT
    have hmc : (mc cvs pr is sm nA bA (f, 0) (c + 1)) = mcGo cvs pr is sm nA bA c (mc cvs pr is sm nA bA (f, 0) c) := by rw [mc, if_neg (by omega)]
    rw [hmc] at ihc
    revert ihc hT2 hmc
    generalize (mc cvs pr is sm nA bA (f, 0) c) = S
    intro ihc hT2 hmc
    refine rh_iload_n hX dX0_movesConvs_4 rfl ?_
    refine rh_aload_n hX dX0_movesConvs_5 rfl ?_
    refine rh_get hX gl_X0_12 0 dX0_movesConvs_6 rfl rfl ?_
    refine rh_pV hX lk_X0_47 mvX1_types (fun l => c_X1_types l E _ _ _ T hT2 hT6) ⟨rfl, rfl⟩ ⟨Nat.le_of_ble_eq_true rfl, Nat.le_of_ble_eq_true rfl⟩ [1, 2] rfl rfl 1 rfl dX0_movesConvs_9 rfl rfl (Nat.le_of_ble_eq_true rfl) ?_
    refine rh_icmp_ge_f (tgt := 117) hX dX0_movesConvs_12 (by decide) (nI_ge hc (by omega)) ?_
    refine rh_aload_n hX dX0_movesConvs_15 rfl ?_
    refine rh_get hX gl_X0_12 0 dX0_movesConvs_16 rfl rfl ?_
    refine rh_iload_n hX dX0_movesConvs_19 rfl ?_
    refine rh_iconst hX dX0_movesConvs_20 ki_2 ?_
    refine rh_pV hX lk_X0_51 mvX1_fact (fun l => c_X1_fact l E _ _ _ _ 2 (by omega) (by omega)) ⟨rfl, rfl⟩ ⟨Nat.le_of_ble_eq_true rfl, Nat.le_of_ble_eq_true rfl⟩ [1, 2] rfl rfl 1 rfl dX0_movesConvs_21 rfl rfl (Nat.le_of_ble_eq_true rfl) ?_
    refine rh_lst4 hX dX0_movesConvs_24 (by decide) rfl ?_
    refine rh_lload hX dX0_movesConvs_26 rfl ?_
    refine rh_ldc2 hX dX0_movesConvs_28 kl_X0_163 ?_
    refine rh_lne (tgt := 42) hX dX0_movesConvs_31 dX0_movesConvs_32 (by decide) (fun h31 => ?_) (fun h31 => ?_)
    · skip
      refine rh_aload_n hX dX0_movesConvs_42 rfl ?_
      refine rh_get hX gl_X0_98 0 dX0_movesConvs_43 rfl rfl ?_
      refine rh_lst6 hX dX0_movesConvs_46 (by decide) rfl ?_
      refine rh_aload_n hX dX0_movesConvs_48 rfl ?_
      refine rh_get hX gl_X0_18 0 dX0_movesConvs_49 rfl rfl ?_
      refine rh_iload_n hX dX0_movesConvs_52 rfl ?_
      refine rh_laload hX 3 _ dX0_movesConvs_53 rfl rfl (by omega) (by decide) ?_
      refine rh_lload hX dX0_movesConvs_54 rfl ?_
      refine rh_aload_n hX dX0_movesConvs_56 rfl ?_
      refine rh_get hX gl_X0_117 0 dX0_movesConvs_57 rfl rfl ?_
      refine rh_aload_n hX dX0_movesConvs_60 rfl ?_
      refine rh_get hX gl_X0_133 0 dX0_movesConvs_61 rfl rfl ?_
      refine rh_aload_n hX dX0_movesConvs_64 rfl ?_
      refine rh_get hX gl_X0_71 6 dX0_movesConvs_65 rfl rfl ?_
      refine rh_lload hX dX0_movesConvs_68 rfl ?_
      refine rh_pS hX lk_X0_165 msX7_ratcheted (fun l => c_X7_ratcheted l E _ _ _ _ _ _) ⟨rfl, rfl⟩ ⟨Nat.le_of_ble_eq_true rfl, Nat.le_of_ble_eq_true rfl⟩ [] rfl rfl dX0_movesConvs_70 rfl rfl (Nat.le_of_ble_eq_true rfl) ?_
      refine rh_lst8 hX dX0_movesConvs_73 (by decide) rfl ?_
      refine rh_iload_n hX dX0_movesConvs_75 rfl ?_
      refine rh_if_ne (tgt := 94) hX dX0_movesConvs_76 (by decide) (fun h76 => ?_) (fun h76 => ?_)
      · skip
        refine rh_iconst hX dX0_movesConvs_94 ki_1 ?_
        refine rh_goto (tgt := 99) hX dX0_movesConvs_95 (by decide) ?_
        refine rh_istn2 hX dX0_movesConvs_99 (by decide) rfl ?_
        refine rh_aload_n hX dX0_movesConvs_100 rfl ?_
        refine rh_get hX gl_X0_12 0 dX0_movesConvs_101 rfl rfl ?_
        refine rh_iload_n hX dX0_movesConvs_104 rfl ?_
        refine rh_iconst hX dX0_movesConvs_105 ki_1 ?_
        refine rh_lload hX dX0_movesConvs_106 rfl ?_
        refine rh_uV hX lk_X0_87 mvX1_setFact (fun l => c_X1_setFact l E _ _ _ _ 1 _ (by omega) (by omega)) ⟨rfl, rfl⟩ ⟨Nat.le_of_ble_eq_true rfl, Nat.le_of_ble_eq_true rfl⟩ [1, 2] rfl rfl 1 rfl dX0_movesConvs_108 rfl rfl (Nat.le_of_ble_eq_true rfl) rfl ?_
        dsimp only [List.cons_append, List.nil_append, List.set_cons_succ, List.set_cons_zero, vput]
        refine rh_inc3 hX dX0_movesConvs_111 (by decide) rfl (rn_i1 _) ?_
        refine rh_goto (tgt := 4) hX dX0_movesConvs_114 (by decide) ?_
        first | (rw [mcGo, if_neg h76] at ihc; simp only [if_pos h31] at ihc; exact rh_wk (by exact ⟨rfl, rfl, rfl, rfl, trivial⟩) ihc) | (rw [mcGo, if_neg h76] at ihc; simp only [if_neg h31] at ihc; exact rh_wk (by exact ⟨rfl, rfl, rfl, rfl, trivial⟩) ihc) | (rw [mcGo, if_pos h76] at ihc; simp only [if_pos h31, if_pos h90] at ihc; exact rh_wk (by exact ⟨rfl, rfl, rfl, rfl, trivial⟩) ihc) | (rw [mcGo, if_pos h76] at ihc; simp only [if_pos h31, if_neg h90] at ihc; exact rh_wk (by exact ⟨rfl, rfl, rfl, rfl, trivial⟩) ihc) | (rw [mcGo, if_pos h76] at ihc; simp only [if_neg h31, if_pos h90] at ihc; exact rh_wk (by exact ⟨rfl, rfl, rfl, rfl, trivial⟩) ihc) | (rw [mcGo, if_pos h76] at ihc; simp only [if_neg h31, if_neg h90] at ihc; exact rh_wk (by exact ⟨rfl, rfl, rfl, rfl, trivial⟩) ihc)
      · skip
        refine rh_lload hX dX0_movesConvs_79 rfl ?_
        refine rh_aload_n hX dX0_movesConvs_81 rfl ?_
        refine rh_get hX gl_X0_12 0 dX0_movesConvs_82 rfl rfl ?_
        refine rh_iload_n hX dX0_movesConvs_85 rfl ?_
        refine rh_iconst hX dX0_movesConvs_86 ki_1 ?_
        refine rh_pV hX lk_X0_51 mvX1_fact (fun l => c_X1_fact l E _ _ _ _ 1 (by omega) (by omega)) ⟨rfl, rfl⟩ ⟨Nat.le_of_ble_eq_true rfl, Nat.le_of_ble_eq_true rfl⟩ [1, 2] rfl rfl 1 rfl dX0_movesConvs_87 rfl rfl (Nat.le_of_ble_eq_true rfl) ?_
        refine rh_leq (tgt := 98) hX dX0_movesConvs_90 dX0_movesConvs_91 (by decide) (fun h90 => ?_) (fun h90 => ?_)
        · skip
          refine rh_iconst hX dX0_movesConvs_98 ki_0 ?_
          refine rh_istn2 hX dX0_movesConvs_99 (by decide) rfl ?_
          refine rh_aload_n hX dX0_movesConvs_100 rfl ?_
          refine rh_get hX gl_X0_12 0 dX0_movesConvs_101 rfl rfl ?_
          refine rh_iload_n hX dX0_movesConvs_104 rfl ?_
          refine rh_iconst hX dX0_movesConvs_105 ki_1 ?_
          refine rh_lload hX dX0_movesConvs_106 rfl ?_
          refine rh_uV hX lk_X0_87 mvX1_setFact (fun l => c_X1_setFact l E _ _ _ _ 1 _ (by omega) (by omega)) ⟨rfl, rfl⟩ ⟨Nat.le_of_ble_eq_true rfl, Nat.le_of_ble_eq_true rfl⟩ [1, 2] rfl rfl 1 rfl dX0_movesConvs_108 rfl rfl (Nat.le_of_ble_eq_true rfl) rfl ?_
          dsimp only [List.cons_append, List.nil_append, List.set_cons_succ, List.set_cons_zero, vput]
          refine rh_inc3 hX dX0_movesConvs_111 (by decide) rfl (rn_i1 _) ?_
          refine rh_goto (tgt := 4) hX dX0_movesConvs_114 (by decide) ?_
          first | (rw [mcGo, if_neg h76] at ihc; simp only [if_pos h31] at ihc; exact rh_wk (by exact ⟨rfl, rfl, rfl, rfl, trivial⟩) ihc) | (rw [mcGo, if_neg h76] at ihc; simp only [if_neg h31] at ihc; exact rh_wk (by exact ⟨rfl, rfl, rfl, rfl, trivial⟩) ihc) | (rw [mcGo, if_pos h76] at ihc; simp only [if_pos h31, if_pos h90] at ihc; exact rh_wk (by exact ⟨rfl, rfl, rfl, rfl, trivial⟩) ihc) | (rw [mcGo, if_pos h76] at ihc; simp only [if_pos h31, if_neg h90] at ihc; exact rh_wk (by exact ⟨rfl, rfl, rfl, rfl, trivial⟩) ihc) | (rw [mcGo, if_pos h76] at ihc; simp only [if_neg h31, if_pos h90] at ihc; exact rh_wk (by exact ⟨rfl, rfl, rfl, rfl, trivial⟩) ihc) | (rw [mcGo, if_pos h76] at ihc; simp only [if_neg h31, if_neg h90] at ihc; exact rh_wk (by exact ⟨rfl, rfl, rfl, rfl, trivial⟩) ihc)
        · skip
          refine rh_iconst hX dX0_movesConvs_94 ki_1 ?_
          refine rh_goto (tgt := 99) hX dX0_movesConvs_95 (by decide) ?_
          refine rh_istn2 hX dX0_movesConvs_99 (by decide) rfl ?_
          refine rh_aload_n hX dX0_movesConvs_100 rfl ?_
          refine rh_get hX gl_X0_12 0 dX0_movesConvs_101 rfl rfl ?_
          refine rh_iload_n hX dX0_movesConvs_104 rfl ?_
          refine rh_iconst hX dX0_movesConvs_105 ki_1 ?_
          refine rh_lload hX dX0_movesConvs_106 rfl ?_
          refine rh_uV hX lk_X0_87 mvX1_setFact (fun l => c_X1_setFact l E _ _ _ _ 1 _ (by omega) (by omega)) ⟨rfl, rfl⟩ ⟨Nat.le_of_ble_eq_true rfl, Nat.le_of_ble_eq_true rfl⟩ [1, 2] rfl rfl 1 rfl dX0_movesConvs_108 rfl rfl (Nat.le_of_ble_eq_true rfl) rfl ?_
          dsimp only [List.cons_append, List.nil_append, List.set_cons_succ, List.set_cons_zero, vput]
          refine rh_inc3 hX dX0_movesConvs_111 (by decide) rfl (rn_i1 _) ?_
          refine rh_goto (tgt := 4) hX dX0_movesConvs_114 (by decide) ?_
          first | (rw [mcGo, if_neg h76] at ihc; simp only [if_pos h31] at ihc; exact rh_wk (by exact ⟨rfl, rfl, rfl, rfl, trivial⟩) ihc) | (rw [mcGo, if_neg h76] at ihc; simp only [if_neg h31] at ihc; exact rh_wk (by exact ⟨rfl, rfl, rfl, rfl, trivial⟩) ihc) | (rw [mcGo, if_pos h76] at ihc; simp only [if_pos h31, if_pos h90] at ihc; exact rh_wk (by exact ⟨rfl, rfl, rfl, rfl, trivial⟩) ihc) | (rw [mcGo, if_pos h76] at ihc; simp only [if_pos h31, if_neg h90] at ihc; exact rh_wk (by exact ⟨rfl, rfl, rfl, rfl, trivial⟩) ihc) | (rw [mcGo, if_pos h76] at ihc; simp only [if_neg h31, if_pos h90] at ihc; exact rh_wk (by exact ⟨rfl, rfl, rfl, rfl, trivial⟩) ihc) | (rw [mcGo, if_pos h76] at ihc; simp only [if_neg h31, if_neg h90] at ihc; exact rh_wk (by exact ⟨rfl, rfl, rfl, rfl, trivial⟩) ihc)
    · skip
      refine rh_aload_n hX dX0_movesConvs_35 rfl ?_
      refine rh_get hX gl_X0_160 0 dX0_movesConvs_36 rfl rfl ?_
      refine rh_goto (tgt := 46) hX dX0_movesConvs_39 (by decide) ?_
      refine rh_lst6 hX dX0_movesConvs_46 (by decide) rfl ?_
      refine rh_aload_n hX dX0_movesConvs_48 rfl ?_
      refine rh_get hX gl_X0_18 0 dX0_movesConvs_49 rfl rfl ?_
      refine rh_iload_n hX dX0_movesConvs_52 rfl ?_
      refine rh_laload hX 3 _ dX0_movesConvs_53 rfl rfl (by omega) (by decide) ?_
      refine rh_lload hX dX0_movesConvs_54 rfl ?_
      refine rh_aload_n hX dX0_movesConvs_56 rfl ?_
      refine rh_get hX gl_X0_117 0 dX0_movesConvs_57 rfl rfl ?_
      refine rh_aload_n hX dX0_movesConvs_60 rfl ?_
      refine rh_get hX gl_X0_133 0 dX0_movesConvs_61 rfl rfl ?_
      refine rh_aload_n hX dX0_movesConvs_64 rfl ?_
      refine rh_get hX gl_X0_71 6 dX0_movesConvs_65 rfl rfl ?_
      refine rh_lload hX dX0_movesConvs_68 rfl ?_
      refine rh_pS hX lk_X0_165 msX7_ratcheted (fun l => c_X7_ratcheted l E _ _ _ _ _ _) ⟨rfl, rfl⟩ ⟨Nat.le_of_ble_eq_true rfl, Nat.le_of_ble_eq_true rfl⟩ [] rfl rfl dX0_movesConvs_70 rfl rfl (Nat.le_of_ble_eq_true rfl) ?_
      refine rh_lst8 hX dX0_movesConvs_73 (by decide) rfl ?_
      refine rh_iload_n hX dX0_movesConvs_75 rfl ?_
      refine rh_if_ne (tgt := 94) hX dX0_movesConvs_76 (by decide) (fun h76 => ?_) (fun h76 => ?_)
      · skip
        refine rh_iconst hX dX0_movesConvs_94 ki_1 ?_
        refine rh_goto (tgt := 99) hX dX0_movesConvs_95 (by decide) ?_
        refine rh_istn2 hX dX0_movesConvs_99 (by decide) rfl ?_
        refine rh_aload_n hX dX0_movesConvs_100 rfl ?_
        refine rh_get hX gl_X0_12 0 dX0_movesConvs_101 rfl rfl ?_
        refine rh_iload_n hX dX0_movesConvs_104 rfl ?_
        refine rh_iconst hX dX0_movesConvs_105 ki_1 ?_
        refine rh_lload hX dX0_movesConvs_106 rfl ?_
        refine rh_uV hX lk_X0_87 mvX1_setFact (fun l => c_X1_setFact l E _ _ _ _ 1 _ (by omega) (by omega)) ⟨rfl, rfl⟩ ⟨Nat.le_of_ble_eq_true rfl, Nat.le_of_ble_eq_true rfl⟩ [1, 2] rfl rfl 1 rfl dX0_movesConvs_108 rfl rfl (Nat.le_of_ble_eq_true rfl) rfl ?_
        dsimp only [List.cons_append, List.nil_append, List.set_cons_succ, List.set_cons_zero, vput]
        refine rh_inc3 hX dX0_movesConvs_111 (by decide) rfl (rn_i1 _) ?_
        refine rh_goto (tgt := 4) hX dX0_movesConvs_114 (by decide) ?_
        first | (rw [mcGo, if_neg h76] at ihc; simp only [if_pos h31] at ihc; exact rh_wk (by exact ⟨rfl, rfl, rfl, rfl, trivial⟩) ihc) | (rw [mcGo, if_neg h76] at ihc; simp only [if_neg h31] at ihc; exact rh_wk (by exact ⟨rfl, rfl, rfl, rfl, trivial⟩) ihc) | (rw [mcGo, if_pos h76] at ihc; simp only [if_pos h31, if_pos h90] at ihc; exact rh_wk (by exact ⟨rfl, rfl, rfl, rfl, trivial⟩) ihc) | (rw [mcGo, if_pos h76] at ihc; simp only [if_pos h31, if_neg h90] at ihc; exact rh_wk (by exact ⟨rfl, rfl, rfl, rfl, trivial⟩) ihc) | (rw [mcGo, if_pos h76] at ihc; simp only [if_neg h31, if_pos h90] at ihc; exact rh_wk (by exact ⟨rfl, rfl, rfl, rfl, trivial⟩) ihc) | (rw [mcGo, if_pos h76] at ihc; simp only [if_neg h31, if_neg h90] at ihc; exact rh_wk (by exact ⟨rfl, rfl, rfl, rfl, trivial⟩) ihc)
      · skip
        refine rh_lload hX dX0_movesConvs_79 rfl ?_
        refine rh_aload_n hX dX0_movesConvs_81 rfl ?_
        refine rh_get hX gl_X0_12 0 dX0_movesConvs_82 rfl rfl ?_
        refine rh_iload_n hX dX0_movesConvs_85 rfl ?_
        refine rh_iconst hX dX0_movesConvs_86 ki_1 ?_
        refine rh_pV hX lk_X0_51 mvX1_fact (fun l => c_X1_fact l E _ _ _ _ 1 (by omega) (by omega)) ⟨rfl, rfl⟩ ⟨Nat.le_of_ble_eq_true rfl, Nat.le_of_ble_eq_true rfl⟩ [1, 2] rfl rfl 1 rfl dX0_movesConvs_87 rfl rfl (Nat.le_of_ble_eq_true rfl) ?_
        refine rh_leq (tgt := 98) hX dX0_movesConvs_90 dX0_movesConvs_91 (by decide) (fun h90 => ?_) (fun h90 => ?_)
        · skip
          refine rh_iconst hX dX0_movesConvs_98 ki_0 ?_
          refine rh_istn2 hX dX0_movesConvs_99 (by decide) rfl ?_
          refine rh_aload_n hX dX0_movesConvs_100 rfl ?_
          refine rh_get hX gl_X0_12 0 dX0_movesConvs_101 rfl rfl ?_
          refine rh_iload_n hX dX0_movesConvs_104 rfl ?_
          refine rh_iconst hX dX0_movesConvs_105 ki_1 ?_
          refine rh_lload hX dX0_movesConvs_106 rfl ?_
          refine rh_uV hX lk_X0_87 mvX1_setFact (fun l => c_X1_setFact l E _ _ _ _ 1 _ (by omega) (by omega)) ⟨rfl, rfl⟩ ⟨Nat.le_of_ble_eq_true rfl, Nat.le_of_ble_eq_true rfl⟩ [1, 2] rfl rfl 1 rfl dX0_movesConvs_108 rfl rfl (Nat.le_of_ble_eq_true rfl) rfl ?_
          dsimp only [List.cons_append, List.nil_append, List.set_cons_succ, List.set_cons_zero, vput]
          refine rh_inc3 hX dX0_movesConvs_111 (by decide) rfl (rn_i1 _) ?_
          refine rh_goto (tgt := 4) hX dX0_movesConvs_114 (by decide) ?_
          first | (rw [mcGo, if_neg h76] at ihc; simp only [if_pos h31] at ihc; exact rh_wk (by exact ⟨rfl, rfl, rfl, rfl, trivial⟩) ihc) | (rw [mcGo, if_neg h76] at ihc; simp only [if_neg h31] at ihc; exact rh_wk (by exact ⟨rfl, rfl, rfl, rfl, trivial⟩) ihc) | (rw [mcGo, if_pos h76] at ihc; simp only [if_pos h31, if_pos h90] at ihc; exact rh_wk (by exact ⟨rfl, rfl, rfl, rfl, trivial⟩) ihc) | (rw [mcGo, if_pos h76] at ihc; simp only [if_pos h31, if_neg h90] at ihc; exact rh_wk (by exact ⟨rfl, rfl, rfl, rfl, trivial⟩) ihc) | (rw [mcGo, if_pos h76] at ihc; simp only [if_neg h31, if_pos h90] at ihc; exact rh_wk (by exact ⟨rfl, rfl, rfl, rfl, trivial⟩) ihc) | (rw [mcGo, if_pos h76] at ihc; simp only [if_neg h31, if_neg h90] at ihc; exact rh_wk (by exact ⟨rfl, rfl, rfl, rfl, trivial⟩) ihc)
        · skip
          refine rh_iconst hX dX0_movesConvs_94 ki_1 ?_
          refine rh_goto (tgt := 99) hX dX0_movesConvs_95 (by decide) ?_
          refine rh_istn2 hX dX0_movesConvs_99 (by decide) rfl ?_
          refine rh_aload_n hX dX0_movesConvs_100 rfl ?_
          refine rh_get hX gl_X0_12 0 dX0_movesConvs_101 rfl rfl ?_
          refine rh_iload_n hX dX0_movesConvs_104 rfl ?_
          refine rh_iconst hX dX0_movesConvs_105 ki_1 ?_
          refine rh_lload hX dX0_movesConvs_106 rfl ?_
          refine rh_uV hX lk_X0_87 mvX1_setFact (fun l => c_X1_setFact l E _ _ _ _ 1 _ (by omega) (by omega)) ⟨rfl, rfl⟩ ⟨Nat.le_of_ble_eq_true rfl, Nat.le_of_ble_eq_true rfl⟩ [1, 2] rfl rfl 1 rfl dX0_movesConvs_108 rfl rfl (Nat.le_of_ble_eq_true rfl) rfl ?_
          dsimp only [List.cons_append, List.nil_append, List.set_cons_succ, List.set_cons_zero, vput]
          refine rh_inc3 hX dX0_movesConvs_111 (by decide) rfl (rn_i1 _) ?_
          refine rh_goto (tgt := 4) hX dX0_movesConvs_114 (by decide) ?_
          first | (rw [mcGo, if_neg h76] at ihc; simp only [if_pos h31] at ihc; exact rh_wk (by exact ⟨rfl, rfl, rfl, rfl, trivial⟩) ihc) | (rw [mcGo, if_neg h76] at ihc; simp only [if_neg h31] at ihc; exact rh_wk (by exact ⟨rfl, rfl, rfl, rfl, trivial⟩) ihc) | (rw [mcGo, if_pos h76] at ihc; simp only [if_pos h31, if_pos h90] at ihc; exact rh_wk (by exact ⟨rfl, rfl, rfl, rfl, trivial⟩) ihc) | (rw [mcGo, if_pos h76] at ihc; simp only [if_pos h31, if_neg h90] at ihc; exact rh_wk (by exact ⟨rfl, rfl, rfl, rfl, trivial⟩) ihc) | (rw [mcGo, if_pos h76] at ihc; simp only [if_neg h31, if_pos h90] at ihc; exact rh_wk (by exact ⟨rfl, rfl, rfl, rfl, trivial⟩) ihc) | (rw [mcGo, if_pos h76] at ihc; simp only [if_neg h31, if_neg h90] at ihc; exact rh_wk (by exact ⟨rfl, rfl, rfl, rfl, trivial⟩) ihc)

set_option maxRecDepth 100000 in
set_option maxHeartbeats 4000000 in
theorem c_X0_toppedUp (l : Launch) (E : rhE) (tp rest : Int64)  : Ctr l E yX0_toppedUp cX0_toppedUp 6 (some .long) (rmL 1) [.long tp, .long rest] [] (One (some (.long (cTop tp rest))) []) := by
  refine Ctr.of (by decide) (Nat.le_of_ble_eq_true rfl) rfl rfl 2 ?_
  intro X hX hR
  refine rh_ldc2 hX dX0_toppedUp_0 kl_X0_169 ?_
  refine rh_lload_n hX dX0_toppedUp_3 rfl ?_
  refine rh_lsub hX dX0_toppedUp_4 ?_
  refine rh_lst4 hX dX0_toppedUp_5 (by decide) rfl ?_
  refine rh_lload_n hX dX0_toppedUp_7 rfl ?_
  refine rh_lload_n hX dX0_toppedUp_8 rfl ?_
  refine rh_lmul hX dX0_toppedUp_9 ?_
  refine rh_lload hX dX0_toppedUp_10 rfl ?_
  refine rh_ladd hX dX0_toppedUp_12 ?_
  refine rh_lconst hX dX0_toppedUp_13 kL_1 ?_
  refine rh_lsub hX dX0_toppedUp_14 ?_
  refine rh_lload hX dX0_toppedUp_15 rfl ?_
  refine rh_pS hX lk_X0_75 msX7_quotient (fun l => c_X7_quotient l E _ _) ⟨rfl, rfl⟩ ⟨Nat.le_of_ble_eq_true rfl, Nat.le_of_ble_eq_true rfl⟩ [] rfl rfl dX0_toppedUp_17 rfl rfl (Nat.le_of_ble_eq_true rfl) ?_
  exact rh_lret hX hR dX0_toppedUp_20 (by simp only [List.map_cons, List.map_nil, List.cons_append, List.nil_append]) ⟨rfl, rfl⟩
