set_option maxRecDepth 100000 in
set_option maxHeartbeats 4000000 in
theorem c_X4_settles (l : Launch) (E : rhE) (o a0 a1 a2 a3 : Nat) (al cv du pf : Nat → Int64) (gr : Int64) (T : Nat) (pt cn : Int32) (lf sh : Int64) (s : Int64) (hT1 : 1 ≤ T) (hT6 : T ≤ 6) : Ctr l E yX4_settles cX4_settles 5 none (rmL 3) [.ref o, .long s] (wS E o a0 a1 a2 a3 al cv du pf gr T pt cn lf sh) (One none (wS E o a0 a1 a2 a3 al cv du (pRow du pf (sQ du cv gr pt s T) s T (T - 1)) gr T pt (sQ du cv gr pt s T) (pLeft du (sQ du cv gr pt s T) s T (T - 1)) (pShare cv gr pt (sQ du cv gr pt s T) T (T - 1)))) := by
  refine Ctr.of (by decide) (Nat.le_of_ble_eq_true rfl) rfl rfl 2 ?_
  intro X hX hR
  refine rh_aload_n hX dX4_settles_0 rfl ?_
  refine rh_iconst hX dX4_settles_1 ki_0 ?_
  refine rh_put hX gl_X4_58 0 dX4_settles_2 rfl rfl rfl (Nat.le_of_ble_eq_true rfl) rfl ?_
  dsimp only [List.cons_append, List.nil_append, List.set_cons_succ, List.set_cons_zero, vput]
  refine rh_iconst hX dX4_settles_5 ki_0 ?_
  refine rh_istn3 hX dX4_settles_6 (by decide) rfl ?_
  refine (rh_loop (P := fun i => ∀ (cn1 : Int32) (pf1 : Nat → Int64) (lf1 sh1 : Int64), ((∀ x, (x = 0 ∨ T ≤ x) → pf1 x = pf x) ∧ sQ du cv gr pt s T = sIter du cv gr pt s T (6 - i) cn1) → G X 7 [some (.ref o), some (.long s), none, some (.int (nI i)), none] [] (wS E o a0 a1 a2 a3 al cv du pf1 gr T pt cn1 lf1 sh1)) (0) (6) (by omega) ?_ ?_) 0 pf lf sh ⟨fun _ _ => rfl, rfl⟩
  · intro cn1 pf1 lf1 sh1 hH
    have hQ : sQ du cv gr pt s T = cn1 := hH.2
    have hE := hH.1
    refine rh_iload_n hX dX4_settles_7 rfl ?_
    refine rh_bipush hX dX4_settles_8 kb_6 ?_
    refine rh_icmp_ge_t (tgt := 47) hX dX4_settles_10 (by decide) (nI_le (a := 6) (b := 6) (Nat.le_refl 6) (by decide)) ?_
    refine rh_aload_n hX dX4_settles_47 rfl ?_
    refine rh_lload_n hX dX4_settles_48 rfl ?_
    refine rh_aload_n hX dX4_settles_49 rfl ?_
    refine rh_get hX gl_X4_58 0 dX4_settles_50 rfl rfl ?_
    refine rh_uV hX lk_X4_65 mvX4_pays (fun l => c_X4_pays l E _ _ _ _ _ _ _ _ _ _ _ _ _ _ _ _ _ (by omega) (by omega)) ⟨rfl, rfl⟩ ⟨Nat.le_of_ble_eq_true rfl, Nat.le_of_ble_eq_true rfl⟩ [0, 1, 2, 3, 4] rfl rfl 0 rfl dX4_settles_53 rfl rfl (Nat.le_of_ble_eq_true rfl) rfl ?_
    dsimp only [List.cons_append, List.nil_append, List.set_cons_succ, List.set_cons_zero, vput]
    exact rh_vret hX hR dX4_settles_56 rfl ⟨rfl, by rw [hQ, pRow_ext hE]⟩
  · intro i hi0 hi ih cn1 pf1 lf1 sh1 hH
    obtain ⟨k, hk⟩ : ∃ k, 6 - i = k + 1 := ⟨6 - i - 1, by omega⟩
    have hk2 : 6 - (i + 1) = k := by omega
    rw [hk, sIter] at hH
    rw [hk2] at ih
    refine rh_iload_n hX dX4_settles_7 rfl ?_
    refine rh_bipush hX dX4_settles_8 kb_6 ?_
    refine rh_icmp_ge_f (tgt := 47) hX dX4_settles_10 (by decide) (nI_ge (b := 6) hi (by decide)) ?_
    refine rh_aload_n hX dX4_settles_13 rfl ?_
    refine rh_lload_n hX dX4_settles_14 rfl ?_
    refine rh_callV hX lk_X4_61 mvX4_firstToJoin (fun l => c_X4_firstToJoin l E _ _ _ _ _ _ _ _ _ _ _ _ _ _ _ _ (by omega) (by omega)) ⟨rfl, rfl⟩ ⟨Nat.le_of_ble_eq_true rfl, Nat.le_of_ble_eq_true rfl⟩ [0, 1, 2, 3, 4] rfl rfl 0 rfl dX4_settles_15 rfl rfl (Nat.le_of_ble_eq_true rfl) (fun r w hp hf => ?_)
    obtain ⟨pf2, lf2, sh2, rfl, hq, rfl⟩ := hp
    dsimp only [vput, List.set_cons_succ, List.set_cons_zero, Option.toList, List.cons_append, List.nil_append]
    refine rh_ist4 hX dX4_settles_18 (by decide) rfl ?_
    refine rh_iload hX dX4_settles_20 rfl ?_
    refine rh_if_ne (tgt := 28) hX dX4_settles_22 (by decide) (fun h22 => ?_) (fun h22 => ?_)
    · skip
      have h22 : ¬ sNext du cv gr pt cn1 s T = 0 := fun q => h22 (by rw [q]; rfl)
      refine rh_aload_n hX dX4_settles_28 rfl ?_
      refine rh_dup hX dX4_settles_29 rfl ?_
      refine rh_get hX gl_X4_58 0 dX4_settles_30 rfl rfl ?_
      refine rh_iconst hX dX4_settles_33 ki_1 ?_
      refine rh_iload hX dX4_settles_34 rfl ?_
      refine rh_ishl hX dX4_settles_36 ?_
      refine rh_ior hX dX4_settles_37 ?_
      refine rh_put hX gl_X4_58 0 dX4_settles_38 rfl rfl rfl (Nat.le_of_ble_eq_true rfl) rfl ?_
      dsimp only [List.cons_append, List.nil_append, List.set_cons_succ, List.set_cons_zero, vput]
      refine rh_inc3 hX dX4_settles_41 (by decide) rfl (rn_i1 _) ?_
      refine rh_goto (tgt := 7) hX dX4_settles_44 (by decide) ?_
      exact rh_wk (by exact ⟨rfl, rfl, rfl, trivial⟩) (ih _ _ _ _ ⟨fun x hx => (hq x hx).trans (hH.1 x hx), by rw [hH.2, if_neg h22]; rfl⟩)
    · skip
      have h22 : sNext du cv gr pt cn1 s T = 0 := nI_z h22 (by rcases firstFrom_lt (sRather du cv gr pt cn1 s T) (T - 1) 1 with h | h <;> (unfold sNext; omega))
      have hQ : sQ du cv gr pt s T = cn1 := by rw [hH.2, if_pos h22]
      have hE := fun x hx => (hq x hx).trans (hH.1 x hx)
      refine rh_goto (tgt := 47) hX dX4_settles_25 (by decide) ?_
      refine rh_aload_n hX dX4_settles_47 rfl ?_
      refine rh_lload_n hX dX4_settles_48 rfl ?_
      refine rh_aload_n hX dX4_settles_49 rfl ?_
      refine rh_get hX gl_X4_58 0 dX4_settles_50 rfl rfl ?_
      refine rh_uV hX lk_X4_65 mvX4_pays (fun l => c_X4_pays l E _ _ _ _ _ _ _ _ _ _ _ _ _ _ _ _ _ (by omega) (by omega)) ⟨rfl, rfl⟩ ⟨Nat.le_of_ble_eq_true rfl, Nat.le_of_ble_eq_true rfl⟩ [0, 1, 2, 3, 4] rfl rfl 0 rfl dX4_settles_53 rfl rfl (Nat.le_of_ble_eq_true rfl) rfl ?_
      dsimp only [List.cons_append, List.nil_append, List.set_cons_succ, List.set_cons_zero, vput]
      exact rh_vret hX hR dX4_settles_56 rfl ⟨rfl, by rw [hQ, pRow_ext hE]⟩

/-- what a holder gets of preferences that are paid, and of what is shared -/
def sPrefd (al pf f : Nat → Int64) (h T : Nat) : Int64 := sum1 (fun c => cQuot (pf c * cHeld f h c) (al c)) T
def sShared (f : Nat → Int64) (pt cn : Int32) (lf sh : Int64) (h T : Nat) : Int64 := sumF (cQuot (lf * cGranted f h) sh) (fun c => if sIs pt cn c = 0 then 0 else cQuot (lf * cConv f c (cHeld f h c)) sh) T

set_option maxRecDepth 100000 in
set_option maxHeartbeats 4000000 in
theorem c_X4_preferred (l : Launch) (E : rhE) (o a0 a1 a2 a3 : Nat) (al cv du pf : Nat → Int64) (gr : Int64) (T : Nat) (pt cn : Int32) (lf sh : Int64) (ho ha : Nat) (f : Nat → Int64) (h : Nat) (hh : h < 8) (hT1 : 1 ≤ T) (hT6 : T ≤ 6) : Ctr l E yX4_preferred cX4_preferred 6 (some .long) (rmL 1) [.ref o, .ref ho, .int (nI h)] (wS E o a0 a1 a2 a3 al cv du pf gr T pt cn lf sh ++ wH E ho ha f) (One (some (.long (sPrefd al pf f h T))) (wS E o a0 a1 a2 a3 al cv du pf gr T pt cn lf sh ++ wH E ho ha f)) := by
  refine Ctr.of (by decide) (Nat.le_of_ble_eq_true rfl) rfl rfl 3 ?_
  intro X hX hR
  refine rh_lconst hX dX4_preferred_0 kL_0 ?_
  refine rh_lstn3 hX dX4_preferred_1 (by decide) rfl ?_
  refine rh_iconst hX dX4_preferred_2 ki_1 ?_
  refine rh_ist5 hX dX4_preferred_3 (by decide) rfl ?_
  refine rh_loop (P := fun i => G X 5 [some (.ref o), some (.ref ho), some (.int (nI h)), some (.long (sum1 (fun c => cQuot (pf c * cHeld f h c) (al c)) i)), none, some (.int (nI i))] [] (wS E o a0 a1 a2 a3 al cv du pf gr T pt cn lf sh ++ wH E ho ha f)) (1) (T) (by omega) ?_ ?_
  · skip
    refine rh_iload hX dX4_preferred_5 rfl ?_
    refine rh_aload_n hX dX4_preferred_7 rfl ?_
    refine rh_get hX gl_X4_30 0 dX4_preferred_8 rfl rfl ?_
    refine rh_icmp_ge_t (tgt := 48) hX dX4_preferred_11 (by decide) (nI_le (Nat.le_refl T) (by omega)) ?_
    refine rh_lload_n hX dX4_preferred_48 rfl ?_
    exact rh_lret hX hR dX4_preferred_49 rfl ⟨rfl, rfl⟩
  · intro i hi0 hi ih
    refine rh_iload hX dX4_preferred_5 rfl ?_
    refine rh_aload_n hX dX4_preferred_7 rfl ?_
    refine rh_get hX gl_X4_30 0 dX4_preferred_8 rfl rfl ?_
    refine rh_icmp_ge_f (tgt := 48) hX dX4_preferred_11 (by decide) (nI_ge hi (by omega)) ?_
    refine rh_lload_n hX dX4_preferred_14 rfl ?_
    refine rh_aload_n hX dX4_preferred_15 rfl ?_
    refine rh_get hX gl_X4_21 0 dX4_preferred_16 rfl rfl ?_
    refine rh_iload hX dX4_preferred_19 rfl ?_
    refine rh_laload hX 4 _ dX4_preferred_21 rfl rfl (by omega) (by decide) ?_
    refine rh_aload_n hX dX4_preferred_22 rfl ?_
    refine rh_iload_n hX dX4_preferred_23 rfl ?_
    refine rh_iload hX dX4_preferred_24 rfl ?_
    refine rh_pV hX lk_X4_92 mvX1_held (fun l => c_X1_held l E _ _ _ _ _ (by omega) (by omega)) ⟨rfl, rfl⟩ ⟨Nat.le_of_ble_eq_true rfl, Nat.le_of_ble_eq_true rfl⟩ [5, 6] rfl rfl 5 rfl dX4_preferred_26 rfl rfl (Nat.le_of_ble_eq_true rfl) ?_
    refine rh_lmul hX dX4_preferred_29 ?_
    refine rh_aload_n hX dX4_preferred_30 rfl ?_
    refine rh_get hX gl_X4_9 0 dX4_preferred_31 rfl rfl ?_
    refine rh_iload hX dX4_preferred_34 rfl ?_
    refine rh_laload hX 1 _ dX4_preferred_36 rfl rfl (by omega) (by decide) ?_
    refine rh_pS hX lk_X4_89 msX7_quotient (fun l => c_X7_quotient l E _ _) ⟨rfl, rfl⟩ ⟨Nat.le_of_ble_eq_true rfl, Nat.le_of_ble_eq_true rfl⟩ [] rfl rfl dX4_preferred_37 rfl rfl (Nat.le_of_ble_eq_true rfl) ?_
    refine rh_ladd hX dX4_preferred_40 ?_
    refine rh_lstn3 hX dX4_preferred_41 (by decide) rfl ?_
    refine rh_inc5 hX dX4_preferred_42 (by decide) rfl (rn_i1 _) ?_
    refine rh_goto (tgt := 5) hX dX4_preferred_45 (by decide) ?_
    rw [show sum1 (fun c => cQuot (pf c * cHeld f h c) (al c)) (i + 1) = sum1 (fun c => cQuot (pf c * cHeld f h c) (al c)) i + cQuot (pf i * cHeld f h i) (al i) by rw [sum1, if_neg (by omega)]] at ih; exact ih

set_option maxRecDepth 100000 in
set_option maxHeartbeats 4000000 in
theorem c_X4_shared (l : Launch) (E : rhE) (o a0 a1 a2 a3 : Nat) (al cv du pf : Nat → Int64) (gr : Int64) (T : Nat) (pt cn : Int32) (lf sh : Int64) (ho ha : Nat) (f : Nat → Int64) (h : Nat) (hh : h < 8) (hT1 : 1 ≤ T) (hT6 : T ≤ 6) : Ctr l E yX4_shared cX4_shared 6 (some .long) (rmL 2) [.ref o, .ref ho, .int (nI h)] (wS E o a0 a1 a2 a3 al cv du pf gr T pt cn lf sh ++ wH E ho ha f) (One (some (.long (sShared f pt cn lf sh h T))) (wS E o a0 a1 a2 a3 al cv du pf gr T pt cn lf sh ++ wH E ho ha f)) := by
  refine Ctr.of (by decide) (Nat.le_of_ble_eq_true rfl) rfl rfl 3 ?_
  intro X hX hR
  refine rh_aload_n hX dX4_shared_0 rfl ?_
  refine rh_get hX gl_X4_73 0 dX4_shared_1 rfl rfl ?_
  refine rh_aload_n hX dX4_shared_4 rfl ?_
  refine rh_iload_n hX dX4_shared_5 rfl ?_
  refine rh_pV hX lk_X4_95 mvX1_granted (fun l => c_X1_granted l E _ _ _ _ (by omega)) ⟨rfl, rfl⟩ ⟨Nat.le_of_ble_eq_true rfl, Nat.le_of_ble_eq_true rfl⟩ [5, 6] rfl rfl 5 rfl dX4_shared_6 rfl rfl (Nat.le_of_ble_eq_true rfl) ?_
  refine rh_lmul hX dX4_shared_9 ?_
  refine rh_aload_n hX dX4_shared_10 rfl ?_
  refine rh_get hX gl_X4_76 0 dX4_shared_11 rfl rfl ?_
  refine rh_pS hX lk_X4_89 msX7_quotient (fun l => c_X7_quotient l E _ _) ⟨rfl, rfl⟩ ⟨Nat.le_of_ble_eq_true rfl, Nat.le_of_ble_eq_true rfl⟩ [] rfl rfl dX4_shared_14 rfl rfl (Nat.le_of_ble_eq_true rfl) ?_
  refine rh_lstn3 hX dX4_shared_17 (by decide) rfl ?_
  refine rh_iconst hX dX4_shared_18 ki_0 ?_
  refine rh_ist5 hX dX4_shared_19 (by decide) rfl ?_
  refine rh_loop (P := fun i => G X 21 [some (.ref o), some (.ref ho), some (.int (nI h)), some (.long (sumF (cQuot (lf * cGranted f h) sh) (fun c => if sIs pt cn c = 0 then 0 else cQuot (lf * cConv f c (cHeld f h c)) sh) i)), none, some (.int (nI i))] [] (wS E o a0 a1 a2 a3 al cv du pf gr T pt cn lf sh ++ wH E ho ha f)) (0) (T) (by omega) ?_ ?_
  · skip
    refine rh_iload hX dX4_shared_21 rfl ?_
    refine rh_aload_n hX dX4_shared_23 rfl ?_
    refine rh_get hX gl_X4_30 0 dX4_shared_24 rfl rfl ?_
    refine rh_icmp_ge_t (tgt := 77) hX dX4_shared_27 (by decide) (nI_le (Nat.le_refl T) (by omega)) ?_
    refine rh_lload_n hX dX4_shared_77 rfl ?_
    exact rh_lret hX hR dX4_shared_78 rfl ⟨rfl, rfl⟩
  · intro i hi0 hi ih
    refine rh_iload hX dX4_shared_21 rfl ?_
    refine rh_aload_n hX dX4_shared_23 rfl ?_
    refine rh_get hX gl_X4_30 0 dX4_shared_24 rfl rfl ?_
    refine rh_icmp_ge_f (tgt := 77) hX dX4_shared_27 (by decide) (nI_ge hi (by omega)) ?_
    refine rh_aload_n hX dX4_shared_30 rfl ?_
    refine rh_aload_n hX dX4_shared_31 rfl ?_
    refine rh_get hX gl_X4_58 0 dX4_shared_32 rfl rfl ?_
    refine rh_iload hX dX4_shared_35 rfl ?_
    refine rh_pV hX lk_X4_85 mvX4_isSharing (fun l => c_X4_isSharing l E _ _ _ _ _ _ _ _ _ _ _ _ _ _ _ _ _ (by omega)) ⟨rfl, rfl⟩ ⟨Nat.le_of_ble_eq_true rfl, Nat.le_of_ble_eq_true rfl⟩ [0, 1, 2, 3, 4] rfl rfl 0 rfl dX4_shared_37 rfl rfl (Nat.le_of_ble_eq_true rfl) ?_
    refine rh_if_eq (tgt := 71) hX dX4_shared_40 (by decide) (fun h40 => ?_) (fun h40 => ?_)
    · skip
      refine rh_inc5 hX dX4_shared_71 (by decide) rfl (rn_i1 _) ?_
      refine rh_goto (tgt := 21) hX dX4_shared_74 (by decide) ?_
      first | (rw [show sumF (cQuot (lf * cGranted f h) sh) (fun c => if sIs pt cn c = 0 then 0 else cQuot (lf * cConv f c (cHeld f h c)) sh) (i + 1) = sumF (cQuot (lf * cGranted f h) sh) (fun c => if sIs pt cn c = 0 then 0 else cQuot (lf * cConv f c (cHeld f h c)) sh) i by rw [sumF]; simp only [if_pos h40]; rw [Int64.add_zero]] at ih; exact ih) | (rw [show sumF (cQuot (lf * cGranted f h) sh) (fun c => if sIs pt cn c = 0 then 0 else cQuot (lf * cConv f c (cHeld f h c)) sh) (i + 1) = sumF (cQuot (lf * cGranted f h) sh) (fun c => if sIs pt cn c = 0 then 0 else cQuot (lf * cConv f c (cHeld f h c)) sh) i + cQuot (lf * cConv f i (cHeld f h i)) sh by rw [sumF]; simp only [if_neg h40]] at ih; exact ih)
    · skip
      refine rh_lload_n hX dX4_shared_43 rfl ?_
      refine rh_aload_n hX dX4_shared_44 rfl ?_
      refine rh_get hX gl_X4_73 0 dX4_shared_45 rfl rfl ?_
      refine rh_aload_n hX dX4_shared_48 rfl ?_
      refine rh_iload hX dX4_shared_49 rfl ?_
      refine rh_aload_n hX dX4_shared_51 rfl ?_
      refine rh_iload_n hX dX4_shared_52 rfl ?_
      refine rh_iload hX dX4_shared_53 rfl ?_
      refine rh_pV hX lk_X4_92 mvX1_held (fun l => c_X1_held l E _ _ _ _ _ (by omega) (by omega)) ⟨rfl, rfl⟩ ⟨Nat.le_of_ble_eq_true rfl, Nat.le_of_ble_eq_true rfl⟩ [5, 6] rfl rfl 5 rfl dX4_shared_55 rfl rfl (Nat.le_of_ble_eq_true rfl) ?_
      refine rh_pV hX lk_X4_97 mvX1_converted (fun l => c_X1_converted l E _ _ _ _ _ (by omega)) ⟨rfl, rfl⟩ ⟨Nat.le_of_ble_eq_true rfl, Nat.le_of_ble_eq_true rfl⟩ [5, 6] rfl rfl 5 rfl dX4_shared_58 rfl rfl (Nat.le_of_ble_eq_true rfl) ?_
      refine rh_lmul hX dX4_shared_61 ?_
      refine rh_aload_n hX dX4_shared_62 rfl ?_
      refine rh_get hX gl_X4_76 0 dX4_shared_63 rfl rfl ?_
      refine rh_pS hX lk_X4_89 msX7_quotient (fun l => c_X7_quotient l E _ _) ⟨rfl, rfl⟩ ⟨Nat.le_of_ble_eq_true rfl, Nat.le_of_ble_eq_true rfl⟩ [] rfl rfl dX4_shared_66 rfl rfl (Nat.le_of_ble_eq_true rfl) ?_
      refine rh_ladd hX dX4_shared_69 ?_
      refine rh_lstn3 hX dX4_shared_70 (by decide) rfl ?_
      refine rh_inc5 hX dX4_shared_71 (by decide) rfl (rn_i1 _) ?_
      refine rh_goto (tgt := 21) hX dX4_shared_74 (by decide) ?_
      first | (rw [show sumF (cQuot (lf * cGranted f h) sh) (fun c => if sIs pt cn c = 0 then 0 else cQuot (lf * cConv f c (cHeld f h c)) sh) (i + 1) = sumF (cQuot (lf * cGranted f h) sh) (fun c => if sIs pt cn c = 0 then 0 else cQuot (lf * cConv f c (cHeld f h c)) sh) i by rw [sumF]; simp only [if_pos h40]; rw [Int64.add_zero]] at ih; exact ih) | (rw [show sumF (cQuot (lf * cGranted f h) sh) (fun c => if sIs pt cn c = 0 then 0 else cQuot (lf * cConv f c (cHeld f h c)) sh) (i + 1) = sumF (cQuot (lf * cGranted f h) sh) (fun c => if sIs pt cn c = 0 then 0 else cQuot (lf * cConv f c (cHeld f h c)) sh) i + cQuot (lf * cConv f i (cHeld f h i)) sh by rw [sumF]; simp only [if_neg h40]] at ih; exact ih)

set_option maxRecDepth 100000 in
set_option maxHeartbeats 4000000 in
theorem c_X4_holderGets (l : Launch) (E : rhE) (o a0 a1 a2 a3 : Nat) (al cv du pf : Nat → Int64) (gr : Int64) (T : Nat) (pt cn : Int32) (lf sh : Int64) (ho ha : Nat) (f : Nat → Int64) (h : Nat) (hh : h < 8) (hT1 : 1 ≤ T) (hT6 : T ≤ 6) : Ctr l E yX4_holderGets cX4_holderGets 3 (some .long) (rmL 3) [.ref o, .ref ho, .int (nI h)] (wS E o a0 a1 a2 a3 al cv du pf gr T pt cn lf sh ++ wH E ho ha f) (One (some (.long (sPrefd al pf f h T + sShared f pt cn lf sh h T))) (wS E o a0 a1 a2 a3 al cv du pf gr T pt cn lf sh ++ wH E ho ha f)) := by
  refine Ctr.of (by decide) (Nat.le_of_ble_eq_true rfl) rfl rfl 0 ?_
  intro X hX hR
  refine rh_aload_n hX dX4_holderGets_0 rfl ?_
  refine rh_aload_n hX dX4_holderGets_1 rfl ?_
  refine rh_iload_n hX dX4_holderGets_2 rfl ?_
  refine rh_pV hX lk_X4_100 mvX4_preferred (fun l => c_X4_preferred l E _ _ _ _ _ _ _ _ _ _ _ _ _ _ _ _ _ _ _ (by omega) (by omega) (by omega)) ⟨rfl, rfl⟩ ⟨Nat.le_of_ble_eq_true rfl, Nat.le_of_ble_eq_true rfl⟩ [0, 1, 2, 3, 4, 5, 6] rfl rfl 0 rfl dX4_holderGets_3 rfl rfl (Nat.le_of_ble_eq_true rfl) ?_
  refine rh_aload_n hX dX4_holderGets_6 rfl ?_
  refine rh_aload_n hX dX4_holderGets_7 rfl ?_
  refine rh_iload_n hX dX4_holderGets_8 rfl ?_
  refine rh_pV hX lk_X4_103 mvX4_shared (fun l => c_X4_shared l E _ _ _ _ _ _ _ _ _ _ _ _ _ _ _ _ _ _ _ (by omega) (by omega) (by omega)) ⟨rfl, rfl⟩ ⟨Nat.le_of_ble_eq_true rfl, Nat.le_of_ble_eq_true rfl⟩ [0, 1, 2, 3, 4, 5, 6] rfl rfl 0 rfl dX4_holderGets_9 rfl rfl (Nat.le_of_ble_eq_true rfl) ?_
  refine rh_ladd hX dX4_holderGets_12 ?_
  exact rh_lret hX hR dX4_holderGets_13 rfl ⟨rfl, rfl⟩
