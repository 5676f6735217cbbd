/-- a sale: its object, four rows -/
abbrev wS (E : rhE) (o a0 a1 a2 a3 : Nat) (al cv du pf : Nat → Int64) (gr : Int64) (T : Nat) (pt cn : Int32) (lf sh : Int64) : va_W := [(o, .inr (4, [.ref a0, .ref a1, .ref a2, .ref a3, .long gr, .int (nI T), .int pt, .int cn, .long lf, .long sh])), (a0, aL E 6 al), (a1, aL E 6 cv), (a2, aL E 6 du), (a3, aL E 6 pf)]
def sBit (set : Int32) (c : Nat) : Int32 := (set >>> (nI c &&& 31)) &&& 1
def sIs (pt set : Int32) (c : Nat) : Int32 := if c = 0 then 1 else if sBit (set ||| pt) c = 1 then 1 else 0
def minl (x y : Int64) : Int64 := if y < x then y else x
/-- what is left when j classes, from the last one down, have had theirs -/
def pLeft (du : Nat → Int64) (set : Int32) (s : Int64) (T : Nat) : Nat → Int64
  | 0 => s
  | j + 1 => pLeft du set s T j - (if sBit set (T - 1 - j) = 1 then 0 else minl (du (T - 1 - j)) (pLeft du set s T j))
def pFirst (du : Nat → Int64) (set : Int32) (s : Int64) (T c : Nat) : Int64 := if sBit set c = 1 then 0 else minl (du c) (pLeft du set s T (T - 1 - c))
def pShare (cv : Nat → Int64) (gr : Int64) (pt set : Int32) (T : Nat) : Nat → Int64
  | 0 => cv 0 + gr
  | j + 1 => pShare cv gr pt set T j + (if sIs pt set (T - 1 - j) = 0 then 0 else cv (T - 1 - j))
def pRow (du pf : Nat → Int64) (set : Int32) (s : Int64) (T j : Nat) : Nat → Int64 := fun x => if T ≤ x + j ∧ x < T then pFirst du set s T x else pf x

set_option maxRecDepth 100000 in
set_option maxHeartbeats 4000000 in
theorem c_X4_isSharing (l : Launch) (E : rhE) (o a0 a1 a2 a3 : Nat) (al cv du pf : Nat → Int64) (gr : Int64) (T : Nat) (pt cn : Int32) (lf sh : Int64) (set : Int32) (c : Nat) (hc : c < 6) : Ctr l E yX4_isSharing cX4_isSharing 3 (some .boolean) (rmL 0) [.ref o, .int set, .int (nI c)] (wS E o a0 a1 a2 a3 al cv du pf gr T pt cn lf sh) (One (some (.int (sIs pt set c))) (wS E o a0 a1 a2 a3 al cv du pf gr T pt cn lf sh)) := by
  refine Ctr.of (by decide) (Nat.le_of_ble_eq_true rfl) rfl rfl 0 ?_
  intro X hX hR
  refine rh_iload_n hX dX4_isSharing_0 rfl ?_
  refine rh_if_eq (tgt := 18) hX dX4_isSharing_1 (by decide) (fun h1 => ?_) (fun h1 => ?_)
  · skip
    have h1 : c = 0 := nI_z h1 (by omega)
    refine rh_iconst hX dX4_isSharing_18 ki_1 ?_
    refine rh_goto (tgt := 23) hX dX4_isSharing_19 (by decide) ?_
    exact rh_zret hX hR dX4_isSharing_23 rfl rfl ⟨by first | (rw [sIs, if_pos h1]; done) | (rw [sIs, if_neg h1, if_pos h15]; done) | (rw [sIs, if_neg h1, if_neg h15]; done), rfl⟩
  · skip
    have h1 : ¬ c = 0 := fun q => h1 (by rw [q]; rfl)
    refine rh_iload_n hX dX4_isSharing_4 rfl ?_
    refine rh_aload_n hX dX4_isSharing_5 rfl ?_
    refine rh_get hX gl_X4_45 0 dX4_isSharing_6 rfl rfl ?_
    refine rh_ior hX dX4_isSharing_9 ?_
    refine rh_iload_n hX dX4_isSharing_10 rfl ?_
    refine rh_ishr hX dX4_isSharing_11 ?_
    refine rh_iconst hX dX4_isSharing_12 ki_1 ?_
    refine rh_iand hX dX4_isSharing_13 ?_
    refine rh_iconst hX dX4_isSharing_14 ki_1 ?_
    refine rh_icmp_ne (tgt := 22) hX dX4_isSharing_15 (by decide) (fun h15 => ?_) (fun h15 => ?_)
    · skip
      refine rh_iconst hX dX4_isSharing_22 ki_0 ?_
      exact rh_zret hX hR dX4_isSharing_23 rfl rfl ⟨by first | (rw [sIs, if_pos h1]; done) | (rw [sIs, if_neg h1, if_pos h15]; done) | (rw [sIs, if_neg h1, if_neg h15]; done), rfl⟩
    · skip
      refine rh_iconst hX dX4_isSharing_18 ki_1 ?_
      refine rh_goto (tgt := 23) hX dX4_isSharing_19 (by decide) ?_
      exact rh_zret hX hR dX4_isSharing_23 rfl rfl ⟨by first | (rw [sIs, if_pos h1]; done) | (rw [sIs, if_neg h1, if_pos h15]; done) | (rw [sIs, if_neg h1, if_neg h15]; done), rfl⟩

set_option maxRecDepth 100000 in
set_option maxHeartbeats 4000000 in
theorem c_X4_getsBy (l : Launch) (E : rhE) (o a0 a1 a2 a3 : Nat) (al cv du pf : Nat → Int64) (gr : Int64) (T : Nat) (pt cn : Int32) (lf sh : Int64) (set : Int32) (c : Nat) (hc : c < 6) : Ctr l E yX4_getsBy cX4_getsBy 5 (some .long) (rmL 1) [.ref o, .int set, .int (nI c)] (wS E o a0 a1 a2 a3 al cv du pf gr T pt cn lf sh) (One (some (.long (pf c + (if sIs pt set c = 0 then 0 else cQuot (lf * cv c) sh)))) (wS E o a0 a1 a2 a3 al cv du pf gr T pt cn lf sh)) := by
  refine Ctr.of (by decide) (Nat.le_of_ble_eq_true rfl) rfl rfl 2 ?_
  intro X hX hR
  refine rh_aload_n hX dX4_getsBy_0 rfl ?_
  refine rh_iload_n hX dX4_getsBy_1 rfl ?_
  refine rh_iload_n hX dX4_getsBy_2 rfl ?_
  refine rh_pV hX lk_X4_85 mvX4_isSharing (fun l => c_X4_isSharing l E _ _ _ _ _ _ _ _ _ _ _ _ _ _ _ _ _ (by omega)) ⟨rfl, rfl⟩ ⟨Nat.le_of_ble_eq_true rfl, Nat.le_of_ble_eq_true rfl⟩ [0, 1, 2, 3, 4] rfl rfl 0 rfl dX4_getsBy_3 rfl rfl (Nat.le_of_ble_eq_true rfl) ?_
  refine rh_if_eq (tgt := 30) hX dX4_getsBy_6 (by decide) (fun h6 => ?_) (fun h6 => ?_)
  · skip
    refine rh_lconst hX dX4_getsBy_30 kL_0 ?_
    refine rh_lstn3 hX dX4_getsBy_31 (by decide) rfl ?_
    refine rh_aload_n hX dX4_getsBy_32 rfl ?_
    refine rh_get hX gl_X4_21 0 dX4_getsBy_33 rfl rfl ?_
    refine rh_iload_n hX dX4_getsBy_36 rfl ?_
    refine rh_laload hX 4 _ dX4_getsBy_37 rfl rfl (by omega) (by decide) ?_
    refine rh_lload_n hX dX4_getsBy_38 rfl ?_
    refine rh_ladd hX dX4_getsBy_39 ?_
    exact rh_lret hX hR dX4_getsBy_40 rfl ⟨by first | (rw [if_pos h6]; done) | (rw [if_neg h6]; done), rfl⟩
  · skip
    refine rh_aload_n hX dX4_getsBy_9 rfl ?_
    refine rh_get hX gl_X4_73 0 dX4_getsBy_10 rfl rfl ?_
    refine rh_aload_n hX dX4_getsBy_13 rfl ?_
    refine rh_get hX gl_X4_15 0 dX4_getsBy_14 rfl rfl ?_
    refine rh_iload_n hX dX4_getsBy_17 rfl ?_
    refine rh_laload hX 2 _ dX4_getsBy_18 rfl rfl (by omega) (by decide) ?_
    refine rh_lmul hX dX4_getsBy_19 ?_
    refine rh_aload_n hX dX4_getsBy_20 rfl ?_
    refine rh_get hX gl_X4_76 0 dX4_getsBy_21 rfl rfl ?_
    refine rh_pS hX lk_X4_89 msX7_quotient (fun l => c_X7_quotient l E _ _) ⟨rfl, rfl⟩ ⟨Nat.le_of_ble_eq_true rfl, Nat.le_of_ble_eq_true rfl⟩ [] rfl rfl dX4_getsBy_24 rfl rfl (Nat.le_of_ble_eq_true rfl) ?_
    refine rh_goto (tgt := 31) hX dX4_getsBy_27 (by decide) ?_
    refine rh_lstn3 hX dX4_getsBy_31 (by decide) rfl ?_
    refine rh_aload_n hX dX4_getsBy_32 rfl ?_
    refine rh_get hX gl_X4_21 0 dX4_getsBy_33 rfl rfl ?_
    refine rh_iload_n hX dX4_getsBy_36 rfl ?_
    refine rh_laload hX 4 _ dX4_getsBy_37 rfl rfl (by omega) (by decide) ?_
    refine rh_lload_n hX dX4_getsBy_38 rfl ?_
    refine rh_ladd hX dX4_getsBy_39 ?_
    exact rh_lret hX hR dX4_getsBy_40 rfl ⟨by first | (rw [if_pos h6]; done) | (rw [if_neg h6]; done), rfl⟩

set_option maxRecDepth 100000 in
set_option maxHeartbeats 4000000 in
theorem c_X4_isConverting (l : Launch) (E : rhE) (o a0 a1 a2 a3 : Nat) (al cv du pf : Nat → Int64) (gr : Int64) (T : Nat) (pt cn : Int32) (lf sh : Int64) (c : Nat) (hc : c < 6) : Ctr l E yX4_isConverting cX4_isConverting 2 (some .boolean) (rmL 0) [.ref o, .int (nI c)] (wS E o a0 a1 a2 a3 al cv du pf gr T pt cn lf sh) (One (some (.int (if sBit cn c = 1 then 1 else 0))) (wS E o a0 a1 a2 a3 al cv du pf gr T pt cn lf sh)) := by
  refine Ctr.of (by decide) (Nat.le_of_ble_eq_true rfl) rfl rfl 0 ?_
  intro X hX hR
  refine rh_aload_n hX dX4_isConverting_0 rfl ?_
  refine rh_get hX gl_X4_58 0 dX4_isConverting_1 rfl rfl ?_
  refine rh_iload_n hX dX4_isConverting_4 rfl ?_
  refine rh_ishr hX dX4_isConverting_5 ?_
  refine rh_iconst hX dX4_isConverting_6 ki_1 ?_
  refine rh_iand hX dX4_isConverting_7 ?_
  refine rh_iconst hX dX4_isConverting_8 ki_1 ?_
  refine rh_icmp_ne (tgt := 16) hX dX4_isConverting_9 (by decide) (fun h9 => ?_) (fun h9 => ?_)
  · skip
    refine rh_iconst hX dX4_isConverting_16 ki_0 ?_
    exact rh_zret hX hR dX4_isConverting_17 rfl rfl ⟨by first | (rw [if_pos (show sBit cn c = 1 from h9)]; done) | (rw [if_neg (show ¬ sBit cn c = 1 from h9)]; done), rfl⟩
  · skip
    refine rh_iconst hX dX4_isConverting_12 ki_1 ?_
    refine rh_goto (tgt := 17) hX dX4_isConverting_13 (by decide) ?_
    exact rh_zret hX hR dX4_isConverting_17 rfl rfl ⟨by first | (rw [if_pos (show sBit cn c = 1 from h9)]; done) | (rw [if_neg (show ¬ sBit cn c = 1 from h9)]; done), rfl⟩

set_option maxRecDepth 100000 in
set_option maxHeartbeats 4000000 in
theorem c_X4_typeGets (l : Launch) (E : rhE) (o a0 a1 a2 a3 : Nat) (al cv du pf : Nat → Int64) (gr : Int64) (T : Nat) (pt cn : Int32) (lf sh : Int64) (c : Nat) (hc : c < 6) : Ctr l E yX4_typeGets cX4_typeGets 2 (some .long) (rmL 2) [.ref o, .int (nI c)] (wS E o a0 a1 a2 a3 al cv du pf gr T pt cn lf sh) (One (some (.long (pf c + (if sIs pt cn c = 0 then 0 else cQuot (lf * cv c) sh)))) (wS E o a0 a1 a2 a3 al cv du pf gr T pt cn lf sh)) := by
  refine Ctr.of (by decide) (Nat.le_of_ble_eq_true rfl) rfl rfl 0 ?_
  intro X hX hR
  refine rh_aload_n hX dX4_typeGets_0 rfl ?_
  refine rh_aload_n hX dX4_typeGets_1 rfl ?_
  refine rh_get hX gl_X4_58 0 dX4_typeGets_2 rfl rfl ?_
  refine rh_iload_n hX dX4_typeGets_5 rfl ?_
  refine rh_pV hX lk_X4_69 mvX4_getsBy (fun l => c_X4_getsBy l E _ _ _ _ _ _ _ _ _ _ _ _ _ _ _ _ _ (by omega)) ⟨rfl, rfl⟩ ⟨Nat.le_of_ble_eq_true rfl, Nat.le_of_ble_eq_true rfl⟩ [0, 1, 2, 3, 4] rfl rfl 0 rfl dX4_typeGets_6 rfl rfl (Nat.le_of_ble_eq_true rfl) ?_
  exact rh_lret hX hR dX4_typeGets_9 rfl ⟨rfl, rfl⟩

set_option maxRecDepth 100000 in
set_option maxHeartbeats 4000000 in
theorem c_X4_lack (l : Launch) (E : rhE) (o a0 a1 a2 a3 : Nat) (al cv du pf : Nat → Int64) (gr : Int64) (T : Nat) (pt cn : Int32) (lf sh : Int64) (c : Nat) (hc : c < 6) : Ctr l E yX4_lack cX4_lack 2 (some .long) (rmL 0) [.ref o, .int (nI c)] (wS E o a0 a1 a2 a3 al cv du pf gr T pt cn lf sh) (One (some (.long (du c - pf c))) (wS E o a0 a1 a2 a3 al cv du pf gr T pt cn lf sh)) := by
  refine Ctr.of (by decide) (Nat.le_of_ble_eq_true rfl) rfl rfl 0 ?_
  intro X hX hR
  refine rh_aload_n hX dX4_lack_0 rfl ?_
  refine rh_get hX gl_X4_18 0 dX4_lack_1 rfl rfl ?_
  refine rh_iload_n hX dX4_lack_4 rfl ?_
  refine rh_laload hX 3 _ dX4_lack_5 rfl rfl (by omega) (by decide) ?_
  refine rh_aload_n hX dX4_lack_6 rfl ?_
  refine rh_get hX gl_X4_21 0 dX4_lack_7 rfl rfl ?_
  refine rh_iload_n hX dX4_lack_10 rfl ?_
  refine rh_laload hX 4 _ dX4_lack_11 rfl rfl (by omega) (by decide) ?_
  refine rh_lsub hX dX4_lack_12 ?_
  exact rh_lret hX hR dX4_lack_13 rfl ⟨rfl, rfl⟩

theorem pRow_0 (du pf : Nat → Int64) (set : Int32) (s : Int64) (T : Nat) : pRow du pf set s T 0 = pf := by
  funext x
  unfold pRow
  rw [if_neg (by omega)]
theorem pRow_s (du pf : Nat → Int64) (set : Int32) (s : Int64) (T j : Nat) (hj : j < T - 1) : va_up (pRow du pf set s T j) (T - 1 - j) (pFirst du set s T (T - 1 - j)) = pRow du pf set s T (j + 1) := by
  funext x
  unfold va_up pRow
  by_cases e : x = T - 1 - j
  · rw [if_pos e, if_pos (by omega), e]
  · rw [if_neg e]
    by_cases h : T ≤ x + j ∧ x < T
    · rw [if_pos h, if_pos (by omega)]
    · rw [if_neg h, if_neg (by omega)]
theorem pRow_at (du pf : Nat → Int64) (set : Int32) (s : Int64) (T j c : Nat) (h : T ≤ c + j ∧ c < T) : pRow du pf set s T j c = pFirst du set s T c := by
  unfold pRow
  rw [if_pos h]
theorem rn_dm {c : Nat} (h : 1 ≤ c) : nI c + Int32.ofInt (-1) = nI (c - 1) := by
  obtain ⟨k, rfl⟩ : ∃ k, c = k + 1 := ⟨c - 1, by omega⟩
  exact rn_im1 k
theorem pFirst_j (du : Nat → Int64) (set : Int32) (s : Int64) (T j : Nat) (hj : j < T - 1) : pFirst du set s T (T - 1 - j) = (if sBit set (T - 1 - j) = 1 then 0 else minl (du (T - 1 - j)) (pLeft du set s T j)) := by
  unfold pFirst
  rw [show T - 1 - (T - 1 - j) = j by omega]

set_option maxRecDepth 100000 in
set_option maxHeartbeats 4000000 in
theorem c_X4_pays (l : Launch) (E : rhE) (o a0 a1 a2 a3 : Nat) (al cv du pf : Nat → Int64) (gr : Int64) (T : Nat) (pt cn : Int32) (lf sh : Int64) (s : Int64) (set : Int32) (hT1 : 1 ≤ T) (hT6 : T ≤ 6) : Ctr l E yX4_pays cX4_pays 5 none (rmL 1) [.ref o, .long s, .int set] (wS E o a0 a1 a2 a3 al cv du pf gr T pt cn lf sh) (One none (wS E o a0 a1 a2 a3 al cv du (pRow du pf set s T (T - 1)) gr T pt cn (pLeft du set s T (T - 1)) (pShare cv gr pt set T (T - 1)))) := by
  refine Ctr.of (by decide) (Nat.le_of_ble_eq_true rfl) rfl rfl 1 ?_
  intro X hX hR
  refine rh_aload_n hX dX4_pays_0 rfl ?_
  refine rh_lload_n hX dX4_pays_1 rfl ?_
  refine rh_put hX gl_X4_73 0 dX4_pays_2 rfl rfl rfl (by decide) rfl ?_
  dsimp only [List.set_cons_succ, List.set_cons_zero, vput]
  refine rh_aload_n hX dX4_pays_5 rfl ?_
  refine rh_aload_n hX dX4_pays_6 rfl ?_
  refine rh_get hX gl_X4_15 0 dX4_pays_7 rfl rfl ?_
  refine rh_iconst hX dX4_pays_10 ki_0 ?_
  refine rh_laload hX 2 _ dX4_pays_11 rfl rn_c0 (by omega) (by decide) ?_
  refine rh_aload_n hX dX4_pays_12 rfl ?_
  refine rh_get hX gl_X4_37 0 dX4_pays_13 rfl rfl ?_
  refine rh_ladd hX dX4_pays_16 ?_
  refine rh_put hX gl_X4_76 0 dX4_pays_17 rfl rfl rfl (by decide) rfl ?_
  dsimp only [List.set_cons_succ, List.set_cons_zero, vput]
  refine rh_aload_n hX dX4_pays_20 rfl ?_
  refine rh_get hX gl_X4_30 0 dX4_pays_21 rfl rfl ?_
  refine rh_iconst hX dX4_pays_24 ki_1 ?_
  refine rh_isub hX dX4_pays_25 ?_
  rw [show nI T - 1 = nI (T - 1) from rn_sub (b := 1) hT1]
  refine rh_ist4 hX dX4_pays_26 (by decide) rfl ?_
  refine rh_ext (q := 4) (g := pRow du pf set s T 0) rfl (fun x _ => by rw [pRow_0]) rfl ?_
  dsimp only [List.set_cons_succ, List.set_cons_zero]
  refine rh_loop (P := fun j => G X 28 [some (.ref o), some (.long s), none, some (.int set), some (.int (nI (T - 1 - j)))] [] (wS E o a0 a1 a2 a3 al cv du (pRow du pf set s T j) gr T pt cn (pLeft du set s T j) (pShare cv gr pt set T j))) (0) (T - 1) (by omega) ?_ ?_
  · skip
    refine rh_iload hX dX4_pays_28 rfl ?_
    refine rh_iconst hX dX4_pays_30 ki_1 ?_
    refine rh_icmp_lt_t (tgt := 121) hX dX4_pays_31 (by decide) (by rw [show T - 1 - (T - 1) = 0 by omega]; decide) ?_
    exact rh_vret hX hR dX4_pays_121 rfl ⟨rfl, rfl⟩
  · intro j hj0 hj ihj
    obtain ⟨c, hcj⟩ : ∃ c, c = T - 1 - j := ⟨_, rfl⟩
    have hc1 : 1 ≤ c := by omega
    have hc6 : c < 6 := by omega
    have hpf := pFirst_j du set s T j hj
    have hrs := pRow_s du pf set s T j hj
    have hls : pLeft du set s T (j + 1) = pLeft du set s T j - pFirst du set s T (T - 1 - j) := by rw [hpf]; rfl
    have hss : pShare cv gr pt set T (j + 1) = pShare cv gr pt set T j + (if sIs pt set (T - 1 - j) = 0 then 0 else cv (T - 1 - j)) := rfl
    rw [← hcj] at hpf hrs hls hss ⊢
    rw [show T - 1 - (j + 1) = c - 1 by omega] at ihj
    refine rh_iload hX dX4_pays_28 rfl ?_
    refine rh_iconst hX dX4_pays_30 ki_1 ?_
    refine rh_icmp_lt_f (tgt := 121) hX dX4_pays_31 (by decide) (nI_nlt (b := 1) hc1 (by omega)) ?_
    refine rh_aload_n hX dX4_pays_34 rfl ?_
    refine rh_get hX gl_X4_21 0 dX4_pays_35 rfl rfl ?_
    refine rh_iload hX dX4_pays_38 rfl ?_
    refine rh_iload_n hX dX4_pays_40 rfl ?_
    refine rh_iload hX dX4_pays_41 rfl ?_
    refine rh_ishr hX dX4_pays_43 ?_
    refine rh_iconst hX dX4_pays_44 ki_1 ?_
    refine rh_iand hX dX4_pays_45 ?_
    refine rh_iconst hX dX4_pays_46 ki_1 ?_
    refine rh_icmp_ne (tgt := 54) hX dX4_pays_47 (by decide) (fun h47 => ?_) (fun h47 => ?_)
    · skip
      have hst := (congrArg (va_up (pRow du pf set s T j) c) (hpf.trans (if_neg (show ¬ sBit set c = 1 from h47))).symm).trans hrs
      refine rh_aload_n hX dX4_pays_54 rfl ?_
      refine rh_get hX gl_X4_18 0 dX4_pays_55 rfl rfl ?_
      refine rh_iload hX dX4_pays_58 rfl ?_
      refine rh_laload hX 3 _ dX4_pays_60 rfl rfl (by omega) (by decide) ?_
      refine rh_aload_n hX dX4_pays_61 rfl ?_
      refine rh_get hX gl_X4_73 0 dX4_pays_62 rfl rfl ?_
      refine rh_minl hX mm_X4_79 dX4_pays_65 (Nat.le_of_ble_eq_true rfl) (Nat.le_of_ble_eq_true rfl) ?_
      refine rh_lastore hX 4 _ dX4_pays_68 rfl rfl (by omega) (by decide) rfl ?_
      dsimp only [List.set_cons_succ, List.set_cons_zero]
      first | rw [hst] | rw [show va_up (pRow du pf set s T j) c (if pLeft du set s T j < du c then pLeft du set s T j else du c) = pRow du pf set s T (j + 1) from hst]
      refine rh_aload_n hX dX4_pays_69 rfl ?_
      refine rh_dup hX dX4_pays_70 rfl ?_
      refine rh_get hX gl_X4_73 0 dX4_pays_71 rfl rfl ?_
      refine rh_aload_n hX dX4_pays_74 rfl ?_
      refine rh_get hX gl_X4_21 0 dX4_pays_75 rfl rfl ?_
      refine rh_iload hX dX4_pays_78 rfl ?_
      refine rh_laload hX 4 _ dX4_pays_80 rfl rfl (by omega) (by decide) ?_
      rw [pRow_at du pf set s T (j + 1) c (by omega), ← hls]
      refine rh_lsub hX dX4_pays_81 ?_
      refine rh_put hX gl_X4_73 0 dX4_pays_82 rfl rfl rfl (by decide) rfl ?_
      dsimp only [List.set_cons_succ, List.set_cons_zero, vput]
      refine rh_aload_n hX dX4_pays_85 rfl ?_
      refine rh_dup hX dX4_pays_86 rfl ?_
      refine rh_get hX gl_X4_76 0 dX4_pays_87 rfl rfl ?_
      refine rh_aload_n hX dX4_pays_90 rfl ?_
      refine rh_iload_n hX dX4_pays_91 rfl ?_
      refine rh_iload hX dX4_pays_92 rfl ?_
      refine rh_pV hX lk_X4_85 mvX4_isSharing (fun l => c_X4_isSharing l E _ _ _ _ _ _ _ _ _ _ _ _ _ _ _ _ _ (by omega)) ⟨rfl, rfl⟩ ⟨Nat.le_of_ble_eq_true rfl, Nat.le_of_ble_eq_true rfl⟩ [0, 1, 2, 3, 4] rfl rfl 0 rfl dX4_pays_94 rfl rfl (Nat.le_of_ble_eq_true rfl) ?_
      refine rh_if_eq (tgt := 110) hX dX4_pays_97 (by decide) (fun h97 => ?_) (fun h97 => ?_)
      · skip
        refine rh_lconst hX dX4_pays_110 kL_0 ?_
        refine rh_ladd hX dX4_pays_111 ?_
        refine rh_put hX gl_X4_76 0 dX4_pays_112 rfl rfl rfl (by decide) rfl ?_
        dsimp only [List.set_cons_succ, List.set_cons_zero, vput]
        refine rh_inc4 hX dX4_pays_115 (by decide) rfl (rn_dm hc1) ?_
        refine rh_goto (tgt := 28) hX dX4_pays_118 (by decide) ?_
        first | (rw [if_pos h97] at hss; rw [hss] at ihj; exact ihj) | (rw [if_neg h97] at hss; rw [hss] at ihj; exact ihj)
        skip
      · skip
        refine rh_aload_n hX dX4_pays_100 rfl ?_
        refine rh_get hX gl_X4_15 0 dX4_pays_101 rfl rfl ?_
        refine rh_iload hX dX4_pays_104 rfl ?_
        refine rh_laload hX 2 _ dX4_pays_106 rfl rfl (by omega) (by decide) ?_
        refine rh_goto (tgt := 111) hX dX4_pays_107 (by decide) ?_
        refine rh_ladd hX dX4_pays_111 ?_
        refine rh_put hX gl_X4_76 0 dX4_pays_112 rfl rfl rfl (by decide) rfl ?_
        dsimp only [List.set_cons_succ, List.set_cons_zero, vput]
        refine rh_inc4 hX dX4_pays_115 (by decide) rfl (rn_dm hc1) ?_
        refine rh_goto (tgt := 28) hX dX4_pays_118 (by decide) ?_
        first | (rw [if_pos h97] at hss; rw [hss] at ihj; exact ihj) | (rw [if_neg h97] at hss; rw [hss] at ihj; exact ihj)
        skip
    · skip
      have hst := (congrArg (va_up (pRow du pf set s T j) c) (hpf.trans (if_pos (show sBit set c = 1 from h47))).symm).trans hrs
      refine rh_lconst hX dX4_pays_50 kL_0 ?_
      refine rh_goto (tgt := 68) hX dX4_pays_51 (by decide) ?_
      refine rh_lastore hX 4 _ dX4_pays_68 rfl rfl (by omega) (by decide) rfl ?_
      dsimp only [List.set_cons_succ, List.set_cons_zero]
      first | rw [hst] | rw [show va_up (pRow du pf set s T j) c (if pLeft du set s T j < du c then pLeft du set s T j else du c) = pRow du pf set s T (j + 1) from hst]
      refine rh_aload_n hX dX4_pays_69 rfl ?_
      refine rh_dup hX dX4_pays_70 rfl ?_
      refine rh_get hX gl_X4_73 0 dX4_pays_71 rfl rfl ?_
      refine rh_aload_n hX dX4_pays_74 rfl ?_
      refine rh_get hX gl_X4_21 0 dX4_pays_75 rfl rfl ?_
      refine rh_iload hX dX4_pays_78 rfl ?_
      refine rh_laload hX 4 _ dX4_pays_80 rfl rfl (by omega) (by decide) ?_
      rw [pRow_at du pf set s T (j + 1) c (by omega), ← hls]
      refine rh_lsub hX dX4_pays_81 ?_
      refine rh_put hX gl_X4_73 0 dX4_pays_82 rfl rfl rfl (by decide) rfl ?_
      dsimp only [List.set_cons_succ, List.set_cons_zero, vput]
      refine rh_aload_n hX dX4_pays_85 rfl ?_
      refine rh_dup hX dX4_pays_86 rfl ?_
      refine rh_get hX gl_X4_76 0 dX4_pays_87 rfl rfl ?_
      refine rh_aload_n hX dX4_pays_90 rfl ?_
      refine rh_iload_n hX dX4_pays_91 rfl ?_
      refine rh_iload hX dX4_pays_92 rfl ?_
      refine rh_pV hX lk_X4_85 mvX4_isSharing (fun l => c_X4_isSharing l E _ _ _ _ _ _ _ _ _ _ _ _ _ _ _ _ _ (by omega)) ⟨rfl, rfl⟩ ⟨Nat.le_of_ble_eq_true rfl, Nat.le_of_ble_eq_true rfl⟩ [0, 1, 2, 3, 4] rfl rfl 0 rfl dX4_pays_94 rfl rfl (Nat.le_of_ble_eq_true rfl) ?_
      refine rh_if_eq (tgt := 110) hX dX4_pays_97 (by decide) (fun h97 => ?_) (fun h97 => ?_)
      · skip
        refine rh_lconst hX dX4_pays_110 kL_0 ?_
        refine rh_ladd hX dX4_pays_111 ?_
        refine rh_put hX gl_X4_76 0 dX4_pays_112 rfl rfl rfl (by decide) rfl ?_
        dsimp only [List.set_cons_succ, List.set_cons_zero, vput]
        refine rh_inc4 hX dX4_pays_115 (by decide) rfl (rn_dm hc1) ?_
        refine rh_goto (tgt := 28) hX dX4_pays_118 (by decide) ?_
        first | (rw [if_pos h97] at hss; rw [hss] at ihj; exact ihj) | (rw [if_neg h97] at hss; rw [hss] at ihj; exact ihj)
        skip
      · skip
        refine rh_aload_n hX dX4_pays_100 rfl ?_
        refine rh_get hX gl_X4_15 0 dX4_pays_101 rfl rfl ?_
        refine rh_iload hX dX4_pays_104 rfl ?_
        refine rh_laload hX 2 _ dX4_pays_106 rfl rfl (by omega) (by decide) ?_
        refine rh_goto (tgt := 111) hX dX4_pays_107 (by decide) ?_
        refine rh_ladd hX dX4_pays_111 ?_
        refine rh_put hX gl_X4_76 0 dX4_pays_112 rfl rfl rfl (by decide) rfl ?_
        dsimp only [List.set_cons_succ, List.set_cons_zero, vput]
        refine rh_inc4 hX dX4_pays_115 (by decide) rfl (rn_dm hc1) ?_
        refine rh_goto (tgt := 28) hX dX4_pays_118 (by decide) ?_
        first | (rw [if_pos h97] at hss; rw [hss] at ihj; exact ihj) | (rw [if_neg h97] at hss; rw [hss] at ihj; exact ihj)
        skip
