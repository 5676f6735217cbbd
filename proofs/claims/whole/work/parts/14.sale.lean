/-- a sale: its object, four rows -/
abbrev wS (E : rhE) (o a0 a1 a2 a3 : Nat) (al cv du pf : Nat → Int64) (gr : Int64) (T : Nat) (pt cn : Int32) (lf sh : Int64) : va_W := [(o, .inr (4, [.ref a0, .ref a1, .ref a2, .ref a3, .long gr, .int (nI T), .int pt, .int cn, .long lf, .long sh])), (a0, aL E 6 al), (a1, aL E 6 cv), (a2, aL E 6 du), (a3, aL E 6 pf)]
def sBit (set : Int32) (c : Nat) : Int32 := (set >>> (nI c &&& 31)) &&& 1
def sIs (pt set : Int32) (c : Nat) : Int32 := if c = 0 then 1 else if sBit (set ||| pt) c = 1 then 1 else 0
def minl (x y : Int64) : Int64 := if y < x then y else x
/-- what is left when j classes, from the last one down, have had theirs -/
def pLeft (du : Nat → Int64) (set : Int32) (s : Int64) (T : Nat) : Nat → Int64
  | 0 => s
  | j + 1 => pLeft du set s T j - (if sBit set (T - 1 - j) = 1 then 0 else minl (du (T - 1 - j)) (pLeft du set s T j))
def pFirst (du : Nat → Int64) (set : Int32) (s : Int64) (T c : Nat) : Int64 := if sBit set c = 1 then 0 else minl (du c) (pLeft du set s T (T - 1 - c))
def pShare (cv : Nat → Int64) (gr : Int64) (pt set : Int32) (T : Nat) : Nat → Int64
  | 0 => cv 0 + gr
  | j + 1 => pShare cv gr pt set T j + (if sIs pt set (T - 1 - j) = 0 then 0 else cv (T - 1 - j))
def pRow (du pf : Nat → Int64) (set : Int32) (s : Int64) (T j : Nat) : Nat → Int64 := fun x => if T ≤ x + j ∧ x < T then pFirst du set s T x else pf x

set_option maxRecDepth 100000 in
set_option maxHeartbeats 4000000 in
theorem c_X4_isSharing (l : Launch) (E : rhE) (o a0 a1 a2 a3 : Nat) (al cv du pf : Nat → Int64) (gr : Int64) (T : Nat) (pt cn : Int32) (lf sh : Int64) (set : Int32) (c : Nat) (hc : c < 6) : Ctr l E yX4_isSharing cX4_isSharing 3 (some .boolean) (rmL 0) [.ref o, .int set, .int (nI c)] (wS E o a0 a1 a2 a3 al cv du pf gr T pt cn lf sh) (One (some (.int (sIs pt set c))) (wS E o a0 a1 a2 a3 al cv du pf gr T pt cn lf sh)) := by
  refine Ctr.of (by decide) (Nat.le_of_ble_eq_true rfl) rfl rfl 0 ?_
  intro X hX hR
  refine rh_iload_n hX dX4_isSharing_0 rfl ?_
  refine rh_if_eq (tgt := 18) hX dX4_isSharing_1 (by decide) (fun h1 => ?_) (fun h1 => ?_)
  · skip
    have h1 : c = 0 := nI_z h1 (by omega)
    refine rh_iconst hX dX4_isSharing_18 ki_1 ?_
    refine rh_goto (tgt := 23) hX dX4_isSharing_19 (by decide) ?_
    exact rh_zret hX hR dX4_isSharing_23 rfl rfl ⟨by first | (rw [sIs, if_pos h1]; done) | (rw [sIs, if_neg h1, if_pos (show sBit (set ||| pt) c = 1 from h15)]; done) | (rw [sIs, if_neg h1, if_neg (show ¬ sBit (set ||| pt) c = 1 from h15)]; done), rfl⟩
  · skip
    have h1 : ¬ c = 0 := fun q => h1 (by rw [q]; rfl)
    refine rh_iload_n hX dX4_isSharing_4 rfl ?_
    refine rh_aload_n hX dX4_isSharing_5 rfl ?_
    refine rh_get hX gl_X4_45 0 dX4_isSharing_6 rfl rfl ?_
    refine rh_ior hX dX4_isSharing_9 ?_
    refine rh_iload_n hX dX4_isSharing_10 rfl ?_
    refine rh_ishr hX dX4_isSharing_11 ?_
    refine rh_iconst hX dX4_isSharing_12 ki_1 ?_
    refine rh_iand hX dX4_isSharing_13 ?_
    refine rh_iconst hX dX4_isSharing_14 ki_1 ?_
    refine rh_icmp_ne (tgt := 22) hX dX4_isSharing_15 (by decide) (fun h15 => ?_) (fun h15 => ?_)
    · skip
      refine rh_iconst hX dX4_isSharing_22 ki_0 ?_
      exact rh_zret hX hR dX4_isSharing_23 rfl rfl ⟨by first | (rw [sIs, if_pos h1]; done) | (rw [sIs, if_neg h1, if_pos (show sBit (set ||| pt) c = 1 from h15)]; done) | (rw [sIs, if_neg h1, if_neg (show ¬ sBit (set ||| pt) c = 1 from h15)]; done), rfl⟩
    · skip
      refine rh_iconst hX dX4_isSharing_18 ki_1 ?_
      refine rh_goto (tgt := 23) hX dX4_isSharing_19 (by decide) ?_
      exact rh_zret hX hR dX4_isSharing_23 rfl rfl ⟨by first | (rw [sIs, if_pos h1]; done) | (rw [sIs, if_neg h1, if_pos (show sBit (set ||| pt) c = 1 from h15)]; done) | (rw [sIs, if_neg h1, if_neg (show ¬ sBit (set ||| pt) c = 1 from h15)]; done), rfl⟩

set_option maxRecDepth 100000 in
set_option maxHeartbeats 4000000 in
theorem c_X4_getsBy (l : Launch) (E : rhE) (o a0 a1 a2 a3 : Nat) (al cv du pf : Nat → Int64) (gr : Int64) (T : Nat) (pt cn : Int32) (lf sh : Int64) (set : Int32) (c : Nat) (hc : c < 6) : Ctr l E yX4_getsBy cX4_getsBy 5 (some .long) (rmL 1) [.ref o, .int set, .int (nI c)] (wS E o a0 a1 a2 a3 al cv du pf gr T pt cn lf sh) (One (some (.long (pf c + (if sIs pt set c = 0 then 0 else cQuot (lf * cv c) sh)))) (wS E o a0 a1 a2 a3 al cv du pf gr T pt cn lf sh)) := by
  refine Ctr.of (by decide) (Nat.le_of_ble_eq_true rfl) rfl rfl 2 ?_
  intro X hX hR
  refine rh_aload_n hX dX4_getsBy_0 rfl ?_
  refine rh_iload_n hX dX4_getsBy_1 rfl ?_
  refine rh_iload_n hX dX4_getsBy_2 rfl ?_
  refine rh_pV hX lk_X4_85 mvX4_isSharing (fun l => c_X4_isSharing l E _ _ _ _ _ _ _ _ _ _ _ _ _ _ _ _ _ (by omega)) ⟨rfl, rfl⟩ ⟨Nat.le_of_ble_eq_true rfl, Nat.le_of_ble_eq_true rfl⟩ [0, 1, 2, 3, 4] rfl rfl 0 rfl dX4_getsBy_3 rfl rfl (Nat.le_of_ble_eq_true rfl) ?_
  refine rh_if_eq (tgt := 30) hX dX4_getsBy_6 (by decide) (fun h6 => ?_) (fun h6 => ?_)
  · skip
    refine rh_lconst hX dX4_getsBy_30 kL_0 ?_
    refine rh_lstn3 hX dX4_getsBy_31 (by decide) rfl ?_
    refine rh_aload_n hX dX4_getsBy_32 rfl ?_
    refine rh_get hX gl_X4_21 0 dX4_getsBy_33 rfl rfl ?_
    refine rh_iload_n hX dX4_getsBy_36 rfl ?_
    refine rh_laload hX 4 _ dX4_getsBy_37 rfl rfl (by omega) (by decide) ?_
    refine rh_lload_n hX dX4_getsBy_38 rfl ?_
    refine rh_ladd hX dX4_getsBy_39 ?_
    exact rh_lret hX hR dX4_getsBy_40 rfl ⟨by first | (rw [if_pos h6]; done) | (rw [if_neg h6]; done), rfl⟩
  · skip
    refine rh_aload_n hX dX4_getsBy_9 rfl ?_
    refine rh_get hX gl_X4_73 0 dX4_getsBy_10 rfl rfl ?_
    refine rh_aload_n hX dX4_getsBy_13 rfl ?_
    refine rh_get hX gl_X4_15 0 dX4_getsBy_14 rfl rfl ?_
    refine rh_iload_n hX dX4_getsBy_17 rfl ?_
    refine rh_laload hX 2 _ dX4_getsBy_18 rfl rfl (by omega) (by decide) ?_
    refine rh_lmul hX dX4_getsBy_19 ?_
    refine rh_aload_n hX dX4_getsBy_20 rfl ?_
    refine rh_get hX gl_X4_76 0 dX4_getsBy_21 rfl rfl ?_
    refine rh_pS hX lk_X4_89 msX7_quotient (fun l => c_X7_quotient l E _ _) ⟨rfl, rfl⟩ ⟨Nat.le_of_ble_eq_true rfl, Nat.le_of_ble_eq_true rfl⟩ [] rfl rfl dX4_getsBy_24 rfl rfl (Nat.le_of_ble_eq_true rfl) ?_
    refine rh_goto (tgt := 31) hX dX4_getsBy_27 (by decide) ?_
    refine rh_lstn3 hX dX4_getsBy_31 (by decide) rfl ?_
    refine rh_aload_n hX dX4_getsBy_32 rfl ?_
    refine rh_get hX gl_X4_21 0 dX4_getsBy_33 rfl rfl ?_
    refine rh_iload_n hX dX4_getsBy_36 rfl ?_
    refine rh_laload hX 4 _ dX4_getsBy_37 rfl rfl (by omega) (by decide) ?_
    refine rh_lload_n hX dX4_getsBy_38 rfl ?_
    refine rh_ladd hX dX4_getsBy_39 ?_
    exact rh_lret hX hR dX4_getsBy_40 rfl ⟨by first | (rw [if_pos h6]; done) | (rw [if_neg h6]; done), rfl⟩

set_option maxRecDepth 100000 in
set_option maxHeartbeats 4000000 in
theorem c_X4_isConverting (l : Launch) (E : rhE) (o a0 a1 a2 a3 : Nat) (al cv du pf : Nat → Int64) (gr : Int64) (T : Nat) (pt cn : Int32) (lf sh : Int64) (c : Nat) (hc : c < 6) : Ctr l E yX4_isConverting cX4_isConverting 2 (some .boolean) (rmL 0) [.ref o, .int (nI c)] (wS E o a0 a1 a2 a3 al cv du pf gr T pt cn lf sh) (One (some (.int (if sBit cn c = 1 then 1 else 0))) (wS E o a0 a1 a2 a3 al cv du pf gr T pt cn lf sh)) := by
  refine Ctr.of (by decide) (Nat.le_of_ble_eq_true rfl) rfl rfl 0 ?_
  intro X hX hR
  refine rh_aload_n hX dX4_isConverting_0 rfl ?_
  refine rh_get hX gl_X4_58 0 dX4_isConverting_1 rfl rfl ?_
  refine rh_iload_n hX dX4_isConverting_4 rfl ?_
  refine rh_ishr hX dX4_isConverting_5 ?_
  refine rh_iconst hX dX4_isConverting_6 ki_1 ?_
  refine rh_iand hX dX4_isConverting_7 ?_
  refine rh_iconst hX dX4_isConverting_8 ki_1 ?_
  refine rh_icmp_ne (tgt := 16) hX dX4_isConverting_9 (by decide) (fun h9 => ?_) (fun h9 => ?_)
  · skip
    refine rh_iconst hX dX4_isConverting_16 ki_0 ?_
    exact rh_zret hX hR dX4_isConverting_17 rfl rfl ⟨by first | (rw [if_pos (show sBit cn c = 1 from h9)]; done) | (rw [if_neg (show ¬ sBit cn c = 1 from h9)]; done), rfl⟩
  · skip
    refine rh_iconst hX dX4_isConverting_12 ki_1 ?_
    refine rh_goto (tgt := 17) hX dX4_isConverting_13 (by decide) ?_
    exact rh_zret hX hR dX4_isConverting_17 rfl rfl ⟨by first | (rw [if_pos (show sBit cn c = 1 from h9)]; done) | (rw [if_neg (show ¬ sBit cn c = 1 from h9)]; done), rfl⟩

set_option maxRecDepth 100000 in
set_option maxHeartbeats 4000000 in
theorem c_X4_typeGets (l : Launch) (E : rhE) (o a0 a1 a2 a3 : Nat) (al cv du pf : Nat → Int64) (gr : Int64) (T : Nat) (pt cn : Int32) (lf sh : Int64) (c : Nat) (hc : c < 6) : Ctr l E yX4_typeGets cX4_typeGets 2 (some .long) (rmL 2) [.ref o, .int (nI c)] (wS E o a0 a1 a2 a3 al cv du pf gr T pt cn lf sh) (One (some (.long (pf c + (if sIs pt cn c = 0 then 0 else cQuot (lf * cv c) sh)))) (wS E o a0 a1 a2 a3 al cv du pf gr T pt cn lf sh)) := by
  refine Ctr.of (by decide) (Nat.le_of_ble_eq_true rfl) rfl rfl 0 ?_
  intro X hX hR
  refine rh_aload_n hX dX4_typeGets_0 rfl ?_
  refine rh_aload_n hX dX4_typeGets_1 rfl ?_
  refine rh_get hX gl_X4_58 0 dX4_typeGets_2 rfl rfl ?_
  refine rh_iload_n hX dX4_typeGets_5 rfl ?_
  refine rh_pV hX lk_X4_69 mvX4_getsBy (fun l => c_X4_getsBy l E _ _ _ _ _ _ _ _ _ _ _ _ _ _ _ _ _ (by omega)) ⟨rfl, rfl⟩ ⟨Nat.le_of_ble_eq_true rfl, Nat.le_of_ble_eq_true rfl⟩ [0, 1, 2, 3, 4] rfl rfl 0 rfl dX4_typeGets_6 rfl rfl (Nat.le_of_ble_eq_true rfl) ?_
  exact rh_lret hX hR dX4_typeGets_9 rfl ⟨rfl, rfl⟩

set_option maxRecDepth 100000 in
set_option maxHeartbeats 4000000 in
theorem c_X4_lack (l : Launch) (E : rhE) (o a0 a1 a2 a3 : Nat) (al cv du pf : Nat → Int64) (gr : Int64) (T : Nat) (pt cn : Int32) (lf sh : Int64) (c : Nat) (hc : c < 6) : Ctr l E yX4_lack cX4_lack 2 (some .long) (rmL 0) [.ref o, .int (nI c)] (wS E o a0 a1 a2 a3 al cv du pf gr T pt cn lf sh) (One (some (.long (du c - pf c))) (wS E o a0 a1 a2 a3 al cv du pf gr T pt cn lf sh)) := by
  refine Ctr.of (by decide) (Nat.le_of_ble_eq_true rfl) rfl rfl 0 ?_
  intro X hX hR
  refine rh_aload_n hX dX4_lack_0 rfl ?_
  refine rh_get hX gl_X4_18 0 dX4_lack_1 rfl rfl ?_
  refine rh_iload_n hX dX4_lack_4 rfl ?_
  refine rh_laload hX 3 _ dX4_lack_5 rfl rfl (by omega) (by decide) ?_
  refine rh_aload_n hX dX4_lack_6 rfl ?_
  refine rh_get hX gl_X4_21 0 dX4_lack_7 rfl rfl ?_
  refine rh_iload_n hX dX4_lack_10 rfl ?_
  refine rh_laload hX 4 _ dX4_lack_11 rfl rfl (by omega) (by decide) ?_
  refine rh_lsub hX dX4_lack_12 ?_
  exact rh_lret hX hR dX4_lack_13 rfl ⟨rfl, rfl⟩

theorem pRow_0 (du pf : Nat → Int64) (set : Int32) (s : Int64) (T : Nat) : pRow du pf set s T 0 = pf := by
  funext x
  unfold pRow
  rw [if_neg (by omega)]
theorem pRow_s (du pf : Nat → Int64) (set : Int32) (s : Int64) (T j : Nat) (hj : j < T - 1) : va_up (pRow du pf set s T j) (T - 1 - j) (pFirst du set s T (T - 1 - j)) = pRow du pf set s T (j + 1) := by
  funext x
  unfold va_up pRow
  by_cases e : x = T - 1 - j
  · rw [if_pos e, if_pos (by omega), e]
  · rw [if_neg e]
    by_cases h : T ≤ x + j ∧ x < T
    · rw [if_pos h, if_pos (by omega)]
    · rw [if_neg h, if_neg (by omega)]
theorem pRow_at (du pf : Nat → Int64) (set : Int32) (s : Int64) (T j c : Nat) (h : T ≤ c + j ∧ c < T) : pRow du pf set s T j c = pFirst du set s T c := by
  unfold pRow
  rw [if_pos h]
theorem rn_dm {c : Nat} (h : 1 ≤ c) : nI c + Int32.ofInt (-1) = nI (c - 1) := by
  obtain ⟨k, rfl⟩ : ∃ k, c = k + 1 := ⟨c - 1, by omega⟩
  exact rn_im1 k
theorem pFirst_j (du : Nat → Int64) (set : Int32) (s : Int64) (T j : Nat) (hj : j < T - 1) : pFirst du set s T (T - 1 - j) = (if sBit set (T - 1 - j) = 1 then 0 else minl (du (T - 1 - j)) (pLeft du set s T j)) := by
  unfold pFirst
  rw [show T - 1 - (T - 1 - j) = j by omega]

set_option maxRecDepth 100000 in
set_option maxHeartbeats 4000000 in
theorem c_X4_pays (l : Launch) (E : rhE) (o a0 a1 a2 a3 : Nat) (al cv du pf : Nat → Int64) (gr : Int64) (T : Nat) (pt cn : Int32) (lf sh : Int64) (s : Int64) (set : Int32) (hT1 : 1 ≤ T) (hT6 : T ≤ 6) : Ctr l E yX4_pays cX4_pays 5 none (rmL 1) [.ref o, .long s, .int set] (wS E o a0 a1 a2 a3 al cv du pf gr T pt cn lf sh) (One none (wS E o a0 a1 a2 a3 al cv du (pRow du pf set s T (T - 1)) gr T pt cn (pLeft du set s T (T - 1)) (pShare cv gr pt set T (T - 1)))) := by
  refine Ctr.of (by decide) (Nat.le_of_ble_eq_true rfl) rfl rfl 1 ?_
  intro X hX hR
  refine rh_aload_n hX dX4_pays_0 rfl ?_
  refine rh_lload_n hX dX4_pays_1 rfl ?_
  refine rh_put hX gl_X4_73 0 dX4_pays_2 rfl rfl rfl (Nat.le_of_ble_eq_true rfl) rfl ?_
  dsimp only [List.cons_append, List.nil_append, List.set_cons_succ, List.set_cons_zero, vput]
  refine rh_aload_n hX dX4_pays_5 rfl ?_
  refine rh_aload_n hX dX4_pays_6 rfl ?_
  refine rh_get hX gl_X4_15 0 dX4_pays_7 rfl rfl ?_
  refine rh_iconst hX dX4_pays_10 ki_0 ?_
  refine rh_laload hX 2 _ dX4_pays_11 rfl rn_c0 (by omega) (by decide) ?_
  refine rh_aload_n hX dX4_pays_12 rfl ?_
  refine rh_get hX gl_X4_37 0 dX4_pays_13 rfl rfl ?_
  refine rh_ladd hX dX4_pays_16 ?_
  refine rh_put hX gl_X4_76 0 dX4_pays_17 rfl rfl rfl (Nat.le_of_ble_eq_true rfl) rfl ?_
  dsimp only [List.cons_append, List.nil_append, List.set_cons_succ, List.set_cons_zero, vput]
  refine rh_aload_n hX dX4_pays_20 rfl ?_
  refine rh_get hX gl_X4_30 0 dX4_pays_21 rfl rfl ?_
  refine rh_iconst hX dX4_pays_24 ki_1 ?_
  refine rh_isub hX dX4_pays_25 ?_
  rw [show nI T - 1 = nI (T - 1) from rn_sub (b := 1) hT1]
  refine rh_ist4 hX dX4_pays_26 (by decide) rfl ?_
  refine rh_ext (q := 4) (g := pRow du pf set s T 0) rfl (fun x _ => by rw [pRow_0]) rfl ?_
  dsimp only [List.set_cons_succ, List.set_cons_zero]
  refine rh_loop (P := fun j => G X 28 [some (.ref o), some (.long s), none, some (.int set), some (.int (nI (T - 1 - j)))] [] (wS E o a0 a1 a2 a3 al cv du (pRow du pf set s T j) gr T pt cn (pLeft du set s T j) (pShare cv gr pt set T j))) (0) (T - 1) (by omega) ?_ ?_
  · skip
    refine rh_iload hX dX4_pays_28 rfl ?_
    refine rh_iconst hX dX4_pays_30 ki_1 ?_
    refine rh_icmp_lt_t (tgt := 121) hX dX4_pays_31 (by decide) (by rw [show T - 1 - (T - 1) = 0 by omega]; decide) ?_
    exact rh_vret hX hR dX4_pays_121 rfl ⟨rfl, rfl⟩
  · intro j hj0 hj ihj
    obtain ⟨c, hcj⟩ : ∃ c, c = T - 1 - j := ⟨_, rfl⟩
    have hc1 : 1 ≤ c := by omega
    have hc6 : c < 6 := by omega
    have hpf := pFirst_j du set s T j hj
    have hrs := pRow_s du pf set s T j hj
    have hls : pLeft du set s T (j + 1) = pLeft du set s T j - pFirst du set s T (T - 1 - j) := by rw [hpf]; rfl
    have hss : pShare cv gr pt set T (j + 1) = pShare cv gr pt set T j + (if sIs pt set (T - 1 - j) = 0 then 0 else cv (T - 1 - j)) := rfl
    rw [← hcj] at hpf hrs hls hss ⊢
    rw [show T - 1 - (j + 1) = c - 1 by omega] at ihj
    refine rh_iload hX dX4_pays_28 rfl ?_
    refine rh_iconst hX dX4_pays_30 ki_1 ?_
    refine rh_icmp_lt_f (tgt := 121) hX dX4_pays_31 (by decide) (nI_nlt (b := 1) hc1 (by omega)) ?_
    refine rh_aload_n hX dX4_pays_34 rfl ?_
    refine rh_get hX gl_X4_21 0 dX4_pays_35 rfl rfl ?_
    refine rh_iload hX dX4_pays_38 rfl ?_
    refine rh_iload_n hX dX4_pays_40 rfl ?_
    refine rh_iload hX dX4_pays_41 rfl ?_
    refine rh_ishr hX dX4_pays_43 ?_
    refine rh_iconst hX dX4_pays_44 ki_1 ?_
    refine rh_iand hX dX4_pays_45 ?_
    refine rh_iconst hX dX4_pays_46 ki_1 ?_
    refine rh_icmp_ne (tgt := 54) hX dX4_pays_47 (by decide) (fun h47 => ?_) (fun h47 => ?_)
    · skip
      have hst := (congrArg (va_up (pRow du pf set s T j) c) (hpf.trans (if_neg (show ¬ sBit set c = 1 from h47))).symm).trans hrs
      refine rh_aload_n hX dX4_pays_54 rfl ?_
      refine rh_get hX gl_X4_18 0 dX4_pays_55 rfl rfl ?_
      refine rh_iload hX dX4_pays_58 rfl ?_
      refine rh_laload hX 3 _ dX4_pays_60 rfl rfl (by omega) (by decide) ?_
      refine rh_aload_n hX dX4_pays_61 rfl ?_
      refine rh_get hX gl_X4_73 0 dX4_pays_62 rfl rfl ?_
      refine rh_minl hX mm_X4_79 dX4_pays_65 (Nat.le_of_ble_eq_true rfl) (Nat.le_of_ble_eq_true rfl) ?_
      refine rh_lastore hX 4 _ dX4_pays_68 rfl rfl (by omega) (by decide) rfl ?_
      dsimp only [List.set_cons_succ, List.set_cons_zero]
      first | rw [hst] | rw [show va_up (pRow du pf set s T j) c (if pLeft du set s T j < du c then pLeft du set s T j else du c) = pRow du pf set s T (j + 1) from hst]
      refine rh_aload_n hX dX4_pays_69 rfl ?_
      refine rh_dup hX dX4_pays_70 rfl ?_
      refine rh_get hX gl_X4_73 0 dX4_pays_71 rfl rfl ?_
      refine rh_aload_n hX dX4_pays_74 rfl ?_
      refine rh_get hX gl_X4_21 0 dX4_pays_75 rfl rfl ?_
      refine rh_iload hX dX4_pays_78 rfl ?_
      refine rh_laload hX 4 _ dX4_pays_80 rfl rfl (by omega) (by decide) ?_
      rw [pRow_at du pf set s T (j + 1) c (by omega)]
      refine rh_lsub hX dX4_pays_81 ?_
      rw [← hls]
      refine rh_put hX gl_X4_73 0 dX4_pays_82 rfl rfl rfl (Nat.le_of_ble_eq_true rfl) rfl ?_
      dsimp only [List.cons_append, List.nil_append, List.set_cons_succ, List.set_cons_zero, vput]
      refine rh_aload_n hX dX4_pays_85 rfl ?_
      refine rh_dup hX dX4_pays_86 rfl ?_
      refine rh_get hX gl_X4_76 0 dX4_pays_87 rfl rfl ?_
      refine rh_aload_n hX dX4_pays_90 rfl ?_
      refine rh_iload_n hX dX4_pays_91 rfl ?_
      refine rh_iload hX dX4_pays_92 rfl ?_
      refine rh_pV hX lk_X4_85 mvX4_isSharing (fun l => c_X4_isSharing l E _ _ _ _ _ _ _ _ _ _ _ _ _ _ _ _ _ (by omega)) ⟨rfl, rfl⟩ ⟨Nat.le_of_ble_eq_true rfl, Nat.le_of_ble_eq_true rfl⟩ [0, 1, 2, 3, 4] rfl rfl 0 rfl dX4_pays_94 rfl rfl (Nat.le_of_ble_eq_true rfl) ?_
      refine rh_if_eq (tgt := 110) hX dX4_pays_97 (by decide) (fun h97 => ?_) (fun h97 => ?_)
      · skip
        refine rh_lconst hX dX4_pays_110 kL_0 ?_
        refine rh_ladd hX dX4_pays_111 ?_
        refine rh_put hX gl_X4_76 0 dX4_pays_112 rfl rfl rfl (Nat.le_of_ble_eq_true rfl) rfl ?_
        dsimp only [List.cons_append, List.nil_append, List.set_cons_succ, List.set_cons_zero, vput]
        refine rh_inc4 hX dX4_pays_115 (by decide) rfl (rn_dm hc1) ?_
        refine rh_goto (tgt := 28) hX dX4_pays_118 (by decide) ?_
        first | (rw [if_pos h97] at hss; rw [hss] at ihj; exact ihj) | (rw [if_neg h97] at hss; rw [hss] at ihj; exact ihj)
        skip
      · skip
        refine rh_aload_n hX dX4_pays_100 rfl ?_
        refine rh_get hX gl_X4_15 0 dX4_pays_101 rfl rfl ?_
        refine rh_iload hX dX4_pays_104 rfl ?_
        refine rh_laload hX 2 _ dX4_pays_106 rfl rfl (by omega) (by decide) ?_
        refine rh_goto (tgt := 111) hX dX4_pays_107 (by decide) ?_
        refine rh_ladd hX dX4_pays_111 ?_
        refine rh_put hX gl_X4_76 0 dX4_pays_112 rfl rfl rfl (Nat.le_of_ble_eq_true rfl) rfl ?_
        dsimp only [List.cons_append, List.nil_append, List.set_cons_succ, List.set_cons_zero, vput]
        refine rh_inc4 hX dX4_pays_115 (by decide) rfl (rn_dm hc1) ?_
        refine rh_goto (tgt := 28) hX dX4_pays_118 (by decide) ?_
        first | (rw [if_pos h97] at hss; rw [hss] at ihj; exact ihj) | (rw [if_neg h97] at hss; rw [hss] at ihj; exact ihj)
        skip
    · skip
      have hst := (congrArg (va_up (pRow du pf set s T j) c) (hpf.trans (if_pos (show sBit set c = 1 from h47))).symm).trans hrs
      refine rh_lconst hX dX4_pays_50 kL_0 ?_
      refine rh_goto (tgt := 68) hX dX4_pays_51 (by decide) ?_
      refine rh_lastore hX 4 _ dX4_pays_68 rfl rfl (by omega) (by decide) rfl ?_
      dsimp only [List.set_cons_succ, List.set_cons_zero]
      first | rw [hst] | rw [show va_up (pRow du pf set s T j) c (if pLeft du set s T j < du c then pLeft du set s T j else du c) = pRow du pf set s T (j + 1) from hst]
      refine rh_aload_n hX dX4_pays_69 rfl ?_
      refine rh_dup hX dX4_pays_70 rfl ?_
      refine rh_get hX gl_X4_73 0 dX4_pays_71 rfl rfl ?_
      refine rh_aload_n hX dX4_pays_74 rfl ?_
      refine rh_get hX gl_X4_21 0 dX4_pays_75 rfl rfl ?_
      refine rh_iload hX dX4_pays_78 rfl ?_
      refine rh_laload hX 4 _ dX4_pays_80 rfl rfl (by omega) (by decide) ?_
      rw [pRow_at du pf set s T (j + 1) c (by omega)]
      refine rh_lsub hX dX4_pays_81 ?_
      rw [← hls]
      refine rh_put hX gl_X4_73 0 dX4_pays_82 rfl rfl rfl (Nat.le_of_ble_eq_true rfl) rfl ?_
      dsimp only [List.cons_append, List.nil_append, List.set_cons_succ, List.set_cons_zero, vput]
      refine rh_aload_n hX dX4_pays_85 rfl ?_
      refine rh_dup hX dX4_pays_86 rfl ?_
      refine rh_get hX gl_X4_76 0 dX4_pays_87 rfl rfl ?_
      refine rh_aload_n hX dX4_pays_90 rfl ?_
      refine rh_iload_n hX dX4_pays_91 rfl ?_
      refine rh_iload hX dX4_pays_92 rfl ?_
      refine rh_pV hX lk_X4_85 mvX4_isSharing (fun l => c_X4_isSharing l E _ _ _ _ _ _ _ _ _ _ _ _ _ _ _ _ _ (by omega)) ⟨rfl, rfl⟩ ⟨Nat.le_of_ble_eq_true rfl, Nat.le_of_ble_eq_true rfl⟩ [0, 1, 2, 3, 4] rfl rfl 0 rfl dX4_pays_94 rfl rfl (Nat.le_of_ble_eq_true rfl) ?_
      refine rh_if_eq (tgt := 110) hX dX4_pays_97 (by decide) (fun h97 => ?_) (fun h97 => ?_)
      · skip
        refine rh_lconst hX dX4_pays_110 kL_0 ?_
        refine rh_ladd hX dX4_pays_111 ?_
        refine rh_put hX gl_X4_76 0 dX4_pays_112 rfl rfl rfl (Nat.le_of_ble_eq_true rfl) rfl ?_
        dsimp only [List.cons_append, List.nil_append, List.set_cons_succ, List.set_cons_zero, vput]
        refine rh_inc4 hX dX4_pays_115 (by decide) rfl (rn_dm hc1) ?_
        refine rh_goto (tgt := 28) hX dX4_pays_118 (by decide) ?_
        first | (rw [if_pos h97] at hss; rw [hss] at ihj; exact ihj) | (rw [if_neg h97] at hss; rw [hss] at ihj; exact ihj)
        skip
      · skip
        refine rh_aload_n hX dX4_pays_100 rfl ?_
        refine rh_get hX gl_X4_15 0 dX4_pays_101 rfl rfl ?_
        refine rh_iload hX dX4_pays_104 rfl ?_
        refine rh_laload hX 2 _ dX4_pays_106 rfl rfl (by omega) (by decide) ?_
        refine rh_goto (tgt := 111) hX dX4_pays_107 (by decide) ?_
        refine rh_ladd hX dX4_pays_111 ?_
        refine rh_put hX gl_X4_76 0 dX4_pays_112 rfl rfl rfl (Nat.le_of_ble_eq_true rfl) rfl ?_
        dsimp only [List.cons_append, List.nil_append, List.set_cons_succ, List.set_cons_zero, vput]
        refine rh_inc4 hX dX4_pays_115 (by decide) rfl (rn_dm hc1) ?_
        refine rh_goto (tgt := 28) hX dX4_pays_118 (by decide) ?_
        first | (rw [if_pos h97] at hss; rw [hss] at ihj; exact ihj) | (rw [if_neg h97] at hss; rw [hss] at ihj; exact ihj)
        skip

def rowTo (g f : Nat → Int64) (i : Nat) : Nat → Int64 := fun x => if x < i then g x else f x
theorem rowTo_0 (g f : Nat → Int64) : rowTo g f 0 = f := by
  funext x
  unfold rowTo
  rw [if_neg (by omega)]
theorem rowTo_s (g f : Nat → Int64) (i : Nat) : va_up (rowTo g f i) i (g i) = rowTo g f (i + 1) := by
  funext x
  unfold va_up rowTo
  by_cases e : x = i
  · rw [if_pos e, if_pos (by omega), e]
  · rw [if_neg e]
    by_cases h : x < i
    · rw [if_pos h, if_pos (by omega)]
    · rw [if_neg h, if_neg (by omega)]
def cDue (f : Nat → Int64) (t : Nat) : Int64 := if t = 0 then 0 else cPref f t
/-- what class c gets of a sum by a set of classes that convert -/
def sGets (du cv : Nat → Int64) (gr : Int64) (pt set : Int32) (s : Int64) (T c : Nat) : Int64 := pFirst du set s T c + (if sIs pt set c = 0 then 0 else cQuot (pLeft du set s T (T - 1) * cv c) (pShare cv gr pt set T (T - 1)))
def firstFrom (P : Nat → Bool) : Nat → Nat → Nat
  | 0, _ => 0
  | k + 1, c => if P c = true then c else firstFrom P k (c + 1)
def sOne (c : Nat) : Int32 := 1 <<< (nI c &&& 31)
/-- class c would rather convert -/
def sRather (du cv : Nat → Int64) (gr : Int64) (pt set : Int32) (s : Int64) (T c : Nat) : Bool := decide ((pt ||| set) &&& sOne c = 0) && decide (sGets du cv gr pt set s T c < sGets du cv gr pt (set ||| sOne c) s T c)
def sNext (du cv : Nat → Int64) (gr : Int64) (pt set : Int32) (s : Int64) (T : Nat) : Nat := firstFrom (sRather du cv gr pt set s T) (T - 1) 1
def sIter (du cv : Nat → Int64) (gr : Int64) (pt : Int32) (s : Int64) (T : Nat) : Nat → Int32 → Int32
  | 0, set => set
  | k + 1, set => if sNext du cv gr pt set s T = 0 then set else sIter du cv gr pt s T k (set ||| sOne (sNext du cv gr pt set s T))
def sQ (du cv : Nat → Int64) (gr : Int64) (pt : Int32) (s : Int64) (T : Nat) : Int32 := sIter du cv gr pt s T 6 0
theorem firstFrom_lt (P : Nat → Bool) : ∀ k c, firstFrom P k c = 0 ∨ firstFrom P k c < c + k
  | 0, c => Or.inl rfl
  | k + 1, c => by
    unfold firstFrom
    by_cases h : P c = true
    · rw [if_pos h]; omega
    · rw [if_neg h]
      rcases firstFrom_lt P k (c + 1) with h | h
      · exact Or.inl h
      · exact Or.inr (by omega)
theorem pRow_ext {du pf pf1 : Nat → Int64} {set : Int32} {s : Int64} {T : Nat} (h : ∀ x, (x = 0 ∨ T ≤ x) → pf1 x = pf x) : pRow du pf1 set s T (T - 1) = pRow du pf set s T (T - 1) := by
  funext x
  unfold pRow
  by_cases e : T ≤ x + (T - 1) ∧ x < T
  · rw [if_pos e, if_pos e]
  · rw [if_neg e, if_neg e, h x (by omega)]
theorem pRow_out {du pf : Nat → Int64} {set : Int32} {s : Int64} {T x : Nat} (h : x = 0 ∨ T ≤ x) (hT : 1 ≤ T) : pRow du pf set s T (T - 1) x = pf x := by
  unfold pRow
  rw [if_neg (by omega)]

set_option maxRecDepth 100000 in
set_option maxHeartbeats 4000000 in
theorem c_X4_looksAt (l : Launch) (E : rhE) (o a0 a1 a2 a3 : Nat) (al cv du pf : Nat → Int64) (gr : Int64) (T0 : Nat) (pt cn : Int32) (lf sh : Int64) (ho ha : Nat) (f : Nat → Int64) (T : Nat) (hT : (f 171).toInt32 = nI T) (hT6 : T ≤ 6) (hT1 : 1 ≤ T) : Ctr l E yX4_looksAt cX4_looksAt 3 none (rmL 3) [.ref o, .ref ho] (wS E o a0 a1 a2 a3 al cv du pf gr T0 pt cn lf sh ++ wH E ho ha f) (One none (wS E o a0 a1 a2 a3 (rowTo (cAllHeld f) al T) (rowTo (cAllConv f) cv T) (rowTo (cDue f) du T) pf (cAllGranted f) T (cTypesWith f 4 T) cn lf sh ++ wH E ho ha f)) := by
  refine Ctr.of (by decide) (Nat.le_of_ble_eq_true rfl) rfl rfl 1 ?_
  intro X hX hR
  refine rh_aload_n hX dX4_looksAt_0 rfl ?_
  refine rh_aload_n hX dX4_looksAt_1 rfl ?_
  refine rh_pV hX lk_X4_24 mvX1_types (fun l => c_X1_types l E _ _ _ T hT hT6) ⟨rfl, rfl⟩ ⟨Nat.le_of_ble_eq_true rfl, Nat.le_of_ble_eq_true rfl⟩ [5, 6] rfl rfl 5 rfl dX4_looksAt_2 rfl rfl (Nat.le_of_ble_eq_true rfl) ?_
  refine rh_put hX gl_X4_30 0 dX4_looksAt_5 rfl rfl rfl (Nat.le_of_ble_eq_true rfl) rfl ?_
  dsimp only [List.cons_append, List.nil_append, List.set_cons_succ, List.set_cons_zero, vput]
  refine rh_aload_n hX dX4_looksAt_8 rfl ?_
  refine rh_aload_n hX dX4_looksAt_9 rfl ?_
  refine rh_pV hX lk_X4_33 mvX1_allGranted (fun l => c_X1_allGranted l E _ _ _) ⟨rfl, rfl⟩ ⟨Nat.le_of_ble_eq_true rfl, Nat.le_of_ble_eq_true rfl⟩ [5, 6] rfl rfl 5 rfl dX4_looksAt_10 rfl rfl (Nat.le_of_ble_eq_true rfl) ?_
  refine rh_put hX gl_X4_37 0 dX4_looksAt_13 rfl rfl rfl (Nat.le_of_ble_eq_true rfl) rfl ?_
  dsimp only [List.cons_append, List.nil_append, List.set_cons_succ, List.set_cons_zero, vput]
  refine rh_aload_n hX dX4_looksAt_16 rfl ?_
  refine rh_aload_n hX dX4_looksAt_17 rfl ?_
  refine rh_iconst hX dX4_looksAt_18 ki_4 ?_
  refine rh_pV hX lk_X4_41 mvX1_typesWith (fun l => c_X1_typesWith l E _ _ _ 4 T hT hT6 (by omega) hT1) ⟨rfl, rfl⟩ ⟨Nat.le_of_ble_eq_true rfl, Nat.le_of_ble_eq_true rfl⟩ [5, 6] rfl rfl 5 rfl dX4_looksAt_19 rfl rfl (Nat.le_of_ble_eq_true rfl) ?_
  refine rh_put hX gl_X4_45 0 dX4_looksAt_22 rfl rfl rfl (Nat.le_of_ble_eq_true rfl) rfl ?_
  dsimp only [List.cons_append, List.nil_append, List.set_cons_succ, List.set_cons_zero, vput]
  refine rh_iconst hX dX4_looksAt_25 ki_0 ?_
  refine rh_istn2 hX dX4_looksAt_26 (by decide) rfl ?_
  rw [← rowTo_0 (cAllHeld f) al, ← rowTo_0 (cAllConv f) cv, ← rowTo_0 (cDue f) du]
  refine rh_loop (P := fun i => G X 27 [some (.ref o), some (.ref ho), some (.int (nI i))] [] (wS E o a0 a1 a2 a3 (rowTo (cAllHeld f) al i) (rowTo (cAllConv f) cv i) (rowTo (cDue f) du i) pf (cAllGranted f) T (cTypesWith f 4 T) cn lf sh ++ wH E ho ha f)) (0) (T) (by omega) ?_ ?_
  · skip
    refine rh_iload_n hX dX4_looksAt_27 rfl ?_
    refine rh_aload_n hX dX4_looksAt_28 rfl ?_
    refine rh_get hX gl_X4_30 0 dX4_looksAt_29 rfl rfl ?_
    refine rh_icmp_ge_t (tgt := 82) hX dX4_looksAt_32 (by decide) (nI_le (Nat.le_refl T) (by omega)) ?_
    exact rh_vret hX hR dX4_looksAt_82 rfl ⟨rfl, rfl⟩
  · intro i hi0 hi ih
    refine rh_iload_n hX dX4_looksAt_27 rfl ?_
    refine rh_aload_n hX dX4_looksAt_28 rfl ?_
    refine rh_get hX gl_X4_30 0 dX4_looksAt_29 rfl rfl ?_
    refine rh_icmp_ge_f (tgt := 82) hX dX4_looksAt_32 (by decide) (nI_ge hi (by omega)) ?_
    refine rh_aload_n hX dX4_looksAt_35 rfl ?_
    refine rh_get hX gl_X4_9 0 dX4_looksAt_36 rfl rfl ?_
    refine rh_iload_n hX dX4_looksAt_39 rfl ?_
    refine rh_aload_n hX dX4_looksAt_40 rfl ?_
    refine rh_iload_n hX dX4_looksAt_41 rfl ?_
    refine rh_pV hX lk_X4_48 mvX1_allHeld (fun l => c_X1_allHeld l E _ _ _ _ (by omega)) ⟨rfl, rfl⟩ ⟨Nat.le_of_ble_eq_true rfl, Nat.le_of_ble_eq_true rfl⟩ [5, 6] rfl rfl 5 rfl dX4_looksAt_42 rfl rfl (Nat.le_of_ble_eq_true rfl) ?_
    refine rh_lastore hX 1 _ dX4_looksAt_45 rfl rfl (by omega) (by decide) rfl ?_
    dsimp only [List.cons_append, List.nil_append, List.set_cons_succ, List.set_cons_zero, vput]
    refine rh_aload_n hX dX4_looksAt_46 rfl ?_
    refine rh_get hX gl_X4_15 0 dX4_looksAt_47 rfl rfl ?_
    refine rh_iload_n hX dX4_looksAt_50 rfl ?_
    refine rh_aload_n hX dX4_looksAt_51 rfl ?_
    refine rh_iload_n hX dX4_looksAt_52 rfl ?_
    refine rh_pV hX lk_X4_52 mvX1_allConverted (fun l => c_X1_allConverted l E _ _ _ _ (by omega)) ⟨rfl, rfl⟩ ⟨Nat.le_of_ble_eq_true rfl, Nat.le_of_ble_eq_true rfl⟩ [5, 6] rfl rfl 5 rfl dX4_looksAt_53 rfl rfl (Nat.le_of_ble_eq_true rfl) ?_
    refine rh_lastore hX 2 _ dX4_looksAt_56 rfl rfl (by omega) (by decide) rfl ?_
    dsimp only [List.cons_append, List.nil_append, List.set_cons_succ, List.set_cons_zero, vput]
    refine rh_aload_n hX dX4_looksAt_57 rfl ?_
    refine rh_get hX gl_X4_18 0 dX4_looksAt_58 rfl rfl ?_
    refine rh_iload_n hX dX4_looksAt_61 rfl ?_
    refine rh_iload_n hX dX4_looksAt_62 rfl ?_
    refine rh_if_ne (tgt := 70) hX dX4_looksAt_63 (by decide) (fun h63 => ?_) (fun h63 => ?_)
    · skip
      have h63 : ¬ i = 0 := fun q => h63 (by rw [q]; rfl)
      refine rh_aload_n hX dX4_looksAt_70 rfl ?_
      refine rh_iload_n hX dX4_looksAt_71 rfl ?_
      refine rh_pV hX lk_X4_55 mvX1_preferred (fun l => c_X1_preferred l E _ _ _ _ (by omega)) ⟨rfl, rfl⟩ ⟨Nat.le_of_ble_eq_true rfl, Nat.le_of_ble_eq_true rfl⟩ [5, 6] rfl rfl 5 rfl dX4_looksAt_72 rfl rfl (Nat.le_of_ble_eq_true rfl) ?_
      refine rh_lastore hX 3 _ dX4_looksAt_75 rfl rfl (by omega) (by decide) rfl ?_
      dsimp only [List.cons_append, List.nil_append, List.set_cons_succ, List.set_cons_zero, vput]
      refine rh_inc2 hX dX4_looksAt_76 (by decide) rfl (rn_i1 _) ?_
      refine rh_goto (tgt := 27) hX dX4_looksAt_79 (by decide) ?_
      rw [rowTo_s, rowTo_s]
      first | (rw [show va_up (rowTo (cDue f) du i) i 0 = rowTo (cDue f) du (i + 1) from (congrArg (va_up (rowTo (cDue f) du i) i) (show (0 : Int64) = cDue f i by rw [cDue, if_pos h63])).trans (rowTo_s _ _ _)]; exact ih) | (rw [show va_up (rowTo (cDue f) du i) i (cPref f i) = rowTo (cDue f) du (i + 1) from (congrArg (va_up (rowTo (cDue f) du i) i) (show cPref f i = cDue f i by rw [cDue, if_neg h63])).trans (rowTo_s _ _ _)]; exact ih)
    · skip
      have h63 : i = 0 := nI_z h63 (by omega)
      refine rh_lconst hX dX4_looksAt_66 kL_0 ?_
      refine rh_goto (tgt := 75) hX dX4_looksAt_67 (by decide) ?_
      refine rh_lastore hX 3 _ dX4_looksAt_75 rfl rfl (by omega) (by decide) rfl ?_
      dsimp only [List.cons_append, List.nil_append, List.set_cons_succ, List.set_cons_zero, vput]
      refine rh_inc2 hX dX4_looksAt_76 (by decide) rfl (rn_i1 _) ?_
      refine rh_goto (tgt := 27) hX dX4_looksAt_79 (by decide) ?_
      rw [rowTo_s, rowTo_s]
      first | (rw [show va_up (rowTo (cDue f) du i) i 0 = rowTo (cDue f) du (i + 1) from (congrArg (va_up (rowTo (cDue f) du i) i) (show (0 : Int64) = cDue f i by rw [cDue, if_pos h63])).trans (rowTo_s _ _ _)]; exact ih) | (rw [show va_up (rowTo (cDue f) du i) i (cPref f i) = rowTo (cDue f) du (i + 1) from (congrArg (va_up (rowTo (cDue f) du i) i) (show cPref f i = cDue f i by rw [cDue, if_neg h63])).trans (rowTo_s _ _ _)]; exact ih)

set_option maxRecDepth 100000 in
set_option maxHeartbeats 4000000 in
theorem c_X4_firstToJoin (l : Launch) (E : rhE) (o a0 a1 a2 a3 : Nat) (al cv du pf : Nat → Int64) (gr : Int64) (T : Nat) (pt cn : Int32) (lf sh : Int64) (s : Int64) (hT1 : 1 ≤ T) (hT6 : T ≤ 6) : Ctr l E yX4_firstToJoin cX4_firstToJoin 7 (some .int) (rmL 2) [.ref o, .long s] (wS E o a0 a1 a2 a3 al cv du pf gr T pt cn lf sh) (fun r w => ∃ (pf1 : Nat → Int64) (lf1 sh1 : Int64), r = some (.int (nI (sNext du cv gr pt cn s T))) ∧ (∀ x, (x = 0 ∨ T ≤ x) → pf1 x = pf x) ∧ w = (wS E o a0 a1 a2 a3 al cv du pf1 gr T pt cn lf1 sh1)) := by
  refine Ctr.of (by decide) (Nat.le_of_ble_eq_true rfl) rfl rfl 4 ?_
  intro X hX hR
  refine rh_iconst hX dX4_firstToJoin_0 ki_1 ?_
  refine rh_istn3 hX dX4_firstToJoin_1 (by decide) rfl ?_
  refine (rh_loop (P := fun i => ∀ (pf1 : Nat → Int64) (lf1 sh1 : Int64), ((∀ x, (x = 0 ∨ T ≤ x) → pf1 x = pf x) ∧ sNext du cv gr pt cn s T = firstFrom (sRather du cv gr pt cn s T) (T - i) i) → G X 2 [some (.ref o), some (.long s), none, some (.int (nI i)), none, none, none] [] (wS E o a0 a1 a2 a3 al cv du pf1 gr T pt cn lf1 sh1)) (1) (T) (by omega) ?_ ?_) pf lf sh ⟨fun _ _ => rfl, rfl⟩
  · intro pf1 lf1 sh1 hH
    refine rh_iload_n hX dX4_firstToJoin_2 rfl ?_
    refine rh_aload_n hX dX4_firstToJoin_3 rfl ?_
    refine rh_get hX gl_X4_30 0 dX4_firstToJoin_4 rfl rfl ?_
    refine rh_icmp_ge_t (tgt := 88) hX dX4_firstToJoin_7 (by decide) (nI_le (Nat.le_refl T) (by omega)) ?_
    refine rh_iconst hX dX4_firstToJoin_88 ki_0 ?_
    exact rh_iret hX hR dX4_firstToJoin_89 rfl ⟨_, _, _, by rw [hH.2, Nat.sub_self]; rfl, hH.1, rfl⟩
  · intro i hi0 hi ih pf1 lf1 sh1 hH
    obtain ⟨k, hk⟩ : ∃ k, T - i = k + 1 := ⟨T - i - 1, by omega⟩
    have hk2 : T - (i + 1) = k := by omega
    rw [hk, firstFrom] at hH
    rw [hk2] at ih
    refine rh_iload_n hX dX4_firstToJoin_2 rfl ?_
    refine rh_aload_n hX dX4_firstToJoin_3 rfl ?_
    refine rh_get hX gl_X4_30 0 dX4_firstToJoin_4 rfl rfl ?_
    refine rh_icmp_ge_f (tgt := 88) hX dX4_firstToJoin_7 (by decide) (nI_ge hi (by omega)) ?_
    refine rh_iconst hX dX4_firstToJoin_10 ki_1 ?_
    refine rh_iload_n hX dX4_firstToJoin_11 rfl ?_
    refine rh_ishl hX dX4_firstToJoin_12 ?_
    refine rh_ist4 hX dX4_firstToJoin_13 (by decide) rfl ?_
    refine rh_aload_n hX dX4_firstToJoin_15 rfl ?_
    refine rh_get hX gl_X4_45 0 dX4_firstToJoin_16 rfl rfl ?_
    refine rh_aload_n hX dX4_firstToJoin_19 rfl ?_
    refine rh_get hX gl_X4_58 0 dX4_firstToJoin_20 rfl rfl ?_
    refine rh_ior hX dX4_firstToJoin_23 ?_
    refine rh_iload hX dX4_firstToJoin_24 rfl ?_
    refine rh_iand hX dX4_firstToJoin_26 ?_
    refine rh_if_ne (tgt := 82) hX dX4_firstToJoin_27 (by decide) (fun h27 => ?_) (fun h27 => ?_)
    · skip
      refine rh_inc3 hX dX4_firstToJoin_82 (by decide) rfl (rn_i1 _) ?_
      refine rh_goto (tgt := 2) hX dX4_firstToJoin_85 (by decide) ?_
      first | exact rh_wk (by exact ⟨rfl, rfl, rfl, trivial⟩) (ih _ _ _ ⟨fun x hx => (pRow_out hx hT1).trans ((pRow_out hx hT1).trans (hH.1 x hx)), by rw [hH.2, if_neg (by unfold sRather; rw [sGets, sGets] ; simp only [Bool.and_eq_true, decide_eq_true_eq]; exact fun q => h76 q.2)]⟩) | exact rh_wk (by exact ⟨rfl, rfl, rfl, trivial⟩) (ih _ _ _ ⟨hH.1, by rw [hH.2, if_neg (by unfold sRather; simp only [Bool.and_eq_true, decide_eq_true_eq]; exact fun q => h27 q.1)]⟩)
    · skip
      refine rh_aload_n hX dX4_firstToJoin_30 rfl ?_
      refine rh_lload_n hX dX4_firstToJoin_31 rfl ?_
      refine rh_aload_n hX dX4_firstToJoin_32 rfl ?_
      refine rh_get hX gl_X4_58 0 dX4_firstToJoin_33 rfl rfl ?_
      refine rh_iload hX dX4_firstToJoin_36 rfl ?_
      refine rh_ior hX dX4_firstToJoin_38 ?_
      refine rh_uV hX lk_X4_65 mvX4_pays (fun l => c_X4_pays l E _ _ _ _ _ _ _ _ _ _ _ _ _ _ _ _ _ (by omega) (by omega)) ⟨rfl, rfl⟩ ⟨Nat.le_of_ble_eq_true rfl, Nat.le_of_ble_eq_true rfl⟩ [0, 1, 2, 3, 4] rfl rfl 0 rfl dX4_firstToJoin_39 rfl rfl (Nat.le_of_ble_eq_true rfl) rfl ?_
      dsimp only [List.cons_append, List.nil_append, List.set_cons_succ, List.set_cons_zero, vput]
      refine rh_aload_n hX dX4_firstToJoin_42 rfl ?_
      refine rh_aload_n hX dX4_firstToJoin_43 rfl ?_
      refine rh_get hX gl_X4_58 0 dX4_firstToJoin_44 rfl rfl ?_
      refine rh_iload hX dX4_firstToJoin_47 rfl ?_
      refine rh_ior hX dX4_firstToJoin_49 ?_
      refine rh_iload_n hX dX4_firstToJoin_50 rfl ?_
      refine rh_pV hX lk_X4_69 mvX4_getsBy (fun l => c_X4_getsBy l E _ _ _ _ _ _ _ _ _ _ _ _ _ _ _ _ _ (by omega)) ⟨rfl, rfl⟩ ⟨Nat.le_of_ble_eq_true rfl, Nat.le_of_ble_eq_true rfl⟩ [0, 1, 2, 3, 4] rfl rfl 0 rfl dX4_firstToJoin_51 rfl rfl (Nat.le_of_ble_eq_true rfl) ?_
      refine rh_lst5 hX dX4_firstToJoin_54 (by decide) rfl ?_
      refine rh_aload_n hX dX4_firstToJoin_56 rfl ?_
      refine rh_lload_n hX dX4_firstToJoin_57 rfl ?_
      refine rh_aload_n hX dX4_firstToJoin_58 rfl ?_
      refine rh_get hX gl_X4_58 0 dX4_firstToJoin_59 rfl rfl ?_
      refine rh_uV hX lk_X4_65 mvX4_pays (fun l => c_X4_pays l E _ _ _ _ _ _ _ _ _ _ _ _ _ _ _ _ _ (by omega) (by omega)) ⟨rfl, rfl⟩ ⟨Nat.le_of_ble_eq_true rfl, Nat.le_of_ble_eq_true rfl⟩ [0, 1, 2, 3, 4] rfl rfl 0 rfl dX4_firstToJoin_62 rfl rfl (Nat.le_of_ble_eq_true rfl) rfl ?_
      dsimp only [List.cons_append, List.nil_append, List.set_cons_succ, List.set_cons_zero, vput]
      refine rh_lload hX dX4_firstToJoin_65 rfl ?_
      refine rh_aload_n hX dX4_firstToJoin_67 rfl ?_
      refine rh_aload_n hX dX4_firstToJoin_68 rfl ?_
      refine rh_get hX gl_X4_58 0 dX4_firstToJoin_69 rfl rfl ?_
      refine rh_iload_n hX dX4_firstToJoin_72 rfl ?_
      refine rh_pV hX lk_X4_69 mvX4_getsBy (fun l => c_X4_getsBy l E _ _ _ _ _ _ _ _ _ _ _ _ _ _ _ _ _ (by omega)) ⟨rfl, rfl⟩ ⟨Nat.le_of_ble_eq_true rfl, Nat.le_of_ble_eq_true rfl⟩ [0, 1, 2, 3, 4] rfl rfl 0 rfl dX4_firstToJoin_73 rfl rfl (Nat.le_of_ble_eq_true rfl) ?_
      rw [pRow_at du _ _ s T (T - 1) i (by omega), pRow_at du _ _ s T (T - 1) i (by omega)]
      refine rh_lle (tgt := 82) hX dX4_firstToJoin_76 dX4_firstToJoin_77 (by decide) (fun h76 => ?_) (fun h76 => ?_)
      · skip
        have h76 := rh_le64.mp h76
        refine rh_inc3 hX dX4_firstToJoin_82 (by decide) rfl (rn_i1 _) ?_
        refine rh_goto (tgt := 2) hX dX4_firstToJoin_85 (by decide) ?_
        first | exact rh_wk (by exact ⟨rfl, rfl, rfl, trivial⟩) (ih _ _ _ ⟨fun x hx => (pRow_out hx hT1).trans ((pRow_out hx hT1).trans (hH.1 x hx)), by rw [hH.2, if_neg (by unfold sRather; rw [sGets, sGets] ; simp only [Bool.and_eq_true, decide_eq_true_eq]; exact fun q => h76 q.2)]⟩) | exact rh_wk (by exact ⟨rfl, rfl, rfl, trivial⟩) (ih _ _ _ ⟨hH.1, by rw [hH.2, if_neg (by unfold sRather; simp only [Bool.and_eq_true, decide_eq_true_eq]; exact fun q => h27 q.1)]⟩)
      · skip
        refine rh_iload_n hX dX4_firstToJoin_80 rfl ?_
        exact rh_iret hX hR dX4_firstToJoin_81 rfl ⟨_, _, _, by rw [hH.2, if_pos (by unfold sRather; simp only [Bool.and_eq_true, decide_eq_true_eq]; exact ⟨h27, Classical.not_not.mp (fun q => h76 (rh_le64.mpr q))⟩)], fun x hx => (pRow_out hx hT1).trans ((pRow_out hx hT1).trans (hH.1 x hx)), rfl⟩
