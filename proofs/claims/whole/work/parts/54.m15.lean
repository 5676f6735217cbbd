def mAh (u : Nat → Int32) (ba na : Int64) (t : Nat) : Int64 := if u (70 + t) = 3 then na else ba
def mRat (u : Nat → Int32) (ca : Nat → Int64) (ba na : Int64) (t : Nat) (p n m : Int64) : Int64 := if u (70 + t) = 0 then ca t else if p < ca t then (if u (70 + t) = 1 then p else if mAh u ba na t + n = 0 then ca t else maxl 1 (minl (ca t) ((ca t * mAh u ba na t + 10000 * m) / (mAh u ba na t + n)))) else ca t

set_option maxRecDepth 100000 in
set_option maxHeartbeats 4000000 in
theorem c_X8_weighed (l : Launch) (E : rhE) (cv a mm n : Int64) (hne : ¬ a + n = 0) : Ctr l E yX8_weighed cX8_weighed 8 (some .long) (rmL 0) [.long cv, .long a, .long mm, .long n] [] (One (some (.long ((cv * a + 10000 * mm) / (a + n)))) []) := by
  refine Ctr.of (by decide) (Nat.le_of_ble_eq_true rfl) rfl rfl 0 ?_
  intro X hX hR
  refine rh_lload_n hX dX8_weighed_0 rfl ?_
  refine rh_lload_n hX dX8_weighed_1 rfl ?_
  refine rh_lmul hX dX8_weighed_2 ?_
  refine rh_ldc2 hX dX8_weighed_3 kl_X8_267 ?_
  refine rh_lload hX dX8_weighed_6 rfl ?_
  refine rh_lmul hX dX8_weighed_8 ?_
  refine rh_ladd hX dX8_weighed_9 ?_
  refine rh_lload_n hX dX8_weighed_10 rfl ?_
  refine rh_lload hX dX8_weighed_11 rfl ?_
  refine rh_ladd hX dX8_weighed_13 ?_
  refine rh_ldiv hX dX8_weighed_14 hne ?_
  exact rh_lret hX hR dX8_weighed_15 (by simp only [List.map_cons, List.map_nil, List.cons_append, List.nil_append]) ⟨rfl, rfl⟩

set_option maxRecDepth 100000 in
set_option maxHeartbeats 4000000 in
theorem c_X8_ratcheted (l : Launch) (E : rhE) (B : Nat → Nat) (u : Nat → Int32) (kp : Nat → Int32) (ik : Int32) (ps : Nat → Int32) (pm : Nat) (dd : Int32) (tx : Nat → Int32) (ty : Nat) (rw : Nat → Int64) (rm : Nat) (th : Int32) (sz : Nat) (he : Nat) (wr : Int32) (mn : Nat → Int32) (vl : Int32) (tp : Int32) (lt : Int32) (ra : Int32) (pf : Int32) (pt : Int32) (pl : Int32) (pd : Int64) (prc : Int64) (ns : Int64) (tu : Nat) (ba : Int64) (na : Int64) (ca : Nat → Int64) (bo : Nat → Int32) (tr : Nat → Int64) (tH : Int32) (asd : Nat → Int32) (pa : Nat → Int64) (tg : Nat → Int64) (sd : Int64) (sr : Int64) (t : Nat) (p n mm : Int64) (ht : t < 6) : Ctr l E yX8_ratcheted cX8_ratcheted 12 (some .long) (rmL 1) [.ref (B 0), .int (nI t), .long p, .long n, .long mm] (wM E B u kp ik ps pm dd tx ty rw rm th sz he wr mn vl tp lt ra pf pt pl pd prc ns tu ba na ca bo tr tH asd pa tg sd sr) (One (some (.long (mRat u ca ba na t p n mm))) (wM E B u kp ik ps pm dd tx ty rw rm th sz he wr mn vl tp lt ra pf pt pl pd prc ns tu ba na ca bo tr tH asd pa tg sd sr)) := by
  refine Ctr.of (by decide) (Nat.le_of_ble_eq_true rfl) rfl rfl 4 ?_
  intro X hX hR
  refine rh_aload_n hX dX8_ratcheted_0 rfl ?_
  refine rh_get hX gl_X8_30 0 dX8_ratcheted_1 rfl rfl ?_
  refine rh_iload_n hX dX8_ratcheted_4 rfl ?_
  refine rh_laload hX 7 _ dX8_ratcheted_5 rfl rfl (by omega) (by decide) ?_
  refine rh_lst8 hX dX8_ratcheted_6 (by decide) rfl ?_
  refine rh_aload_n hX dX8_ratcheted_8 rfl ?_
  refine rh_get hX gl_X8_7 0 dX8_ratcheted_9 rfl rfl ?_
  refine rh_bipush hX dX8_ratcheted_12 kb_70 ?_
  refine rh_iload_n hX dX8_ratcheted_14 rfl ?_
  refine rh_iadd hX dX8_ratcheted_15 ?_
  refine rh_iaload hX 1 _ dX8_ratcheted_16 rfl (rn_a rn_c70 rfl) (by omega) (by decide) ?_
  refine rh_if_eq (tgt := 27) hX dX8_ratcheted_17 (by decide) (fun h17 => ?_) (fun h17 => ?_)
  · skip
    refine rh_lload hX dX8_ratcheted_27 rfl ?_
    exact rh_lret hX hR dX8_ratcheted_29 (by simp only [List.map_cons, List.map_nil, List.cons_append, List.nil_append]) ⟨by first | (rw [mRat, if_pos h17]; done) | (rw [mRat, if_neg h17, if_neg h24]; done), rfl⟩
  · skip
    refine rh_lload hX dX8_ratcheted_20 rfl ?_
    refine rh_lload_n hX dX8_ratcheted_22 rfl ?_
    refine rh_lgt (tgt := 30) hX dX8_ratcheted_23 dX8_ratcheted_24 (by decide) (fun h24 => ?_) (fun h24 => ?_)
    · skip
      refine rh_aload_n hX dX8_ratcheted_30 rfl ?_
      refine rh_get hX gl_X8_7 0 dX8_ratcheted_31 rfl rfl ?_
      refine rh_bipush hX dX8_ratcheted_34 kb_70 ?_
      refine rh_iload_n hX dX8_ratcheted_36 rfl ?_
      refine rh_iadd hX dX8_ratcheted_37 ?_
      refine rh_iaload hX 1 _ dX8_ratcheted_38 rfl (rn_a rn_c70 rfl) (by omega) (by decide) ?_
      refine rh_iconst hX dX8_ratcheted_39 ki_1 ?_
      refine rh_icmp_ne (tgt := 45) hX dX8_ratcheted_40 (by decide) (fun h40 => ?_) (fun h40 => ?_)
      · skip
        refine rh_aload_n hX dX8_ratcheted_45 rfl ?_
        refine rh_get hX gl_X8_7 0 dX8_ratcheted_46 rfl rfl ?_
        refine rh_bipush hX dX8_ratcheted_49 kb_70 ?_
        refine rh_iload_n hX dX8_ratcheted_51 rfl ?_
        refine rh_iadd hX dX8_ratcheted_52 ?_
        refine rh_iaload hX 1 _ dX8_ratcheted_53 rfl (rn_a rn_c70 rfl) (by omega) (by decide) ?_
        refine rh_iconst hX dX8_ratcheted_54 ki_3 ?_
        refine rh_icmp_ne (tgt := 65) hX dX8_ratcheted_55 (by decide) (fun h55 => ?_) (fun h55 => ?_)
        · skip
          have hA : ba = mAh u ba na t := by rw [mAh, if_neg h55]
          refine rh_aload_n hX dX8_ratcheted_65 rfl ?_
          refine rh_get hX gl_X8_254 0 dX8_ratcheted_66 rfl rfl ?_
          refine rh_lst10 hX dX8_ratcheted_69 (by decide) rfl ?_
          refine rh_lload hX dX8_ratcheted_71 rfl ?_
          refine rh_lload hX dX8_ratcheted_73 rfl ?_
          refine rh_ladd hX dX8_ratcheted_75 ?_
          refine rh_lconst hX dX8_ratcheted_76 kL_0 ?_
          refine rh_lne (tgt := 84) hX dX8_ratcheted_77 dX8_ratcheted_78 (by decide) (fun h78 => ?_) (fun h78 => ?_)
          · skip
            refine rh_lconst hX dX8_ratcheted_84 kL_1 ?_
            refine rh_lload hX dX8_ratcheted_85 rfl ?_
            refine rh_lload hX dX8_ratcheted_87 rfl ?_
            refine rh_lload hX dX8_ratcheted_89 rfl ?_
            refine rh_lload hX dX8_ratcheted_91 rfl ?_
            refine rh_lload hX dX8_ratcheted_93 rfl ?_
            refine rh_pS hX lk_X8_257 msX8_weighed (fun l => c_X8_weighed l E _ _ _ _ (by assumption)) ⟨rfl, rfl⟩ ⟨Nat.le_of_ble_eq_true rfl, Nat.le_of_ble_eq_true rfl⟩ [] rfl rfl dX8_ratcheted_95 rfl rfl (Nat.le_of_ble_eq_true rfl) ?_
            refine rh_minl hX mm_X8_261 dX8_ratcheted_98 (Nat.le_of_ble_eq_true rfl) (Nat.le_of_ble_eq_true rfl) ?_
            refine rh_maxl hX mm_X8_265 dX8_ratcheted_101 (Nat.le_of_ble_eq_true rfl) (Nat.le_of_ble_eq_true rfl) ?_
            exact rh_lret hX hR dX8_ratcheted_104 (by simp only [List.map_cons, List.map_nil, List.cons_append, List.nil_append]) ⟨by first | (rw [mRat, if_neg h17, if_pos h24, if_neg h40, mAh, if_pos h55, if_neg h78]; rfl) | (rw [mRat, if_neg h17, if_pos h24, if_neg h40, mAh, if_neg h55, if_neg h78]; rfl), rfl⟩
          · skip
            refine rh_lload hX dX8_ratcheted_81 rfl ?_
            exact rh_lret hX hR dX8_ratcheted_83 (by simp only [List.map_cons, List.map_nil, List.cons_append, List.nil_append]) ⟨by first | (rw [mRat, if_neg h17, if_pos h24, if_neg h40, mAh, if_pos h55, if_pos h78] <;> rfl) | (rw [mRat, if_neg h17, if_pos h24, if_neg h40, mAh, if_neg h55, if_pos h78] <;> rfl), rfl⟩
        · skip
          have hA : na = mAh u ba na t := by rw [mAh, if_pos h55]
          refine rh_aload_n hX dX8_ratcheted_58 rfl ?_
          refine rh_get hX gl_X8_252 0 dX8_ratcheted_59 rfl rfl ?_
          refine rh_goto (tgt := 69) hX dX8_ratcheted_62 (by decide) ?_
          refine rh_lst10 hX dX8_ratcheted_69 (by decide) rfl ?_
          refine rh_lload hX dX8_ratcheted_71 rfl ?_
          refine rh_lload hX dX8_ratcheted_73 rfl ?_
          refine rh_ladd hX dX8_ratcheted_75 ?_
          refine rh_lconst hX dX8_ratcheted_76 kL_0 ?_
          refine rh_lne (tgt := 84) hX dX8_ratcheted_77 dX8_ratcheted_78 (by decide) (fun h78 => ?_) (fun h78 => ?_)
          · skip
            refine rh_lconst hX dX8_ratcheted_84 kL_1 ?_
            refine rh_lload hX dX8_ratcheted_85 rfl ?_
            refine rh_lload hX dX8_ratcheted_87 rfl ?_
            refine rh_lload hX dX8_ratcheted_89 rfl ?_
            refine rh_lload hX dX8_ratcheted_91 rfl ?_
            refine rh_lload hX dX8_ratcheted_93 rfl ?_
            refine rh_pS hX lk_X8_257 msX8_weighed (fun l => c_X8_weighed l E _ _ _ _ (by assumption)) ⟨rfl, rfl⟩ ⟨Nat.le_of_ble_eq_true rfl, Nat.le_of_ble_eq_true rfl⟩ [] rfl rfl dX8_ratcheted_95 rfl rfl (Nat.le_of_ble_eq_true rfl) ?_
            refine rh_minl hX mm_X8_261 dX8_ratcheted_98 (Nat.le_of_ble_eq_true rfl) (Nat.le_of_ble_eq_true rfl) ?_
            refine rh_maxl hX mm_X8_265 dX8_ratcheted_101 (Nat.le_of_ble_eq_true rfl) (Nat.le_of_ble_eq_true rfl) ?_
            exact rh_lret hX hR dX8_ratcheted_104 (by simp only [List.map_cons, List.map_nil, List.cons_append, List.nil_append]) ⟨by first | (rw [mRat, if_neg h17, if_pos h24, if_neg h40, mAh, if_pos h55, if_neg h78]; rfl) | (rw [mRat, if_neg h17, if_pos h24, if_neg h40, mAh, if_neg h55, if_neg h78]; rfl), rfl⟩
          · skip
            refine rh_lload hX dX8_ratcheted_81 rfl ?_
            exact rh_lret hX hR dX8_ratcheted_83 (by simp only [List.map_cons, List.map_nil, List.cons_append, List.nil_append]) ⟨by first | (rw [mRat, if_neg h17, if_pos h24, if_neg h40, mAh, if_pos h55, if_pos h78] <;> rfl) | (rw [mRat, if_neg h17, if_pos h24, if_neg h40, mAh, if_neg h55, if_pos h78] <;> rfl), rfl⟩
      · skip
        refine rh_lload_n hX dX8_ratcheted_43 rfl ?_
        exact rh_lret hX hR dX8_ratcheted_44 (by simp only [List.map_cons, List.map_nil, List.cons_append, List.nil_append]) ⟨by rw [mRat, if_neg h17, if_pos h24, if_pos h40], rfl⟩
    · skip
      refine rh_lload hX dX8_ratcheted_27 rfl ?_
      exact rh_lret hX hR dX8_ratcheted_29 (by simp only [List.map_cons, List.map_nil, List.cons_append, List.nil_append]) ⟨by first | (rw [mRat, if_pos h17]; done) | (rw [mRat, if_neg h17, if_neg h24]; done), rfl⟩
