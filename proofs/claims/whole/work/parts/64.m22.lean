theorem held_w {u : Nat → Int32} {T t : Nat} (h : mI u T) (ht : t < T) : (∀ d, d < 8 → 0 ≤ (cHeld (fm u) d t).toInt) ∧ sumZ (fun d => (cHeld (fm u) d t).toInt) 8 ≤ 1000000000000000000 := by
  refine ⟨fun d hd => h.b.2.1 d t hd ht, ?_⟩
  have := (cAllHeld_b h.b ht).2
  rw [cAllHeld_z h.b ht] at this
  have := h.tot
  omega
theorem votes_w {u : Nat → Int32} {T : Nat} (h : mI u T) : (∀ d, d < 8 → 0 ≤ (cVotes (fm u) d T).toInt) ∧ sumZ (fun d => (cVotes (fm u) d T).toInt) 8 ≤ 1000000000000000000 := by
  refine ⟨fun d hd => by rw [cVotes_z h.b hd]; exact zV_nn h.b hd, ?_⟩
  rw [sumZ_ext (k := fun d => zV (fm u) d T) (fun d hd => cVotes_z h.b hd)]
  exact zAV_lt h.b

theorem bcN_le8 (b : Nat) : bcN b ≤ 8 := by
  have e (h : Nat) : (if b.testBit h then 1 else 0 : Nat) ≤ 1 := by split <;> omega
  unfold bcN
  have := e 0
  have := e 1
  have := e 2
  have := e 3
  have := e 4
  have := e 5
  have := e 6
  have := e 7
  omega

set_option maxRecDepth 100000 in
set_option maxHeartbeats 4000000 in
theorem c_X8_block (l : Launch) (E : rhE) (B : Nat → Nat) (u : Nat → Int32) (kp : Nat → Int32) (ik : Int32) (ps : Nat → Int32) (pm : Nat) (dd : Int32) (tx : Nat → Int32) (ty : Nat) (rw : Nat → Int64) (rm : Nat) (th : Int32) (sz : Nat) (he : Nat) (wr : Int32) (mn : Nat → Int32) (vl : Int32) (tp : Int32) (lt : Int32) (ra : Int32) (pf : Int32) (pt : Int32) (pl : Int32) (pd : Int64) (prc : Int64) (ns : Int64) (tu : Nat) (ba : Int64) (na : Int64) (ca : Nat → Int64) (bo : Nat → Int32) (tr : Nat → Int64) (tH : Int32) (asd : Nat → Int32) (pa : Nat → Int64) (tg : Nat → Int64) (sd : Int64) (sr : Int64) (t : Int32) (C : CT) (hCu : C.1 = fm u) (T : Nat) (hI : mI u T)  : Ctr l E yX8_block cX8_block 9 (some .int) (rmL 4) [.ref (B 0), .int t] (wM E B u kp ik ps pm dd tx ty rw rm th sz he wr mn vl tp lt ra pf pt pl pd prc ns tu ba na ca bo tr tH asd pa tg sd sr) (fun r w => ∃ rw1 rm1, r = some (Value.int (x_block C T t).1) ∧ mTold rw rm rw1 rm1 (x_block C T t).2 ∧ w = (wM E B u kp ik ps pm dd tx ty rw1 rm1 0 sz he wr mn vl tp lt ra pf pt pl pd prc ns tu ba na ca bo tr tH asd pa tg sd sr)) := by
  refine Ctr.of (by decide) (Nat.le_of_ble_eq_true rfl) rfl rfl 7 ?_
  intro X hX hR
  have hM := hI.ok
  obtain ⟨hT, hT1, hT6, hcv⟩ := id hM
  refine rh_aload_n hX dX8_block_0 rfl ?_
  refine rh_iconst hX dX8_block_1 ki_0 ?_
  refine rh_put hX gl_X8_48 0 dX8_block_2 rfl rfl rfl (Nat.le_of_ble_eq_true rfl) rfl ?_
  dsimp only [List.cons_append, List.nil_append, List.set_cons_succ, List.set_cons_zero, vput]
  refine rh_aload_n hX dX8_block_5 rfl ?_
  refine rh_iload_n hX dX8_block_6 rfl ?_
  refine rh_pV hX lk_X8_64 mvX8_isType (fun l => c_X8_isType l E _ _ _ _ _ _ _ _ _ _ _ _ _ _ _ _ _ _ _ _ _ _ _ _ _ _ _ _ _ _ _ _ _ _ _ _ _ _ _ T hM) ⟨rfl, rfl⟩ ⟨Nat.le_of_ble_eq_true rfl, Nat.le_of_ble_eq_true rfl⟩ [0, 1, 2, 3, 4, 5, 6, 7, 8, 9, 10, 11, 12] rfl rfl 0 rfl dX8_block_7 rfl rfl (Nat.le_of_ble_eq_true rfl) ?_
  refine rh_if_ne (tgt := 15) hX dX8_block_10 (by decide) (fun h10 => ?_) (fun h10 => ?_)
  · skip
    obtain ⟨td, rfl, htd⟩ := xTy_1 hT6 h10
    refine rh_aload_n hX dX8_block_15 rfl ?_
    refine rh_iload_n hX dX8_block_16 rfl ?_
    refine rh_pV hX lk_X8_154 mvX8_allShares (fun l => c_X8_allShares l E _ _ _ _ _ _ _ _ _ _ _ _ _ _ _ _ _ _ _ _ _ _ _ _ _ _ _ _ _ _ _ _ _ _ _ _ _ _ td (by omega)) ⟨rfl, rfl⟩ ⟨Nat.le_of_ble_eq_true rfl, Nat.le_of_ble_eq_true rfl⟩ [0, 1, 2, 3, 4, 5, 6, 7, 8, 9, 10, 11, 12] rfl rfl 0 rfl dX8_block_17 rfl rfl (Nat.le_of_ble_eq_true rfl) ?_
    refine rh_lstn2 hX dX8_block_20 (by decide) rfl ?_
    refine rh_lload_n hX dX8_block_21 rfl ?_
    refine rh_lconst hX dX8_block_22 kL_0 ?_
    refine rh_lne (tgt := 30) hX dX8_block_23 dX8_block_24 (by decide) (fun h24 => ?_) (fun h24 => ?_)
    · skip
      obtain ⟨W9, hW9⟩ : ∃ W9 : Nat → Int64, W9 = (fun h => cHeld (fm u) h td) := ⟨_, rfl⟩
      have hAH : (cAllHeld (fm u) td) = sumF 0 W9 8 := by rw [hW9]; rfl
      obtain ⟨hw, hwb⟩ := held_w hI htd
      have hWd : ∀ d, W9 d = cHeld (fm u) d td := fun d => by rw [hW9]
      have hw9 : ∀ d, d < 8 → 0 ≤ (W9 d).toInt := fun d hd => by rw [hWd]; exact hw d hd
      have hwb9 : sumZ (fun d => (W9 d).toInt) 8 ≤ 1000000000000000000 := by rw [sumZ_ext (k := fun d => (cHeld (fm u) d td).toInt) (fun d _ => by rw [hWd])]; exact hwb
      obtain ⟨K, hK1, hK8, hx, hKl, hKg⟩ := few_K hw9 hwb9 (by rw [← hAH]; exact h24)
      rw [← hAH] at hKl hKg
      refine rh_iconst hX dX8_block_30 ki_0 ?_
      refine rh_ist4 hX dX8_block_31 (by decide) rfl ?_
      refine rh_lconst hX dX8_block_33 kL_0 ?_
      refine rh_lst5 hX dX8_block_34 (by decide) rfl ?_
      suffices hP0 : G X 36 [some (.ref (B 0)), some (.int (nI td)), some (.long (cAllHeld (fm u) td)), none, some (.int (nI (gS W9 0))), some (.long 0), none, none, none] [] (wM E B u kp ik ps pm dd tx ty rw rm 0 sz he wr mn vl tp lt ra pf pt pl pd prc ns tu ba na ca bo tr tH asd pa tg sd sr) by rw [gS_0] at hP0; exact hP0
      refine (rh_loop (P := fun k => ∀ hv : Int64, hv.toInt = vZ W9 (gS W9 k) → G X 36 [some (.ref (B 0)), some (.int (nI td)), some (.long (cAllHeld (fm u) td)), none, some (.int (nI (gS W9 k))), some (.long hv), none, none, none] [] (wM E B u kp ik ps pm dd tx ty rw rm 0 sz he wr mn vl tp lt ra pf pt pl pd prc ns tu ba na ca bo tr tH asd pa tg sd sr)) (0) (K) (by omega) ?_ ?_) 0 (by rw [gS_sum W9 (by omega)]; rfl)
      · intro hv hH
        have hvb := vZ_b hw9 (gS W9 K)
        have h2 : (2 * hv).toInt = 2 * vZ W9 (gS W9 K) := z_mul (show (2 : Int64).toInt = 2 by decide) hH (by omega) (by omega)
        refine rh_ldc2 hX dX8_block_36 kl_X8_152 ?_
        refine rh_lload hX dX8_block_39 rfl ?_
        refine rh_lmul hX dX8_block_41 ?_
        refine rh_lload_n hX dX8_block_42 rfl ?_
        refine rh_lgt_t (tgt := 128) hX dX8_block_43 dX8_block_44 (by decide) (by rw [z_lt, h2]; exact hKg) ?_
        refine rh_aload_n hX dX8_block_128 rfl ?_
        refine rh_iconst hX dX8_block_129 ki_0 ?_
        refine rh_put hX gl_X8_52 0 dX8_block_130 rfl rfl rfl (Nat.le_of_ble_eq_true rfl) rfl ?_
        dsimp only [List.cons_append, List.nil_append, List.set_cons_succ, List.set_cons_zero, vput]
        refine rh_aload_n hX dX8_block_133 rfl ?_
        refine rh_iload hX dX8_block_134 rfl ?_
        refine rh_i2l hX dX8_block_136 ?_
        refine rh_uV hX lk_X8_299 mvX8_tell (fun l => c_X8_tell l E _ _ _ _ _ _ _ _ _ _ 0 _ _ _ _ _ _ _ _ _ _ _ _ _ _ _ _ _ _ _ _ _ _ _ _ _ _ _ _ (by omega)) ⟨rfl, rfl⟩ ⟨Nat.le_of_ble_eq_true rfl, Nat.le_of_ble_eq_true rfl⟩ [0, 1, 2, 3, 4, 5, 6, 7, 8, 9, 10, 11, 12] rfl rfl 0 rfl dX8_block_137 rfl rfl (Nat.le_of_ble_eq_true rfl) rfl ?_
        dsimp only [List.cons_append, List.nil_append, List.set_cons_succ, List.set_cons_zero, vput]
        refine rh_iload hX dX8_block_140 rfl ?_
        refine rh_pS hX lk_X8_327 msX8_ones (fun l => c_X8_ones l E (gS W9 K) (gS_lt W9 K hK8)) ⟨rfl, rfl⟩ ⟨Nat.le_of_ble_eq_true rfl, Nat.le_of_ble_eq_true rfl⟩ [] rfl rfl dX8_block_142 rfl rfl (Nat.le_of_ble_eq_true rfl) ?_
        rw [ones_gS W9 hK8]
        exact rh_iret hX hR dX8_block_145 (by simp only [List.map_cons, List.map_nil, List.cons_append, List.nil_append]) (by refine ⟨(va_up rw 0 _), (0 + 1), ?ga, ?gb, rfl⟩; (case ga => rw [x_block, if_neg h10, nI_clamp (show td < 2 ^ 31 by omega), hCu, ← hW9, hx]); (case gb => rw [x_block, if_neg h10, nI_clamp (show td < 2 ^ 31 by omega), hCu, ← hW9, hx]; exact ⟨rowOk1 _ _, rfl⟩))
      · intro k hk0 hk ihk hv hH
        have hvb := vZ_b hw9 (gS W9 k)
        have hk8 : k < 8 := by omega
        have h2 : (2 * hv).toInt = 2 * vZ W9 (gS W9 k) := z_mul (show (2 : Int64).toInt = 2 by decide) hH (by omega) (by omega)
        refine rh_ldc2 hX dX8_block_36 kl_X8_152 ?_
        refine rh_lload hX dX8_block_39 rfl ?_
        refine rh_lmul hX dX8_block_41 ?_
        refine rh_lload_n hX dX8_block_42 rfl ?_
        refine rh_lgt_f (tgt := 128) hX dX8_block_43 dX8_block_44 (by decide) (by rw [z_lt, h2]; have := hKl k hk; omega) ?_
        refine rh_iconst hX dX8_block_47 ki_m1 ?_
        refine rh_ist7 hX dX8_block_48 (by decide) rfl ?_
        refine rh_iconst hX dX8_block_50 ki_0 ?_
        refine rh_ist8 hX dX8_block_51 (by decide) rfl ?_
        refine (rh_loop (P := fun j => ∀ bv, (topB W9 (gS W9 k) j bv) → G X 53 [some (.ref (B 0)), some (.int (nI td)), some (.long (cAllHeld (fm u) td)), none, some (.int (nI (gS W9 k))), some (.long hv), none, some (.int bv), some (.int (nI j))] [] (wM E B u kp ik ps pm dd tx ty rw rm 0 sz he wr mn vl tp lt ra pf pt pl pd prc ns tu ba na ca bo tr tH asd pa tg sd sr)) (0) (8) (by omega) ?_ ?_) (-1) (topB_0 _ _)
        · intro bv hT2
          obtain rfl := topB_end hk8 hT2
          have hr := (rkN_r (u := W9) hk8).1
          refine rh_iload hX dX8_block_53 rfl ?_
          refine rh_bipush hX dX8_block_55 kb_8 ?_
          refine rh_icmp_ge_t (tgt := 103) hX dX8_block_57 (by decide) (nI_le (a := 8) (b := 8) (Nat.le_refl 8) (by decide)) ?_
          refine rh_iload hX dX8_block_103 rfl ?_
          refine rh_iconst hX dX8_block_105 ki_1 ?_
          refine rh_iload hX dX8_block_106 rfl ?_
          refine rh_ishl hX dX8_block_108 ?_
          refine rh_ior hX dX8_block_109 ?_
          rw [gS_next W9 hk8]
          refine rh_ist4 hX dX8_block_110 (by decide) rfl ?_
          refine rh_lload hX dX8_block_112 rfl ?_
          refine rh_aload_n hX dX8_block_114 rfl ?_
          refine rh_iload hX dX8_block_115 rfl ?_
          refine rh_iload_n hX dX8_block_117 rfl ?_
          refine rh_pV hX lk_X8_80 mvX8_sharesOf (fun l => c_X8_sharesOf l E _ _ _ _ _ _ _ _ _ _ _ _ _ _ _ _ _ _ _ _ _ _ _ _ _ _ _ _ _ _ _ _ _ _ _ _ _ _ (rkN W9 8 k) td (by omega) (by omega)) ⟨rfl, rfl⟩ ⟨Nat.le_of_ble_eq_true rfl, Nat.le_of_ble_eq_true rfl⟩ [0, 1, 2, 3, 4, 5, 6, 7, 8, 9, 10, 11, 12] rfl rfl 0 rfl dX8_block_118 rfl rfl (Nat.le_of_ble_eq_true rfl) ?_
          refine rh_i2l hX dX8_block_121 ?_
          rw [show (u (6 * (rkN W9 8 k) + td)).toInt64 = cHeld (fm u) (rkN W9 8 k) td from fm_held u (h := (rkN W9 8 k)) (t := td) (by omega) (by omega)]
          refine rh_ladd hX dX8_block_122 ?_
          refine rh_lst5 hX dX8_block_123 (by decide) rfl ?_
          refine rh_goto (tgt := 36) hX dX8_block_125 (by decide) ?_
          exact rh_wk (by exact ⟨rfl, rfl, rfl, rfl, rfl, trivial⟩) (ihk _ (by rw [vZ_next W9 hk8]; have hvn := vZ_b hw9 (gS W9 (k + 1)); rw [vZ_next W9 hk8] at hvn; rw [hWd] at hvn ⊢; exact z_add hH rfl (by omega) (by omega)))
        · intro j hj0 hj ihj bv hT2
          refine rh_iload hX dX8_block_53 rfl ?_
          refine rh_bipush hX dX8_block_55 kb_8 ?_
          refine rh_icmp_ge_f (tgt := 103) hX dX8_block_57 (by decide) (nI_ge (b := 8) hj (by decide)) ?_
          refine rh_iload hX dX8_block_60 rfl ?_
          refine rh_iload hX dX8_block_62 rfl ?_
          refine rh_ishr hX dX8_block_64 ?_
          refine rh_iconst hX dX8_block_65 ki_1 ?_
          refine rh_iand hX dX8_block_66 ?_
          refine rh_if_ne (tgt := 97) hX dX8_block_67 (by decide) (fun h67 => ?_) (fun h67 => ?_)
          · skip
            have h67 : ¬ sBit (nI (gS W9 k)) j = 0 := h67
            refine rh_inc8 hX dX8_block_97 (by decide) rfl (rn_i1 _) ?_
            refine rh_goto (tgt := 53) hX dX8_block_100 (by decide) ?_
            first | exact ihj _ (topB_skip hT2 ((sBit_01 _ _).resolve_left h67)) | exact ihj _ (topB_first hT2 h67 h73 hj) | exact ihj _ (topB_stay hb1 hb2 hb3 (fun q => by rw [hWd, hWd, ← (show (u (6 * b + td)).toInt64 = cHeld (fm u) b td from fm_held u (h := b) (t := td) (by omega) (by omega)), ← (show (u (6 * j + td)).toInt64 = cHeld (fm u) j td from fm_held u (h := j) (t := td) (by omega) (by omega)), i64_lt] at q; rw [z_lt32] at q; rw [z_le32] at h90; omega)) | exact ihj _ (topB_take hb3 h67 (by rw [hWd, hWd, ← (show (u (6 * b + td)).toInt64 = cHeld (fm u) b td from fm_held u (h := b) (t := td) (by omega) (by omega)), ← (show (u (6 * j + td)).toInt64 = cHeld (fm u) j td from fm_held u (h := j) (t := td) (by omega) (by omega)), i64_lt]; rw [z_lt32]; rw [z_le32] at h90; omega))
          · skip
            have h67 : ¬ sBit (nI (gS W9 k)) j = 1 := fun q => absurd ((show sBit (nI (gS W9 k)) j = 0 from h67).symm.trans q) (by decide)
            refine rh_iload hX dX8_block_70 rfl ?_
            refine rh_iconst hX dX8_block_72 ki_m1 ?_
            refine rh_icmp_eq (tgt := 93) hX dX8_block_73 (by decide) (fun h73 => ?_) (fun h73 => ?_)
            · skip
              refine rh_iload hX dX8_block_93 rfl ?_
              refine rh_ist7 hX dX8_block_95 (by decide) rfl ?_
              refine rh_inc8 hX dX8_block_97 (by decide) rfl (rn_i1 _) ?_
              refine rh_goto (tgt := 53) hX dX8_block_100 (by decide) ?_
              first | exact ihj _ (topB_skip hT2 ((sBit_01 _ _).resolve_left h67)) | exact ihj _ (topB_first hT2 h67 h73 hj) | exact ihj _ (topB_stay hb1 hb2 hb3 (fun q => by rw [hWd, hWd, ← (show (u (6 * b + td)).toInt64 = cHeld (fm u) b td from fm_held u (h := b) (t := td) (by omega) (by omega)), ← (show (u (6 * j + td)).toInt64 = cHeld (fm u) j td from fm_held u (h := j) (t := td) (by omega) (by omega)), i64_lt] at q; rw [z_lt32] at q; rw [z_le32] at h90; omega)) | exact ihj _ (topB_take hb3 h67 (by rw [hWd, hWd, ← (show (u (6 * b + td)).toInt64 = cHeld (fm u) b td from fm_held u (h := b) (t := td) (by omega) (by omega)), ← (show (u (6 * j + td)).toInt64 = cHeld (fm u) j td from fm_held u (h := j) (t := td) (by omega) (by omega)), i64_lt]; rw [z_lt32]; rw [z_le32] at h90; omega))
            · skip
              obtain ⟨b, rfl, hb1, hb2, hb3⟩ := topB_b hT2 h73
              refine rh_aload_n hX dX8_block_76 rfl ?_
              refine rh_iload hX dX8_block_77 rfl ?_
              refine rh_iload_n hX dX8_block_79 rfl ?_
              refine rh_pV hX lk_X8_80 mvX8_sharesOf (fun l => c_X8_sharesOf l E _ _ _ _ _ _ _ _ _ _ _ _ _ _ _ _ _ _ _ _ _ _ _ _ _ _ _ _ _ _ _ _ _ _ _ _ _ _ j td (by omega) (by omega)) ⟨rfl, rfl⟩ ⟨Nat.le_of_ble_eq_true rfl, Nat.le_of_ble_eq_true rfl⟩ [0, 1, 2, 3, 4, 5, 6, 7, 8, 9, 10, 11, 12] rfl rfl 0 rfl dX8_block_80 rfl rfl (Nat.le_of_ble_eq_true rfl) ?_
              refine rh_aload_n hX dX8_block_83 rfl ?_
              refine rh_iload hX dX8_block_84 rfl ?_
              refine rh_iload_n hX dX8_block_86 rfl ?_
              refine rh_pV hX lk_X8_80 mvX8_sharesOf (fun l => c_X8_sharesOf l E _ _ _ _ _ _ _ _ _ _ _ _ _ _ _ _ _ _ _ _ _ _ _ _ _ _ _ _ _ _ _ _ _ _ _ _ _ _ b td (by omega) (by omega)) ⟨rfl, rfl⟩ ⟨Nat.le_of_ble_eq_true rfl, Nat.le_of_ble_eq_true rfl⟩ [0, 1, 2, 3, 4, 5, 6, 7, 8, 9, 10, 11, 12] rfl rfl 0 rfl dX8_block_87 rfl rfl (Nat.le_of_ble_eq_true rfl) ?_
              refine rh_icmp_le (tgt := 97) hX dX8_block_90 (by decide) (fun h90 => ?_) (fun h90 => ?_)
              · skip
                refine rh_inc8 hX dX8_block_97 (by decide) rfl (rn_i1 _) ?_
                refine rh_goto (tgt := 53) hX dX8_block_100 (by decide) ?_
                first | exact ihj _ (topB_skip hT2 ((sBit_01 _ _).resolve_left h67)) | exact ihj _ (topB_first hT2 h67 h73 hj) | exact ihj _ (topB_stay hb1 hb2 hb3 (fun q => by rw [hWd, hWd, ← (show (u (6 * b + td)).toInt64 = cHeld (fm u) b td from fm_held u (h := b) (t := td) (by omega) (by omega)), ← (show (u (6 * j + td)).toInt64 = cHeld (fm u) j td from fm_held u (h := j) (t := td) (by omega) (by omega)), i64_lt] at q; rw [z_lt32] at q; rw [z_le32] at h90; omega)) | exact ihj _ (topB_take hb3 h67 (by rw [hWd, hWd, ← (show (u (6 * b + td)).toInt64 = cHeld (fm u) b td from fm_held u (h := b) (t := td) (by omega) (by omega)), ← (show (u (6 * j + td)).toInt64 = cHeld (fm u) j td from fm_held u (h := j) (t := td) (by omega) (by omega)), i64_lt]; rw [z_lt32]; rw [z_le32] at h90; omega))
              · skip
                refine rh_iload hX dX8_block_93 rfl ?_
                refine rh_ist7 hX dX8_block_95 (by decide) rfl ?_
                refine rh_inc8 hX dX8_block_97 (by decide) rfl (rn_i1 _) ?_
                refine rh_goto (tgt := 53) hX dX8_block_100 (by decide) ?_
                first | exact ihj _ (topB_skip hT2 ((sBit_01 _ _).resolve_left h67)) | exact ihj _ (topB_first hT2 h67 h73 hj) | exact ihj _ (topB_stay hb1 hb2 hb3 (fun q => by rw [hWd, hWd, ← (show (u (6 * b + td)).toInt64 = cHeld (fm u) b td from fm_held u (h := b) (t := td) (by omega) (by omega)), ← (show (u (6 * j + td)).toInt64 = cHeld (fm u) j td from fm_held u (h := j) (t := td) (by omega) (by omega)), i64_lt] at q; rw [z_lt32] at q; rw [z_le32] at h90; omega)) | exact ihj _ (topB_take hb3 h67 (by rw [hWd, hWd, ← (show (u (6 * b + td)).toInt64 = cHeld (fm u) b td from fm_held u (h := b) (t := td) (by omega) (by omega)), ← (show (u (6 * j + td)).toInt64 = cHeld (fm u) j td from fm_held u (h := j) (t := td) (by omega) (by omega)), i64_lt]; rw [z_lt32]; rw [z_le32] at h90; omega))
    · skip
      refine rh_bipush hX dX8_block_27 kb_m2 ?_
      exact rh_iret hX hR dX8_block_29 (by simp only [List.map_cons, List.map_nil, List.cons_append, List.nil_append]) (by first | exact ⟨rw, rm, by rw [x_block, if_neg h10, nI_clamp (show td < 2 ^ 31 by omega), hCu, x_few, if_pos (show sumF 0 (fun h => cHeld (fm u) h td) 8 = 0 from h24)] <;> rfl, by rw [x_block, if_neg h10, nI_clamp (show td < 2 ^ 31 by omega), hCu, x_few, if_pos (show sumF 0 (fun h => cHeld (fm u) h td) 8 = 0 from h24)]; exact ⟨rfl, rfl⟩, rfl⟩)
  · skip
    refine rh_iconst hX dX8_block_13 ki_m1 ?_
    exact rh_iret hX hR dX8_block_14 (by simp only [List.map_cons, List.map_nil, List.cons_append, List.nil_append]) (by first | exact ⟨rw, rm, by rw [x_block, if_pos h10] <;> rfl, by rw [x_block, if_pos h10]; exact ⟨rfl, rfl⟩, rfl⟩)

set_option maxRecDepth 100000 in
set_option maxHeartbeats 4000000 in
theorem c_X8_control (l : Launch) (E : rhE) (B : Nat → Nat) (u : Nat → Int32) (kp : Nat → Int32) (ik : Int32) (ps : Nat → Int32) (pm : Nat) (dd : Int32) (tx : Nat → Int32) (ty : Nat) (rw : Nat → Int64) (rm : Nat) (th : Int32) (sz : Nat) (he : Nat) (wr : Int32) (mn : Nat → Int32) (vl : Int32) (tp : Int32) (lt : Int32) (ra : Int32) (pf : Int32) (pt : Int32) (pl : Int32) (pd : Int64) (prc : Int64) (ns : Int64) (tu : Nat) (ba : Int64) (na : Int64) (ca : Nat → Int64) (bo : Nat → Int32) (tr : Nat → Int64) (tH : Int32) (asd : Nat → Int32) (pa : Nat → Int64) (tg : Nat → Int64) (sd : Int64) (sr : Int64)  (C : CT) (hCu : C.1 = fm u) (T : Nat) (hI : mI u T)  : Ctr l E yX8_control cX8_control 7 (some .int) (rmL 5) [.ref (B 0)] (wM E B u kp ik ps pm dd tx ty rw rm th sz he wr mn vl tp lt ra pf pt pl pd prc ns tu ba na ca bo tr tH asd pa tg sd sr) (fun r w => ∃ rw1 rm1, r = some (Value.int (x_control C T).1) ∧ mTold rw rm rw1 rm1 (x_control C T).2 ∧ w = (wM E B u kp ik ps pm dd tx ty rw1 rm1 0 sz he wr mn vl tp lt ra pf pt pl pd prc ns tu ba na ca bo tr tH asd pa tg sd sr)) := by
  refine Ctr.of (by decide) (Nat.le_of_ble_eq_true rfl) rfl rfl 6 ?_
  intro X hX hR
  have hM := hI.ok
  obtain ⟨hT, hT1, hT6, hcv⟩ := id hM
  refine rh_aload_n hX dX8_control_0 rfl ?_
  refine rh_iconst hX dX8_control_1 ki_0 ?_
  refine rh_put hX gl_X8_48 0 dX8_control_2 rfl rfl rfl (Nat.le_of_ble_eq_true rfl) rfl ?_
  dsimp only [List.cons_append, List.nil_append, List.set_cons_succ, List.set_cons_zero, vput]
  refine rh_aload_n hX dX8_control_5 rfl ?_
  refine rh_pV hX lk_X8_92 mvX8_allByShares (fun l => c_X8_allByShares l E _ _ _ _ _ _ _ _ _ _ _ _ _ _ _ _ _ _ _ _ _ _ _ _ _ _ _ _ _ _ _ _ _ _ _ _ _ _ T hM) ⟨rfl, rfl⟩ ⟨Nat.le_of_ble_eq_true rfl, Nat.le_of_ble_eq_true rfl⟩ [0, 1, 2, 3, 4, 5, 6, 7, 8, 9, 10, 11, 12] rfl rfl 0 rfl dX8_control_6 rfl rfl (Nat.le_of_ble_eq_true rfl) ?_
  refine rh_lstn1 hX dX8_control_9 (by decide) rfl ?_
  refine rh_lload_n hX dX8_control_10 rfl ?_
  refine rh_lconst hX dX8_control_11 kL_0 ?_
  refine rh_lne (tgt := 19) hX dX8_control_12 dX8_control_13 (by decide) (fun h13 => ?_) (fun h13 => ?_)
  · skip
    obtain ⟨hw, hwb⟩ := votes_w hI
    obtain ⟨K, hK1, hK8, hx, hKl, hKg⟩ := few_K hw hwb (show ¬ sumF 0 (fun h => cVotes (fm u) h T) 8 = 0 from h13)
    have hKl : ∀ j, j < K → 2 * vZ (fun h => cVotes (fm u) h T) (gS (fun h => cVotes (fm u) h T) j) ≤ (cAllVotes (fm u) T).toInt := hKl
    have hKg : (cAllVotes (fm u) T).toInt < 2 * vZ (fun h => cVotes (fm u) h T) (gS (fun h => cVotes (fm u) h T) K) := hKg
    have hA0 : 0 ≤ (cAllVotes (fm u) T).toInt := by rw [cAllVotes_z hI.b]; exact zAV_nn hI.b
    refine rh_iconst hX dX8_control_19 ki_0 ?_
    refine rh_istn3 hX dX8_control_20 (by decide) rfl ?_
    refine rh_iconst hX dX8_control_21 ki_1 ?_
    refine rh_ist4 hX dX8_control_22 (by decide) rfl ?_
    refine (rh_loop (P := fun i => ∀ b : Nat, (optB (fun h => cVotes (fm u) h T) (cAllVotes (fm u) T).toInt i b) → G X 24 [some (.ref (B 0)), some (.long (cAllVotes (fm u) T)), none, some (.int (nI b)), some (.int (nI i)), none, none] [] (wM E B u kp ik ps pm dd tx ty rw rm 0 sz he wr mn vl tp lt ra pf pt pl pd prc ns tu ba na ca bo tr tH asd pa tg sd sr)) (1) (256) (by omega) ?_ ?_) 0 (Or.inl ⟨rfl, fun s a b => absurd b (by omega)⟩)
    · intro b hH
      obtain rfl := optB_end hw hK1 hK8 hKl hKg hA0 hH
      refine rh_iload hX dX8_control_24 rfl ?_
      refine rh_sipush hX dX8_control_26 ks_256 ?_
      refine rh_icmp_ge_t (tgt := 102) hX dX8_control_29 (by decide) (nI_le (a := 256) (b := 256) (Nat.le_refl 256) (by decide)) ?_
      refine rh_aload_n hX dX8_control_102 rfl ?_
      refine rh_iconst hX dX8_control_103 ki_0 ?_
      refine rh_put hX gl_X8_52 0 dX8_control_104 rfl rfl rfl (Nat.le_of_ble_eq_true rfl) rfl ?_
      dsimp only [List.cons_append, List.nil_append, List.set_cons_succ, List.set_cons_zero, vput]
      refine rh_aload_n hX dX8_control_107 rfl ?_
      refine rh_iload_n hX dX8_control_108 rfl ?_
      refine rh_i2l hX dX8_control_109 ?_
      refine rh_uV hX lk_X8_299 mvX8_tell (fun l => c_X8_tell l E _ _ _ _ _ _ _ _ _ _ 0 _ _ _ _ _ _ _ _ _ _ _ _ _ _ _ _ _ _ _ _ _ _ _ _ _ _ _ _ (by omega)) ⟨rfl, rfl⟩ ⟨Nat.le_of_ble_eq_true rfl, Nat.le_of_ble_eq_true rfl⟩ [0, 1, 2, 3, 4, 5, 6, 7, 8, 9, 10, 11, 12] rfl rfl 0 rfl dX8_control_110 rfl rfl (Nat.le_of_ble_eq_true rfl) rfl ?_
      dsimp only [List.cons_append, List.nil_append, List.set_cons_succ, List.set_cons_zero, vput]
      refine rh_iload_n hX dX8_control_113 rfl ?_
      refine rh_pS hX lk_X8_327 msX8_ones (fun l => c_X8_ones l E (gS (fun h => cVotes (fm u) h T) K) (gS_lt (fun h => cVotes (fm u) h T) K hK8)) ⟨rfl, rfl⟩ ⟨Nat.le_of_ble_eq_true rfl, Nat.le_of_ble_eq_true rfl⟩ [] rfl rfl dX8_control_114 rfl rfl (Nat.le_of_ble_eq_true rfl) ?_
      rw [ones_gS (fun h => cVotes (fm u) h T) hK8]
      exact rh_iret hX hR dX8_control_117 (by simp only [List.map_cons, List.map_nil, List.cons_append, List.nil_append]) (by refine ⟨(va_up rw 0 _), (0 + 1), ?ga, ?gb, rfl⟩; (case ga => rw [x_control, hCu, hx]); (case gb => rw [x_control, hCu, hx]; exact ⟨rowOk1 _ _, rfl⟩))
    · intro i hi0 hi ih b hH
      have hbl := optB_lt hH hi0
      have hzi : (setV (fm u) T (nI i) 8).toInt = vZ (fun h => cVotes (fm u) h T) i := setV_z hw hwb (hi) 8 (Nat.le_refl 8)
      have hzb : (setV (fm u) T (nI b) 8).toInt = vZ (fun h => cVotes (fm u) h T) b := setV_z hw hwb (by omega) 8 (Nat.le_refl 8)
      have hvi := vZ_b hw i
      have hvb := vZ_b hw b
      have h2 : (2 * setV (fm u) T (nI i) 8).toInt = 2 * vZ (fun h => cVotes (fm u) h T) i := z_mul (show (2 : Int64).toInt = 2 by decide) hzi (by omega) (by omega)
      refine rh_iload hX dX8_control_24 rfl ?_
      refine rh_sipush hX dX8_control_26 ks_256 ?_
      refine rh_icmp_ge_f (tgt := 102) hX dX8_control_29 (by decide) (nI_ge (b := 256) hi (by decide)) ?_
      refine rh_aload_n hX dX8_control_32 rfl ?_
      refine rh_iload hX dX8_control_33 rfl ?_
      refine rh_pV hX lk_X8_324 mvX8_sharesOfSet (fun l => c_X8_sharesOfSet l E _ _ _ _ _ _ _ _ _ _ _ _ _ _ _ _ _ _ _ _ _ _ _ _ _ _ _ _ _ _ _ _ _ _ _ _ _ _ _ T hM) ⟨rfl, rfl⟩ ⟨Nat.le_of_ble_eq_true rfl, Nat.le_of_ble_eq_true rfl⟩ [0, 1, 2, 3, 4, 5, 6, 7, 8, 9, 10, 11, 12] rfl rfl 0 rfl dX8_control_35 rfl rfl (Nat.le_of_ble_eq_true rfl) ?_
      refine rh_lst5 hX dX8_control_38 (by decide) rfl ?_
      refine rh_ldc2 hX dX8_control_40 kl_X8_152 ?_
      refine rh_lload hX dX8_control_43 rfl ?_
      refine rh_lmul hX dX8_control_45 ?_
      refine rh_lload_n hX dX8_control_46 rfl ?_
      refine rh_lgt (tgt := 54) hX dX8_control_47 dX8_control_48 (by decide) (fun h48 => ?_) (fun h48 => ?_)
      · skip
        have h48 : (cAllVotes (fm u) T).toInt < 2 * vZ (fun h => cVotes (fm u) h T) i := by rw [z_lt, h2] at h48; exact h48
        refine rh_iload_n hX dX8_control_54 rfl ?_
        refine rh_if_eq (tgt := 93) hX dX8_control_55 (by decide) (fun h55 => ?_) (fun h55 => ?_)
        · skip
          have h55 : b = 0 := nI_z h55 (by omega)
          refine rh_iload hX dX8_control_93 rfl ?_
          refine rh_istn3 hX dX8_control_95 (by decide) rfl ?_
          refine rh_inc4 hX dX8_control_96 (by decide) rfl (rn_i1 _) ?_
          refine rh_goto (tgt := 24) hX dX8_control_99 (by decide) ?_
          first | exact rh_wk (by exact ⟨rfl, rfl, rfl, rfl, trivial⟩) (ih _ (optB_no hH h48)) | exact rh_wk (by exact ⟨rfl, rfl, rfl, rfl, trivial⟩) (ih _ (optB_first hH hi0 h48 h55)) | exact rh_wk (by exact ⟨rfl, rfl, rfl, rfl, trivial⟩) (ih _ (optB_take hH hi0 h48 h55 (Or.inl h67))) | exact rh_wk (by exact ⟨rfl, rfl, rfl, rfl, trivial⟩) (ih _ (optB_stay hH h55 ⟨h67, Or.inl h79⟩)) | exact rh_wk (by exact ⟨rfl, rfl, rfl, rfl, trivial⟩) (ih _ (optB_stay hH h55 ⟨h67, Or.inr (fun q => by rw [z_le, hzi, hzb] at h90; omega)⟩)) | exact rh_wk (by exact ⟨rfl, rfl, rfl, rfl, trivial⟩) (ih _ (optB_take hH hi0 h48 h55 (Or.inr ⟨h79, by rw [z_le, hzi, hzb] at h90; omega⟩)))
        · skip
          have h55 : ¬ b = 0 := fun q => h55 (by rw [q]; rfl)
          refine rh_iload hX dX8_control_58 rfl ?_
          refine rh_pS hX lk_X8_327 msX8_ones (fun l => c_X8_ones l E i (by omega)) ⟨rfl, rfl⟩ ⟨Nat.le_of_ble_eq_true rfl, Nat.le_of_ble_eq_true rfl⟩ [] rfl rfl dX8_control_60 rfl rfl (Nat.le_of_ble_eq_true rfl) ?_
          rw [onesN_bc 256 i (by omega) (by omega)]
          refine rh_iload_n hX dX8_control_63 rfl ?_
          refine rh_pS hX lk_X8_327 msX8_ones (fun l => c_X8_ones l E b (by omega)) ⟨rfl, rfl⟩ ⟨Nat.le_of_ble_eq_true rfl, Nat.le_of_ble_eq_true rfl⟩ [] rfl rfl dX8_control_64 rfl rfl (Nat.le_of_ble_eq_true rfl) ?_
          rw [onesN_bc 256 b (by omega) (by omega)]
          have hbi := bcN_le8 i
          have hbb := bcN_le8 b
          refine rh_icmp_lt (tgt := 93) hX dX8_control_67 (by decide) (fun h67 => ?_) (fun h67 => ?_)
          · skip
            have h67 : bcN i < bcN b := (nI_ltI (by omega) (by omega)).mp h67
            refine rh_iload hX dX8_control_93 rfl ?_
            refine rh_istn3 hX dX8_control_95 (by decide) rfl ?_
            refine rh_inc4 hX dX8_control_96 (by decide) rfl (rn_i1 _) ?_
            refine rh_goto (tgt := 24) hX dX8_control_99 (by decide) ?_
            first | exact rh_wk (by exact ⟨rfl, rfl, rfl, rfl, trivial⟩) (ih _ (optB_no hH h48)) | exact rh_wk (by exact ⟨rfl, rfl, rfl, rfl, trivial⟩) (ih _ (optB_first hH hi0 h48 h55)) | exact rh_wk (by exact ⟨rfl, rfl, rfl, rfl, trivial⟩) (ih _ (optB_take hH hi0 h48 h55 (Or.inl h67))) | exact rh_wk (by exact ⟨rfl, rfl, rfl, rfl, trivial⟩) (ih _ (optB_stay hH h55 ⟨h67, Or.inl h79⟩)) | exact rh_wk (by exact ⟨rfl, rfl, rfl, rfl, trivial⟩) (ih _ (optB_stay hH h55 ⟨h67, Or.inr (fun q => by rw [z_le, hzi, hzb] at h90; omega)⟩)) | exact rh_wk (by exact ⟨rfl, rfl, rfl, rfl, trivial⟩) (ih _ (optB_take hH hi0 h48 h55 (Or.inr ⟨h79, by rw [z_le, hzi, hzb] at h90; omega⟩)))
          · skip
            have h67 : ¬ bcN i < bcN b := fun q => h67 (nI_lt q (by omega))
            refine rh_iload hX dX8_control_70 rfl ?_
            refine rh_pS hX lk_X8_327 msX8_ones (fun l => c_X8_ones l E i (by omega)) ⟨rfl, rfl⟩ ⟨Nat.le_of_ble_eq_true rfl, Nat.le_of_ble_eq_true rfl⟩ [] rfl rfl dX8_control_72 rfl rfl (Nat.le_of_ble_eq_true rfl) ?_
            rw [onesN_bc 256 i (by omega) (by omega)]
            refine rh_iload_n hX dX8_control_75 rfl ?_
            refine rh_pS hX lk_X8_327 msX8_ones (fun l => c_X8_ones l E b (by omega)) ⟨rfl, rfl⟩ ⟨Nat.le_of_ble_eq_true rfl, Nat.le_of_ble_eq_true rfl⟩ [] rfl rfl dX8_control_76 rfl rfl (Nat.le_of_ble_eq_true rfl) ?_
            rw [onesN_bc 256 b (by omega) (by omega)]
            refine rh_icmp_ne (tgt := 96) hX dX8_control_79 (by decide) (fun h79 => ?_) (fun h79 => ?_)
            · skip
              have h79 : ¬ bcN i = bcN b := fun q => h79 (by rw [q])
              refine rh_inc4 hX dX8_control_96 (by decide) rfl (rn_i1 _) ?_
              refine rh_goto (tgt := 24) hX dX8_control_99 (by decide) ?_
              first | exact rh_wk (by exact ⟨rfl, rfl, rfl, rfl, trivial⟩) (ih _ (optB_no hH h48)) | exact rh_wk (by exact ⟨rfl, rfl, rfl, rfl, trivial⟩) (ih _ (optB_first hH hi0 h48 h55)) | exact rh_wk (by exact ⟨rfl, rfl, rfl, rfl, trivial⟩) (ih _ (optB_take hH hi0 h48 h55 (Or.inl h67))) | exact rh_wk (by exact ⟨rfl, rfl, rfl, rfl, trivial⟩) (ih _ (optB_stay hH h55 ⟨h67, Or.inl h79⟩)) | exact rh_wk (by exact ⟨rfl, rfl, rfl, rfl, trivial⟩) (ih _ (optB_stay hH h55 ⟨h67, Or.inr (fun q => by rw [z_le, hzi, hzb] at h90; omega)⟩)) | exact rh_wk (by exact ⟨rfl, rfl, rfl, rfl, trivial⟩) (ih _ (optB_take hH hi0 h48 h55 (Or.inr ⟨h79, by rw [z_le, hzi, hzb] at h90; omega⟩)))
            · skip
              have h79 : bcN i = bcN b := rn_inj h79 (by omega) (by omega)
              refine rh_lload hX dX8_control_82 rfl ?_
              refine rh_aload_n hX dX8_control_84 rfl ?_
              refine rh_iload_n hX dX8_control_85 rfl ?_
              refine rh_pV hX lk_X8_324 mvX8_sharesOfSet (fun l => c_X8_sharesOfSet l E _ _ _ _ _ _ _ _ _ _ _ _ _ _ _ _ _ _ _ _ _ _ _ _ _ _ _ _ _ _ _ _ _ _ _ _ _ _ _ T hM) ⟨rfl, rfl⟩ ⟨Nat.le_of_ble_eq_true rfl, Nat.le_of_ble_eq_true rfl⟩ [0, 1, 2, 3, 4, 5, 6, 7, 8, 9, 10, 11, 12] rfl rfl 0 rfl dX8_control_86 rfl rfl (Nat.le_of_ble_eq_true rfl) ?_
              refine rh_lle (tgt := 96) hX dX8_control_89 dX8_control_90 (by decide) (fun h90 => ?_) (fun h90 => ?_)
              · skip
                refine rh_inc4 hX dX8_control_96 (by decide) rfl (rn_i1 _) ?_
                refine rh_goto (tgt := 24) hX dX8_control_99 (by decide) ?_
                first | exact rh_wk (by exact ⟨rfl, rfl, rfl, rfl, trivial⟩) (ih _ (optB_no hH h48)) | exact rh_wk (by exact ⟨rfl, rfl, rfl, rfl, trivial⟩) (ih _ (optB_first hH hi0 h48 h55)) | exact rh_wk (by exact ⟨rfl, rfl, rfl, rfl, trivial⟩) (ih _ (optB_take hH hi0 h48 h55 (Or.inl h67))) | exact rh_wk (by exact ⟨rfl, rfl, rfl, rfl, trivial⟩) (ih _ (optB_stay hH h55 ⟨h67, Or.inl h79⟩)) | exact rh_wk (by exact ⟨rfl, rfl, rfl, rfl, trivial⟩) (ih _ (optB_stay hH h55 ⟨h67, Or.inr (fun q => by rw [z_le, hzi, hzb] at h90; omega)⟩)) | exact rh_wk (by exact ⟨rfl, rfl, rfl, rfl, trivial⟩) (ih _ (optB_take hH hi0 h48 h55 (Or.inr ⟨h79, by rw [z_le, hzi, hzb] at h90; omega⟩)))
              · skip
                refine rh_iload hX dX8_control_93 rfl ?_
                refine rh_istn3 hX dX8_control_95 (by decide) rfl ?_
                refine rh_inc4 hX dX8_control_96 (by decide) rfl (rn_i1 _) ?_
                refine rh_goto (tgt := 24) hX dX8_control_99 (by decide) ?_
                first | exact rh_wk (by exact ⟨rfl, rfl, rfl, rfl, trivial⟩) (ih _ (optB_no hH h48)) | exact rh_wk (by exact ⟨rfl, rfl, rfl, rfl, trivial⟩) (ih _ (optB_first hH hi0 h48 h55)) | exact rh_wk (by exact ⟨rfl, rfl, rfl, rfl, trivial⟩) (ih _ (optB_take hH hi0 h48 h55 (Or.inl h67))) | exact rh_wk (by exact ⟨rfl, rfl, rfl, rfl, trivial⟩) (ih _ (optB_stay hH h55 ⟨h67, Or.inl h79⟩)) | exact rh_wk (by exact ⟨rfl, rfl, rfl, rfl, trivial⟩) (ih _ (optB_stay hH h55 ⟨h67, Or.inr (fun q => by rw [z_le, hzi, hzb] at h90; omega)⟩)) | exact rh_wk (by exact ⟨rfl, rfl, rfl, rfl, trivial⟩) (ih _ (optB_take hH hi0 h48 h55 (Or.inr ⟨h79, by rw [z_le, hzi, hzb] at h90; omega⟩)))
      · skip
        have h48 : ¬ (cAllVotes (fm u) T).toInt < 2 * vZ (fun h => cVotes (fm u) h T) i := by rw [z_lt, h2] at h48; exact h48
        refine rh_goto (tgt := 96) hX dX8_control_51 (by decide) ?_
        refine rh_inc4 hX dX8_control_96 (by decide) rfl (rn_i1 _) ?_
        refine rh_goto (tgt := 24) hX dX8_control_99 (by decide) ?_
        first | exact rh_wk (by exact ⟨rfl, rfl, rfl, rfl, trivial⟩) (ih _ (optB_no hH h48)) | exact rh_wk (by exact ⟨rfl, rfl, rfl, rfl, trivial⟩) (ih _ (optB_first hH hi0 h48 h55)) | exact rh_wk (by exact ⟨rfl, rfl, rfl, rfl, trivial⟩) (ih _ (optB_take hH hi0 h48 h55 (Or.inl h67))) | exact rh_wk (by exact ⟨rfl, rfl, rfl, rfl, trivial⟩) (ih _ (optB_stay hH h55 ⟨h67, Or.inl h79⟩)) | exact rh_wk (by exact ⟨rfl, rfl, rfl, rfl, trivial⟩) (ih _ (optB_stay hH h55 ⟨h67, Or.inr (fun q => by rw [z_le, hzi, hzb] at h90; omega)⟩)) | exact rh_wk (by exact ⟨rfl, rfl, rfl, rfl, trivial⟩) (ih _ (optB_take hH hi0 h48 h55 (Or.inr ⟨h79, by rw [z_le, hzi, hzb] at h90; omega⟩)))
  · skip
    refine rh_bipush hX dX8_control_16 kb_m2 ?_
    exact rh_iret hX hR dX8_control_18 (by simp only [List.map_cons, List.map_nil, List.cons_append, List.nil_append]) (by first | exact ⟨rw, rm, by rw [x_control, hCu, x_few, if_pos (show sumF 0 (fun h => cVotes (fm u) h T) 8 = 0 from h13)] <;> rfl, by rw [x_control, hCu, x_few, if_pos (show sumF 0 (fun h => cVotes (fm u) h T) 8 = 0 from h13)]; exact ⟨rfl, rfl⟩, rfl⟩)
