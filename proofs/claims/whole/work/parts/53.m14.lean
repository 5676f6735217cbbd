/-- more digits of a number: n at most; what is read, where, what is wrong -/
def mNumL (tx : Nat → Int32) (sz : Nat) (le : Int32) (mo : Int64) : Nat → Int64 → Nat → Int32 × Nat × Int32
  | 0, v, he => (v.toInt32, he, -1)
  | n + 1, v, he => if v ≤ 0 then (v.toInt32, he, -1) else if xIn (mSee tx sz he).toInt64 48 57 = 0 then (v.toInt32, he, -1) else if 10 * v + (mSee tx sz he).toInt64 - 48 ≤ mo then mNumL tx sz le mo n (10 * v + (mSee tx sz he).toInt64 - 48) (he + 1) else (le, he, nI he)
termination_by n => n
def mNum (tx : Nat → Int32) (sz he : Nat) (wr le : Int32) (mo : Int64) : Int32 × Nat × Int32 := if wr = -1 then (if xIn (mSee tx sz he).toInt64 48 57 = 0 then (le, he, nI he) else if (mSee tx sz he - 48).toInt64 < le.toInt64 then (le, he, nI he) else if (mSee tx sz he - 48).toInt64 ≤ mo then mNumL tx sz le mo 8 (mSee tx sz he - 48).toInt64 (he + 1) else (le, he, nI he)) else (le, he, wr)

set_option maxRecDepth 100000 in
set_option maxHeartbeats 4000000 in
theorem c_X8_number (l : Launch) (E : rhE) (B : Nat → Nat) (u : Nat → Int32) (kp : Nat → Int32) (ik : Int32) (ps : Nat → Int32) (pm : Nat) (dd : Int32) (tx : Nat → Int32) (ty : Nat) (rw : Nat → Int64) (rm : Nat) (th : Int32) (sz : Nat) (he : Nat) (wr : Int32) (mn : Nat → Int32) (vl : Int32) (tp : Int32) (lt : Int32) (ra : Int32) (pf : Int32) (pt : Int32) (pl : Int32) (pd : Int64) (prc : Int64) (ns : Int64) (tu : Nat) (ba : Int64) (na : Int64) (ca : Nat → Int64) (bo : Nat → Int32) (tr : Nat → Int64) (tH : Int32) (asd : Nat → Int32) (pa : Nat → Int64) (tg : Nat → Int64) (sd : Int64) (sr : Int64) (le : Int32) (mo : Int64) (hsz : sz ≤ 200) (hhe : he ≤ 300) : Ctr l E yX8_number cX8_number 7 (some .int) (rmL 1) [.ref (B 0), .int le, .long mo] (wM E B u kp ik ps pm dd tx ty rw rm th sz he wr mn vl tp lt ra pf pt pl pd prc ns tu ba na ca bo tr tH asd pa tg sd sr) (One (some (.int (mNum tx sz he wr le mo).1)) (wM E B u kp ik ps pm dd tx ty rw rm th sz (mNum tx sz he wr le mo).2.1 (mNum tx sz he wr le mo).2.2 mn vl tp lt ra pf pt pl pd prc ns tu ba na ca bo tr tH asd pa tg sd sr)) := by
  refine Ctr.of (by decide) (Nat.le_of_ble_eq_true rfl) rfl rfl 3 ?_
  intro X hX hR
  refine rh_aload_n hX dX8_number_0 rfl ?_
  refine rh_get hX gl_X8_105 0 dX8_number_1 rfl rfl ?_
  refine rh_iconst hX dX8_number_4 ki_m1 ?_
  refine rh_icmp_eq (tgt := 10) hX dX8_number_5 (by decide) (fun h5 => ?_) (fun h5 => ?_)
  · skip
    refine rh_aload_n hX dX8_number_10 rfl ?_
    refine rh_pV hX lk_X8_108 mvX8_sees (fun l => c_X8_sees l E _ _ _ _ _ _ _ _ _ _ _ _ _ _ _ _ _ _ _ _ _ _ _ _ _ _ _ _ _ _ _ _ _ _ _ _ _ _ (by omega) (by omega)) ⟨rfl, rfl⟩ ⟨Nat.le_of_ble_eq_true rfl, Nat.le_of_ble_eq_true rfl⟩ [0, 1, 2, 3, 4, 5, 6, 7, 8, 9, 10, 11, 12] rfl rfl 0 rfl dX8_number_11 rfl rfl (Nat.le_of_ble_eq_true rfl) ?_
    refine rh_i2l hX dX8_number_14 ?_
    refine rh_ldc2 hX dX8_number_15 kl_X8_116 ?_
    refine rh_ldc2 hX dX8_number_18 kl_X8_118 ?_
    refine rh_pS hX lk_X8_58 msX8_in (fun l => c_X8_in l E _ _ _) ⟨rfl, rfl⟩ ⟨Nat.le_of_ble_eq_true rfl, Nat.le_of_ble_eq_true rfl⟩ [] rfl rfl dX8_number_21 rfl rfl (Nat.le_of_ble_eq_true rfl) ?_
    refine rh_if_ne (tgt := 37) hX dX8_number_24 (by decide) (fun h24 => ?_) (fun h24 => ?_)
    · skip
      refine rh_aload_n hX dX8_number_37 rfl ?_
      refine rh_pV hX lk_X8_108 mvX8_sees (fun l => c_X8_sees l E _ _ _ _ _ _ _ _ _ _ _ _ _ _ _ _ _ _ _ _ _ _ _ _ _ _ _ _ _ _ _ _ _ _ _ _ _ _ (by omega) (by omega)) ⟨rfl, rfl⟩ ⟨Nat.le_of_ble_eq_true rfl, Nat.le_of_ble_eq_true rfl⟩ [0, 1, 2, 3, 4, 5, 6, 7, 8, 9, 10, 11, 12] rfl rfl 0 rfl dX8_number_38 rfl rfl (Nat.le_of_ble_eq_true rfl) ?_
      refine rh_bipush hX dX8_number_41 kb_48 ?_
      refine rh_isub hX dX8_number_43 ?_
      refine rh_i2l hX dX8_number_44 ?_
      refine rh_lst4 hX dX8_number_45 (by decide) rfl ?_
      refine rh_lload hX dX8_number_47 rfl ?_
      refine rh_iload_n hX dX8_number_49 rfl ?_
      refine rh_i2l hX dX8_number_50 ?_
      refine rh_llt (tgt := 62) hX dX8_number_51 dX8_number_52 (by decide) (fun h52 => ?_) (fun h52 => ?_)
      · skip
        refine rh_aload_n hX dX8_number_62 rfl ?_
        refine rh_aload_n hX dX8_number_63 rfl ?_
        refine rh_get hX gl_X8_102 0 dX8_number_64 rfl rfl ?_
        refine rh_uV hX lk_X8_112 mvX8_fault (fun l => c_X8_fault l E _ _ _ _ _ _ _ _ _ _ _ _ _ _ _ _ _ _ _ _ _ _ _ _ _ _ _ _ _ _ _ _ _ _ _ _ _ _ _) ⟨rfl, rfl⟩ ⟨Nat.le_of_ble_eq_true rfl, Nat.le_of_ble_eq_true rfl⟩ [0, 1, 2, 3, 4, 5, 6, 7, 8, 9, 10, 11, 12] rfl rfl 0 rfl dX8_number_67 rfl rfl (Nat.le_of_ble_eq_true rfl) rfl ?_
        dsimp only [List.cons_append, List.nil_append, List.set_cons_succ, List.set_cons_zero, vput]
        refine rh_iload_n hX dX8_number_70 rfl ?_
        exact rh_iret hX hR dX8_number_71 (by simp only [List.map_cons, List.map_nil, List.cons_append, List.nil_append]) ⟨by first | rw [mNum, if_pos h5, if_neg h24, if_pos h52] | rw [mNum, if_pos h5, if_neg h24, if_neg h52, if_neg h59], by first | (rw [mNum, if_pos h5, if_neg h24, if_pos h52, mFault, if_pos h5]; done) | (rw [mNum, if_pos h5, if_neg h24, if_neg h52, if_neg h59, mFault, if_pos h5]; done)⟩
      · skip
        refine rh_lload hX dX8_number_55 rfl ?_
        refine rh_lload_n hX dX8_number_57 rfl ?_
        refine rh_lle (tgt := 72) hX dX8_number_58 dX8_number_59 (by decide) (fun h59 => ?_) (fun h59 => ?_)
        · skip
          refine rh_aload_n hX dX8_number_72 rfl ?_
          refine rh_dup hX dX8_number_73 rfl ?_
          refine rh_get hX gl_X8_102 0 dX8_number_74 rfl rfl ?_
          refine rh_iconst hX dX8_number_77 ki_1 ?_
          refine rh_iadd hX dX8_number_78 ?_
          rw [show nI he + 1 = nI (he + 1) from rn_add he 1]
          refine rh_put hX gl_X8_102 0 dX8_number_79 rfl rfl rfl (Nat.le_of_ble_eq_true rfl) rfl ?_
          dsimp only [List.cons_append, List.nil_append, List.set_cons_succ, List.set_cons_zero, vput]
          refine rh_iconst hX dX8_number_82 ki_1 ?_
          refine rh_ist6 hX dX8_number_83 (by decide) rfl ?_
          have hR0 : mNumL tx sz le mo 8 ((mSee tx sz he) - 48).toInt64 (he + 1) = (mNum tx sz he wr le mo) := by rw [mNum, if_pos h5, if_neg h24, if_neg h52, if_pos h59]
          refine (rh_loop (P := fun k => ∀ (v : Int64) (he1 : Nat), (mNumL tx sz le mo (9 - k) v he1 = (mNum tx sz he wr le mo) ∧ he1 ≤ 301 + k) → G X 85 [some (.ref (B 0)), some (.int le), some (.long mo), none, some (.long v), none, some (.int (nI k))] [] (wM E B u kp ik ps pm dd tx ty rw rm th sz he1 wr mn vl tp lt ra pf pt pl pd prc ns tu ba na ca bo tr tH asd pa tg sd sr)) (1) (9) (by omega) ?_ ?_) _ _ ⟨hR0, by omega⟩
          · intro v he1 hH
            have hL : mNumL tx sz le mo (9 - 9) v he1 = (v.toInt32, he1, -1) := by rw [Nat.sub_self, mNumL]
            have hE := hL.symm.trans hH.1
            refine rh_lload hX dX8_number_85 rfl ?_
            refine rh_lconst hX dX8_number_87 kL_0 ?_
            refine rh_lle (tgt := 167) hX dX8_number_88 dX8_number_89 (by decide) (fun h89 => ?_) (fun h89 => ?_)
            · skip
              refine rh_lload hX dX8_number_167 rfl ?_
              refine rh_l2i hX dX8_number_169 ?_
              exact rh_iret hX hR dX8_number_170 (by simp only [List.map_cons, List.map_nil, List.cons_append, List.nil_append]) ⟨by first | (rw [← hE]; done) | (rw [← hE, if_pos h89]; done) | (rw [← hE, if_neg h89, if_pos h113]; done), by first | (rw [← hE, h5]; done) | (rw [← hE, if_pos h89, h5]; done) | (rw [← hE, if_neg h89, if_pos h113, h5]; done)⟩
            · skip
              refine rh_iload hX dX8_number_92 rfl ?_
              refine rh_bipush hX dX8_number_94 kb_9 ?_
              refine rh_icmp_ge_t (tgt := 167) hX dX8_number_96 (by decide) (nI_le (a := 9) (b := 9) (Nat.le_refl 9) (by decide)) ?_
              refine rh_lload hX dX8_number_167 rfl ?_
              refine rh_l2i hX dX8_number_169 ?_
              exact rh_iret hX hR dX8_number_170 (by simp only [List.map_cons, List.map_nil, List.cons_append, List.nil_append]) ⟨by first | (rw [← hE]; done) | (rw [← hE, if_pos h89]; done) | (rw [← hE, if_neg h89, if_pos h113]; done), by first | (rw [← hE, h5]; done) | (rw [← hE, if_pos h89, h5]; done) | (rw [← hE, if_neg h89, if_pos h113, h5]; done)⟩
          · intro k hk0 hk ihk v he1 hH
            have hE := hH.1
            rw [show 9 - k = (9 - (k + 1)) + 1 by omega, mNumL] at hE
            refine rh_lload hX dX8_number_85 rfl ?_
            refine rh_lconst hX dX8_number_87 kL_0 ?_
            refine rh_lle (tgt := 167) hX dX8_number_88 dX8_number_89 (by decide) (fun h89 => ?_) (fun h89 => ?_)
            · skip
              refine rh_lload hX dX8_number_167 rfl ?_
              refine rh_l2i hX dX8_number_169 ?_
              exact rh_iret hX hR dX8_number_170 (by simp only [List.map_cons, List.map_nil, List.cons_append, List.nil_append]) ⟨by first | (rw [← hE]; done) | (rw [← hE, if_pos h89]; done) | (rw [← hE, if_neg h89, if_pos h113]; done), by first | (rw [← hE, h5]; done) | (rw [← hE, if_pos h89, h5]; done) | (rw [← hE, if_neg h89, if_pos h113, h5]; done)⟩
            · skip
              refine rh_iload hX dX8_number_92 rfl ?_
              refine rh_bipush hX dX8_number_94 kb_9 ?_
              refine rh_icmp_ge_f (tgt := 167) hX dX8_number_96 (by decide) (nI_ge (b := 9) hk (by decide)) ?_
              refine rh_aload_n hX dX8_number_99 rfl ?_
              refine rh_pV hX lk_X8_108 mvX8_sees (fun l => c_X8_sees l E _ _ _ _ _ _ _ _ _ _ _ _ _ _ _ _ _ _ _ _ _ _ _ _ _ _ _ _ _ _ _ _ _ _ _ _ _ _ (by omega) (by omega)) ⟨rfl, rfl⟩ ⟨Nat.le_of_ble_eq_true rfl, Nat.le_of_ble_eq_true rfl⟩ [0, 1, 2, 3, 4, 5, 6, 7, 8, 9, 10, 11, 12] rfl rfl 0 rfl dX8_number_100 rfl rfl (Nat.le_of_ble_eq_true rfl) ?_
              refine rh_i2l hX dX8_number_103 ?_
              refine rh_ldc2 hX dX8_number_104 kl_X8_116 ?_
              refine rh_ldc2 hX dX8_number_107 kl_X8_118 ?_
              refine rh_pS hX lk_X8_58 msX8_in (fun l => c_X8_in l E _ _ _) ⟨rfl, rfl⟩ ⟨Nat.le_of_ble_eq_true rfl, Nat.le_of_ble_eq_true rfl⟩ [] rfl rfl dX8_number_110 rfl rfl (Nat.le_of_ble_eq_true rfl) ?_
              refine rh_if_eq (tgt := 167) hX dX8_number_113 (by decide) (fun h113 => ?_) (fun h113 => ?_)
              · skip
                refine rh_lload hX dX8_number_167 rfl ?_
                refine rh_l2i hX dX8_number_169 ?_
                exact rh_iret hX hR dX8_number_170 (by simp only [List.map_cons, List.map_nil, List.cons_append, List.nil_append]) ⟨by first | (rw [← hE]; done) | (rw [← hE, if_pos h89]; done) | (rw [← hE, if_neg h89, if_pos h113]; done), by first | (rw [← hE, h5]; done) | (rw [← hE, if_pos h89, h5]; done) | (rw [← hE, if_neg h89, if_pos h113, h5]; done)⟩
              · skip
                refine rh_ldc2 hX dX8_number_116 kl_X8_120 ?_
                refine rh_lload hX dX8_number_119 rfl ?_
                refine rh_lmul hX dX8_number_121 ?_
                refine rh_aload_n hX dX8_number_122 rfl ?_
                refine rh_pV hX lk_X8_108 mvX8_sees (fun l => c_X8_sees l E _ _ _ _ _ _ _ _ _ _ _ _ _ _ _ _ _ _ _ _ _ _ _ _ _ _ _ _ _ _ _ _ _ _ _ _ _ _ (by omega) (by omega)) ⟨rfl, rfl⟩ ⟨Nat.le_of_ble_eq_true rfl, Nat.le_of_ble_eq_true rfl⟩ [0, 1, 2, 3, 4, 5, 6, 7, 8, 9, 10, 11, 12] rfl rfl 0 rfl dX8_number_123 rfl rfl (Nat.le_of_ble_eq_true rfl) ?_
                refine rh_i2l hX dX8_number_126 ?_
                refine rh_ladd hX dX8_number_127 ?_
                refine rh_ldc2 hX dX8_number_128 kl_X8_116 ?_
                refine rh_lsub hX dX8_number_131 ?_
                refine rh_lst4 hX dX8_number_132 (by decide) rfl ?_
                refine rh_lload hX dX8_number_134 rfl ?_
                refine rh_lload_n hX dX8_number_136 rfl ?_
                refine rh_lle (tgt := 151) hX dX8_number_137 dX8_number_138 (by decide) (fun h138 => ?_) (fun h138 => ?_)
                · skip
                  refine rh_aload_n hX dX8_number_151 rfl ?_
                  refine rh_dup hX dX8_number_152 rfl ?_
                  refine rh_get hX gl_X8_102 0 dX8_number_153 rfl rfl ?_
                  refine rh_iconst hX dX8_number_156 ki_1 ?_
                  refine rh_iadd hX dX8_number_157 ?_
                  rw [show nI he1 + 1 = nI (he1 + 1) from rn_add he1 1]
                  refine rh_put hX gl_X8_102 0 dX8_number_158 rfl rfl rfl (Nat.le_of_ble_eq_true rfl) rfl ?_
                  dsimp only [List.cons_append, List.nil_append, List.set_cons_succ, List.set_cons_zero, vput]
                  refine rh_inc6 hX dX8_number_161 (by decide) rfl (rn_i1 _) ?_
                  refine rh_goto (tgt := 85) hX dX8_number_164 (by decide) ?_
                  exact ihk _ _ ⟨by rw [if_neg h89, if_neg h113, if_pos h138] at hE; exact hE, by omega⟩
                · skip
                  refine rh_aload_n hX dX8_number_141 rfl ?_
                  refine rh_aload_n hX dX8_number_142 rfl ?_
                  refine rh_get hX gl_X8_102 0 dX8_number_143 rfl rfl ?_
                  refine rh_uV hX lk_X8_112 mvX8_fault (fun l => c_X8_fault l E _ _ _ _ _ _ _ _ _ _ _ _ _ _ _ _ _ _ _ _ _ _ _ _ _ _ _ _ _ _ _ _ _ _ _ _ _ _ _) ⟨rfl, rfl⟩ ⟨Nat.le_of_ble_eq_true rfl, Nat.le_of_ble_eq_true rfl⟩ [0, 1, 2, 3, 4, 5, 6, 7, 8, 9, 10, 11, 12] rfl rfl 0 rfl dX8_number_146 rfl rfl (Nat.le_of_ble_eq_true rfl) rfl ?_
                  dsimp only [List.cons_append, List.nil_append, List.set_cons_succ, List.set_cons_zero, vput]
                  refine rh_iload_n hX dX8_number_149 rfl ?_
                  exact rh_iret hX hR dX8_number_150 (by simp only [List.map_cons, List.map_nil, List.cons_append, List.nil_append]) ⟨by rw [← hE, if_neg h89, if_neg h113, if_neg h138], by rw [← hE, if_neg h89, if_neg h113, if_neg h138, mFault, if_pos h5]⟩
        · skip
          refine rh_aload_n hX dX8_number_62 rfl ?_
          refine rh_aload_n hX dX8_number_63 rfl ?_
          refine rh_get hX gl_X8_102 0 dX8_number_64 rfl rfl ?_
          refine rh_uV hX lk_X8_112 mvX8_fault (fun l => c_X8_fault l E _ _ _ _ _ _ _ _ _ _ _ _ _ _ _ _ _ _ _ _ _ _ _ _ _ _ _ _ _ _ _ _ _ _ _ _ _ _ _) ⟨rfl, rfl⟩ ⟨Nat.le_of_ble_eq_true rfl, Nat.le_of_ble_eq_true rfl⟩ [0, 1, 2, 3, 4, 5, 6, 7, 8, 9, 10, 11, 12] rfl rfl 0 rfl dX8_number_67 rfl rfl (Nat.le_of_ble_eq_true rfl) rfl ?_
          dsimp only [List.cons_append, List.nil_append, List.set_cons_succ, List.set_cons_zero, vput]
          refine rh_iload_n hX dX8_number_70 rfl ?_
          exact rh_iret hX hR dX8_number_71 (by simp only [List.map_cons, List.map_nil, List.cons_append, List.nil_append]) ⟨by first | rw [mNum, if_pos h5, if_neg h24, if_pos h52] | rw [mNum, if_pos h5, if_neg h24, if_neg h52, if_neg h59], by first | (rw [mNum, if_pos h5, if_neg h24, if_pos h52, mFault, if_pos h5]; done) | (rw [mNum, if_pos h5, if_neg h24, if_neg h52, if_neg h59, mFault, if_pos h5]; done)⟩
    · skip
      refine rh_aload_n hX dX8_number_27 rfl ?_
      refine rh_aload_n hX dX8_number_28 rfl ?_
      refine rh_get hX gl_X8_102 0 dX8_number_29 rfl rfl ?_
      refine rh_uV hX lk_X8_112 mvX8_fault (fun l => c_X8_fault l E _ _ _ _ _ _ _ _ _ _ _ _ _ _ _ _ _ _ _ _ _ _ _ _ _ _ _ _ _ _ _ _ _ _ _ _ _ _ _) ⟨rfl, rfl⟩ ⟨Nat.le_of_ble_eq_true rfl, Nat.le_of_ble_eq_true rfl⟩ [0, 1, 2, 3, 4, 5, 6, 7, 8, 9, 10, 11, 12] rfl rfl 0 rfl dX8_number_32 rfl rfl (Nat.le_of_ble_eq_true rfl) rfl ?_
      dsimp only [List.cons_append, List.nil_append, List.set_cons_succ, List.set_cons_zero, vput]
      refine rh_iload_n hX dX8_number_35 rfl ?_
      exact rh_iret hX hR dX8_number_36 (by simp only [List.map_cons, List.map_nil, List.cons_append, List.nil_append]) ⟨by rw [mNum, if_pos h5, if_pos h24], by rw [mNum, if_pos h5, if_pos h24, mFault, if_pos h5]⟩
  · skip
    refine rh_iload_n hX dX8_number_8 rfl ?_
    exact rh_iret hX hR dX8_number_9 (by simp only [List.map_cons, List.map_nil, List.cons_append, List.nil_append]) ⟨by rw [mNum, if_neg h5], by rw [mNum, if_neg h5]⟩
