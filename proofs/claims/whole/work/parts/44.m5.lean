theorem minl_comm (x y : Int64) : minl x y = minl y x := by
  unfold minl
  by_cases a : y < x
  · rw [if_pos a, if_neg (fun b => by rw [Int64.lt_iff_toInt_lt] at a b; omega)]
  · rw [if_neg a]
    by_cases b : x < y
    · rw [if_pos b]
    · rw [if_neg b]
      apply Int64.toInt_inj.mp
      rw [Int64.lt_iff_toInt_lt] at a b
      omega
def mPa (f pa : Nat → Int64) (set : Int32) (s : Int64) (T : Nat) : Nat → Int64 := va_up (pRow (cDue f) pa set s T (T - 1)) 0 0
def mSr (f : Nat → Int64) (u : Nat → Int32) (set : Int32) (n : Nat) : Int64 := sumF (cAllGranted f) (fun t => if mS1 u t set = 0 then 0 else cAllConv f t) n
theorem mSr_t {f : Nat → Int64} {u : Nat → Int32} {set : Int32} {i : Nat} (q : mS1 u i set = 0) : mSr f u set (i + 1) = mSr f u set i + 0 := by unfold mSr; rw [sumF, if_pos q]
theorem mSr_f {f : Nat → Int64} {u : Nat → Int32} {set : Int32} {i : Nat} (q : ¬ mS1 u i set = 0) : mSr f u set (i + 1) = mSr f u set i + cAllConv f i := by unfold mSr; rw [sumF, if_neg q]
def mTg (f : Nat → Int64) (u : Nat → Int32) (pa : Nat → Int64) (set : Int32) (s : Int64) (T t : Nat) : Int64 := mPa f pa set s T t + (if mS1 u t set = 0 then 0 else mShareBy (pLeft (cDue f) set s T (T - 1)) (mSr f u set T) (cAllConv f t))

set_option maxRecDepth 100000 in
set_option maxHeartbeats 4000000 in
theorem c_X8_pays (l : Launch) (E : rhE) (B : Nat → Nat) (u : Nat → Int32) (kp : Nat → Int32) (ik : Int32) (ps : Nat → Int32) (pm : Nat) (dd : Int32) (tx : Nat → Int32) (ty : Nat) (rw : Nat → Int64) (rm : Nat) (th : Int32) (sz : Nat) (he : Nat) (wr : Int32) (mn : Nat → Int32) (vl : Int32) (tp : Int32) (lt : Int32) (ra : Int32) (pf : Int32) (pt : Int32) (pl : Int32) (pd : Int64) (prc : Int64) (ns : Int64) (tu : Nat) (ba : Int64) (na : Int64) (ca : Nat → Int64) (bo : Nat → Int32) (tr : Nat → Int64) (tH : Int32) (asd : Nat → Int32) (pa : Nat → Int64) (tg : Nat → Int64) (sd : Int64) (sr : Int64) (s : Int64) (set : Int32) (T : Nat) (hM : mOk u T)  : Ctr l E yX8_pays cX8_pays 7 none (rmL 3) [.ref (B 0), .long s, .int set] (wM E B u kp ik ps pm dd tx ty rw rm th sz he wr mn vl tp lt ra pf pt pl pd prc ns tu ba na ca bo tr tH asd pa tg sd sr) (One none (wM E B u kp ik ps pm dd tx ty rw rm th sz he wr mn vl tp lt ra pf pt pl pd prc ns tu ba na ca bo tr tH asd (mPa (fm u) pa set s T) (rowTo (mTg (fm u) u pa set s T) tg T) (pLeft (cDue (fm u)) set s T (T - 1)) (mSr (fm u) u set T))) := by
  refine Ctr.of (by decide) (Nat.le_of_ble_eq_true rfl) rfl rfl 3 ?_
  intro X hX hR
  obtain ⟨hT, hT1, hT6, hcv⟩ := id hM
  refine rh_lload_n hX dX8_pays_0 rfl ?_
  refine rh_lst4 hX dX8_pays_1 (by decide) rfl ?_
  refine rh_aload_n hX dX8_pays_3 rfl ?_
  refine rh_get hX gl_X8_7 0 dX8_pays_4 rfl rfl ?_
  refine rh_bipush hX dX8_pays_7 kb_57 ?_
  refine rh_iaload hX 1 _ dX8_pays_9 rfl rn_c57 (by omega) (by decide) ?_
  rw [hT]
  refine rh_iconst hX dX8_pays_10 ki_1 ?_
  refine rh_isub hX dX8_pays_11 ?_
  rw [show nI T - 1 = nI (T - 1) from rn_sub (b := 1) hT1]
  refine rh_ist6 hX dX8_pays_12 (by decide) rfl ?_
  suffices hP0 : G X 14 [some (.ref (B 0)), some (.long s), none, some (.int set), some (.long s), none, some (.int (nI (T - 1)))] [] (wM E B u kp ik ps pm dd tx ty rw rm th sz he wr mn vl tp lt ra pf pt pl pd prc ns tu ba na ca bo tr tH asd (pRow (cDue (fm u)) pa set s T 0) tg sd sr) by rw [pRow_0] at hP0; exact hP0
  refine rh_loop (P := fun j => G X 14 [some (.ref (B 0)), some (.long s), none, some (.int set), some (.long (pLeft (cDue (fm u)) set s T j)), none, some (.int (nI (T - 1 - j)))] [] (wM E B u kp ik ps pm dd tx ty rw rm th sz he wr mn vl tp lt ra pf pt pl pd prc ns tu ba na ca bo tr tH asd (pRow (cDue (fm u)) pa set s T j) tg sd sr)) (0) (T - 1) (by omega) ?_ ?_
  · skip
    refine rh_iload hX dX8_pays_14 rfl ?_
    refine rh_if_le_t (tgt := 69) hX dX8_pays_16 (by decide) (by rw [show T - 1 - (T - 1) = 0 by omega]; decide) ?_
    refine rh_aload_n hX dX8_pays_69 rfl ?_
    refine rh_get hX gl_X8_42 0 dX8_pays_70 rfl rfl ?_
    refine rh_iconst hX dX8_pays_73 ki_0 ?_
    refine rh_lconst hX dX8_pays_74 kL_0 ?_
    refine rh_lastore hX 11 _ dX8_pays_75 rfl rn_c0 (by omega) (by decide) rfl ?_
    dsimp only [List.cons_append, List.nil_append, List.set_cons_succ, List.set_cons_zero, vput]
    refine rh_aload_n hX dX8_pays_76 rfl ?_
    refine rh_lload hX dX8_pays_77 rfl ?_
    refine rh_put hX gl_X8_343 0 dX8_pays_79 rfl rfl rfl (Nat.le_of_ble_eq_true rfl) rfl ?_
    dsimp only [List.cons_append, List.nil_append, List.set_cons_succ, List.set_cons_zero, vput]
    refine rh_aload_n hX dX8_pays_82 rfl ?_
    refine rh_aload_n hX dX8_pays_83 rfl ?_
    refine rh_pV hX lk_X8_96 mvX8_allOptions (fun l => c_X8_allOptions l E _ _ _ _ _ _ _ _ _ _ _ _ _ _ _ _ _ _ _ _ _ _ _ _ _ _ _ _ _ _ _ _ _ _ _ _ _ _ ) ⟨rfl, rfl⟩ ⟨Nat.le_of_ble_eq_true rfl, Nat.le_of_ble_eq_true rfl⟩ [0, 1, 2, 3, 4, 5, 6, 7, 8, 9, 10, 11, 12] rfl rfl 0 rfl dX8_pays_84 rfl rfl (Nat.le_of_ble_eq_true rfl) ?_
    refine rh_put hX gl_X8_346 0 dX8_pays_87 rfl rfl rfl (Nat.le_of_ble_eq_true rfl) rfl ?_
    dsimp only [List.cons_append, List.nil_append, List.set_cons_succ, List.set_cons_zero, vput]
    refine rh_iconst hX dX8_pays_90 ki_0 ?_
    refine rh_ist6 hX dX8_pays_91 (by decide) rfl ?_
    refine rh_loop (P := fun i => G X 93 [some (.ref (B 0)), some (.long s), none, some (.int set), some (.long (pLeft (cDue (fm u)) set s T (T - 1))), none, some (.int (nI i))] [] (wM E B u kp ik ps pm dd tx ty rw rm th sz he wr mn vl tp lt ra pf pt pl pd prc ns tu ba na ca bo tr tH asd (mPa (fm u) pa set s T) tg (pLeft (cDue (fm u)) set s T (T - 1)) (mSr (fm u) u set i))) (0) (T) (by omega) ?_ ?_
    · skip
      refine rh_iload hX dX8_pays_93 rfl ?_
      refine rh_aload_n hX dX8_pays_95 rfl ?_
      refine rh_get hX gl_X8_7 0 dX8_pays_96 rfl rfl ?_
      refine rh_bipush hX dX8_pays_99 kb_57 ?_
      refine rh_iaload hX 1 _ dX8_pays_101 rfl rn_c57 (by omega) (by decide) ?_
      refine rh_icmp_ge_t (tgt := 140) hX dX8_pays_102 (by decide) (by rw [hT]; exact nI_le (Nat.le_refl T) (by omega)) ?_
      refine rh_iconst hX dX8_pays_140 ki_0 ?_
      refine rh_ist6 hX dX8_pays_141 (by decide) rfl ?_
      suffices hP0 : G X 143 [some (.ref (B 0)), some (.long s), none, some (.int set), some (.long (pLeft (cDue (fm u)) set s T (T - 1))), none, some (.int 0)] [] (wM E B u kp ik ps pm dd tx ty rw rm th sz he wr mn vl tp lt ra pf pt pl pd prc ns tu ba na ca bo tr tH asd (mPa (fm u) pa set s T) (rowTo (mTg (fm u) u pa set s T) tg 0) (pLeft (cDue (fm u)) set s T (T - 1)) (mSr (fm u) u set T)) by rw [rowTo_0] at hP0; exact hP0
      refine rh_loop (P := fun k => G X 143 [some (.ref (B 0)), some (.long s), none, some (.int set), some (.long (pLeft (cDue (fm u)) set s T (T - 1))), none, some (.int (nI k))] [] (wM E B u kp ik ps pm dd tx ty rw rm th sz he wr mn vl tp lt ra pf pt pl pd prc ns tu ba na ca bo tr tH asd (mPa (fm u) pa set s T) (rowTo (mTg (fm u) u pa set s T) tg k) (pLeft (cDue (fm u)) set s T (T - 1)) (mSr (fm u) u set T))) (0) (T) (by omega) ?_ ?_
      · skip
        refine rh_iload hX dX8_pays_143 rfl ?_
        refine rh_aload_n hX dX8_pays_145 rfl ?_
        refine rh_get hX gl_X8_7 0 dX8_pays_146 rfl rfl ?_
        refine rh_bipush hX dX8_pays_149 kb_57 ?_
        refine rh_iaload hX 1 _ dX8_pays_151 rfl rn_c57 (by omega) (by decide) ?_
        refine rh_icmp_ge_t (tgt := 200) hX dX8_pays_152 (by decide) (by rw [hT]; exact nI_le (Nat.le_refl T) (by omega)) ?_
        exact rh_vret hX hR dX8_pays_200 (by simp only [List.map_cons, List.map_nil, List.cons_append, List.nil_append]) ⟨rfl, rfl⟩
      · intro k hk0 hk ihk
        refine rh_iload hX dX8_pays_143 rfl ?_
        refine rh_aload_n hX dX8_pays_145 rfl ?_
        refine rh_get hX gl_X8_7 0 dX8_pays_146 rfl rfl ?_
        refine rh_bipush hX dX8_pays_149 kb_57 ?_
        refine rh_iaload hX 1 _ dX8_pays_151 rfl rn_c57 (by omega) (by decide) ?_
        refine rh_icmp_ge_f (tgt := 200) hX dX8_pays_152 (by decide) (by rw [hT]; exact nI_ge hk (by omega)) ?_
        refine rh_aload_n hX dX8_pays_155 rfl ?_
        refine rh_get hX gl_X8_45 0 dX8_pays_156 rfl rfl ?_
        refine rh_iload hX dX8_pays_159 rfl ?_
        refine rh_aload_n hX dX8_pays_161 rfl ?_
        refine rh_get hX gl_X8_42 0 dX8_pays_162 rfl rfl ?_
        refine rh_iload hX dX8_pays_165 rfl ?_
        refine rh_laload hX 11 _ dX8_pays_167 rfl rfl (by omega) (by decide) ?_
        refine rh_aload_n hX dX8_pays_168 rfl ?_
        refine rh_iload hX dX8_pays_169 rfl ?_
        refine rh_iload_n hX dX8_pays_171 rfl ?_
        refine rh_pV hX lk_X8_349 mvX8_shares1 (fun l => c_X8_shares1 l E _ _ _ _ _ _ _ _ _ _ _ _ _ _ _ _ _ _ _ _ _ _ _ _ _ _ _ _ _ _ _ _ _ _ _ _ _ _ k _ (by omega)) ⟨rfl, rfl⟩ ⟨Nat.le_of_ble_eq_true rfl, Nat.le_of_ble_eq_true rfl⟩ [0, 1, 2, 3, 4, 5, 6, 7, 8, 9, 10, 11, 12] rfl rfl 0 rfl dX8_pays_172 rfl rfl (Nat.le_of_ble_eq_true rfl) ?_
        refine rh_if_eq (tgt := 191) hX dX8_pays_175 (by decide) (fun h175 => ?_) (fun h175 => ?_)
        · skip
          refine rh_lconst hX dX8_pays_191 kL_0 ?_
          refine rh_ladd hX dX8_pays_192 ?_
          refine rh_lastore hX 12 _ dX8_pays_193 rfl rfl (by omega) (by decide) rfl ?_
          dsimp only [List.cons_append, List.nil_append, List.set_cons_succ, List.set_cons_zero, vput]
          refine rh_inc6 hX dX8_pays_194 (by decide) rfl (rn_i1 _) ?_
          refine rh_goto (tgt := 143) hX dX8_pays_197 (by decide) ?_
          first | (rw [← rowTo_s (mTg (fm u) u pa set s T) tg k, show (mTg (fm u) u pa set s T) k = (mPa (fm u) pa set s T) k + 0 by rw [mTg, if_pos h175]] at ihk; exact ihk) | (rw [← rowTo_s (mTg (fm u) u pa set s T) tg k, show (mTg (fm u) u pa set s T) k = (mPa (fm u) pa set s T) k + mShareBy (pLeft (cDue (fm u)) set s T (T - 1)) (mSr (fm u) u set T) (cAllConv (fm u) k) by rw [mTg, if_neg h175]] at ihk; exact ihk)
        · skip
          refine rh_aload_n hX dX8_pays_178 rfl ?_
          refine rh_aload_n hX dX8_pays_179 rfl ?_
          refine rh_iload hX dX8_pays_180 rfl ?_
          refine rh_pV hX lk_X8_316 mvX8_convertedType (fun l => c_X8_convertedType l E _ _ _ _ _ _ _ _ _ _ _ _ _ _ _ _ _ _ _ _ _ _ _ _ _ _ _ _ _ _ _ _ _ _ _ _ _ _ k T hM (by omega)) ⟨rfl, rfl⟩ ⟨Nat.le_of_ble_eq_true rfl, Nat.le_of_ble_eq_true rfl⟩ [0, 1, 2, 3, 4, 5, 6, 7, 8, 9, 10, 11, 12] rfl rfl 0 rfl dX8_pays_182 rfl rfl (Nat.le_of_ble_eq_true rfl) ?_
          refine rh_pV hX lk_X8_353 mvX8_sharedBy (fun l => c_X8_sharedBy l E _ _ _ _ _ _ _ _ _ _ _ _ _ _ _ _ _ _ _ _ _ _ _ _ _ _ _ _ _ _ _ _ _ _ _ _ _ _ _) ⟨rfl, rfl⟩ ⟨Nat.le_of_ble_eq_true rfl, Nat.le_of_ble_eq_true rfl⟩ [0, 1, 2, 3, 4, 5, 6, 7, 8, 9, 10, 11, 12] rfl rfl 0 rfl dX8_pays_185 rfl rfl (Nat.le_of_ble_eq_true rfl) ?_
          refine rh_goto (tgt := 192) hX dX8_pays_188 (by decide) ?_
          refine rh_ladd hX dX8_pays_192 ?_
          refine rh_lastore hX 12 _ dX8_pays_193 rfl rfl (by omega) (by decide) rfl ?_
          dsimp only [List.cons_append, List.nil_append, List.set_cons_succ, List.set_cons_zero, vput]
          refine rh_inc6 hX dX8_pays_194 (by decide) rfl (rn_i1 _) ?_
          refine rh_goto (tgt := 143) hX dX8_pays_197 (by decide) ?_
          first | (rw [← rowTo_s (mTg (fm u) u pa set s T) tg k, show (mTg (fm u) u pa set s T) k = (mPa (fm u) pa set s T) k + 0 by rw [mTg, if_pos h175]] at ihk; exact ihk) | (rw [← rowTo_s (mTg (fm u) u pa set s T) tg k, show (mTg (fm u) u pa set s T) k = (mPa (fm u) pa set s T) k + mShareBy (pLeft (cDue (fm u)) set s T (T - 1)) (mSr (fm u) u set T) (cAllConv (fm u) k) by rw [mTg, if_neg h175]] at ihk; exact ihk)
    · intro i hi0 hi ih
      refine rh_iload hX dX8_pays_93 rfl ?_
      refine rh_aload_n hX dX8_pays_95 rfl ?_
      refine rh_get hX gl_X8_7 0 dX8_pays_96 rfl rfl ?_
      refine rh_bipush hX dX8_pays_99 kb_57 ?_
      refine rh_iaload hX 1 _ dX8_pays_101 rfl rn_c57 (by omega) (by decide) ?_
      refine rh_icmp_ge_f (tgt := 140) hX dX8_pays_102 (by decide) (by rw [hT]; exact nI_ge hi (by omega)) ?_
      refine rh_aload_n hX dX8_pays_105 rfl ?_
      refine rh_dup hX dX8_pays_106 rfl ?_
      refine rh_get hX gl_X8_346 0 dX8_pays_107 rfl rfl ?_
      refine rh_aload_n hX dX8_pays_110 rfl ?_
      refine rh_iload hX dX8_pays_111 rfl ?_
      refine rh_iload_n hX dX8_pays_113 rfl ?_
      refine rh_pV hX lk_X8_349 mvX8_shares1 (fun l => c_X8_shares1 l E _ _ _ _ _ _ _ _ _ _ _ _ _ _ _ _ _ _ _ _ _ _ _ _ _ _ _ _ _ _ _ _ _ _ _ _ _ _ i _ (by omega)) ⟨rfl, rfl⟩ ⟨Nat.le_of_ble_eq_true rfl, Nat.le_of_ble_eq_true rfl⟩ [0, 1, 2, 3, 4, 5, 6, 7, 8, 9, 10, 11, 12] rfl rfl 0 rfl dX8_pays_114 rfl rfl (Nat.le_of_ble_eq_true rfl) ?_
      refine rh_if_eq (tgt := 129) hX dX8_pays_117 (by decide) (fun h117 => ?_) (fun h117 => ?_)
      · skip
        refine rh_lconst hX dX8_pays_129 kL_0 ?_
        refine rh_ladd hX dX8_pays_130 ?_
        refine rh_put hX gl_X8_346 0 dX8_pays_131 rfl rfl rfl (Nat.le_of_ble_eq_true rfl) rfl ?_
        dsimp only [List.cons_append, List.nil_append, List.set_cons_succ, List.set_cons_zero, vput]
        refine rh_inc6 hX dX8_pays_134 (by decide) rfl (rn_i1 _) ?_
        refine rh_goto (tgt := 93) hX dX8_pays_137 (by decide) ?_
        first | (rw [mSr_t h117] at ih; exact ih) | (rw [mSr_f h117] at ih; exact ih)
      · skip
        refine rh_aload_n hX dX8_pays_120 rfl ?_
        refine rh_iload hX dX8_pays_121 rfl ?_
        refine rh_pV hX lk_X8_316 mvX8_convertedType (fun l => c_X8_convertedType l E _ _ _ _ _ _ _ _ _ _ _ _ _ _ _ _ _ _ _ _ _ _ _ _ _ _ _ _ _ _ _ _ _ _ _ _ _ _ i T hM (by omega)) ⟨rfl, rfl⟩ ⟨Nat.le_of_ble_eq_true rfl, Nat.le_of_ble_eq_true rfl⟩ [0, 1, 2, 3, 4, 5, 6, 7, 8, 9, 10, 11, 12] rfl rfl 0 rfl dX8_pays_123 rfl rfl (Nat.le_of_ble_eq_true rfl) ?_
        refine rh_goto (tgt := 130) hX dX8_pays_126 (by decide) ?_
        refine rh_ladd hX dX8_pays_130 ?_
        refine rh_put hX gl_X8_346 0 dX8_pays_131 rfl rfl rfl (Nat.le_of_ble_eq_true rfl) rfl ?_
        dsimp only [List.cons_append, List.nil_append, List.set_cons_succ, List.set_cons_zero, vput]
        refine rh_inc6 hX dX8_pays_134 (by decide) rfl (rn_i1 _) ?_
        refine rh_goto (tgt := 93) hX dX8_pays_137 (by decide) ?_
        first | (rw [mSr_t h117] at ih; exact ih) | (rw [mSr_f h117] at ih; exact ih)
  · intro j hj0 hj ihj
    obtain ⟨c, hcj⟩ : ∃ c, c = T - 1 - j := ⟨_, rfl⟩
    have hc1 : 1 ≤ c := by omega
    have hc6 : c < 6 := by omega
    have hpf := pFirst_j (cDue (fm u)) set s T j hj
    have hrs := pRow_s (cDue (fm u)) pa set s T j hj
    have hls : pLeft (cDue (fm u)) set s T (j + 1) = pLeft (cDue (fm u)) set s T j - pFirst (cDue (fm u)) set s T (T - 1 - j) := by rw [hpf]; rfl
    rw [← hcj] at hpf hrs hls ⊢
    rw [show T - 1 - (j + 1) = c - 1 by omega] at ihj
    have hdu : cDue (fm u) c = cPref (fm u) c := if_neg (by omega)
    refine rh_iload hX dX8_pays_14 rfl ?_
    refine rh_if_le_f (tgt := 69) hX dX8_pays_16 (by decide) (fun q => absurd (rn_leI (b := 0) q (by omega) (by decide)) (by omega)) ?_
    refine rh_aload_n hX dX8_pays_19 rfl ?_
    refine rh_get hX gl_X8_42 0 dX8_pays_20 rfl rfl ?_
    refine rh_iload hX dX8_pays_23 rfl ?_
    refine rh_iload_n hX dX8_pays_25 rfl ?_
    refine rh_iload hX dX8_pays_26 rfl ?_
    refine rh_ishr hX dX8_pays_28 ?_
    refine rh_iconst hX dX8_pays_29 ki_1 ?_
    refine rh_iand hX dX8_pays_30 ?_
    refine rh_iconst hX dX8_pays_31 ki_1 ?_
    refine rh_icmp_ne (tgt := 39) hX dX8_pays_32 (by decide) (fun h32 => ?_) (fun h32 => ?_)
    · skip
      have hst : va_up (pRow (cDue (fm u)) pa set s T j) c (minl (pLeft (cDue (fm u)) set s T j) (cPref (fm u) c)) = (pRow (cDue (fm u)) pa set s T (j + 1)) := by rw [← hrs, hpf, if_neg (show ¬ sBit set c = 1 from h32), hdu, minl_comm]
      refine rh_lload hX dX8_pays_39 rfl ?_
      refine rh_aload_n hX dX8_pays_41 rfl ?_
      refine rh_iload hX dX8_pays_42 rfl ?_
      refine rh_pV hX lk_X8_340 mvX8_preferenceOf (fun l => c_X8_preferenceOf l E _ _ _ _ _ _ _ _ _ _ _ _ _ _ _ _ _ _ _ _ _ _ _ _ _ _ _ _ _ _ _ _ _ _ _ _ _ _ c (by omega)) ⟨rfl, rfl⟩ ⟨Nat.le_of_ble_eq_true rfl, Nat.le_of_ble_eq_true rfl⟩ [0, 1, 2, 3, 4, 5, 6, 7, 8, 9, 10, 11, 12] rfl rfl 0 rfl dX8_pays_44 rfl rfl (Nat.le_of_ble_eq_true rfl) ?_
      refine rh_minl hX mm_X8_261 dX8_pays_47 (Nat.le_of_ble_eq_true rfl) (Nat.le_of_ble_eq_true rfl) ?_
      refine rh_lastore hX 11 _ dX8_pays_50 rfl rfl (by omega) (by decide) rfl ?_
      dsimp only [List.set_cons_succ, List.set_cons_zero]
      first | rw [hst] | rw [show va_up (pRow (cDue (fm u)) pa set s T j) c (if cPref (fm u) c < (pLeft (cDue (fm u)) set s T j) then cPref (fm u) c else (pLeft (cDue (fm u)) set s T j)) = (pRow (cDue (fm u)) pa set s T (j + 1)) from hst]
      refine rh_lload hX dX8_pays_51 rfl ?_
      refine rh_aload_n hX dX8_pays_53 rfl ?_
      refine rh_get hX gl_X8_42 0 dX8_pays_54 rfl rfl ?_
      refine rh_iload hX dX8_pays_57 rfl ?_
      refine rh_laload hX 11 _ dX8_pays_59 rfl rfl (by omega) (by decide) ?_
      rw [pRow_at (cDue (fm u)) pa set s T (j + 1) c (by omega)]
      refine rh_lsub hX dX8_pays_60 ?_
      rw [← hls]
      refine rh_lst4 hX dX8_pays_61 (by decide) rfl ?_
      refine rh_inc6 hX dX8_pays_63 (by decide) rfl (rn_dm hc1) ?_
      refine rh_goto (tgt := 14) hX dX8_pays_66 (by decide) ?_
      exact ihj
    · skip
      have hst : va_up (pRow (cDue (fm u)) pa set s T j) c 0 = (pRow (cDue (fm u)) pa set s T (j + 1)) := by rw [← hrs, hpf, if_pos (show sBit set c = 1 from h32)]
      refine rh_lconst hX dX8_pays_35 kL_0 ?_
      refine rh_goto (tgt := 50) hX dX8_pays_36 (by decide) ?_
      refine rh_lastore hX 11 _ dX8_pays_50 rfl rfl (by omega) (by decide) rfl ?_
      dsimp only [List.set_cons_succ, List.set_cons_zero]
      first | rw [hst] | rw [show va_up (pRow (cDue (fm u)) pa set s T j) c (if cPref (fm u) c < (pLeft (cDue (fm u)) set s T j) then cPref (fm u) c else (pLeft (cDue (fm u)) set s T j)) = (pRow (cDue (fm u)) pa set s T (j + 1)) from hst]
      refine rh_lload hX dX8_pays_51 rfl ?_
      refine rh_aload_n hX dX8_pays_53 rfl ?_
      refine rh_get hX gl_X8_42 0 dX8_pays_54 rfl rfl ?_
      refine rh_iload hX dX8_pays_57 rfl ?_
      refine rh_laload hX 11 _ dX8_pays_59 rfl rfl (by omega) (by decide) ?_
      rw [pRow_at (cDue (fm u)) pa set s T (j + 1) c (by omega)]
      refine rh_lsub hX dX8_pays_60 ?_
      rw [← hls]
      refine rh_lst4 hX dX8_pays_61 (by decide) rfl ?_
      refine rh_inc6 hX dX8_pays_63 (by decide) rfl (rn_dm hc1) ?_
      refine rh_goto (tgt := 14) hX dX8_pays_66 (by decide) ?_
      exact ihj
