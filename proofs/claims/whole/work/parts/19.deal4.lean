theorem mc_ext {cvs cvs' : Nat → Int64} {pr is sm nA bA : Int64} {s : (Nat → Int64) × Int32} : ∀ T, (∀ c, 1 ≤ c → c < T → cvs c = cvs' c) → mc cvs pr is sm nA bA s T = mc cvs' pr is sm nA bA s T
  | 0, _ => rfl
  | c + 1, h => by
    unfold mc
    by_cases e : c = 0
    · rw [if_pos e, if_pos e]
    · rw [if_neg e, if_neg e, mc_ext c (fun x h1 h2 => h x h1 (by omega))]
      unfold mcGo
      rw [h c (by omega) (by omega)]
theorem stl_ext {T : Nat} {vl tp : Int64} {lt : Int32} {mn : Nat → Int64} {sm : Int64} {cvs cvs' : Nat → Int64} {pA bA nA : Int64} (h : ∀ c, 1 ≤ c → c < T → cvs c = cvs' c) : ∀ (k : Nat) (f : Nat → Int64) (ot : Int64) (n : Nat), stl T vl tp lt mn sm cvs pA bA nA k f ot n = stl T vl tp lt mn sm cvs' pA bA nA k f ot n
  | 0, f, ot, n => by rw [stl_0, stl_0]
  | k + 1, f, ot, n => by
    rw [stl_s T vl tp lt mn sm cvs pA bA nA k f ot n _ _ _ _ _ _ rfl rfl rfl rfl rfl rfl, stl_s T vl tp lt mn sm cvs' pA bA nA k f ot n _ _ _ _ _ _ rfl rfl rfl rfl rfl rfl]
    have e : stM T mn sm cvs nA bA f (stPr vl lt f ot) = stM T mn sm cvs' nA bA f (stPr vl lt f ot) := mc_ext T h
    rw [e, stl_ext h k]

set_option maxRecDepth 100000 in
set_option maxHeartbeats 4000000 in
theorem c_X0_settles (l : Launch) (E : rhE) (o ho ha ac al an : Nat) (f cvs lst nws : Nat → Int64) (ls : Int32) (pA bA nA pr is : Int64) (tn : Int32) (fl : Int64) (to ta tb : Nat) (vl tp : Int64) (lt : Int32) (fc mn : Nat → Int64) (sm : Int64) (T : Nat) (hT : (f 171).toInt32 = nI T) (hT6 : T ≤ 6) (hT1 : 1 ≤ T) : Ctr l E yX0_settles cX0_settles 7 (some .int) (rmL 5) [.ref o, .ref to] (wD E o ho ha ac al an f cvs lst nws ls pA bA nA pr is tn fl ++ wT E to ta tb vl tp lt fc mn sm) (fun r w => ∃ (f1 cvs1 nws1 : Nat → Int64) (pA1 bA1 nA1 pr1 is1 : Int64) (tn1 : Int32) (fl1 : Int64), r = some (Value.int (dSettle f T vl tp lt fc mn sm).1) ∧ (∀ q, (dSettle f T vl tp lt fc mn sm).2 = some q → f1 = q.1 ∧ is1 = q.2.1 ∧ tn1 = nI q.2.2.1 ∧ fl1 = q.2.2.2) ∧ w = wD E o ho ha ac al an f1 cvs1 lst nws1 ls pA1 bA1 nA1 pr1 is1 tn1 fl1 ++ wT E to ta tb vl tp lt fc mn sm) := by
  refine Ctr.of (by decide) (Nat.le_of_ble_eq_true rfl) rfl rfl 5 ?_
  intro X hX hR
  refine rh_aload_n hX dX0_settles_0 rfl ?_
  refine rh_get hX gl_X0_12 0 dX0_settles_1 rfl rfl ?_
  refine rh_pV hX lk_X0_47 mvX1_types (fun l => c_X1_types l E _ _ _ T hT hT6) ⟨rfl, rfl⟩ ⟨Nat.le_of_ble_eq_true rfl, Nat.le_of_ble_eq_true rfl⟩ [1, 2] rfl rfl 1 rfl dX0_settles_4 rfl rfl (Nat.le_of_ble_eq_true rfl) ?_
  refine rh_bipush hX dX0_settles_7 kb_6 ?_
  refine rh_icmp_lt (tgt := 15) hX dX0_settles_9 (by decide) (fun h9 => ?_) (fun h9 => ?_)
  · skip
    have h9 : T < 6 := Nat.lt_of_not_le (fun q => nI_nlt (b := 6) q (by omega) h9)
    refine rh_aload_n hX dX0_settles_15 rfl ?_
    refine rh_get hX gl_X0_90 6 dX0_settles_16 rfl rfl ?_
    refine rh_ldc2 hX dX0_settles_19 kl_X0_93 ?_
    refine rh_lle (tgt := 29) hX dX0_settles_22 dX0_settles_23 (by decide) (fun h22 => ?_) (fun h22 => ?_)
    · skip
      have hDS : dSettle f T vl tp lt fc mn sm = ((stl T vl tp lt mn sm (row1 (fun c => cFact f c 1) cvs T) (f 170) (cSize f T) (cAllVotes f T) 200 f (cSize f T - f 170) 1).1, (stl T vl tp lt mn sm (row1 (fun c => cFact f c 1) cvs T) (f 170) (cSize f T) (cAllVotes f T) 200 f (cSize f T - f 170) 1).2.map (fun q => (acF q.1 T fc mn q.2.1 vl sm q.2.2.1 (nI q.2.2.2.1).toInt64 q.2.2.2.2, q.2.2.1, q.2.2.2.1, q.2.2.2.2))) := by
        rw [dSettle, if_neg (Nat.not_le.mpr h9), if_neg (rh_le64.mp h22), stl_ext (cvs := row1 (fun c => cFact f c 1) (fun _ => 0) T) (cvs' := row1 (fun c => cFact f c 1) cvs T) (fun c c1 c2 => by unfold row1; rw [if_pos ⟨c1, c2⟩, if_pos ⟨c1, c2⟩])]
      have hbad : ∀ (cd : Int32), (stl T vl tp lt mn sm (row1 (fun c => cFact f c 1) cvs T) (f 170) (cSize f T) (cAllVotes f T) 200 f (cSize f T - f 170) 1) = (cd, none) → ∀ (f2 cvs2 nws2 : Nat → Int64) (pA2 bA2 nA2 pr2 is2 : Int64) (tn2 : Int32) (fl2 : Int64), ∃ (f1 cvs1 nws1 : Nat → Int64) (pA1 bA1 nA1 pr1 is1 : Int64) (tn1 : Int32) (fl1 : Int64), some (Value.int cd) = some (Value.int (dSettle f T vl tp lt fc mn sm).1) ∧ (∀ q, (dSettle f T vl tp lt fc mn sm).2 = some q → f1 = q.1 ∧ is1 = q.2.1 ∧ tn1 = nI q.2.2.1 ∧ fl1 = q.2.2.2) ∧ (wD E o ho ha ac al an f2 cvs2 lst nws2 ls pA2 bA2 nA2 pr2 is2 tn2 fl2 ++ wT E to ta tb vl tp lt fc mn sm) = wD E o ho ha ac al an f1 cvs1 lst nws1 ls pA1 bA1 nA1 pr1 is1 tn1 fl1 ++ wT E to ta tb vl tp lt fc mn sm := fun cd hcd f2 cvs2 nws2 pA2 bA2 nA2 pr2 is2 tn2 fl2 => ⟨f2, cvs2, nws2, pA2, bA2, nA2, pr2, is2, tn2, fl2, by rw [hDS, hcd], (fun q h => by rw [hDS, hcd] at h; cases h), rfl⟩
      refine rh_aload_n hX dX0_settles_29 rfl ?_
      refine rh_uV hX lk_X0_95 mvX0_notesAhead (fun l => c_X0_notesAhead l E _ _ _ _ _ _ _ _ _ _ _ _ _ _ _ _ _ _ T hT hT6 hT1) ⟨rfl, rfl⟩ ⟨Nat.le_of_ble_eq_true rfl, Nat.le_of_ble_eq_true rfl⟩ [0, 1, 2, 3, 4, 5] rfl rfl 0 rfl dX0_settles_30 rfl rfl (Nat.le_of_ble_eq_true rfl) rfl ?_
      dsimp only [List.cons_append, List.nil_append, List.set_cons_succ, List.set_cons_zero, vput]
      refine rh_aload_n hX dX0_settles_33 rfl ?_
      refine rh_get hX gl_X0_98 0 dX0_settles_34 rfl rfl ?_
      refine rh_aload_n hX dX0_settles_37 rfl ?_
      refine rh_get hX gl_X0_101 0 dX0_settles_38 rfl rfl ?_
      refine rh_lsub hX dX0_settles_41 ?_
      refine rh_lstn2 hX dX0_settles_42 (by decide) rfl ?_
      refine rh_aload_n hX dX0_settles_43 rfl ?_
      refine rh_iconst hX dX0_settles_44 ki_1 ?_
      refine rh_put hX gl_X0_104 0 dX0_settles_45 rfl rfl rfl (Nat.le_of_ble_eq_true rfl) rfl ?_
      dsimp only [List.cons_append, List.nil_append, List.set_cons_succ, List.set_cons_zero, vput]
      refine (rh_loop (P := fun n => ∀ (f1 : Nat → Int64) (ot : Int64) (nws1 : Nat → Int64) (pr1 is1 fl1 : Int64), (f1 171 = f 171 ∧ (stl T vl tp lt mn sm (row1 (fun c => cFact f c 1) cvs T) (f 170) (cSize f T) (cAllVotes f T) 200 f (cSize f T - f 170) 1) = stl T vl tp lt mn sm (row1 (fun c => cFact f c 1) cvs T) (f 170) (cSize f T) (cAllVotes f T) (201 - n) f1 ot n) → G X 48 [some (.ref o), some (.ref to), some (.long ot), none, none, none, none] [] (wD E o ho ha ac al an f1 (row1 (fun c => cFact f c 1) cvs T) lst nws1 ls (f 170) (cSize f T) (cAllVotes f T) pr1 is1 (nI n) fl1 ++ wT E to ta tb vl tp lt fc mn sm)) (1) (201) (by omega) ?_ ?_) f _ nws pr is fl ⟨rfl, rfl⟩
      · intro f1 ot nws1 pr1 is1 fl1 hH
        have hH2 := hH.2
        rw [Nat.sub_self, stl_0] at hH2
        refine rh_aload_n hX dX0_settles_48 rfl ?_
        refine rh_get hX gl_X0_104 0 dX0_settles_49 rfl rfl ?_
        refine rh_sipush hX dX0_settles_52 ks_200 ?_
        refine rh_icmp_gt_t (tgt := 260) hX dX0_settles_55 (by decide) (by decide) ?_
        refine rh_bipush hX dX0_settles_260 kb_m4 ?_
        exact rh_iret hX hR dX0_settles_262 (by simp only [List.map_cons, List.map_nil, List.cons_append, List.nil_append]) (hbad _ hH2 _ _ _ _ _ _ _ _ _ _)
      · intro n hn0 hn ihn f1 ot nws1 pr1 is1 fl1 hH
        obtain ⟨k, hk⟩ : ∃ k, 201 - n = k + 1 := ⟨201 - n - 1, by omega⟩
        have hk2 : 201 - (n + 1) = k := by omega
        obtain ⟨hf1, hH2⟩ := hH
        obtain ⟨pr, e1⟩ : ∃ z, z = stPr vl lt f1 ot := ⟨_, rfl⟩
        obtain ⟨is, e2⟩ : ∃ z, z = stIs mn pr := ⟨_, rfl⟩
        obtain ⟨M, e3⟩ : ∃ z, z = stM T mn sm (row1 (fun c => cFact f c 1) cvs T) (cAllVotes f T) (cSize f T) f1 pr := ⟨_, rfl⟩
        obtain ⟨ot1, e4⟩ : ∃ z, z = stOt T M := ⟨_, rfl⟩
        obtain ⟨tp1, e5⟩ : ∃ z, z = stTp tp (f 170) (ot1 + is) := ⟨_, rfl⟩
        obtain ⟨fl2, e6⟩ : ∃ z, z = ot1 + is + tp1 := ⟨_, rfl⟩
        rw [hk, stl_s T vl tp lt mn sm _ (f 170) (cSize f T) (cAllVotes f T) k f1 ot n pr is ot1 tp1 fl2 M e1 e2 e3 e4 e5 e6] at hH2
        rw [hk2] at ihn
        have hM1 : M.1 171 = f 171 := by rw [e3, stM, mc_at _ _ _ _ _ _ _ 171 (by decide) T hT6]; exact hf1
        have e3b : mc (row1 (fun c => cFact f c 1) cvs T) pr is sm (cAllVotes f T) (cSize f T) (f1, 0) T = M := by rw [e3, stM, ← e2]
        skip
        refine rh_aload_n hX dX0_settles_48 rfl ?_
        refine rh_get hX gl_X0_104 0 dX0_settles_49 rfl rfl ?_
        refine rh_sipush hX dX0_settles_52 ks_200 ?_
        refine rh_icmp_gt_f (tgt := 260) hX dX0_settles_55 (by decide) (nI_nlt (b := n) (a := 200) (by omega) (by decide)) ?_
        refine rh_aload_n hX dX0_settles_58 rfl ?_
        refine rh_ldc2 hX dX0_settles_59 kl_X0_107 ?_
        refine rh_aload_n hX dX0_settles_62 rfl ?_
        refine rh_get hX gl_X0_90 6 dX0_settles_63 rfl rfl ?_
        refine rh_lmul hX dX0_settles_66 ?_
        refine rh_aload_n hX dX0_settles_67 rfl ?_
        refine rh_get hX gl_X0_109 6 dX0_settles_68 rfl rfl ?_
        refine rh_if_eq (tgt := 78) hX dX0_settles_71 (by decide) (fun h71 => ?_) (fun h71 => ?_)
        · skip
          refine rh_lload_n hX dX0_settles_78 rfl ?_
          refine rh_aload_n hX dX0_settles_79 rfl ?_
          refine rh_get hX gl_X0_12 0 dX0_settles_80 rfl rfl ?_
          refine rh_pV hX lk_X0_113 mvX1_spare (fun l => c_X1_spare l E _ _ _) ⟨rfl, rfl⟩ ⟨Nat.le_of_ble_eq_true rfl, Nat.le_of_ble_eq_true rfl⟩ [1, 2] rfl rfl 1 rfl dX0_settles_83 rfl rfl (Nat.le_of_ble_eq_true rfl) ?_
          refine rh_ladd hX dX0_settles_86 ?_
          refine rh_pS hX lk_X0_75 msX7_quotient (fun l => c_X7_quotient l E _ _) ⟨rfl, rfl⟩ ⟨Nat.le_of_ble_eq_true rfl, Nat.le_of_ble_eq_true rfl⟩ [] rfl rfl dX0_settles_87 rfl rfl (Nat.le_of_ble_eq_true rfl) ?_
          rw [show cQuot (10000 * vl) _ = pr by rw [e1, stPr]; first | rw [if_pos h71] | rw [if_neg h71]]
          refine rh_put hX gl_X0_117 0 dX0_settles_90 rfl rfl rfl (Nat.le_of_ble_eq_true rfl) rfl ?_
          dsimp only [List.cons_append, List.nil_append, List.set_cons_succ, List.set_cons_zero, vput]
          refine rh_aload_n hX dX0_settles_93 rfl ?_
          refine rh_get hX gl_X0_117 0 dX0_settles_94 rfl rfl ?_
          refine rh_lconst hX dX0_settles_97 kL_1 ?_
          refine rh_llt (tgt := 113) hX dX0_settles_98 dX0_settles_99 (by decide) (fun h98 => ?_) (fun h98 => ?_)
          · skip
            refine rh_bipush hX dX0_settles_113 kb_m3 ?_
            exact rh_iret hX hR dX0_settles_115 (by simp only [List.map_cons, List.map_nil, List.cons_append, List.nil_append]) (hbad _ (by first | (rw [hH2, if_pos h98]; done) | (rw [hH2, if_neg h98, if_pos (Classical.not_not.mp (fun q => h109 (rh_le64.mpr q)))]; done)) _ _ _ _ _ _ _ _ _ _)
          · skip
            refine rh_aload_n hX dX0_settles_102 rfl ?_
            refine rh_get hX gl_X0_117 0 dX0_settles_103 rfl rfl ?_
            refine rh_ldc2 hX dX0_settles_106 kl_X0_120 ?_
            refine rh_lle (tgt := 116) hX dX0_settles_109 dX0_settles_110 (by decide) (fun h109 => ?_) (fun h109 => ?_)
            · skip
              refine rh_aload_n hX dX0_settles_116 rfl ?_
              refine rh_aload_n hX dX0_settles_117 rfl ?_
              refine rh_uV hX lk_X0_122 mvX0_allots (fun l => c_X0_allots l E _ _ _ _ _ _ _ _ _ _ _ _ _ _ _ _ _ _ _ _ _ _ _ _ _ _ _ ) ⟨rfl, rfl⟩ ⟨Nat.le_of_ble_eq_true rfl, Nat.le_of_ble_eq_true rfl⟩ [0, 1, 2, 3, 4, 5, 6, 7, 8] rfl rfl 0 rfl dX0_settles_118 rfl rfl (Nat.le_of_ble_eq_true rfl) rfl ?_
              dsimp only [List.cons_append, List.nil_append, List.set_cons_succ, List.set_cons_zero, vput]
              rw [show sumF 0 (fun h => cQuot (10000 * mn h) pr) 8 = is from e2.symm]
              refine rh_aload_n hX dX0_settles_121 rfl ?_
              refine rh_aload_n hX dX0_settles_122 rfl ?_
              refine rh_wV hX lk_X0_126 mvX0_movesConvs (fun l => c_X0_movesConvs l E _ _ _ _ _ _ _ _ _ _ _ _ _ _ _ _ _ _ _ _ _ _ _ _ _ _ _ T (by rw [hf1]; exact hT) hT6 hT1) ⟨rfl, rfl⟩ ⟨Nat.le_of_ble_eq_true rfl, Nat.le_of_ble_eq_true rfl⟩ [0, 1, 2, 3, 4, 5, 6, 7, 8] rfl rfl 0 rfl dX0_settles_123 rfl rfl (Nat.le_of_ble_eq_true rfl) rfl ?_
              dsimp only [List.cons_append, List.nil_append, List.set_cons_succ, List.set_cons_zero, vput]
              rw [e3b]
              refine rh_ist4 hX dX0_settles_126 (by decide) rfl ?_
              refine rh_aload_n hX dX0_settles_128 rfl ?_
              refine rh_get hX gl_X0_12 0 dX0_settles_129 rfl rfl ?_
              refine rh_pV hX lk_X0_130 mvX1_size (fun l => c_X1_size l E _ _ _ T (by rw [hM1]; exact hT) hT6) ⟨rfl, rfl⟩ ⟨Nat.le_of_ble_eq_true rfl, Nat.le_of_ble_eq_true rfl⟩ [1, 2] rfl rfl 1 rfl dX0_settles_132 rfl rfl (Nat.le_of_ble_eq_true rfl) ?_
              refine rh_aload_n hX dX0_settles_135 rfl ?_
              refine rh_get hX gl_X0_12 0 dX0_settles_136 rfl rfl ?_
              refine rh_pV hX lk_X0_113 mvX1_spare (fun l => c_X1_spare l E _ _ _) ⟨rfl, rfl⟩ ⟨Nat.le_of_ble_eq_true rfl, Nat.le_of_ble_eq_true rfl⟩ [1, 2] rfl rfl 1 rfl dX0_settles_139 rfl rfl (Nat.le_of_ble_eq_true rfl) ?_
              refine rh_lsub hX dX0_settles_142 ?_
              rw [show cSize M.1 T - M.1 170 = ot1 from e4.symm]
              refine rh_lstn2 hX dX0_settles_143 (by decide) rfl ?_
              refine rh_lload_n hX dX0_settles_144 rfl ?_
              refine rh_aload_n hX dX0_settles_145 rfl ?_
              refine rh_get hX gl_X0_133 0 dX0_settles_146 rfl rfl ?_
              refine rh_ladd hX dX0_settles_149 ?_
              refine rh_ldc2 hX dX0_settles_150 kl_X0_93 ?_
              refine rh_lle (tgt := 160) hX dX0_settles_153 dX0_settles_154 (by decide) (fun h153 => ?_) (fun h153 => ?_)
              · skip
                refine rh_aload_n hX dX0_settles_160 rfl ?_
                refine rh_get hX gl_X0_101 0 dX0_settles_161 rfl rfl ?_
                refine rh_aload_n hX dX0_settles_164 rfl ?_
                refine rh_get hX gl_X0_136 6 dX0_settles_165 rfl rfl ?_
                refine rh_lload_n hX dX0_settles_168 rfl ?_
                refine rh_aload_n hX dX0_settles_169 rfl ?_
                refine rh_get hX gl_X0_133 0 dX0_settles_170 rfl rfl ?_
                refine rh_ladd hX dX0_settles_173 ?_
                refine rh_pS hX lk_X0_139 msX0_toppedUp (fun l => c_X0_toppedUp l E _ _) ⟨rfl, rfl⟩ ⟨Nat.le_of_ble_eq_true rfl, Nat.le_of_ble_eq_true rfl⟩ [] rfl rfl dX0_settles_174 rfl rfl (Nat.le_of_ble_eq_true rfl) ?_
                refine rh_maxl hX mm_X0_142 dX0_settles_177 (Nat.le_of_ble_eq_true rfl) (Nat.le_of_ble_eq_true rfl) ?_
                rw [show (if cTop tp (ot1 + is) < f 170 then f 170 else cTop tp (ot1 + is)) = tp1 from e5.symm]
                refine rh_lst5 hX dX0_settles_180 (by decide) rfl ?_
                refine rh_aload_n hX dX0_settles_182 rfl ?_
                refine rh_lload_n hX dX0_settles_183 rfl ?_
                refine rh_aload_n hX dX0_settles_184 rfl ?_
                refine rh_get hX gl_X0_133 0 dX0_settles_185 rfl rfl ?_
                refine rh_ladd hX dX0_settles_188 ?_
                refine rh_lload hX dX0_settles_189 rfl ?_
                refine rh_ladd hX dX0_settles_191 ?_
                rw [show ot1 + is + tp1 = fl2 from e6.symm]
                refine rh_put hX gl_X0_147 0 dX0_settles_192 rfl rfl rfl (Nat.le_of_ble_eq_true rfl) rfl ?_
                dsimp only [List.cons_append, List.nil_append, List.set_cons_succ, List.set_cons_zero, vput]
                refine rh_aload_n hX dX0_settles_195 rfl ?_
                refine rh_get hX gl_X0_147 0 dX0_settles_196 rfl rfl ?_
                refine rh_ldc2 hX dX0_settles_199 kl_X0_93 ?_
                refine rh_lle (tgt := 209) hX dX0_settles_202 dX0_settles_203 (by decide) (fun h202 => ?_) (fun h202 => ?_)
                · skip
                  refine rh_lload hX dX0_settles_209 rfl ?_
                  refine rh_aload_n hX dX0_settles_211 rfl ?_
                  refine rh_get hX gl_X0_12 0 dX0_settles_212 rfl rfl ?_
                  refine rh_pV hX lk_X0_113 mvX1_spare (fun l => c_X1_spare l E _ _ _) ⟨rfl, rfl⟩ ⟨Nat.le_of_ble_eq_true rfl, Nat.le_of_ble_eq_true rfl⟩ [1, 2] rfl rfl 1 rfl dX0_settles_215 rfl rfl (Nat.le_of_ble_eq_true rfl) ?_
                  refine rh_lne (tgt := 238) hX dX0_settles_218 dX0_settles_219 (by decide) (fun h218 => ?_) (fun h218 => ?_)
                  · skip
                    have hst : ¬ (tp1 = M.1 170 ∧ M.2 = 0) := fun q => h218 q.1
                    refine rh_aload_n hX dX0_settles_238 rfl ?_
                    refine rh_get hX gl_X0_12 0 dX0_settles_239 rfl rfl ?_
                    refine rh_lload hX dX0_settles_242 rfl ?_
                    refine rh_uV hX lk_X0_153 mvX1_setSpare (fun l => c_X1_setSpare l E _ _ _ _) ⟨rfl, rfl⟩ ⟨Nat.le_of_ble_eq_true rfl, Nat.le_of_ble_eq_true rfl⟩ [1, 2] rfl rfl 1 rfl dX0_settles_244 rfl rfl (Nat.le_of_ble_eq_true rfl) rfl ?_
                    dsimp only [List.cons_append, List.nil_append, List.set_cons_succ, List.set_cons_zero, vput]
                    refine rh_aload_n hX dX0_settles_247 rfl ?_
                    refine rh_dup hX dX0_settles_248 rfl ?_
                    refine rh_get hX gl_X0_104 0 dX0_settles_249 rfl rfl ?_
                    refine rh_iconst hX dX0_settles_252 ki_1 ?_
                    refine rh_iadd hX dX0_settles_253 ?_
                    rw [show nI n + 1 = nI (n + 1) from (nI_succ n).symm]
                    refine rh_put hX gl_X0_104 0 dX0_settles_254 rfl rfl rfl (Nat.le_of_ble_eq_true rfl) rfl ?_
                    dsimp only [List.cons_append, List.nil_append, List.set_cons_succ, List.set_cons_zero, vput]
                    refine rh_goto (tgt := 48) hX dX0_settles_257 (by decide) ?_
                    exact rh_wk (by exact ⟨rfl, rfl, rfl, trivial⟩) (ihn _ _ _ _ _ _ ⟨by rw [show va_up M.1 170 tp1 171 = M.1 171 from if_neg (by decide)]; exact hM1, by rw [hH2, if_neg h98, if_neg (rh_le64.mp h109), if_neg (rh_le64.mp h153), if_neg (rh_le64.mp h202), if_neg hst]⟩)
                  · skip
                    refine rh_iload hX dX0_settles_222 rfl ?_
                    refine rh_if_ne (tgt := 238) hX dX0_settles_224 (by decide) (fun h224 => ?_) (fun h224 => ?_)
                    · skip
                      have hst : ¬ (tp1 = M.1 170 ∧ M.2 = 0) := fun q => h224 q.2
                      refine rh_aload_n hX dX0_settles_238 rfl ?_
                      refine rh_get hX gl_X0_12 0 dX0_settles_239 rfl rfl ?_
                      refine rh_lload hX dX0_settles_242 rfl ?_
                      refine rh_uV hX lk_X0_153 mvX1_setSpare (fun l => c_X1_setSpare l E _ _ _ _) ⟨rfl, rfl⟩ ⟨Nat.le_of_ble_eq_true rfl, Nat.le_of_ble_eq_true rfl⟩ [1, 2] rfl rfl 1 rfl dX0_settles_244 rfl rfl (Nat.le_of_ble_eq_true rfl) rfl ?_
                      dsimp only [List.cons_append, List.nil_append, List.set_cons_succ, List.set_cons_zero, vput]
                      refine rh_aload_n hX dX0_settles_247 rfl ?_
                      refine rh_dup hX dX0_settles_248 rfl ?_
                      refine rh_get hX gl_X0_104 0 dX0_settles_249 rfl rfl ?_
                      refine rh_iconst hX dX0_settles_252 ki_1 ?_
                      refine rh_iadd hX dX0_settles_253 ?_
                      rw [show nI n + 1 = nI (n + 1) from (nI_succ n).symm]
                      refine rh_put hX gl_X0_104 0 dX0_settles_254 rfl rfl rfl (Nat.le_of_ble_eq_true rfl) rfl ?_
                      dsimp only [List.cons_append, List.nil_append, List.set_cons_succ, List.set_cons_zero, vput]
                      refine rh_goto (tgt := 48) hX dX0_settles_257 (by decide) ?_
                      exact rh_wk (by exact ⟨rfl, rfl, rfl, trivial⟩) (ihn _ _ _ _ _ _ ⟨by rw [show va_up M.1 170 tp1 171 = M.1 171 from if_neg (by decide)]; exact hM1, by rw [hH2, if_neg h98, if_neg (rh_le64.mp h109), if_neg (rh_le64.mp h153), if_neg (rh_le64.mp h202), if_neg hst]⟩)
                    · skip
                      refine rh_aload_n hX dX0_settles_227 rfl ?_
                      refine rh_aload_n hX dX0_settles_228 rfl ?_
                      refine rh_uV hX lk_X0_150 mvX0_addsClass (fun l => c_X0_addsClass l E _ _ _ _ _ _ _ _ _ _ _ _ _ _ _ _ _ _ _ _ _ _ _ _ _ _ T (by rw [hM1]; exact hT) hT6 hT1 h9) ⟨rfl, rfl⟩ ⟨Nat.le_of_ble_eq_true rfl, Nat.le_of_ble_eq_true rfl⟩ [0, 1, 2, 3, 4, 5, 6, 7, 8] rfl rfl 0 rfl dX0_settles_229 rfl rfl (Nat.le_of_ble_eq_true rfl) rfl ?_
                      dsimp only [List.cons_append, List.nil_append, List.set_cons_succ, List.set_cons_zero, vput]
                      refine rh_aload_n hX dX0_settles_232 rfl ?_
                      refine rh_get hX gl_X0_117 0 dX0_settles_233 rfl rfl ?_
                      refine rh_l2i hX dX0_settles_236 ?_
                      exact rh_iret hX hR dX0_settles_237 (by simp only [List.map_cons, List.map_nil, List.cons_append, List.nil_append]) ⟨_, _, _, _, _, _, _, _, _, _, by rw [hDS, hH2, if_neg h98, if_neg (rh_le64.mp h109), if_neg (rh_le64.mp h153), if_neg (rh_le64.mp h202), if_pos ⟨h218, h224⟩], (fun q h => by rw [hDS, hH2, if_neg h98, if_neg (rh_le64.mp h109), if_neg (rh_le64.mp h153), if_neg (rh_le64.mp h202), if_pos ⟨h218, h224⟩] at h; cases h; exact ⟨rfl, rfl, rfl, rfl⟩), rfl⟩
                · skip
                  refine rh_bipush hX dX0_settles_206 kb_m9 ?_
                  exact rh_iret hX hR dX0_settles_208 (by simp only [List.map_cons, List.map_nil, List.cons_append, List.nil_append]) (hbad _ (by rw [hH2, if_neg h98, if_neg (rh_le64.mp h109), if_neg (rh_le64.mp h153), if_pos (Classical.not_not.mp (fun q => h202 (rh_le64.mpr q)))]) _ _ _ _ _ _ _ _ _ _)
              · skip
                refine rh_bipush hX dX0_settles_157 kb_m9 ?_
                exact rh_iret hX hR dX0_settles_159 (by simp only [List.map_cons, List.map_nil, List.cons_append, List.nil_append]) (hbad _ (by rw [hH2, if_neg h98, if_neg (rh_le64.mp h109), if_pos (Classical.not_not.mp (fun q => h153 (rh_le64.mpr q)))]) _ _ _ _ _ _ _ _ _ _)
            · skip
              refine rh_bipush hX dX0_settles_113 kb_m3 ?_
              exact rh_iret hX hR dX0_settles_115 (by simp only [List.map_cons, List.map_nil, List.cons_append, List.nil_append]) (hbad _ (by first | (rw [hH2, if_pos h98]; done) | (rw [hH2, if_neg h98, if_pos (Classical.not_not.mp (fun q => h109 (rh_le64.mpr q)))]; done)) _ _ _ _ _ _ _ _ _ _)
        · skip
          refine rh_lload_n hX dX0_settles_74 rfl ?_
          refine rh_goto (tgt := 87) hX dX0_settles_75 (by decide) ?_
          refine rh_pS hX lk_X0_75 msX7_quotient (fun l => c_X7_quotient l E _ _) ⟨rfl, rfl⟩ ⟨Nat.le_of_ble_eq_true rfl, Nat.le_of_ble_eq_true rfl⟩ [] rfl rfl dX0_settles_87 rfl rfl (Nat.le_of_ble_eq_true rfl) ?_
          rw [show cQuot (10000 * vl) _ = pr by rw [e1, stPr]; first | rw [if_pos h71] | rw [if_neg h71]]
          refine rh_put hX gl_X0_117 0 dX0_settles_90 rfl rfl rfl (Nat.le_of_ble_eq_true rfl) rfl ?_
          dsimp only [List.cons_append, List.nil_append, List.set_cons_succ, List.set_cons_zero, vput]
          refine rh_aload_n hX dX0_settles_93 rfl ?_
          refine rh_get hX gl_X0_117 0 dX0_settles_94 rfl rfl ?_
          refine rh_lconst hX dX0_settles_97 kL_1 ?_
          refine rh_llt (tgt := 113) hX dX0_settles_98 dX0_settles_99 (by decide) (fun h98 => ?_) (fun h98 => ?_)
          · skip
            refine rh_bipush hX dX0_settles_113 kb_m3 ?_
            exact rh_iret hX hR dX0_settles_115 (by simp only [List.map_cons, List.map_nil, List.cons_append, List.nil_append]) (hbad _ (by first | (rw [hH2, if_pos h98]; done) | (rw [hH2, if_neg h98, if_pos (Classical.not_not.mp (fun q => h109 (rh_le64.mpr q)))]; done)) _ _ _ _ _ _ _ _ _ _)
          · skip
            refine rh_aload_n hX dX0_settles_102 rfl ?_
            refine rh_get hX gl_X0_117 0 dX0_settles_103 rfl rfl ?_
            refine rh_ldc2 hX dX0_settles_106 kl_X0_120 ?_
            refine rh_lle (tgt := 116) hX dX0_settles_109 dX0_settles_110 (by decide) (fun h109 => ?_) (fun h109 => ?_)
            · skip
              refine rh_aload_n hX dX0_settles_116 rfl ?_
              refine rh_aload_n hX dX0_settles_117 rfl ?_
              refine rh_uV hX lk_X0_122 mvX0_allots (fun l => c_X0_allots l E _ _ _ _ _ _ _ _ _ _ _ _ _ _ _ _ _ _ _ _ _ _ _ _ _ _ _ ) ⟨rfl, rfl⟩ ⟨Nat.le_of_ble_eq_true rfl, Nat.le_of_ble_eq_true rfl⟩ [0, 1, 2, 3, 4, 5, 6, 7, 8] rfl rfl 0 rfl dX0_settles_118 rfl rfl (Nat.le_of_ble_eq_true rfl) rfl ?_
              dsimp only [List.cons_append, List.nil_append, List.set_cons_succ, List.set_cons_zero, vput]
              rw [show sumF 0 (fun h => cQuot (10000 * mn h) pr) 8 = is from e2.symm]
              refine rh_aload_n hX dX0_settles_121 rfl ?_
              refine rh_aload_n hX dX0_settles_122 rfl ?_
              refine rh_wV hX lk_X0_126 mvX0_movesConvs (fun l => c_X0_movesConvs l E _ _ _ _ _ _ _ _ _ _ _ _ _ _ _ _ _ _ _ _ _ _ _ _ _ _ _ T (by rw [hf1]; exact hT) hT6 hT1) ⟨rfl, rfl⟩ ⟨Nat.le_of_ble_eq_true rfl, Nat.le_of_ble_eq_true rfl⟩ [0, 1, 2, 3, 4, 5, 6, 7, 8] rfl rfl 0 rfl dX0_settles_123 rfl rfl (Nat.le_of_ble_eq_true rfl) rfl ?_
              dsimp only [List.cons_append, List.nil_append, List.set_cons_succ, List.set_cons_zero, vput]
              rw [e3b]
              refine rh_ist4 hX dX0_settles_126 (by decide) rfl ?_
              refine rh_aload_n hX dX0_settles_128 rfl ?_
              refine rh_get hX gl_X0_12 0 dX0_settles_129 rfl rfl ?_
              refine rh_pV hX lk_X0_130 mvX1_size (fun l => c_X1_size l E _ _ _ T (by rw [hM1]; exact hT) hT6) ⟨rfl, rfl⟩ ⟨Nat.le_of_ble_eq_true rfl, Nat.le_of_ble_eq_true rfl⟩ [1, 2] rfl rfl 1 rfl dX0_settles_132 rfl rfl (Nat.le_of_ble_eq_true rfl) ?_
              refine rh_aload_n hX dX0_settles_135 rfl ?_
              refine rh_get hX gl_X0_12 0 dX0_settles_136 rfl rfl ?_
              refine rh_pV hX lk_X0_113 mvX1_spare (fun l => c_X1_spare l E _ _ _) ⟨rfl, rfl⟩ ⟨Nat.le_of_ble_eq_true rfl, Nat.le_of_ble_eq_true rfl⟩ [1, 2] rfl rfl 1 rfl dX0_settles_139 rfl rfl (Nat.le_of_ble_eq_true rfl) ?_
              refine rh_lsub hX dX0_settles_142 ?_
              rw [show cSize M.1 T - M.1 170 = ot1 from e4.symm]
              refine rh_lstn2 hX dX0_settles_143 (by decide) rfl ?_
              refine rh_lload_n hX dX0_settles_144 rfl ?_
              refine rh_aload_n hX dX0_settles_145 rfl ?_
              refine rh_get hX gl_X0_133 0 dX0_settles_146 rfl rfl ?_
              refine rh_ladd hX dX0_settles_149 ?_
              refine rh_ldc2 hX dX0_settles_150 kl_X0_93 ?_
              refine rh_lle (tgt := 160) hX dX0_settles_153 dX0_settles_154 (by decide) (fun h153 => ?_) (fun h153 => ?_)
              · skip
                refine rh_aload_n hX dX0_settles_160 rfl ?_
                refine rh_get hX gl_X0_101 0 dX0_settles_161 rfl rfl ?_
                refine rh_aload_n hX dX0_settles_164 rfl ?_
                refine rh_get hX gl_X0_136 6 dX0_settles_165 rfl rfl ?_
                refine rh_lload_n hX dX0_settles_168 rfl ?_
                refine rh_aload_n hX dX0_settles_169 rfl ?_
                refine rh_get hX gl_X0_133 0 dX0_settles_170 rfl rfl ?_
                refine rh_ladd hX dX0_settles_173 ?_
                refine rh_pS hX lk_X0_139 msX0_toppedUp (fun l => c_X0_toppedUp l E _ _) ⟨rfl, rfl⟩ ⟨Nat.le_of_ble_eq_true rfl, Nat.le_of_ble_eq_true rfl⟩ [] rfl rfl dX0_settles_174 rfl rfl (Nat.le_of_ble_eq_true rfl) ?_
                refine rh_maxl hX mm_X0_142 dX0_settles_177 (Nat.le_of_ble_eq_true rfl) (Nat.le_of_ble_eq_true rfl) ?_
                rw [show (if cTop tp (ot1 + is) < f 170 then f 170 else cTop tp (ot1 + is)) = tp1 from e5.symm]
                refine rh_lst5 hX dX0_settles_180 (by decide) rfl ?_
                refine rh_aload_n hX dX0_settles_182 rfl ?_
                refine rh_lload_n hX dX0_settles_183 rfl ?_
                refine rh_aload_n hX dX0_settles_184 rfl ?_
                refine rh_get hX gl_X0_133 0 dX0_settles_185 rfl rfl ?_
                refine rh_ladd hX dX0_settles_188 ?_
                refine rh_lload hX dX0_settles_189 rfl ?_
                refine rh_ladd hX dX0_settles_191 ?_
                rw [show ot1 + is + tp1 = fl2 from e6.symm]
                refine rh_put hX gl_X0_147 0 dX0_settles_192 rfl rfl rfl (Nat.le_of_ble_eq_true rfl) rfl ?_
                dsimp only [List.cons_append, List.nil_append, List.set_cons_succ, List.set_cons_zero, vput]
                refine rh_aload_n hX dX0_settles_195 rfl ?_
                refine rh_get hX gl_X0_147 0 dX0_settles_196 rfl rfl ?_
                refine rh_ldc2 hX dX0_settles_199 kl_X0_93 ?_
                refine rh_lle (tgt := 209) hX dX0_settles_202 dX0_settles_203 (by decide) (fun h202 => ?_) (fun h202 => ?_)
                · skip
                  refine rh_lload hX dX0_settles_209 rfl ?_
                  refine rh_aload_n hX dX0_settles_211 rfl ?_
                  refine rh_get hX gl_X0_12 0 dX0_settles_212 rfl rfl ?_
                  refine rh_pV hX lk_X0_113 mvX1_spare (fun l => c_X1_spare l E _ _ _) ⟨rfl, rfl⟩ ⟨Nat.le_of_ble_eq_true rfl, Nat.le_of_ble_eq_true rfl⟩ [1, 2] rfl rfl 1 rfl dX0_settles_215 rfl rfl (Nat.le_of_ble_eq_true rfl) ?_
                  refine rh_lne (tgt := 238) hX dX0_settles_218 dX0_settles_219 (by decide) (fun h218 => ?_) (fun h218 => ?_)
                  · skip
                    have hst : ¬ (tp1 = M.1 170 ∧ M.2 = 0) := fun q => h218 q.1
                    refine rh_aload_n hX dX0_settles_238 rfl ?_
                    refine rh_get hX gl_X0_12 0 dX0_settles_239 rfl rfl ?_
                    refine rh_lload hX dX0_settles_242 rfl ?_
                    refine rh_uV hX lk_X0_153 mvX1_setSpare (fun l => c_X1_setSpare l E _ _ _ _) ⟨rfl, rfl⟩ ⟨Nat.le_of_ble_eq_true rfl, Nat.le_of_ble_eq_true rfl⟩ [1, 2] rfl rfl 1 rfl dX0_settles_244 rfl rfl (Nat.le_of_ble_eq_true rfl) rfl ?_
                    dsimp only [List.cons_append, List.nil_append, List.set_cons_succ, List.set_cons_zero, vput]
                    refine rh_aload_n hX dX0_settles_247 rfl ?_
                    refine rh_dup hX dX0_settles_248 rfl ?_
                    refine rh_get hX gl_X0_104 0 dX0_settles_249 rfl rfl ?_
                    refine rh_iconst hX dX0_settles_252 ki_1 ?_
                    refine rh_iadd hX dX0_settles_253 ?_
                    rw [show nI n + 1 = nI (n + 1) from (nI_succ n).symm]
                    refine rh_put hX gl_X0_104 0 dX0_settles_254 rfl rfl rfl (Nat.le_of_ble_eq_true rfl) rfl ?_
                    dsimp only [List.cons_append, List.nil_append, List.set_cons_succ, List.set_cons_zero, vput]
                    refine rh_goto (tgt := 48) hX dX0_settles_257 (by decide) ?_
                    exact rh_wk (by exact ⟨rfl, rfl, rfl, trivial⟩) (ihn _ _ _ _ _ _ ⟨by rw [show va_up M.1 170 tp1 171 = M.1 171 from if_neg (by decide)]; exact hM1, by rw [hH2, if_neg h98, if_neg (rh_le64.mp h109), if_neg (rh_le64.mp h153), if_neg (rh_le64.mp h202), if_neg hst]⟩)
                  · skip
                    refine rh_iload hX dX0_settles_222 rfl ?_
                    refine rh_if_ne (tgt := 238) hX dX0_settles_224 (by decide) (fun h224 => ?_) (fun h224 => ?_)
                    · skip
                      have hst : ¬ (tp1 = M.1 170 ∧ M.2 = 0) := fun q => h224 q.2
                      refine rh_aload_n hX dX0_settles_238 rfl ?_
                      refine rh_get hX gl_X0_12 0 dX0_settles_239 rfl rfl ?_
                      refine rh_lload hX dX0_settles_242 rfl ?_
                      refine rh_uV hX lk_X0_153 mvX1_setSpare (fun l => c_X1_setSpare l E _ _ _ _) ⟨rfl, rfl⟩ ⟨Nat.le_of_ble_eq_true rfl, Nat.le_of_ble_eq_true rfl⟩ [1, 2] rfl rfl 1 rfl dX0_settles_244 rfl rfl (Nat.le_of_ble_eq_true rfl) rfl ?_
                      dsimp only [List.cons_append, List.nil_append, List.set_cons_succ, List.set_cons_zero, vput]
                      refine rh_aload_n hX dX0_settles_247 rfl ?_
                      refine rh_dup hX dX0_settles_248 rfl ?_
                      refine rh_get hX gl_X0_104 0 dX0_settles_249 rfl rfl ?_
                      refine rh_iconst hX dX0_settles_252 ki_1 ?_
                      refine rh_iadd hX dX0_settles_253 ?_
                      rw [show nI n + 1 = nI (n + 1) from (nI_succ n).symm]
                      refine rh_put hX gl_X0_104 0 dX0_settles_254 rfl rfl rfl (Nat.le_of_ble_eq_true rfl) rfl ?_
                      dsimp only [List.cons_append, List.nil_append, List.set_cons_succ, List.set_cons_zero, vput]
                      refine rh_goto (tgt := 48) hX dX0_settles_257 (by decide) ?_
                      exact rh_wk (by exact ⟨rfl, rfl, rfl, trivial⟩) (ihn _ _ _ _ _ _ ⟨by rw [show va_up M.1 170 tp1 171 = M.1 171 from if_neg (by decide)]; exact hM1, by rw [hH2, if_neg h98, if_neg (rh_le64.mp h109), if_neg (rh_le64.mp h153), if_neg (rh_le64.mp h202), if_neg hst]⟩)
                    · skip
                      refine rh_aload_n hX dX0_settles_227 rfl ?_
                      refine rh_aload_n hX dX0_settles_228 rfl ?_
                      refine rh_uV hX lk_X0_150 mvX0_addsClass (fun l => c_X0_addsClass l E _ _ _ _ _ _ _ _ _ _ _ _ _ _ _ _ _ _ _ _ _ _ _ _ _ _ T (by rw [hM1]; exact hT) hT6 hT1 h9) ⟨rfl, rfl⟩ ⟨Nat.le_of_ble_eq_true rfl, Nat.le_of_ble_eq_true rfl⟩ [0, 1, 2, 3, 4, 5, 6, 7, 8] rfl rfl 0 rfl dX0_settles_229 rfl rfl (Nat.le_of_ble_eq_true rfl) rfl ?_
                      dsimp only [List.cons_append, List.nil_append, List.set_cons_succ, List.set_cons_zero, vput]
                      refine rh_aload_n hX dX0_settles_232 rfl ?_
                      refine rh_get hX gl_X0_117 0 dX0_settles_233 rfl rfl ?_
                      refine rh_l2i hX dX0_settles_236 ?_
                      exact rh_iret hX hR dX0_settles_237 (by simp only [List.map_cons, List.map_nil, List.cons_append, List.nil_append]) ⟨_, _, _, _, _, _, _, _, _, _, by rw [hDS, hH2, if_neg h98, if_neg (rh_le64.mp h109), if_neg (rh_le64.mp h153), if_neg (rh_le64.mp h202), if_pos ⟨h218, h224⟩], (fun q h => by rw [hDS, hH2, if_neg h98, if_neg (rh_le64.mp h109), if_neg (rh_le64.mp h153), if_neg (rh_le64.mp h202), if_pos ⟨h218, h224⟩] at h; cases h; exact ⟨rfl, rfl, rfl, rfl⟩), rfl⟩
                · skip
                  refine rh_bipush hX dX0_settles_206 kb_m9 ?_
                  exact rh_iret hX hR dX0_settles_208 (by simp only [List.map_cons, List.map_nil, List.cons_append, List.nil_append]) (hbad _ (by rw [hH2, if_neg h98, if_neg (rh_le64.mp h109), if_neg (rh_le64.mp h153), if_pos (Classical.not_not.mp (fun q => h202 (rh_le64.mpr q)))]) _ _ _ _ _ _ _ _ _ _)
              · skip
                refine rh_bipush hX dX0_settles_157 kb_m9 ?_
                exact rh_iret hX hR dX0_settles_159 (by simp only [List.map_cons, List.map_nil, List.cons_append, List.nil_append]) (hbad _ (by rw [hH2, if_neg h98, if_neg (rh_le64.mp h109), if_pos (Classical.not_not.mp (fun q => h153 (rh_le64.mpr q)))]) _ _ _ _ _ _ _ _ _ _)
            · skip
              refine rh_bipush hX dX0_settles_113 kb_m3 ?_
              exact rh_iret hX hR dX0_settles_115 (by simp only [List.map_cons, List.map_nil, List.cons_append, List.nil_append]) (hbad _ (by first | (rw [hH2, if_pos h98]; done) | (rw [hH2, if_neg h98, if_pos (Classical.not_not.mp (fun q => h109 (rh_le64.mpr q)))]; done)) _ _ _ _ _ _ _ _ _ _)
    · skip
      have h22 : 1000000000 < vl := Classical.not_not.mp (fun q => h22 (rh_le64.mpr q))
      refine rh_bipush hX dX0_settles_26 kb_m3 ?_
      exact rh_iret hX hR dX0_settles_28 (by simp only [List.map_cons, List.map_nil, List.cons_append, List.nil_append]) ⟨_, _, _, _, _, _, _, _, _, _, by rw [dSettle, if_neg (Nat.not_le.mpr h9), if_pos h22], (fun q h => by rw [dSettle, if_neg (Nat.not_le.mpr h9), if_pos h22] at h; cases h), rfl⟩
  · skip
    have h9 : 6 ≤ T := Nat.le_of_not_lt (fun q => h9 (nI_lt (b := 6) q (by decide)))
    refine rh_bipush hX dX0_settles_12 kb_m2 ?_
    exact rh_iret hX hR dX0_settles_14 (by simp only [List.map_cons, List.map_nil, List.cons_append, List.nil_append]) ⟨_, _, _, _, _, _, _, _, _, _, by rw [dSettle, if_pos h9], (fun q h => by rw [dSettle, if_pos h9] at h; cases h), rfl⟩

set_option maxRecDepth 100000 in
set_option maxHeartbeats 4000000 in
theorem c_X0_works (l : Launch) (E : rhE) (o ho ha ac al an : Nat) (f cvs lst nws : Nat → Int64) (ls : Int32) (pA bA nA pr is : Int64) (tn : Int32) (fl : Int64) (to ta tb : Nat) (vl tp : Int64) (lt : Int32) (fc mn : Nat → Int64) (sm : Int64) (go ga : Nat) (g : Nat → Int64) (T : Nat) (hT : (g 171).toInt32 = nI T) (hT6 : T ≤ 6) (hT1 : 1 ≤ T) : Ctr l E yX0_works cX0_works 3 (some .int) (rmL 6) [.ref o, .ref go, .ref to] ((wD E o ho ha ac al an f cvs lst nws ls pA bA nA pr is tn fl ++ wT E to ta tb vl tp lt fc mn sm) ++ wH E go ga g) (fun r w => ∃ (f1 cvs1 nws1 : Nat → Int64) (pA1 bA1 nA1 pr1 is1 : Int64) (tn1 : Int32) (fl1 : Int64), r = some (Value.int (dSettle (bg mn sm (g, lst, 0) T).1 T vl tp lt fc mn sm).1) ∧ (∀ q, (dSettle (bg mn sm (g, lst, 0) T).1 T vl tp lt fc mn sm).2 = some q → f1 = q.1 ∧ is1 = q.2.1 ∧ tn1 = nI q.2.2.1 ∧ fl1 = q.2.2.2) ∧ w = wD E o ho ha ac al an f1 cvs1 (bg mn sm (g, lst, 0) T).2.1 nws1 (bg mn sm (g, lst, 0) T).2.2 pA1 bA1 nA1 pr1 is1 tn1 fl1 ++ wT E to ta tb vl tp lt fc mn sm ++ wH E go ga g) := by
  refine Ctr.of (by decide) (Nat.le_of_ble_eq_true rfl) rfl rfl 0 ?_
  intro X hX hR
  refine rh_aload_n hX dX0_works_0 rfl ?_
  refine rh_aload_n hX dX0_works_1 rfl ?_
  refine rh_aload_n hX dX0_works_2 rfl ?_
  refine rh_uV hX lk_X0_28 mvX0_begin (fun l => c_X0_begin l E _ _ _ _ _ _ _ _ _ _ _ _ _ _ _ _ _ _ _ _ _ _ _ _ _ _ _ _ _ _ T hT hT6 hT1) ⟨rfl, rfl⟩ ⟨Nat.le_of_ble_eq_true rfl, Nat.le_of_ble_eq_true rfl⟩ [0, 1, 2, 3, 4, 5, 6, 7, 8, 9, 10] rfl rfl 0 rfl dX0_works_3 rfl rfl (Nat.le_of_ble_eq_true rfl) rfl ?_
  dsimp only [List.cons_append, List.nil_append, List.set_cons_succ, List.set_cons_zero, vput]
  refine rh_aload_n hX dX0_works_6 rfl ?_
  refine rh_aload_n hX dX0_works_7 rfl ?_
  refine rh_callV hX lk_X0_32 mvX0_settles (fun l => c_X0_settles l E _ _ _ _ _ _ _ _ _ _ _ _ _ _ _ _ _ _ _ _ _ _ _ _ _ _ _ T (by rw [bg_big mn sm _ 171 (by decide) T hT6]; exact hT) hT6 hT1) ⟨rfl, rfl⟩ ⟨Nat.le_of_ble_eq_true rfl, Nat.le_of_ble_eq_true rfl⟩ [0, 1, 2, 3, 4, 5, 6, 7, 8] rfl rfl 0 rfl dX0_works_8 rfl rfl (Nat.le_of_ble_eq_true rfl) (fun r w hp hf => ?_)
  obtain ⟨f1, cvs1, nws1, pA1, bA1, nA1, pr1, is1, tn1, fl1, rfl, hok, rfl⟩ := hp
  dsimp only [vput, List.set_cons_succ, List.set_cons_zero, Option.toList, List.cons_append, List.nil_append]
  exact rh_iret hX hR dX0_works_11 (by simp only [List.map_cons, List.map_nil, List.cons_append, List.nil_append]) ⟨_, _, _, _, _, _, _, _, _, _, rfl, hok, rfl⟩
