/-! the model's text: bytes; the class's signs are their lower eight bits -/
def sC (tx : Nat → Int32) : Nat → Int32 := fun p => tx p &&& 255
def byteOk (tx : Nat → Int32) (n : Nat) : Prop := ∀ p, p < n → -128 ≤ (tx p).toInt ∧ (tx p).toInt ≤ 127
theorem bt_ex {x : Int32} (h : -128 ≤ x.toInt ∧ x.toInt ≤ 127) : ∃ j : Fin 256, x = Int32.ofInt ((j.1 : Int) - 128) := by
  refine ⟨⟨(x.toInt + 128).toNat, by omega⟩, ?_⟩
  apply Int32.toInt_inj.mp
  have e : (((x.toInt + 128).toNat : Nat) : Int) - 128 = x.toInt := by omega
  show x.toInt = (Int32.ofInt ((((x.toInt + 128).toNat : Nat) : Int) - 128)).toInt
  rw [e, Int32.ofInt_toInt]
theorem bt_eq : ∀ (j : Fin 256) (c : Fin 128), decide (Int32.ofInt ((j.1 : Int) - 128) &&& 255 = nI c.1) = decide (Int32.ofInt ((j.1 : Int) - 128) = nI c.1) := by decide +kernel
theorem bt_b : ∀ (j : Fin 256), 0 ≤ (Int32.ofInt ((j.1 : Int) - 128) &&& 255).toInt ∧ (Int32.ofInt ((j.1 : Int) - 128) &&& 255).toInt ≤ 255 := by decide +kernel
theorem byte_eq {x : Int32} (h : -128 ≤ x.toInt ∧ x.toInt ≤ 127) {c : Nat} (hc : c < 128) : x &&& 255 = nI c ↔ x = nI c := by
  obtain ⟨j, rfl⟩ := bt_ex h
  have := bt_eq j ⟨c, hc⟩
  simpa using this
theorem sC_b {tx : Nat → Int32} {n p : Nat} (h : byteOk tx n) (hp : p < n) : 0 ≤ (sC tx p).toInt ∧ (sC tx p).toInt ≤ 255 := by
  obtain ⟨j, hj⟩ := bt_ex (h p hp)
  unfold sC
  rw [hj]
  exact bt_b j
theorem str_asc : ∀ i, i < 11 → ∀ k, k < rhLen.getD i 0 → ∃ c, c < 128 ∧ rhCh i k = nI c := by
  have h : ∀ i, i < 11 → ∀ k, k < rhLen.getD i 0 → (rhCh i k).toNatClampNeg < 128 ∧ rhCh i k = nI (rhCh i k).toNatClampNeg := by decide +kernel
  exact fun i hi k hk => ⟨_, (h i hi k hk).1, (h i hi k hk).2⟩
theorem tk_c {tx : Nat → Int32} {n p i k : Nat} (h : byteOk tx n) (hi : i < 11) (hk : k < rhLen.getD i 0) : tk (sC tx) n p (rhCh i k) = true ↔ (p < n ∧ tx p = rhCh i k) := by
  obtain ⟨c, hc, e⟩ := str_asc i hi k hk
  unfold tk
  rw [Bool.and_eq_true, decide_eq_true_iff, decide_eq_true_iff, e]
  constructor
  · intro q; exact ⟨q.1, (byte_eq (h p q.1) hc).mp q.2⟩
  · intro q; exact ⟨q.1, (byte_eq (h p q.1) hc).mpr q.2⟩
theorem mSee_tk {tx : Nat → Int32} {n p : Nat} {c : Nat} (hc : c < 256) : mSee tx n p = nI c ↔ tk (sC tx) n p (nI c) = true := by
  unfold mSee tk sC
  rw [Bool.and_eq_true, decide_eq_true_iff, decide_eq_true_iff]
  by_cases h : p < n
  · rw [if_pos h]; exact ⟨fun q => ⟨h, q⟩, fun q => q.2⟩
  · rw [if_neg h]
    refine ⟨fun q => ?_, fun q => absurd q.1 h⟩
    have := congrArg Int32.toInt q
    rw [nI_toInt (by omega), show (-1 : Int32).toInt = -1 by decide] at this
    omega
/-- whether word i stands next behind a blank; where reading stands then -/
def mPs (s : Nat → Int32) (n he : Nat) (wr : Int32) (i : Nat) : Bool × Nat := if wr = -1 then (if tk s n he 32 = true then (if (tkA s n i (he + 1)).1 = true then (true, he + (1 + rhLen.getD i 0)) else (false, he)) else (false, he)) else (false, he)
theorem mPs_1 {s : Nat → Int32} {n he : Nat} {wr : Int32} {i : Nat} (h : ¬ wr = -1) : mPs s n he wr i = (false, he) := by rw [mPs, if_neg h]
theorem mPs_2 {s : Nat → Int32} {n he : Nat} {wr : Int32} {i : Nat} (h : wr = -1) (a : ¬ tk s n he 32 = true) : mPs s n he wr i = (false, he) := by rw [mPs, if_pos h, if_neg a]
theorem mPs_3 {s : Nat → Int32} {n he : Nat} {wr : Int32} {i : Nat} (h : wr = -1) (a : tk s n he 32 = true) (b : ¬ (tkA s n i (he + 1)).1 = true) : mPs s n he wr i = (false, he) := by rw [mPs, if_pos h, if_pos a, if_neg b]
theorem mPs_4 {s : Nat → Int32} {n he : Nat} {wr : Int32} {i : Nat} (h : wr = -1) (a : tk s n he 32 = true) (b : (tkA s n i (he + 1)).1 = true) : mPs s n he wr i = (true, he + (1 + rhLen.getD i 0)) := by rw [mPs, if_pos h, if_pos a, if_pos b]
/-- how far words from w on go along -/
def lfF (s : Nat → Int32) (n st : Nat) : Nat → Nat → Nat → Nat
  | 0, _, far => far
  | m + 1, w, far => lfF s n st m (w + 1) (if far < (tkA s n (w + 1) st).2 then (tkA s n (w + 1) st).2 else far)
termination_by m => m
theorem lfF_0 (s : Nat → Int32) (n st w far : Nat) : lfF s n st 0 w far = far := by rw [lfF]
theorem lfF_s (s : Nat → Int32) (n st m w far : Nat) : lfF s n st (m + 1) w far = lfF s n st m (w + 1) (if far < (tkA s n (w + 1) st).2 then (tkA s n (w + 1) st).2 else far) := by rw [lfF]
def mLf (s : Nat → Int32) (n he fr : Nat) : Nat := if tk s n he 32 = true then (if fr = 8 then he else lfF s n (he + 1) (8 - fr) fr (he + 1)) else he
theorem nI_max {a b : Nat} (ha : a < 2 ^ 31) (hb : b < 2 ^ 31) : (if nI a < nI b then nI b else nI a) = nI (if a < b then b else a) := by
  by_cases h : a < b
  · rw [if_pos h, if_pos (nI_lt h hb)]
  · rw [if_neg h, if_neg (fun q => h ((nI_ltI ha hb).mp q))]
theorem lfF_le (s : Nat → Int32) (n st : Nat) (hst : st ≤ 400) (hn : n ≤ 400) : ∀ m w far, far ≤ 400 → lfF s n st m w far ≤ 400
  | 0, w, far, h => by rw [lfF_0]; exact h
  | m + 1, w, far, h => by
    rw [lfF_s]
    refine lfF_le s n st hst hn m (w + 1) _ ?_
    have key : ∀ (i c j k : Nat), k ≤ 400 → (tkaF s n i c j k).2 ≤ 400 := by
      intro i c
      induction c with
      | zero => intro j k hk; rw [tkaF]; exact hk
      | succ c ih =>
        intro j k hk
        rw [tkaF]
        by_cases q : tk s n k (rhCh i j) = true
        · rw [if_pos q]
          exact ih _ _ (by have := tk_lt q; omega)
        · rw [if_neg q]; exact hk
    have := key (w + 1) (rhLen.getD (w + 1) 0) 0 st hst
    split
    · exact this
    · exact h

set_option maxRecDepth 100000 in
set_option maxHeartbeats 4000000 in
theorem c_X8_passes (l : Launch) (E : rhE) (B : Nat → Nat) (u : Nat → Int32) (kp : Nat → Int32) (ik : Int32) (ps : Nat → Int32) (pm : Nat) (dd : Int32) (tx : Nat → Int32) (ty : Nat) (rw : Nat → Int64) (rm : Nat) (th : Int32) (sz : Nat) (he : Nat) (wr : Int32) (mn : Nat → Int32) (vl : Int32) (tp : Int32) (lt : Int32) (ra : Int32) (pf : Int32) (pt : Int32) (pl : Int32) (pd : Int64) (prc : Int64) (ns : Int64) (tu : Nat) (ba : Int64) (na : Int64) (ca : Nat → Int64) (bo : Nat → Int32) (tr : Nat → Int64) (tH : Int32) (asd : Nat → Int32) (pa : Nat → Int64) (tg : Nat → Int64) (sd : Int64) (sr : Int64) (i : Nat) (hsz : sz ≤ 200) (hhe : he ≤ 300) (hbt : byteOk tx sz) (hi : i < 11) : Ctr l E yX8_passes cX8_passes 3 (some .boolean) (rmL 5) [.ref (B 0), .ref (E.2.2.2.1 i)] (wM E B u kp ik ps pm dd tx ty rw rm th sz he wr mn vl tp lt ra pf pt pl pd prc ns tu ba na ca bo tr tH asd pa tg sd sr) (One (some (.int (if (mPs (sC tx) sz he wr i).1 = true then 1 else 0))) (wM E B u kp ik ps pm dd tx ty rw rm th sz (mPs (sC tx) sz he wr i).2 wr mn vl tp lt ra pf pt pl pd prc ns tu ba na ca bo tr tH asd pa tg sd sr)) := by
  refine Ctr.of (by decide) (Nat.le_of_ble_eq_true rfl) rfl rfl 1 ?_
  intro X hX hR
  have hsl := str_len i hi
  refine rh_aload_n hX dX8_passes_0 rfl ?_
  refine rh_get hX gl_X8_105 0 dX8_passes_1 rfl rfl ?_
  refine rh_iconst hX dX8_passes_4 ki_m1 ?_
  refine rh_icmp_ne (tgt := 17) hX dX8_passes_5 (by decide) (fun h5 => ?_) (fun h5 => ?_)
  · skip
    refine rh_iconst hX dX8_passes_17 ki_0 ?_
    exact rh_zret hX hR dX8_passes_18 rfl (by simp only [List.map_cons, List.map_nil, List.cons_append, List.nil_append]) ⟨by first | (rw [mPs_1 h5]; rfl) | (rw [mPs_2 h5 h14]; rfl), by first | (rw [mPs_1 h5]; done) | (rw [mPs_2 h5 h14]; done)⟩
  · skip
    refine rh_aload_n hX dX8_passes_8 rfl ?_
    refine rh_pV hX lk_X8_108 mvX8_sees (fun l => c_X8_sees l E _ _ _ _ _ _ _ _ _ _ _ _ _ _ _ _ _ _ _ _ _ _ _ _ _ _ _ _ _ _ _ _ _ _ _ _ _ _ (by omega) (by omega)) ⟨rfl, rfl⟩ ⟨Nat.le_of_ble_eq_true rfl, Nat.le_of_ble_eq_true rfl⟩ [0, 1, 2, 3, 4, 5, 6, 7, 8, 9, 10, 11, 12] rfl rfl 0 rfl dX8_passes_9 rfl rfl (Nat.le_of_ble_eq_true rfl) ?_
    refine rh_bipush hX dX8_passes_12 kb_32 ?_
    refine rh_icmp_eq (tgt := 19) hX dX8_passes_14 (by decide) (fun h14 => ?_) (fun h14 => ?_)
    · skip
      have h14 : tk (sC tx) sz he 32 = true := (mSee_tk (c := 32) (by decide)).mp h14
      refine rh_iconst hX dX8_passes_19 ki_0 ?_
      refine rh_istn2 hX dX8_passes_20 (by decide) rfl ?_
      refine (rh_loop (P := fun j => (tkA (sC tx) sz i (he + 1) = tkaF (sC tx) sz i (rhLen.getD i 0 - j) j (he + 1 + j)) → G X 21 [some (.ref (B 0)), some (.ref (E.2.2.2.1 i)), some (.int (nI j))] [] (wM E B u kp ik ps pm dd tx ty rw rm th sz he wr mn vl tp lt ra pf pt pl pd prc ns tu ba na ca bo tr tH asd pa tg sd sr)) (0) (rhLen.getD i 0) (by omega) ?_ ?_) rfl
      · intro hH
        rw [Nat.sub_self, tkaF] at hH
        refine rh_iload_n hX dX8_passes_21 rfl ?_
        refine rh_aload_n hX dX8_passes_22 rfl ?_
        refine rh_pT hX lk_X8_172 mtJ0_length_8abf5 (fun l => c_J0_length l E i hi) hi ⟨rfl, rfl⟩ ⟨Nat.le_of_ble_eq_true rfl, Nat.le_of_ble_eq_true rfl⟩ dX8_passes_23 rfl rfl (Nat.le_of_ble_eq_true rfl) ?_
        refine rh_icmp_ge_t (tgt := 73) hX dX8_passes_26 (by decide) (nI_le (Nat.le_refl _) (by omega)) ?_
        refine rh_aload_n hX dX8_passes_73 rfl ?_
        refine rh_dup hX dX8_passes_74 rfl ?_
        refine rh_get hX gl_X8_102 0 dX8_passes_75 rfl rfl ?_
        refine rh_iconst hX dX8_passes_78 ki_1 ?_
        refine rh_aload_n hX dX8_passes_79 rfl ?_
        refine rh_pT hX lk_X8_172 mtJ0_length_8abf5 (fun l => c_J0_length l E i hi) hi ⟨rfl, rfl⟩ ⟨Nat.le_of_ble_eq_true rfl, Nat.le_of_ble_eq_true rfl⟩ dX8_passes_80 rfl rfl (Nat.le_of_ble_eq_true rfl) ?_
        refine rh_iadd hX dX8_passes_83 ?_
        refine rh_iadd hX dX8_passes_84 ?_
        rw [show nI he + (1 + nI (rhLen.getD i 0)) = nI (he + (1 + rhLen.getD i 0)) from rn_a rfl (rn_a rn_c1 rfl)]
        refine rh_put hX gl_X8_102 0 dX8_passes_85 rfl rfl rfl (Nat.le_of_ble_eq_true rfl) rfl ?_
        dsimp only [List.cons_append, List.nil_append, List.set_cons_succ, List.set_cons_zero, vput]
        have hn : (tkA (sC tx) sz i (he + 1)).1 = true := by rw [hH]
        refine rh_iconst hX dX8_passes_88 ki_1 ?_
        exact rh_zret hX hR dX8_passes_89 rfl (by simp only [List.map_cons, List.map_nil, List.cons_append, List.nil_append]) ⟨by rw [mPs_4 h5 h14 hn]; rfl, by rw [mPs_4 h5 h14 hn]⟩
      · intro j hj0 hj ihj hH
        obtain ⟨m, hm⟩ : ∃ m, rhLen.getD i 0 - j = m + 1 := ⟨rhLen.getD i 0 - j - 1, by omega⟩
        have hm2 : rhLen.getD i 0 - (j + 1) = m := by omega
        rw [hm, tkaF] at hH
        rw [hm2] at ihj
        refine rh_iload_n hX dX8_passes_21 rfl ?_
        refine rh_aload_n hX dX8_passes_22 rfl ?_
        refine rh_pT hX lk_X8_172 mtJ0_length_8abf5 (fun l => c_J0_length l E i hi) hi ⟨rfl, rfl⟩ ⟨Nat.le_of_ble_eq_true rfl, Nat.le_of_ble_eq_true rfl⟩ dX8_passes_23 rfl rfl (Nat.le_of_ble_eq_true rfl) ?_
        refine rh_icmp_ge_f (tgt := 73) hX dX8_passes_26 (by decide) (nI_ge hj (by omega)) ?_
        refine rh_aload_n hX dX8_passes_29 rfl ?_
        refine rh_get hX gl_X8_102 0 dX8_passes_30 rfl rfl ?_
        refine rh_iconst hX dX8_passes_33 ki_1 ?_
        refine rh_iadd hX dX8_passes_34 ?_
        refine rh_iload_n hX dX8_passes_35 rfl ?_
        refine rh_iadd hX dX8_passes_36 ?_
        rw [show nI he + 1 + nI j = nI (he + 1 + j) from rn_a (rn_a rfl rn_c1) rfl]
        refine rh_aload_n hX dX8_passes_37 rfl ?_
        refine rh_get hX gl_X8_99 0 dX8_passes_38 rfl rfl ?_
        refine rh_icmp_ge (tgt := 65) hX dX8_passes_41 (by decide) (fun h41 => ?_) (fun h41 => ?_)
        · skip
          have h41 := rn_leI h41 (by omega) (by omega)
          have hn : ¬ (tkA (sC tx) sz i (he + 1)).1 = true := by first | (rw [hH, if_neg (fun q => absurd ((tk_c hbt hi hj).mp q).1 (by omega))]; exact Bool.false_ne_true) | (rw [hH, if_neg (fun q => h62 ((tk_c hbt hi hj).mp q).2)]; exact Bool.false_ne_true)
          refine rh_iconst hX dX8_passes_65 ki_0 ?_
          exact rh_zret hX hR dX8_passes_66 rfl (by simp only [List.map_cons, List.map_nil, List.cons_append, List.nil_append]) ⟨by rw [mPs_3 h5 h14 hn]; rfl, by rw [mPs_3 h5 h14 hn]⟩
        · skip
          have h41 := rn_leN h41 (by omega) (by omega)
          refine rh_aload_n hX dX8_passes_44 rfl ?_
          refine rh_get hX gl_X8_19 0 dX8_passes_45 rfl rfl ?_
          refine rh_aload_n hX dX8_passes_48 rfl ?_
          refine rh_get hX gl_X8_102 0 dX8_passes_49 rfl rfl ?_
          refine rh_iconst hX dX8_passes_52 ki_1 ?_
          refine rh_iadd hX dX8_passes_53 ?_
          refine rh_iload_n hX dX8_passes_54 rfl ?_
          refine rh_iadd hX dX8_passes_55 ?_
          refine rh_baload hX 4 (he + 1 + j) dX8_passes_56 rfl (rn_a (rn_a rfl rn_c1) rfl) (by omega) (by decide) ?_
          refine rh_aload_n hX dX8_passes_57 rfl ?_
          refine rh_iload_n hX dX8_passes_58 rfl ?_
          refine rh_pT hX lk_X8_177 mtJ0_charAt_5068e (fun l => c_J0_charAt l E i j hi hj) hi ⟨rfl, rfl⟩ ⟨Nat.le_of_ble_eq_true rfl, Nat.le_of_ble_eq_true rfl⟩ dX8_passes_59 rfl rfl (Nat.le_of_ble_eq_true rfl) ?_
          refine rh_icmp_eq (tgt := 67) hX dX8_passes_62 (by decide) (fun h62 => ?_) (fun h62 => ?_)
          · skip
            refine rh_inc2 hX dX8_passes_67 (by decide) rfl (rn_i1 _) ?_
            refine rh_goto (tgt := 21) hX dX8_passes_70 (by decide) ?_
            exact ihj (by rw [hH, if_pos ((tk_c hbt hi hj).mpr ⟨h41, h62⟩)]; rfl)
          · skip
            have hn : ¬ (tkA (sC tx) sz i (he + 1)).1 = true := by first | (rw [hH, if_neg (fun q => absurd ((tk_c hbt hi hj).mp q).1 (by omega))]; exact Bool.false_ne_true) | (rw [hH, if_neg (fun q => h62 ((tk_c hbt hi hj).mp q).2)]; exact Bool.false_ne_true)
            refine rh_iconst hX dX8_passes_65 ki_0 ?_
            exact rh_zret hX hR dX8_passes_66 rfl (by simp only [List.map_cons, List.map_nil, List.cons_append, List.nil_append]) ⟨by rw [mPs_3 h5 h14 hn]; rfl, by rw [mPs_3 h5 h14 hn]⟩
    · skip
      have h14 : ¬ tk (sC tx) sz he 32 = true := fun q => h14 ((mSee_tk (c := 32) (by decide)).mpr q)
      refine rh_iconst hX dX8_passes_17 ki_0 ?_
      exact rh_zret hX hR dX8_passes_18 rfl (by simp only [List.map_cons, List.map_nil, List.cons_append, List.nil_append]) ⟨by first | (rw [mPs_1 h5]; rfl) | (rw [mPs_2 h5 h14]; rfl), by first | (rw [mPs_1 h5]; done) | (rw [mPs_2 h5 h14]; done)⟩

set_option maxRecDepth 100000 in
set_option maxHeartbeats 4000000 in
theorem c_X8_wordAt_0 (l : Launch) (E : rhE)   : Ctr l E yX8_wordAt cX8_wordAt 1 (some (.object "java/lang/String")) (rmL 0) [.int (nI 0)] [] (One (some (.ref (E.2.2.2.1 1))) []) := by
  refine Ctr.of (by decide) (Nat.le_of_ble_eq_true rfl) rfl rfl 0 ?_
  intro X hX hR
  refine rh_iload_n hX dX8_wordAt_0 rfl ?_
  refine rh_tabIn (tgt := 44) (off := 43) hX dX8_wordAt_1 (by decide) (by decide) (by decide) (by decide) ?_
  refine rh_ldcS hX dX8_wordAt_44 (List.mem_of_getElem? (i := 11) rfl) ?_
  exact rh_aret hX hR dX8_wordAt_46 rfl ⟨rfl, rfl⟩

set_option maxRecDepth 100000 in
set_option maxHeartbeats 4000000 in
theorem c_X8_wordAt_1 (l : Launch) (E : rhE)   : Ctr l E yX8_wordAt cX8_wordAt 1 (some (.object "java/lang/String")) (rmL 0) [.int (nI 1)] [] (One (some (.ref (E.2.2.2.1 2))) []) := by
  refine Ctr.of (by decide) (Nat.le_of_ble_eq_true rfl) rfl rfl 0 ?_
  intro X hX hR
  refine rh_iload_n hX dX8_wordAt_0 rfl ?_
  refine rh_tabIn (tgt := 47) (off := 46) hX dX8_wordAt_1 (by decide) (by decide) (by decide) (by decide) ?_
  refine rh_ldcS hX dX8_wordAt_47 (List.mem_of_getElem? (i := 12) rfl) ?_
  exact rh_aret hX hR dX8_wordAt_49 rfl ⟨rfl, rfl⟩

set_option maxRecDepth 100000 in
set_option maxHeartbeats 4000000 in
theorem c_X8_wordAt_2 (l : Launch) (E : rhE)   : Ctr l E yX8_wordAt cX8_wordAt 1 (some (.object "java/lang/String")) (rmL 0) [.int (nI 2)] [] (One (some (.ref (E.2.2.2.1 3))) []) := by
  refine Ctr.of (by decide) (Nat.le_of_ble_eq_true rfl) rfl rfl 0 ?_
  intro X hX hR
  refine rh_iload_n hX dX8_wordAt_0 rfl ?_
  refine rh_tabIn (tgt := 50) (off := 49) hX dX8_wordAt_1 (by decide) (by decide) (by decide) (by decide) ?_
  refine rh_ldcS hX dX8_wordAt_50 (List.mem_of_getElem? (i := 13) rfl) ?_
  exact rh_aret hX hR dX8_wordAt_52 rfl ⟨rfl, rfl⟩

set_option maxRecDepth 100000 in
set_option maxHeartbeats 4000000 in
theorem c_X8_wordAt_3 (l : Launch) (E : rhE)   : Ctr l E yX8_wordAt cX8_wordAt 1 (some (.object "java/lang/String")) (rmL 0) [.int (nI 3)] [] (One (some (.ref (E.2.2.2.1 4))) []) := by
  refine Ctr.of (by decide) (Nat.le_of_ble_eq_true rfl) rfl rfl 0 ?_
  intro X hX hR
  refine rh_iload_n hX dX8_wordAt_0 rfl ?_
  refine rh_tabIn (tgt := 53) (off := 52) hX dX8_wordAt_1 (by decide) (by decide) (by decide) (by decide) ?_
  refine rh_ldcS hX dX8_wordAt_53 (List.mem_of_getElem? (i := 14) rfl) ?_
  exact rh_aret hX hR dX8_wordAt_55 rfl ⟨rfl, rfl⟩

set_option maxRecDepth 100000 in
set_option maxHeartbeats 4000000 in
theorem c_X8_wordAt_4 (l : Launch) (E : rhE)   : Ctr l E yX8_wordAt cX8_wordAt 1 (some (.object "java/lang/String")) (rmL 0) [.int (nI 4)] [] (One (some (.ref (E.2.2.2.1 5))) []) := by
  refine Ctr.of (by decide) (Nat.le_of_ble_eq_true rfl) rfl rfl 0 ?_
  intro X hX hR
  refine rh_iload_n hX dX8_wordAt_0 rfl ?_
  refine rh_tabIn (tgt := 56) (off := 55) hX dX8_wordAt_1 (by decide) (by decide) (by decide) (by decide) ?_
  refine rh_ldcS hX dX8_wordAt_56 (List.mem_of_getElem? (i := 15) rfl) ?_
  exact rh_aret hX hR dX8_wordAt_58 rfl ⟨rfl, rfl⟩

set_option maxRecDepth 100000 in
set_option maxHeartbeats 4000000 in
theorem c_X8_wordAt_5 (l : Launch) (E : rhE)   : Ctr l E yX8_wordAt cX8_wordAt 1 (some (.object "java/lang/String")) (rmL 0) [.int (nI 5)] [] (One (some (.ref (E.2.2.2.1 6))) []) := by
  refine Ctr.of (by decide) (Nat.le_of_ble_eq_true rfl) rfl rfl 0 ?_
  intro X hX hR
  refine rh_iload_n hX dX8_wordAt_0 rfl ?_
  refine rh_tabIn (tgt := 59) (off := 58) hX dX8_wordAt_1 (by decide) (by decide) (by decide) (by decide) ?_
  refine rh_ldcS hX dX8_wordAt_59 (List.mem_of_getElem? (i := 16) rfl) ?_
  exact rh_aret hX hR dX8_wordAt_61 rfl ⟨rfl, rfl⟩

set_option maxRecDepth 100000 in
set_option maxHeartbeats 4000000 in
theorem c_X8_wordAt_6 (l : Launch) (E : rhE)   : Ctr l E yX8_wordAt cX8_wordAt 1 (some (.object "java/lang/String")) (rmL 0) [.int (nI 6)] [] (One (some (.ref (E.2.2.2.1 7))) []) := by
  refine Ctr.of (by decide) (Nat.le_of_ble_eq_true rfl) rfl rfl 0 ?_
  intro X hX hR
  refine rh_iload_n hX dX8_wordAt_0 rfl ?_
  refine rh_tabIn (tgt := 62) (off := 61) hX dX8_wordAt_1 (by decide) (by decide) (by decide) (by decide) ?_
  refine rh_ldcS hX dX8_wordAt_62 (List.mem_of_getElem? (i := 17) rfl) ?_
  exact rh_aret hX hR dX8_wordAt_64 rfl ⟨rfl, rfl⟩

set_option maxRecDepth 100000 in
set_option maxHeartbeats 4000000 in
theorem c_X8_wordAt_7 (l : Launch) (E : rhE)   : Ctr l E yX8_wordAt cX8_wordAt 1 (some (.object "java/lang/String")) (rmL 0) [.int (nI 7)] [] (One (some (.ref (E.2.2.2.1 8))) []) := by
  refine Ctr.of (by decide) (Nat.le_of_ble_eq_true rfl) rfl rfl 0 ?_
  intro X hX hR
  refine rh_iload_n hX dX8_wordAt_0 rfl ?_
  refine rh_tabOut (tgt := 65) hX dX8_wordAt_1 (by decide) (by decide) ?_
  refine rh_ldcS hX dX8_wordAt_65 (List.mem_of_getElem? (i := 18) rfl) ?_
  exact rh_aret hX hR dX8_wordAt_67 rfl ⟨rfl, rfl⟩

theorem c_X8_wordAt (l : Launch) (E : rhE) (w : Nat) (hw : w < 8) : Ctr l E yX8_wordAt cX8_wordAt 1 (some (.object "java/lang/String")) (rmL 0) [.int (nI w)] [] (One (some (.ref (E.2.2.2.1 (w + 1)))) []) := by
  match w, hw with
  | 0, _ => exact c_X8_wordAt_0 l E
  | 1, _ => exact c_X8_wordAt_1 l E
  | 2, _ => exact c_X8_wordAt_2 l E
  | 3, _ => exact c_X8_wordAt_3 l E
  | 4, _ => exact c_X8_wordAt_4 l E
  | 5, _ => exact c_X8_wordAt_5 l E
  | 6, _ => exact c_X8_wordAt_6 l E
  | 7, _ => exact c_X8_wordAt_7 l E

set_option maxRecDepth 100000 in
set_option maxHeartbeats 4000000 in
theorem c_X8_lastFit (l : Launch) (E : rhE) (B : Nat → Nat) (u : Nat → Int32) (kp : Nat → Int32) (ik : Int32) (ps : Nat → Int32) (pm : Nat) (dd : Int32) (tx : Nat → Int32) (ty : Nat) (rw : Nat → Int64) (rm : Nat) (th : Int32) (sz : Nat) (he : Nat) (wr : Int32) (mn : Nat → Int32) (vl : Int32) (tp : Int32) (lt : Int32) (ra : Int32) (pf : Int32) (pt : Int32) (pl : Int32) (pd : Int64) (prc : Int64) (ns : Int64) (tu : Nat) (ba : Int64) (na : Int64) (ca : Nat → Int64) (bo : Nat → Int32) (tr : Nat → Int64) (tH : Int32) (asd : Nat → Int32) (pa : Nat → Int64) (tg : Nat → Int64) (sd : Int64) (sr : Int64) (fr : Nat) (hsz : sz ≤ 200) (hhe : he ≤ 300) (hbt : byteOk tx sz) (hfr : fr ≤ 8) : Ctr l E yX8_lastFit cX8_lastFit 5 (some .int) (rmL 5) [.ref (B 0), .int (nI fr)] (wM E B u kp ik ps pm dd tx ty rw rm th sz he wr mn vl tp lt ra pf pt pl pd prc ns tu ba na ca bo tr tH asd pa tg sd sr) (One (some (.int (nI (mLf (sC tx) sz he fr)))) (wM E B u kp ik ps pm dd tx ty rw rm th sz he wr mn vl tp lt ra pf pt pl pd prc ns tu ba na ca bo tr tH asd pa tg sd sr)) := by
  refine Ctr.of (by decide) (Nat.le_of_ble_eq_true rfl) rfl rfl 3 ?_
  intro X hX hR
  refine rh_aload_n hX dX8_lastFit_0 rfl ?_
  refine rh_get hX gl_X8_102 0 dX8_lastFit_1 rfl rfl ?_
  refine rh_istn2 hX dX8_lastFit_4 (by decide) rfl ?_
  refine rh_aload_n hX dX8_lastFit_5 rfl ?_
  refine rh_pV hX lk_X8_108 mvX8_sees (fun l => c_X8_sees l E _ _ _ _ _ _ _ _ _ _ _ _ _ _ _ _ _ _ _ _ _ _ _ _ _ _ _ _ _ _ _ _ _ _ _ _ _ _ (by omega) (by omega)) ⟨rfl, rfl⟩ ⟨Nat.le_of_ble_eq_true rfl, Nat.le_of_ble_eq_true rfl⟩ [0, 1, 2, 3, 4, 5, 6, 7, 8, 9, 10, 11, 12] rfl rfl 0 rfl dX8_lastFit_6 rfl rfl (Nat.le_of_ble_eq_true rfl) ?_
  refine rh_bipush hX dX8_lastFit_9 kb_32 ?_
  refine rh_icmp_ne (tgt := 20) hX dX8_lastFit_11 (by decide) (fun h11 => ?_) (fun h11 => ?_)
  · skip
    have h11 : ¬ tk (sC tx) sz he 32 = true := fun q => h11 ((mSee_tk (c := 32) (by decide)).mpr q)
    refine rh_aload_n hX dX8_lastFit_20 rfl ?_
    refine rh_get hX gl_X8_102 0 dX8_lastFit_21 rfl rfl ?_
    exact rh_iret hX hR dX8_lastFit_24 (by simp only [List.map_cons, List.map_nil, List.cons_append, List.nil_append]) ⟨by first | (rw [mLf, if_neg h11]; done) | (rw [mLf, if_pos h11, if_pos h17]; done), rfl⟩
  · skip
    have h11 : tk (sC tx) sz he 32 = true := (mSee_tk (c := 32) (by decide)).mp h11
    refine rh_iload_n hX dX8_lastFit_14 rfl ?_
    refine rh_bipush hX dX8_lastFit_15 kb_8 ?_
    refine rh_icmp_ne (tgt := 25) hX dX8_lastFit_17 (by decide) (fun h17 => ?_) (fun h17 => ?_)
    · skip
      have h17 : ¬ fr = 8 := fun q => h17 (by rw [q]; rfl)
      refine rh_aload_n hX dX8_lastFit_25 rfl ?_
      refine rh_get hX gl_X8_102 0 dX8_lastFit_26 rfl rfl ?_
      refine rh_iconst hX dX8_lastFit_29 ki_1 ?_
      refine rh_iadd hX dX8_lastFit_30 ?_
      rw [show nI he + 1 = nI (he + 1) from rn_add he 1]
      refine rh_istn2 hX dX8_lastFit_31 (by decide) rfl ?_
      refine rh_iload_n hX dX8_lastFit_32 rfl ?_
      refine rh_istn3 hX dX8_lastFit_33 (by decide) rfl ?_
      refine (rh_loop (P := fun x => ∀ far, (lfF (sC tx) sz (he + 1) (8 - x) x far = lfF (sC tx) sz (he + 1) (8 - fr) fr (he + 1) ∧ far ≤ 400) → G X 34 [some (.ref (B 0)), some (.int (nI fr)), some (.int (nI far)), some (.int (nI x)), none] [] (wM E B u kp ik ps pm dd tx ty rw rm th sz he wr mn vl tp lt ra pf pt pl pd prc ns tu ba na ca bo tr tH asd pa tg sd sr)) (fr) (8) (by omega) ?_ ?_) _ ⟨rfl, by omega⟩
      · intro far hH
        refine rh_iload_n hX dX8_lastFit_34 rfl ?_
        refine rh_bipush hX dX8_lastFit_35 kb_8 ?_
        refine rh_icmp_ge_t (tgt := 123) hX dX8_lastFit_37 (by decide) (nI_le (a := 8) (b := 8) (Nat.le_refl 8) (by decide)) ?_
        refine rh_iload_n hX dX8_lastFit_123 rfl ?_
        exact rh_iret hX hR dX8_lastFit_124 (by simp only [List.map_cons, List.map_nil, List.cons_append, List.nil_append]) ⟨by rw [mLf, if_pos h11, if_neg h17, ← hH.1, Nat.sub_self, lfF_0], rfl⟩
      · intro x hx0 hx ihx far hH
        refine rh_iload_n hX dX8_lastFit_34 rfl ?_
        refine rh_bipush hX dX8_lastFit_35 kb_8 ?_
        refine rh_icmp_ge_f (tgt := 123) hX dX8_lastFit_37 (by decide) (nI_ge (b := 8) hx (by decide)) ?_
        refine rh_iconst hX dX8_lastFit_40 ki_0 ?_
        refine rh_ist4 hX dX8_lastFit_41 (by decide) rfl ?_
        have hsl := str_len (x + 1) (by omega)
        refine (rh_loop (P := fun j => ((tkA (sC tx) sz (x + 1) (he + 1)) = tkaF (sC tx) sz (x + 1) (rhLen.getD (x + 1) 0 - j) j (he + 1 + j)) → G X 43 [some (.ref (B 0)), some (.int (nI fr)), some (.int (nI far)), some (.int (nI x)), some (.int (nI j))] [] (wM E B u kp ik ps pm dd tx ty rw rm th sz he wr mn vl tp lt ra pf pt pl pd prc ns tu ba na ca bo tr tH asd pa tg sd sr)) (0) (rhLen.getD (x + 1) 0) (by omega) ?_ ?_) rfl
        · intro hK
          rw [Nat.sub_self, tkaF] at hK
          have hF : (tkA (sC tx) sz (x + 1) (he + 1)).2 = he + 1 + rhLen.getD (x + 1) 0 := by rw [hK]
          refine rh_iload hX dX8_lastFit_43 rfl ?_
          refine rh_iload_n hX dX8_lastFit_45 rfl ?_
          refine rh_pS hX lk_X8_197 msX8_wordAt (fun l => c_X8_wordAt l E x (by omega)) ⟨rfl, rfl⟩ ⟨Nat.le_of_ble_eq_true rfl, Nat.le_of_ble_eq_true rfl⟩ [] rfl rfl dX8_lastFit_46 rfl rfl (Nat.le_of_ble_eq_true rfl) ?_
          refine rh_pT hX lk_X8_172 mtJ0_length_8abf5 (fun l => c_J0_length l E (x + 1) (by omega)) (by omega) ⟨rfl, rfl⟩ ⟨Nat.le_of_ble_eq_true rfl, Nat.le_of_ble_eq_true rfl⟩ dX8_lastFit_49 rfl rfl (Nat.le_of_ble_eq_true rfl) ?_
          refine rh_icmp_ge_t (tgt := 103) hX dX8_lastFit_52 (by decide) (nI_le (Nat.le_refl _) (by omega)) ?_
          refine rh_iload_n hX dX8_lastFit_103 rfl ?_
          refine rh_aload_n hX dX8_lastFit_104 rfl ?_
          refine rh_get hX gl_X8_102 0 dX8_lastFit_105 rfl rfl ?_
          refine rh_iconst hX dX8_lastFit_108 ki_1 ?_
          refine rh_iadd hX dX8_lastFit_109 ?_
          refine rh_iload hX dX8_lastFit_110 rfl ?_
          refine rh_iadd hX dX8_lastFit_112 ?_
          first | rw [show nI he + 1 + nI j = nI (he + 1 + j) from rn_a (rn_a rfl rn_c1) rfl] | rw [show nI he + 1 + nI (rhLen.getD (x + 1) 0) = nI (he + 1 + rhLen.getD (x + 1) 0) from rn_a (rn_a rfl rn_c1) rfl]
          have hfr4 := hH.2
          refine rh_maxi hX mm_X8_157 dX8_lastFit_113 (Nat.le_of_ble_eq_true rfl) (Nat.le_of_ble_eq_true rfl) ?_
          rw [nI_max (by omega) (by omega)]
          refine rh_istn2 hX dX8_lastFit_116 (by decide) rfl ?_
          refine rh_inc3 hX dX8_lastFit_117 (by decide) rfl (rn_i1 _) ?_
          refine rh_goto (tgt := 34) hX dX8_lastFit_120 (by decide) ?_
          exact rh_wk (by exact ⟨rfl, rfl, rfl, rfl, trivial⟩) (ihx _ ⟨by rw [← hH.1, show 8 - x = (8 - (x + 1)) + 1 by omega, lfF_s, hF], by have := hH.2; split <;> omega⟩)
        · intro j hj0 hj ihj hK
          obtain ⟨m, hm⟩ : ∃ m, rhLen.getD (x + 1) 0 - j = m + 1 := ⟨rhLen.getD (x + 1) 0 - j - 1, by omega⟩
          have hm2 : rhLen.getD (x + 1) 0 - (j + 1) = m := by omega
          rw [hm, tkaF] at hK
          rw [hm2] at ihj
          refine rh_iload hX dX8_lastFit_43 rfl ?_
          refine rh_iload_n hX dX8_lastFit_45 rfl ?_
          refine rh_pS hX lk_X8_197 msX8_wordAt (fun l => c_X8_wordAt l E x (by omega)) ⟨rfl, rfl⟩ ⟨Nat.le_of_ble_eq_true rfl, Nat.le_of_ble_eq_true rfl⟩ [] rfl rfl dX8_lastFit_46 rfl rfl (Nat.le_of_ble_eq_true rfl) ?_
          refine rh_pT hX lk_X8_172 mtJ0_length_8abf5 (fun l => c_J0_length l E (x + 1) (by omega)) (by omega) ⟨rfl, rfl⟩ ⟨Nat.le_of_ble_eq_true rfl, Nat.le_of_ble_eq_true rfl⟩ dX8_lastFit_49 rfl rfl (Nat.le_of_ble_eq_true rfl) ?_
          refine rh_icmp_ge_f (tgt := 103) hX dX8_lastFit_52 (by decide) (nI_ge hj (by omega)) ?_
          refine rh_aload_n hX dX8_lastFit_55 rfl ?_
          refine rh_get hX gl_X8_102 0 dX8_lastFit_56 rfl rfl ?_
          refine rh_iconst hX dX8_lastFit_59 ki_1 ?_
          refine rh_iadd hX dX8_lastFit_60 ?_
          refine rh_iload hX dX8_lastFit_61 rfl ?_
          refine rh_iadd hX dX8_lastFit_63 ?_
          rw [show nI he + 1 + nI j = nI (he + 1 + j) from rn_a (rn_a rfl rn_c1) rfl]
          refine rh_aload_n hX dX8_lastFit_64 rfl ?_
          refine rh_get hX gl_X8_99 0 dX8_lastFit_65 rfl rfl ?_
          refine rh_icmp_ge (tgt := 103) hX dX8_lastFit_68 (by decide) (fun h68 => ?_) (fun h68 => ?_)
          · skip
            have h68 := rn_leI h68 (by omega) (by omega)
            have hF : (tkA (sC tx) sz (x + 1) (he + 1)).2 = he + 1 + j := by rw [hK, if_neg (fun q => absurd ((tk_c hbt (by omega) hj).mp q).1 (by omega))]
            refine rh_iload_n hX dX8_lastFit_103 rfl ?_
            refine rh_aload_n hX dX8_lastFit_104 rfl ?_
            refine rh_get hX gl_X8_102 0 dX8_lastFit_105 rfl rfl ?_
            refine rh_iconst hX dX8_lastFit_108 ki_1 ?_
            refine rh_iadd hX dX8_lastFit_109 ?_
            refine rh_iload hX dX8_lastFit_110 rfl ?_
            refine rh_iadd hX dX8_lastFit_112 ?_
            first | rw [show nI he + 1 + nI j = nI (he + 1 + j) from rn_a (rn_a rfl rn_c1) rfl] | rw [show nI he + 1 + nI (rhLen.getD (x + 1) 0) = nI (he + 1 + rhLen.getD (x + 1) 0) from rn_a (rn_a rfl rn_c1) rfl]
            have hfr4 := hH.2
            refine rh_maxi hX mm_X8_157 dX8_lastFit_113 (Nat.le_of_ble_eq_true rfl) (Nat.le_of_ble_eq_true rfl) ?_
            rw [nI_max (by omega) (by omega)]
            refine rh_istn2 hX dX8_lastFit_116 (by decide) rfl ?_
            refine rh_inc3 hX dX8_lastFit_117 (by decide) rfl (rn_i1 _) ?_
            refine rh_goto (tgt := 34) hX dX8_lastFit_120 (by decide) ?_
            exact rh_wk (by exact ⟨rfl, rfl, rfl, rfl, trivial⟩) (ihx _ ⟨by rw [← hH.1, show 8 - x = (8 - (x + 1)) + 1 by omega, lfF_s, hF], by have := hH.2; split <;> omega⟩)
          · skip
            have h68 := rn_leN h68 (by omega) (by omega)
            refine rh_aload_n hX dX8_lastFit_71 rfl ?_
            refine rh_get hX gl_X8_19 0 dX8_lastFit_72 rfl rfl ?_
            refine rh_aload_n hX dX8_lastFit_75 rfl ?_
            refine rh_get hX gl_X8_102 0 dX8_lastFit_76 rfl rfl ?_
            refine rh_iconst hX dX8_lastFit_79 ki_1 ?_
            refine rh_iadd hX dX8_lastFit_80 ?_
            refine rh_iload hX dX8_lastFit_81 rfl ?_
            refine rh_iadd hX dX8_lastFit_83 ?_
            refine rh_baload hX 4 (he + 1 + j) dX8_lastFit_84 rfl (rn_a (rn_a rfl rn_c1) rfl) (by omega) (by decide) ?_
            refine rh_iload_n hX dX8_lastFit_85 rfl ?_
            refine rh_pS hX lk_X8_197 msX8_wordAt (fun l => c_X8_wordAt l E x (by omega)) ⟨rfl, rfl⟩ ⟨Nat.le_of_ble_eq_true rfl, Nat.le_of_ble_eq_true rfl⟩ [] rfl rfl dX8_lastFit_86 rfl rfl (Nat.le_of_ble_eq_true rfl) ?_
            refine rh_iload hX dX8_lastFit_89 rfl ?_
            refine rh_pT hX lk_X8_177 mtJ0_charAt_5068e (fun l => c_J0_charAt l E (x + 1) j (by omega) hj) (by omega) ⟨rfl, rfl⟩ ⟨Nat.le_of_ble_eq_true rfl, Nat.le_of_ble_eq_true rfl⟩ dX8_lastFit_91 rfl rfl (Nat.le_of_ble_eq_true rfl) ?_
            refine rh_icmp_ne (tgt := 103) hX dX8_lastFit_94 (by decide) (fun h94 => ?_) (fun h94 => ?_)
            · skip
              have hF : (tkA (sC tx) sz (x + 1) (he + 1)).2 = he + 1 + j := by rw [hK, if_neg (fun q => h94 ((tk_c hbt (by omega) hj).mp q).2)]
              refine rh_iload_n hX dX8_lastFit_103 rfl ?_
              refine rh_aload_n hX dX8_lastFit_104 rfl ?_
              refine rh_get hX gl_X8_102 0 dX8_lastFit_105 rfl rfl ?_
              refine rh_iconst hX dX8_lastFit_108 ki_1 ?_
              refine rh_iadd hX dX8_lastFit_109 ?_
              refine rh_iload hX dX8_lastFit_110 rfl ?_
              refine rh_iadd hX dX8_lastFit_112 ?_
              first | rw [show nI he + 1 + nI j = nI (he + 1 + j) from rn_a (rn_a rfl rn_c1) rfl] | rw [show nI he + 1 + nI (rhLen.getD (x + 1) 0) = nI (he + 1 + rhLen.getD (x + 1) 0) from rn_a (rn_a rfl rn_c1) rfl]
              have hfr4 := hH.2
              refine rh_maxi hX mm_X8_157 dX8_lastFit_113 (Nat.le_of_ble_eq_true rfl) (Nat.le_of_ble_eq_true rfl) ?_
              rw [nI_max (by omega) (by omega)]
              refine rh_istn2 hX dX8_lastFit_116 (by decide) rfl ?_
              refine rh_inc3 hX dX8_lastFit_117 (by decide) rfl (rn_i1 _) ?_
              refine rh_goto (tgt := 34) hX dX8_lastFit_120 (by decide) ?_
              exact rh_wk (by exact ⟨rfl, rfl, rfl, rfl, trivial⟩) (ihx _ ⟨by rw [← hH.1, show 8 - x = (8 - (x + 1)) + 1 by omega, lfF_s, hF], by have := hH.2; split <;> omega⟩)
            · skip
              refine rh_inc4 hX dX8_lastFit_97 (by decide) rfl (rn_i1 _) ?_
              refine rh_goto (tgt := 43) hX dX8_lastFit_100 (by decide) ?_
              exact ihj (by rw [hK, if_pos ((tk_c hbt (by omega) hj).mpr ⟨h68, h94⟩)]; rfl)
    · skip
      have h17 : fr = 8 := rn_inj (b := 8) h17 (by omega) (by decide)
      refine rh_aload_n hX dX8_lastFit_20 rfl ?_
      refine rh_get hX gl_X8_102 0 dX8_lastFit_21 rfl rfl ?_
      exact rh_iret hX hR dX8_lastFit_24 (by simp only [List.map_cons, List.map_nil, List.cons_append, List.nil_append]) ⟨by first | (rw [mLf, if_neg h11]; done) | (rw [mLf, if_pos h11, if_pos h17]; done), rfl⟩
