def tmS : Nat → Term := fun i => match i with | 0 => Term.string "RoundHouse$Text" 53 | 1 => Term.string "RoundHouse$Text" 78 | 2 => Term.string "RoundHouse$Text" 80 | 3 => Term.string "RoundHouse$Text" 82 | 4 => Term.string "RoundHouse$Text" 84 | 5 => Term.string "RoundHouse$Text" 86 | 6 => Term.string "RoundHouse$Text" 88 | 7 => Term.string "RoundHouse$Text" 90 | 8 => Term.string "RoundHouse$Text" 92 | 9 => Term.string "RoundHouse" 363 | _ => Term.string "RoundHouseModel" 201
abbrev flS : List Cond := flatC (Jvm.Cond.and given_1 narrow_1)
theorem fs_hex : ∀ i, i < 11 → Cond.exactly (tmS i) "java/lang/String" ∈ flS := by decide +kernel
theorem fs_hco : ∀ i, i < 11 → Cond.eq (.field (tmS i) "java/lang/String" "coder" "B") (.int 0) ∈ flS := by decide +kernel
theorem fs_har : ∀ i, i < 11 → Cond.arrayOf (.field (tmS i) "java/lang/String" "value" "[B") .byte ∈ flS := by decide +kernel
theorem fs_hle : ∀ i, i < 11 → Cond.eq (.length (.field (tmS i) "java/lang/String" "value" "[B")) (.int (Int32.ofNat (rhLen.getD i 0))) ∈ flS := by decide +kernel
theorem fs_hel : ∀ i, i < 11 → ∀ j, j < rhLen.getD i 0 → Cond.eq (.elem (.field (tmS i) "java/lang/String" "value" "[B") (.int (Int32.ofNat j))) (.int ((rhByt.getD i []).getD j 0)) ∈ flS := by decide +kernel
theorem fs_ne1 : ∀ i, i < 1 → Cond.not (Cond.eq (tmS i) (tmS 1)) ∈ flS := by decide +kernel
theorem fs_ne2 : ∀ i, i < 2 → Cond.not (Cond.eq (tmS i) (tmS 2)) ∈ flS := by decide +kernel
theorem fs_ne3 : ∀ i, i < 3 → Cond.not (Cond.eq (tmS i) (tmS 3)) ∈ flS := by decide +kernel
theorem fs_ne4 : ∀ i, i < 4 → Cond.not (Cond.eq (tmS i) (tmS 4)) ∈ flS := by decide +kernel
theorem fs_ne5 : ∀ i, i < 5 → Cond.not (Cond.eq (tmS i) (tmS 5)) ∈ flS := by decide +kernel
theorem fs_ne6 : ∀ i, i < 6 → Cond.not (Cond.eq (tmS i) (tmS 6)) ∈ flS := by decide +kernel
theorem fs_ne7 : ∀ i, i < 7 → Cond.not (Cond.eq (tmS i) (tmS 7)) ∈ flS := by decide +kernel
theorem fs_ne8 : ∀ i, i < 8 → Cond.not (Cond.eq (tmS i) (tmS 8)) ∈ flS := by decide +kernel
theorem fs_ne9 : ∀ i, i < 9 → Cond.not (Cond.eq (tmS i) (tmS 9)) ∈ flS := by decide +kernel
theorem fs_ne10 : ∀ i, i < 10 → Cond.not (Cond.eq (tmS i) (tmS 10)) ∈ flS := by decide +kernel
theorem fs_lt : ∀ (j : Nat), j < 11 → ∀ i, i < j → Cond.not (Cond.eq (tmS i) (tmS j)) ∈ flS
  | 0, _, i, h => absurd h (Nat.not_lt_zero i)
  | 1, _, i, h => fs_ne1 i h
  | 2, _, i, h => fs_ne2 i h
  | 3, _, i, h => fs_ne3 i h
  | 4, _, i, h => fs_ne4 i h
  | 5, _, i, h => fs_ne5 i h
  | 6, _, i, h => fs_ne6 i h
  | 7, _, i, h => fs_ne7 i h
  | 8, _, i, h => fs_ne8 i h
  | 9, _, i, h => fs_ne9 i h
  | 10, _, i, h => fs_ne10 i h
  | n + 11, h, _, _ => absurd h (by omega)
theorem fs_hne : ∀ i, i < 11 → ∀ j, j < 11 → i ≠ j → Cond.not (Cond.eq (tmS i) (tmS j)) ∈ flS ∨ Cond.not (Cond.eq (tmS j) (tmS i)) ∈ flS := fun i hi j hj hij => (Nat.lt_or_gt_of_ne hij).imp (fun h => fs_lt j hj i h) (fun h => fs_lt i hi j h)
theorem fs_len : ∀ i, i < 11 → rhLen.getD i 0 < 2 ^ 31 := by decide +kernel
theorem st_eqR {args : Array Value} {s : State} {t u : Term} {a : Nat} (h : (Cond.eq t u).before args s = true) (ht : t.eval args s none [] s = some (.ref a)) : u.eval args s none [] s = some (.ref a) := by
  cases hv : u.eval args s none [] s with
  | none => simp [Cond.before, Cond.holds, Cond.value, ht, hv] at h
  | some w =>
    simp only [Cond.before, Cond.holds, Cond.value, hv, ht] at h
    cases w <;> simp_all
theorem st_arr {args : Array Value} {s : State} {t : FieldType} (h : (Cond.arrayClass t).before args s = true) : ∃ c : ClassId, ArrOfT s c t ∧ s.vm.findClass ("[" ++ t.toString) = some c := by
  obtain ⟨c, k, comp, h1, h2, h3⟩ := Cond.arrayClass_spec h
  exact ⟨c, fun N z => ⟨(fun q hq => by cases hq), k, h2, comp, h3⟩, h1⟩
theorem st_arrA {s : State} {t : FieldType} (h : va_AOA t s) : ∃ c : ClassId, ArrOfT s c (.array t) ∧ s.vm.findClass ("[" ++ (FieldType.array t).toString) = some c := by
  obtain ⟨comp, c, k, h1, h2, h3, h4, h5⟩ := arrayOverA_spec h
  exact ⟨c, fun N z => ⟨(fun q hq => by cases hq), k, h3, comp, h4⟩, h5⟩
theorem st_N {s : State} {args : Array Value} (hts : ∀ w ∈ lw_tbl, w.before args s = true) : ∀ w ∈ rhN, va_Nw w s := by
  intro w hw
  obtain ⟨h1, h2⟩ := List.mem_filter.mp hw
  refine va_Nw.of ?_ (hts w h1)
  cases w <;> first | rfl | (exact absurd h2 (by simp [rhNb]))


set_option maxRecDepth 100000 in
set_option maxHeartbeats 4000000 in
theorem start_K {s : State} {b : Nat} (hts : ∀ w ∈ lw_tbl, w.before #[Value.ref b] s = true) (hgv : (Jvm.Cond.and given_1 narrow_1).before #[Value.ref b] s = true) : ∃ E : rhE, E.2.2.1 = s.heap.size ∧ rhK E s ∧ rhV E s ∧ va_AOA .long s := by
  have hs := flat_of_before _ hgv
  have hA : ∀ a : Nat, a < s.heap.size → ¬ (fun q : Nat => s.heap.size ≤ q) a := fun a h => Nat.not_le.mpr h
  have hO : va_AOA .long s := va_AOA.of (hts _ (List.mem_of_getElem? (i := 128) (by decide +kernel)))
  obtain ⟨cX0, iX0, hKX0⟩ := u_known (C := RX0) (T := TX0) (N := 12) (n := 12) hts (fun w h => (List.mem_filter.mp (inX0 w h)).1) (hts (.instantiable RX0 12) (List.mem_of_getElem? (i := 213) (by decide +kernel)))
  obtain ⟨cX1, iX1, hKX1⟩ := u_known (C := RX1) (T := TX1) (N := 1) (n := 1) hts (fun w h => (List.mem_filter.mp (inX1 w h)).1) (hts (.instantiable RX1 1) (List.mem_of_getElem? (i := 109) (by decide +kernel)))
  obtain ⟨cX2, iX2, hKX2⟩ := u_known (C := RX2) (T := TX2) (N := 4) (n := 4) hts (fun w h => (List.mem_filter.mp (inX2 w h)).1) (hts (.instantiable RX2 4) (List.mem_of_getElem? (i := 122) (by decide +kernel)))
  obtain ⟨cX3, iX3, hKX3⟩ := u_known (C := RX3) (T := TX3) (N := 2) (n := 2) hts (fun w h => (List.mem_filter.mp (inX3 w h)).1) (hts (.instantiable RX3 2) (List.mem_of_getElem? (i := 163) (by decide +kernel)))
  obtain ⟨cX4, iX4, hKX4⟩ := u_known (C := RX4) (T := TX4) (N := 10) (n := 10) hts (fun w h => (List.mem_filter.mp (inX4 w h)).1) (hts (.instantiable RX4 10) (List.mem_of_getElem? (i := 264) (by decide +kernel)))
  obtain ⟨cX5, iX5, hKX5⟩ := u_known (C := RX5) (T := TX5) (N := 6) (n := 6) hts (fun w h => (List.mem_filter.mp (inX5 w h)).1) (hts (.instantiable RX5 6) (List.mem_of_getElem? (i := 177) (by decide +kernel)))
  obtain ⟨cX6, iX6, hKX6⟩ := u_known (C := RX6) (T := TX6) (N := 3) (n := 3) hts (fun w h => (List.mem_filter.mp (inX6 w h)).1) (hts (.instantiable RX6 3) (List.mem_of_getElem? (i := 145) (by decide +kernel)))
  obtain ⟨cX7, iX7, hKX7⟩ := u_known (C := RX7) (T := TX7) (N := 12) (n := 12) hts (fun w h => (List.mem_filter.mp (inX7 w h)).1) (hts (.instantiable RX7 12) (List.mem_of_getElem? (i := 101) (by decide +kernel)))
  obtain ⟨cX8, iX8, hKX8⟩ := u_known (C := RX8) (T := TX8) (N := 37) (n := 37) hts (fun w h => (List.mem_filter.mp (inX8 w h)).1) (hts (.instantiable RX8 37) (List.mem_of_getElem? (i := 1128) (by decide +kernel)))
  obtain ⟨aI0, hI0, hI1⟩ := st_arr (hts (.arrayClass .int) (List.mem_of_getElem? (i := 338) (by decide +kernel)))
  obtain ⟨aL0, hL0, hL1⟩ := st_arr (hts (.arrayClass .long) (List.mem_of_getElem? (i := 120) (by decide +kernel)))
  obtain ⟨aB0, hB0, hB1⟩ := st_arr (hts (.arrayClass .byte) (List.mem_of_getElem? (i := 752) (by decide +kernel)))
  obtain ⟨aC0, hC0, hC1⟩ := st_arr (hts (.arrayClass .char) (List.mem_of_getElem? (i := 161) (by decide +kernel)))
  obtain ⟨aA0, hA0, hA1⟩ := st_arrA hO
  obtain ⟨adK, adV, hSt, hev⟩ := vk_Sof (args := #[Value.ref b]) (s := s) (N := 11) (tm := tmS) (len := rhLen) (byt := rhByt) (A := fun q => s.heap.size ≤ q) fs_len (fun i hi => hs _ (fs_hex i hi)) (fun i hi => hs _ (fs_hco i hi)) (fun i hi => hs _ (fs_har i hi)) (fun i hi => hs _ (fs_hle i hi)) (fun i hi j hj => hs _ (fs_hel i hi j hj)) (fun i j hi hj hij => (fs_hne i hi j hj hij).imp (fun h => hs _ h) (fun h => hs _ h)) hA
  have hz1 : va_Z "java/lang/String" "COMPACT_STRINGS" "Z" (.int 1) (fun q => s.heap.size ≤ q) s s.heap := va_Zof (hts _ (List.mem_of_getElem? (i := 590) (by decide +kernel))) (hts _ (List.mem_of_getElem? (i := 92) (by decide +kernel))) (va_eqt (hs _ (by decide +kernel))) hA
  have hz2 : va_Zq "jdk/internal/util/Preconditions" "SIOOBE_FORMATTER" "Ljava/util/function/BiFunction;" (fun q => s.heap.size ≤ q) s s.heap := va_Zqof (hts _ (List.mem_of_getElem? (i := 606) (by decide +kernel))) (hts _ (List.mem_of_getElem? (i := 94) (by decide +kernel))) (hs _ (by decide +kernel)) hA
  have hz3 : vx_Zq "java/lang/Throwable" "UNASSIGNED_STACK" "[Ljava/lang/StackTraceElement;" (fun q => s.heap.size ≤ q) s s.heap := vx_Zqof (hts _ (List.mem_of_getElem? (i := 1085) (by decide +kernel))) (hts _ (List.mem_of_getElem? (i := 96) (by decide +kernel))) (hs _ (by decide +kernel)) hA
  have hz4 : vx_Zq "java/lang/Throwable" "SUPPRESSED_SENTINEL" "Ljava/util/List;" (fun q => s.heap.size ≤ q) s s.heap := vx_Zqof (hts _ (List.mem_of_getElem? (i := 1087) (by decide +kernel))) (hts _ (List.mem_of_getElem? (i := 96) (by decide +kernel))) (hs _ (by decide +kernel)) hA
  refine ⟨(((fun k => match k with | 0 => cX0 | 1 => cX1 | 2 => cX2 | 3 => cX3 | 4 => cX4 | 5 => cX5 | 6 => cX6 | 7 => cX7 | _ => cX8), (fun k => match k with | 0 => iX0 | 1 => iX1 | 2 => iX2 | 3 => iX3 | 4 => iX4 | 5 => iX5 | 6 => iX6 | 7 => iX7 | _ => iX8)), (fun k => match k with | 0 => aI0 | 1 => aL0 | 2 => aB0 | 3 => aC0 | _ => aA0), s.heap.size, adK, adV), rfl, ⟨⟨?_, ?_⟩, st_N hts, ?_, hSt, Nat.le_refl _, hz1, hz2, hz3.1, hz4.1⟩, ⟨fun w hw => va_Nw.of (rhDb_on (List.mem_filter.mp hw).2) (hts w (List.mem_filter.mp hw).1), hz3.2, hz4.2⟩, hO⟩
  · intro k q hq
    match k, hq with
    | 0, hq => cases hq; exact hKX0
    | 1, hq => cases hq; exact hKX1
    | 2, hq => cases hq; exact hKX2
    | 3, hq => cases hq; exact hKX3
    | 4, hq => cases hq; exact hKX4
    | 5, hq => cases hq; exact hKX5
    | 6, hq => cases hq; exact hKX6
    | 7, hq => cases hq; exact hKX7
    | 8, hq => cases hq; exact hKX8
    | k + 9, hq => simp [vwCl] at hq
  · intro k q hq
    match k, hq with
    | 0, hq => cases hq; exact ⟨hI0, hI1⟩
    | 1, hq => cases hq; exact ⟨hL0, hL1⟩
    | 2, hq => cases hq; exact ⟨hB0, hB1⟩
    | 3, hq => cases hq; exact ⟨hC0, hC1⟩
    | 4, hq => cases hq; exact ⟨hA0, hA1⟩
    | k + 5, hq => simp [rhTy] at hq
  · show ∀ q ∈ rhSR, vk_R q.1 q.2.1 q.2.2.1 (adK q.2.2.2) s
    unfold rhSR
    exact List.forall_mem_cons.mpr ⟨vk_R.of (hts _ (List.mem_of_getElem? (i := 576) (by decide +kernel))) (hev 0 (by decide)), List.forall_mem_cons.mpr ⟨vk_R.of (hts _ (List.mem_of_getElem? (i := 640) (by decide +kernel))) (hev 1 (by decide)), List.forall_mem_cons.mpr ⟨vk_R.of (hts _ (List.mem_of_getElem? (i := 641) (by decide +kernel))) (hev 2 (by decide)), List.forall_mem_cons.mpr ⟨vk_R.of (hts _ (List.mem_of_getElem? (i := 642) (by decide +kernel))) (hev 3 (by decide)), List.forall_mem_cons.mpr ⟨vk_R.of (hts _ (List.mem_of_getElem? (i := 643) (by decide +kernel))) (hev 4 (by decide)), List.forall_mem_cons.mpr ⟨vk_R.of (hts _ (List.mem_of_getElem? (i := 644) (by decide +kernel))) (hev 5 (by decide)), List.forall_mem_cons.mpr ⟨vk_R.of (hts _ (List.mem_of_getElem? (i := 645) (by decide +kernel))) (hev 6 (by decide)), List.forall_mem_cons.mpr ⟨vk_R.of (hts _ (List.mem_of_getElem? (i := 646) (by decide +kernel))) (hev 7 (by decide)), List.forall_mem_cons.mpr ⟨vk_R.of (hts _ (List.mem_of_getElem? (i := 647) (by decide +kernel))) (hev 8 (by decide)), List.forall_mem_cons.mpr ⟨vk_R.of (hts _ (List.mem_of_getElem? (i := 1097) (by decide +kernel))) (hev 9 (by decide)), List.forall_mem_cons.mpr ⟨vk_R.of (hts _ (List.mem_of_getElem? (i := 1413) (by decide +kernel))) (hev 10 (by decide)), List.forall_mem_cons.mpr ⟨vk_R.of (hts _ (List.mem_of_getElem? (i := 1419) (by decide +kernel))) (st_eqR (hs (Cond.eq (.string "RoundHouse$Text" 78) (.string "RoundHouseModel" 181)) (by decide +kernel)) (hev 1 (by decide))), List.forall_mem_cons.mpr ⟨vk_R.of (hts _ (List.mem_of_getElem? (i := 1426) (by decide +kernel))) (st_eqR (hs (Cond.eq (.string "RoundHouse$Text" 80) (.string "RoundHouseModel" 183)) (by decide +kernel)) (hev 2 (by decide))), List.forall_mem_cons.mpr ⟨vk_R.of (hts _ (List.mem_of_getElem? (i := 1430) (by decide +kernel))) (st_eqR (hs (Cond.eq (.string "RoundHouse$Text" 82) (.string "RoundHouseModel" 185)) (by decide +kernel)) (hev 3 (by decide))), List.forall_mem_cons.mpr ⟨vk_R.of (hts _ (List.mem_of_getElem? (i := 1431) (by decide +kernel))) (st_eqR (hs (Cond.eq (.string "RoundHouse$Text" 84) (.string "RoundHouseModel" 187)) (by decide +kernel)) (hev 4 (by decide))), List.forall_mem_cons.mpr ⟨vk_R.of (hts _ (List.mem_of_getElem? (i := 1432) (by decide +kernel))) (st_eqR (hs (Cond.eq (.string "RoundHouse$Text" 86) (.string "RoundHouseModel" 189)) (by decide +kernel)) (hev 5 (by decide))), List.forall_mem_cons.mpr ⟨vk_R.of (hts _ (List.mem_of_getElem? (i := 1433) (by decide +kernel))) (st_eqR (hs (Cond.eq (.string "RoundHouse$Text" 88) (.string "RoundHouseModel" 191)) (by decide +kernel)) (hev 6 (by decide))), List.forall_mem_cons.mpr ⟨vk_R.of (hts _ (List.mem_of_getElem? (i := 1434) (by decide +kernel))) (st_eqR (hs (Cond.eq (.string "RoundHouse$Text" 90) (.string "RoundHouseModel" 193)) (by decide +kernel)) (hev 7 (by decide))), List.forall_mem_cons.mpr ⟨vk_R.of (hts _ (List.mem_of_getElem? (i := 1435) (by decide +kernel))) (st_eqR (hs (Cond.eq (.string "RoundHouse$Text" 92) (.string "RoundHouseModel" 195)) (by decide +kernel)) (hev 8 (by decide))), fun _ h => absurd h List.not_mem_nil⟩⟩⟩⟩⟩⟩⟩⟩⟩⟩⟩⟩⟩⟩⟩⟩⟩⟩⟩

abbrev u0m : Nat → Int32 := va_up (fun _ => 0) 57 1
theorem fm_u0 : ∀ x, x < 172 → (va_up (fun _ => 0) 171 1 : Nat → Int64) x = fm u0m x := by decide +kernel
theorem u0_rest : (∀ h, h < 8 → 0 ≤ (cHeld (fm u0m) h 0).toInt) ∧ (∀ h, h < 8 → 0 ≤ (cGranted (fm u0m) h).toInt) ∧ 0 ≤ (fm u0m 170).toInt ∧ zTot (fm u0m) 1 ≤ 10000000000 ∧ zAG (fm u0m) ≤ 20000000000 ∧ (fm u0m 170).toInt ≤ 30000000000 ∧ (∀ h, h < 8 → ∀ t, t < 6 → 1 ≤ t → u0m (6 * h + t) = 0) ∧ (∀ h, h < 8 → ∀ t, t < 6 → 0 ≤ (cGiven (fm u0m) h t).toInt ∧ (cGiven (fm u0m) h t).toInt ≤ 100000000) ∧ zSz (fm u0m) 1 ≤ 1000000000 := by decide +kernel
theorem mI_u0 : mI u0m 1 := by
  obtain ⟨h1, h2, h3, h4, h5, h6, h7, h8, h9⟩ := u0_rest
  refine ⟨⟨rfl, Nat.le_refl _, by decide, fun t h1 h2 => absurd h1 (by omega)⟩, ⟨by decide, fun h t hh ht => ?_, h2, h3, fun t h1 h2 => absurd h1 (by omega), h4, h5, h6⟩, fun t h1 h2 => absurd h1 (by omega), fun h t hh h1 h2 => h7 h hh t h2 h1, fun h t hh ht => h8 h hh t ht, h9⟩
  obtain rfl : t = 0 := by omega
  exact h1 h hh
theorem sC_0 : (fun _ => 0 : Nat → Int32) = sC (fun _ => 0) := by
  funext k
  unfold sC
  first | rfl | decide | simp
theorem rl_u0 : rl (fm u0m, C0c.2) 1 0 u0m (fun _ => 0) 0 (fun _ => 0) 0 0 (fun _ => 0) 0 (fun _ => 0) 0 := ⟨rfl, mI_u0, ⟨rfl, rfl, fun h => absurd rfl h, by decide +kernel, by decide⟩, ⟨by decide, rfl, by decide, fun j hj => absurd hj (by omega)⟩, rfl, ⟨sC_0, rfl, by decide, fun k hk => absurd hk (by omega)⟩, rfl, by decide, fun k hk => absurd hk (by omega)⟩


set_option maxRecDepth 100000 in
set_option maxHeartbeats 8000000 in
theorem law_all {X : rhX} {E : rhE} {b0 L : Nat} {xs : Nat → Int32} (hL : L ≤ 2560) (hX : Ok X E RL cL_law room_1 8) (hR : RtL X b0 L xs 0 0) : G X 0 [some (.ref b0), none, none, none, none, none, none, none] [] [] := by
  refine rq_new hX hR tyX7 (ci := 7) (fs := [.null, .null, .null, .int 0, .null, .null, .null, .null, .null, .null, .null, .null]) rfl inX7 tyX7_ok (rhT_in 100 (by decide +kernel) rfl) (rhT_in 101 (by decide +kernel) rfl) (rhT_in 81 (by decide +kernel) rfl) (fun j hj => match j, hj with | 0, _ => rfl | 1, _ => rfl | 2, _ => rfl | 3, _ => rfl | 4, _ => rfl | 5, _ => rfl | 6, _ => rfl | 7, _ => rfl | 8, _ => rfl | 9, _ => rfl | 10, _ => rfl | 11, _ => rfl | n + 12, h => absurd h (by omega)) dL_law_0 (by decide) (by decide) (fun X q1 hX hR => ?_)
  refine rh_dup hX dL_law_3 rfl ?_
  show G X 4 _ [.ref q1, .ref q1] [(q1, .inr (7, [.null, .null, .null, .int 0, .null, .null, .null, .null, .null, .null, .null, .null]))]
  refine rq_callE (pos := 0) hX hR lk_L_15 (show rhMd yX7_init cX7_init 1 none 0 from ⟨(rhT_in 81 (by decide +kernel) rfl), (rhT_in 104 (by decide +kernel) rfl), by decide +kernel, by decide +kernel⟩) ⟨rfl, (rhT_in 103 (by decide +kernel) rfl)⟩ (fun l => c_X7_init l E q1) ⟨Nat.le_of_ble_eq_true rfl, Nat.le_of_ble_eq_true rfl⟩ [0] [] rfl rfl rfl rfl (by decide) dL_law_4 rfl rfl (Nat.le_of_ble_eq_true rfl) (by decide) (by decide) (fun X w9 hp hX hR => ?_)
  obtain ⟨A, hA0, rfl⟩ := hp
  subst hA0
  show G X 7 _ [.ref (A 0)] (wC E A C0c Z0c)
  refine rh_astn1 hX dL_law_7 (by decide) rfl ?_
  refine rq_new hX hR tyX8 (ci := 8) (fs := [.null, .null, .int 0, .null, .int 0, .int 0, .null, .int 0, .null, .int 0, .int 0, .int 0, .int 0, .int 0, .null, .int 0, .int 0, .int 0, .int 0, .int 0, .int 0, .int 0, .long 0, .long 0, .long 0, .int 0, .long 0, .long 0, .null, .null, .null, .int 0, .null, .null, .null, .long 0, .long 0]) rfl inX8 tyX8_ok (rhT_in 1127 (by decide +kernel) rfl) (rhT_in 1128 (by decide +kernel) rfl) (rhT_in 89 (by decide +kernel) rfl) (fun j hj => match j, hj with | 0, _ => rfl | 1, _ => rfl | 2, _ => rfl | 3, _ => rfl | 4, _ => rfl | 5, _ => rfl | 6, _ => rfl | 7, _ => rfl | 8, _ => rfl | 9, _ => rfl | 10, _ => rfl | 11, _ => rfl | 12, _ => rfl | 13, _ => rfl | 14, _ => rfl | 15, _ => rfl | 16, _ => rfl | 17, _ => rfl | 18, _ => rfl | 19, _ => rfl | 20, _ => rfl | 21, _ => rfl | 22, _ => rfl | 23, _ => rfl | 24, _ => rfl | 25, _ => rfl | 26, _ => rfl | 27, _ => rfl | 28, _ => rfl | 29, _ => rfl | 30, _ => rfl | 31, _ => rfl | 32, _ => rfl | 33, _ => rfl | 34, _ => rfl | 35, _ => rfl | 36, _ => rfl | n + 37, h => absurd h (by omega)) dL_law_8 (by decide) (by decide) (fun X q2 hX hR => ?_)
  refine rh_dup hX dL_law_11 rfl ?_
  show G X 12 _ [.ref q2, .ref q2] (wC E A C0c Z0c ++ [(q2, .inr (8, [.null, .null, .int 0, .null, .int 0, .int 0, .null, .int 0, .null, .int 0, .int 0, .int 0, .int 0, .int 0, .null, .int 0, .int 0, .int 0, .int 0, .int 0, .int 0, .int 0, .long 0, .long 0, .long 0, .int 0, .long 0, .long 0, .null, .null, .null, .int 0, .null, .null, .null, .long 0, .long 0]))])
  refine rq_callE (pos := 36) hX hR lk_L_18 (show rhMd yX8_init cX8_init 1 none 0 from ⟨(rhT_in 89 (by decide +kernel) rfl), (rhT_in 1131 (by decide +kernel) rfl), by decide +kernel, by decide +kernel⟩) ⟨rfl, (rhT_in 1130 (by decide +kernel) rfl)⟩ (fun l => c_X8_init l E q2) ⟨Nat.le_of_ble_eq_true rfl, Nat.le_of_ble_eq_true rfl⟩ [36] [0, 1, 2, 3, 4, 5, 6, 7, 8, 9, 10, 11, 12, 13, 14, 15, 16, 17, 18, 19, 20, 21, 22, 23, 24, 25, 26, 27, 28, 29, 30, 31, 32, 33, 34, 35] rfl rfl rfl rfl (by decide) dL_law_12 rfl rfl (Nat.le_of_ble_eq_true rfl) (by decide) (by decide) (fun X w9 hp hX hR => ?_)
  obtain ⟨B, hB0, rfl⟩ := hp
  subst hB0
  show G X 15 _ [.ref (B 0)] (wC E A C0c Z0c ++ (wM E B (va_up (fun _ => 0) 57 1) (fun _ => 0) 0 (fun _ => 0) 0 0 (fun _ => 0) 0 (fun _ => 0) 0 0 0 0 0 (fun _ => 0) 0 0 0 0 0 0 0 0 0 0 0 0 0 (fun _ => 0) (fun _ => 0) (fun _ => 0) 0 (fun _ => 0) (fun _ => 0) (fun _ => 0) 0 0))
  refine rh_astn2 hX dL_law_15 (by decide) rfl ?_
  refine rh_iconst hX dL_law_16 ki_1 ?_
  refine rq_newa hX hR (ty := .long) rfl (rhT_in 120 (by decide +kernel) rfl) 1 rfl (N' := 1) (a0 := (1, .inr (.inl (fun _ => 0)))) (fun _ => rfl) (by decide) (by decide) (by decide) dL_law_17 (by decide) (by decide) (fun X o hX hR => ?_)
  refine rh_astn3 hX dL_law_19 (by decide) rfl ?_
  refine rh_iconst hX dL_law_20 ki_0 ?_
  refine rh_ist4 hX dL_law_21 (by decide) rfl ?_
  refine rh_assoc' (w1 := wC E A C0c Z0c) (w2 := wM E B (va_up (fun _ => 0) 57 1) (fun _ => 0) 0 (fun _ => 0) 0 0 (fun _ => 0) 0 (fun _ => 0) 0 0 0 0 0 (fun _ => 0) 0 0 0 0 0 0 0 0 0 0 0 0 0 (fun _ => 0) (fun _ => 0) (fun _ => 0) 0 (fun _ => 0) (fun _ => 0) (fun _ => 0) 0 0) (w3 := [(o, aL E 1 (fun _ => 0))]) ?_
  refine Gd.ofC (C := C0c) (Z := Z0c) rl_u0 fm_u0 rfl X 23 _ [] [(o, aL E 1 (fun _ => 0))] (fun C T Tk Z u kp ik ps pm dd tx ty rw rm th sz he wr mn vl tp lt ra pf pt pl pd prc ns tu ba na ca bo tr tH asd pa tg sd sr h hz => ?_)
  exact law_loop hL 512 X 50 4617 0 C T Tk Z u kp ik ps pm dd tx ty rw rm th sz he wr mn vl tp lt ra pf pt pl pd prc ns tu ba na ca bo tr tH asd pa tg sd sr (fun _ => 0) h hz hX hR (by omega) (Nat.zero_le _) (by omega) (by omega)

theorem whole_start {p : Program} {e : Env} {s : State} {m : MethodId} {below : List Frame} {meth : Method} {c : Code} (l : Launch) (hflags : l.flags = flags0) {b L : Nat} {xs : Nat → Int32} (hL : L ≤ 2560) (C0 : lw_At p s m meth c b L xs) : W p l e room_1 s m #[Value.ref b] below meth c s.heap [] 0 0 (lw_Z below #[Value.ref b] s) (entryFrame m ([Value.ref b] : List Value).toArray 8) := by
  obtain ⟨hx, hb, hr, hml, hown, hts, hXs, hbl, hlocks, hgv⟩ := id C0
  obtain ⟨E, hE, hK, hV, hO⟩ := start_K hts hgv
  have hlt : l.stackTraces = false := by
    show (!l.flags.contains noTraceFlag) = false
    rw [hflags]
    decide +kernel
  have hX : Ok (p, l, e, room_1, s, m, #[Value.ref b], below, meth, c, E, (fun q => s.heap.size ≤ q), lw_Z below #[Value.ref b] s, 0, 0, 8) E RL cL_law room_1 8 :=
    ⟨hx, hb, hml, hown, fun w hw => hts w (List.mem_filter.mp hw).1, hK, fun q h => h, fun q h => by rw [hE]; exact h, hlocks, ⟨Nat.zero_le _, Nat.zero_le _⟩, rfl, rfl, rfl⟩
  have hG := law_all (X := (p, l, e, room_1, s, m, #[Value.ref b], below, meth, c, E, (fun q => s.heap.size ≤ q), lw_Z below #[Value.ref b] s, 0, 0, 8)) (b0 := b) (L := L) (xs := xs) hL hX ⟨rfl, rfl, hr, ⟨hlt, rfl, hV, rfl, hXs, hbl⟩, rfl, rfl, hO⟩
  have hl := lv_entry ([.ref b]) (n := 8) (Nat.le_of_ble_eq_true rfl)
  rw [lg_entry_eq]
  generalize (lg_sl ([.ref b]) ++ List.replicate (8 - (lg_sl ([.ref b])).length) Slot.unset).toArray = ls at hl ⊢
  have hP : va_P E.1 vwCl [] s.heap := fun k q h => by simp at h
  have hD : va_D (fun q : Nat => s.heap.size ≤ q) [] := ⟨fun i j p q h => by simp at h, fun k q h => by simp at h⟩
  refine hG s.heap [] ls hP hD va_S.rf ⟨hl.1, hl.2.1, fun i v h => hl.2.2 (i, v) ?_⟩
  have := rhArgs_in [.ref b] 0 i v (rhPad (l := rhArgs [.ref b]) (n := 7) h)
  rwa [Nat.zero_add] at this
