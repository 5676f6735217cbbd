theorem xUp_1 {d : Int32} {mo : Int64} (q : ¬ xUp d mo = 0) : 1 ≤ d.toInt ∧ d.toInt ≤ mo.toInt := by
  unfold xUp at q
  by_cases a : d < 1
  · rw [if_pos a] at q; exact absurd rfl q
  · rw [if_neg a] at q
    by_cases b : mo < d.toInt64
    · rw [if_pos b] at q; exact absurd rfl q
    · rw [z_lt, z_l] at b
      rw [z_lt32, show (1 : Int32).toInt = 1 by decide] at a
      exact ⟨by omega, by omega⟩
theorem xSum_1 {s : Int32} (q : ¬ xSum s = 0) : 0 ≤ s.toInt ∧ s.toInt ≤ 1000000000 := by
  unfold xSum at q
  by_cases a : s < 0
  · rw [if_pos a] at q; exact absurd rfl q
  · rw [if_neg a] at q
    by_cases b : 1000000000 < s.toInt64
    · rw [if_pos b] at q; exact absurd rfl q
    · rw [z_lt, z_l, show (1000000000 : Int64).toInt = 1000000000 by decide] at b
      rw [z_lt32, show (0 : Int32).toInt = 0 by decide] at a
      exact ⟨by omega, by omega⟩
theorem sum_l {s : Int32} (q : ¬ xSum s = 0) : 0 ≤ s.toInt64.toInt := by rw [z_l]; exact (xSum_1 q).1
/-- a step of at most 100 -/
theorem stp_z {k : Nat} {d : Int32} (hk : k ≤ 100) (h1 : 1 ≤ d.toInt) : ((nI k).toInt64 * d.toInt64).toInt = k * d.toInt := by
  have h2 := (z_rng32 d).2
  have a : (k : Int) * d.toInt ≤ 100 * 2147483648 := Int.mul_le_mul (by omega) (by omega) (by omega) (by omega)
  have b : 0 ≤ (k : Int) * d.toInt := Int.mul_nonneg (by omega) (by omega)
  exact z_mul (by rw [z_l, nI_toInt (by omega)]) (z_l d) (by omega) (by omega)
theorem stp_nn {k : Nat} {d : Int32} (hk : k ≤ 100) (h1 : 1 ≤ d.toInt) : 0 ≤ ((nI k).toInt64 * d.toInt64).toInt := by
  rw [stp_z hk h1]
  exact Int.mul_nonneg (by omega) (by omega)
theorem mI.tot {u : Nat → Int32} {T : Nat} (h : mI u T) : zTot (fm u) T ≤ 1000000000 := by
  have h1 := zSz_ge h.b
  have h2 := zAG_nn h.b
  have h3 := h.b.2.2.2.1
  have h4 := h.2.2.2.2.2
  omega
theorem cPref_b {u : Nat → Int32} {T t : Nat} (h : mI u T) (h1 : 1 ≤ t) (ht : t < T) : 0 ≤ (cPref (fm u) t).toInt ∧ (cPref (fm u) t).toInt ≤ 50000000000000 := by
  obtain ⟨a1, a2⟩ := cAllHeld_b h.b ht
  have a3 := h.tot
  obtain ⟨b1, b2, b3⟩ := h.b.2.2.2.2.1 t h1 ht
  obtain ⟨-, ⟨c1, c2⟩, -, -⟩ := h.r t h1 ht
  have d1 : (cAllHeld (fm u) t).toInt * (cFact (fm u) t 0).toInt ≤ 1000000000 * 100000000 := Int.mul_le_mul (by omega) b3 (by omega) (by omega)
  have d0 : 0 ≤ (cAllHeld (fm u) t).toInt * (cFact (fm u) t 0).toInt := Int.mul_nonneg a1 (by omega)
  have e1 : (cAllHeld (fm u) t).toInt * (cFact (fm u) t 0).toInt * (cFact (fm u) t 3).toInt ≤ (1000000000 * 100000000) * 50 := Int.mul_le_mul d1 c2 c1 (by omega)
  have e0 : 0 ≤ (cAllHeld (fm u) t).toInt * (cFact (fm u) t 0).toInt * (cFact (fm u) t 3).toInt := Int.mul_nonneg d0 c1
  unfold cPref
  rw [z_div (z_mul (z_mul rfl rfl (by omega) (by omega)) rfl (by omega) (by omega)) (show (100000 : Int64).toInt = 100000 by decide) e0 (by decide)]
  constructor
  · exact Int.ediv_nonneg e0 (by decide)
  · omega
theorem cDue_b {u : Nat → Int32} {T t : Nat} (h : mI u T) (ht : t < T) : 0 ≤ (cDue (fm u) t).toInt ∧ (cDue (fm u) t).toInt ≤ 50000000000000 := by
  unfold cDue
  by_cases e : t = 0
  · rw [if_pos e]; decide
  · rw [if_neg e]; exact cPref_b h (by omega) ht
theorem pLeft_b {du : Nat → Int64} {T : Nat} (hd : ∀ c, c < T → 0 ≤ (du c).toInt) (set : Int32) {s : Int64} (hs : 0 ≤ s.toInt) : ∀ j : Nat, j < T → 0 ≤ (pLeft du set s T j).toInt ∧ (pLeft du set s T j).toInt ≤ s.toInt
  | 0, _ => ⟨hs, Int.le_refl _⟩
  | j + 1, hj => by
    obtain ⟨h1, h2⟩ := pLeft_b hd set hs j (by omega)
    have h3 := (z_rng s).2
    rw [pLeft]
    by_cases e : sBit set (T - 1 - j) = 1
    · rw [if_pos e, z_sub rfl (show (0 : Int64).toInt = 0 from rfl) (by omega) (by omega)]
      omega
    · have h4 := hd (T - 1 - j) (by omega)
      rw [if_neg e, z_sub rfl z_min (by omega) (by omega)]
      omega
theorem pFirst_b {du : Nat → Int64} {T : Nat} (hd : ∀ c, c < T → 0 ≤ (du c).toInt) (set : Int32) {s : Int64} (hs : 0 ≤ s.toInt) {c : Nat} (hc : c < T) : 0 ≤ (pFirst du set s T c).toInt ∧ (pFirst du set s T c).toInt ≤ (du c).toInt ∧ (pFirst du set s T c).toInt ≤ s.toInt := by
  have h1 := pLeft_b hd set hs (T - 1 - c) (by omega)
  have h4 := hd c hc
  unfold pFirst
  by_cases e : sBit set c = 1
  · rw [if_pos e]
    refine ⟨Int.le_refl _, h4, hs⟩
  · rw [if_neg e, z_min]
    omega
theorem xPF_b {u : Nat → Int32} {T : Nat} (h : mI u T) {s : Int64} (hs : 0 ≤ s.toInt) {c : Nat} (hc : c < T) : 0 ≤ (xPF (fm u) T s c).toInt ∧ (xPF (fm u) T s c).toInt ≤ (cDue (fm u) c).toInt ∧ (xPF (fm u) T s c).toInt ≤ s.toInt := by
  unfold xPF
  by_cases e : c = 0
  · rw [if_pos e]
    exact ⟨Int.le_refl _, (cDue_b h hc).1, hs⟩
  · rw [if_neg e]
    exact pFirst_b (fun c hc => (cDue_b h hc).1) _ hs hc
theorem cQuot_z0 (x b : Int64) : cQuot (0 * x) b = 0 := by
  unfold cQuot
  rw [Int64.zero_mul, zero_div64]
  split <;> rfl
theorem mGA_x {u : Nat → Int32} {T : Nat} (h : mI u T) {s : Int64} (hs : 0 ≤ s.toInt) {pa : Nat → Int64} (hpa : ∀ t, t < T → pa t = xPF (fm u) T s t) (hd : Nat) : mGA (fm u) pa hd T = xHP (fm u) T s hd := by
  unfold mGA xHP sPrefd
  refine sum1_ext _ _ _ (fun t h1 h2 => ?_)
  rw [hpa t h2]
  obtain ⟨b1, b2⟩ := xPF_b h hs h2
  by_cases e : xPF (fm u) T s t ≤ 0
  · have e0 : xPF (fm u) T s t = 0 := Int64.toInt_inj.mp (by rw [z_le, show (0 : Int64).toInt = 0 from rfl] at e; rw [show (0 : Int64).toInt = 0 from rfl]; omega)
    rw [if_pos e, e0, cQuot_z0]
  · rw [if_neg e]
    unfold cQuot
    by_cases q : cAllHeld (fm u) t ≤ 0
    · rw [if_pos q, if_neg (by rw [z_lt]; rw [z_le] at q; omega)]
    · rw [if_neg q, if_pos (by rw [z_lt]; rw [z_le] at q; omega)]
theorem mGS_x {u : Nat → Int32} {T : Nat} (h : mI u T) (s : Int64) (hd : Nat) : mGS (fm u) u (xL (fm u) T s) (xS (fm u) T s) hd (xQ (fm u) T s) T = xHS (fm u) T s hd := by
  have h6 := h.ok.2.2.1
  have h1 := h.ok.2.1
  have hn : 0 ≤ (xS (fm u) T s).toInt := by rw [← mSr_x h.r h1 h6]; exact (mSr_b h.b _).1
  unfold mGS xHS sShared
  rw [mShareBy_q _ _ _ hn]
  refine sumF_ext (fun t ht => ?_)
  rw [mS1_s h.r ht h6, mShareBy_q _ _ _ hn]
theorem cAllGiven_b {u : Nat → Int32} {T : Nat} (h : mI u T) {hd : Nat} (hh : hd < 8) : ∀ n : Nat, n ≤ T → 0 ≤ (sum1 (fun c => cGiven (fm u) hd c) n).toInt ∧ (sum1 (fun c => cGiven (fm u) hd c) n).toInt ≤ n * 100000000
  | 0, _ => ⟨Int.le_refl 0, by show (0 : Int) ≤ _; omega⟩
  | n + 1, hn => by
    have h6 := h.ok.2.2.1
    rw [sum1]
    by_cases e : n = 0
    · rw [if_pos e]
      exact ⟨Int.le_refl 0, by show (0 : Int) ≤ _; omega⟩
    · obtain ⟨a1, a2⟩ := cAllGiven_b h hh n (by omega)
      obtain ⟨b1, b2⟩ := h.2.2.2.2.1 hd n hh (by omega)
      rw [if_neg e, z_add rfl rfl (by omega) (by omega)]
      omega

set_option maxRecDepth 100000 in
set_option maxHeartbeats 4000000 in
theorem c_X8_getsAll (l : Launch) (E : rhE) (B : Nat → Nat) (u : Nat → Int32) (kp : Nat → Int32) (ik : Int32) (ps : Nat → Int32) (pm : Nat) (dd : Int32) (tx : Nat → Int32) (ty : Nat) (rw : Nat → Int64) (rm : Nat) (th : Int32) (sz : Nat) (he : Nat) (wr : Int32) (mn : Nat → Int32) (vl : Int32) (tp : Int32) (lt : Int32) (ra : Int32) (pf : Int32) (pt : Int32) (pl : Int32) (pd : Int64) (prc : Int64) (ns : Int64) (tu : Nat) (ba : Int64) (na : Int64) (ca : Nat → Int64) (bo : Nat → Int32) (tr : Nat → Int64) (tH : Int32) (asd : Nat → Int32) (pa : Nat → Int64) (tg : Nat → Int64) (sd : Int64) (sr : Int64) (h : Nat) (s : Int64) (T : Nat) (hI : mI u T) (hh : h < 8) (hs : 0 ≤ s.toInt) : Ctr l E yX8_getsAll cX8_getsAll 5 (some .long) (rmL 5) [.ref (B 0), .int (nI h), .long s] (wM E B u kp ik ps pm dd tx ty rw rm th sz he wr mn vl tp lt ra pf pt pl pd prc ns tu ba na ca bo tr tH asd pa tg sd sr) (fun r w => ∃ pa1 tg1, r = some (Value.long (xHG (fm u) T s h)) ∧ (∀ t, t < T → pa1 t = xPF (fm u) T s t) ∧ (∀ t, t < T → tg1 t = xTG (fm u) T s t) ∧ w = (wM E B u kp ik ps pm dd tx ty rw rm th sz he wr mn vl tp lt ra pf pt pl pd prc ns tu ba na ca bo tr tH asd pa1 tg1 (xL (fm u) T s) (xS (fm u) T s))) := by
  refine Ctr.of (by decide) (Nat.le_of_ble_eq_true rfl) rfl rfl 1 ?_
  intro X hX hR
  have hM := hI.ok
  obtain ⟨hT, hT1, hT6, hcv⟩ := id hM
  refine rh_aload_n hX dX8_getsAll_0 rfl ?_
  refine rh_lload_n hX dX8_getsAll_1 rfl ?_
  refine rh_callV hX lk_X8_364 mvX8_converting (fun l => c_X8_converting l E _ _ _ _ _ _ _ _ _ _ _ _ _ _ _ _ _ _ _ _ _ _ _ _ _ _ _ _ _ _ _ _ _ _ _ _ _ _ s T hI) ⟨rfl, rfl⟩ ⟨Nat.le_of_ble_eq_true rfl, Nat.le_of_ble_eq_true rfl⟩ [0, 1, 2, 3, 4, 5, 6, 7, 8, 9, 10, 11, 12] rfl rfl 0 rfl dX8_getsAll_2 rfl rfl (Nat.le_of_ble_eq_true rfl) (fun r w hp hf => ?_)
  obtain ⟨pa1, tg1, rfl, hpa, htg, rfl⟩ := hp
  dsimp only [vput, List.set_cons_succ, List.set_cons_zero, Option.toList, List.cons_append, List.nil_append]
  refine rh_ist4 hX dX8_getsAll_5 (by decide) rfl ?_
  refine rh_aload_n hX dX8_getsAll_7 rfl ?_
  refine rh_iload_n hX dX8_getsAll_8 rfl ?_
  refine rh_pV hX lk_X8_368 mvX8_getsAhead (fun l => c_X8_getsAhead l E _ _ _ _ _ _ _ _ _ _ _ _ _ _ _ _ _ _ _ _ _ _ _ _ _ _ _ _ _ _ _ _ _ _ _ _ _ _ h T hM (by omega)) ⟨rfl, rfl⟩ ⟨Nat.le_of_ble_eq_true rfl, Nat.le_of_ble_eq_true rfl⟩ [0, 1, 2, 3, 4, 5, 6, 7, 8, 9, 10, 11, 12] rfl rfl 0 rfl dX8_getsAll_9 rfl rfl (Nat.le_of_ble_eq_true rfl) ?_
  rw [mGA_x hI hs hpa]
  refine rh_aload_n hX dX8_getsAll_12 rfl ?_
  refine rh_iload_n hX dX8_getsAll_13 rfl ?_
  refine rh_iload hX dX8_getsAll_14 rfl ?_
  refine rh_pV hX lk_X8_371 mvX8_getsShared (fun l => c_X8_getsShared l E _ _ _ _ _ _ _ _ _ _ _ _ _ _ _ _ _ _ _ _ _ _ _ _ _ _ _ _ _ _ _ _ _ _ _ _ _ _ h _ T hM (by omega)) ⟨rfl, rfl⟩ ⟨Nat.le_of_ble_eq_true rfl, Nat.le_of_ble_eq_true rfl⟩ [0, 1, 2, 3, 4, 5, 6, 7, 8, 9, 10, 11, 12] rfl rfl 0 rfl dX8_getsAll_16 rfl rfl (Nat.le_of_ble_eq_true rfl) ?_
  rw [mGS_x hI s h]
  refine rh_ladd hX dX8_getsAll_19 ?_
  exact rh_lret hX hR dX8_getsAll_20 (by simp only [List.map_cons, List.map_nil, List.cons_append, List.nil_append]) ⟨pa1, tg1, rfl, hpa, htg, rfl⟩

set_option maxRecDepth 100000 in
set_option maxHeartbeats 4000000 in
theorem c_X8_exit (l : Launch) (E : rhE) (B : Nat → Nat) (u : Nat → Int32) (kp : Nat → Int32) (ik : Int32) (ps : Nat → Int32) (pm : Nat) (dd : Int32) (tx : Nat → Int32) (ty : Nat) (rw : Nat → Int64) (rm : Nat) (th : Int32) (sz : Nat) (he : Nat) (wr : Int32) (mn : Nat → Int32) (vl : Int32) (tp : Int32) (lt : Int32) (ra : Int32) (pf : Int32) (pt : Int32) (pl : Int32) (pd : Int64) (prc : Int64) (ns : Int64) (tu : Nat) (ba : Int64) (na : Int64) (ca : Nat → Int64) (bo : Nat → Int32) (tr : Nat → Int64) (tH : Int32) (asd : Nat → Int32) (pa : Nat → Int64) (tg : Nat → Int64) (sd : Int64) (sr : Int64) (s : Int32) (C : CT) (hCu : C.1 = fm u) (T : Nat) (hI : mI u T)  : Ctr l E yX8_exit cX8_exit 4 (some .int) (rmL 6) [.ref (B 0), .int s] (wM E B u kp ik ps pm dd tx ty rw rm th sz he wr mn vl tp lt ra pf pt pl pd prc ns tu ba na ca bo tr tH asd pa tg sd sr) (fun r w => ∃ pa1 tg1 sd1 sr1 rw1 rm1, r = some (Value.int (x_exit C T s).1) ∧ mTold rw rm rw1 rm1 (x_exit C T s).2 ∧ w = (wM E B u kp ik ps pm dd tx ty rw1 rm1 0 sz he wr mn vl tp lt ra pf pt pl pd prc ns tu ba na ca bo tr tH asd pa1 tg1 sd1 sr1)) := by
  refine Ctr.of (by decide) (Nat.le_of_ble_eq_true rfl) rfl rfl 2 ?_
  intro X hX hR
  have hM := hI.ok
  obtain ⟨hT, hT1, hT6, hcv⟩ := id hM
  refine rh_aload_n hX dX8_exit_0 rfl ?_
  refine rh_iconst hX dX8_exit_1 ki_0 ?_
  refine rh_put hX gl_X8_48 0 dX8_exit_2 rfl rfl rfl (Nat.le_of_ble_eq_true rfl) rfl ?_
  dsimp only [List.cons_append, List.nil_append, List.set_cons_succ, List.set_cons_zero, vput]
  refine rh_iload_n hX dX8_exit_5 rfl ?_
  refine rh_pS hX lk_X8_361 msX8_isSum (fun l => c_X8_isSumS l E _) ⟨rfl, rfl⟩ ⟨Nat.le_of_ble_eq_true rfl, Nat.le_of_ble_eq_true rfl⟩ [] rfl rfl dX8_exit_6 rfl rfl (Nat.le_of_ble_eq_true rfl) ?_
  refine rh_if_ne (tgt := 14) hX dX8_exit_9 (by decide) (fun h9 => ?_) (fun h9 => ?_)
  · skip
    have hs := sum_l h9
    refine rh_aload_n hX dX8_exit_14 rfl ?_
    refine rh_iload_n hX dX8_exit_15 rfl ?_
    refine rh_i2l hX dX8_exit_16 ?_
    refine rh_callV hX lk_X8_364 mvX8_converting (fun l => c_X8_converting l E _ _ _ _ _ _ _ _ _ _ _ _ _ _ _ _ _ _ _ _ _ _ _ _ _ _ _ _ _ _ _ _ _ _ _ _ _ _ _ T hI) ⟨rfl, rfl⟩ ⟨Nat.le_of_ble_eq_true rfl, Nat.le_of_ble_eq_true rfl⟩ [0, 1, 2, 3, 4, 5, 6, 7, 8, 9, 10, 11, 12] rfl rfl 0 rfl dX8_exit_17 rfl rfl (Nat.le_of_ble_eq_true rfl) (fun r w hp hf => ?_)
    obtain ⟨pa1, tg1, rfl, hpa, htg, rfl⟩ := hp
    dsimp only [vput, List.set_cons_succ, List.set_cons_zero, Option.toList, List.cons_append, List.nil_append]
    refine rh_istn2 hX dX8_exit_20 (by decide) rfl ?_
    refine rh_aload_n hX dX8_exit_21 rfl ?_
    refine rh_iconst hX dX8_exit_22 ki_0 ?_
    refine rh_put hX gl_X8_52 0 dX8_exit_23 rfl rfl rfl (Nat.le_of_ble_eq_true rfl) rfl ?_
    dsimp only [List.cons_append, List.nil_append, List.set_cons_succ, List.set_cons_zero, vput]
    refine rh_aload_n hX dX8_exit_26 rfl ?_
    refine rh_iload_n hX dX8_exit_27 rfl ?_
    refine rh_i2l hX dX8_exit_28 ?_
    refine rh_uV hX lk_X8_299 mvX8_tell (fun l => c_X8_tell l E _ _ _ _ _ _ _ _ _ _ 0 _ _ _ _ _ _ _ _ _ _ _ _ _ _ _ _ _ _ _ _ _ _ _ _ _ _ _ _ (by omega)) ⟨rfl, rfl⟩ ⟨Nat.le_of_ble_eq_true rfl, Nat.le_of_ble_eq_true rfl⟩ [0, 1, 2, 3, 4, 5, 6, 7, 8, 9, 10, 11, 12] rfl rfl 0 rfl dX8_exit_29 rfl rfl (Nat.le_of_ble_eq_true rfl) rfl ?_
    dsimp only [List.cons_append, List.nil_append, List.set_cons_succ, List.set_cons_zero, vput]
    refine rh_iconst hX dX8_exit_32 ki_1 ?_
    refine rh_istn3 hX dX8_exit_33 (by decide) rfl ?_
    refine (rh_loop (P := fun c => ∀ g1, rowOk g1 ([(xQ (fm u) T s.toInt64).toInt64] ++ (List.range (c - 1)).map (fun k => xTG (fm u) T s.toInt64 (k + 1))) → G X 34 [some (.ref (B 0)), some (.int s), some (.int (xQ (fm u) T s.toInt64)), some (.int (nI c))] [] (wM E B u kp ik ps pm dd tx ty g1 c 0 sz he wr mn vl tp lt ra pf pt pl pd prc ns tu ba na ca bo tr tH asd pa1 tg1 (xL (fm u) T s.toInt64) (xS (fm u) T s.toInt64))) (1) (T) (by omega) ?_ ?_) _ (rowOk1 _ _)
    · intro g1 hg
      refine rh_iload_n hX dX8_exit_34 rfl ?_
      refine rh_aload_n hX dX8_exit_35 rfl ?_
      refine rh_get hX gl_X8_7 0 dX8_exit_36 rfl rfl ?_
      refine rh_bipush hX dX8_exit_39 kb_57 ?_
      refine rh_iaload hX 1 _ dX8_exit_41 rfl rn_c57 (by omega) (by decide) ?_
      refine rh_icmp_ge_t (tgt := 61) hX dX8_exit_42 (by decide) (by rw [hT]; exact nI_le (Nat.le_refl T) (by omega)) ?_
      refine rh_aload_n hX dX8_exit_61 rfl ?_
      refine rh_get hX gl_X8_45 0 dX8_exit_62 rfl rfl ?_
      refine rh_iconst hX dX8_exit_65 ki_0 ?_
      refine rh_laload hX 12 _ dX8_exit_66 rfl rn_c0 (by omega) (by decide) ?_
      rw [htg 0 (by omega)]
      refine rh_l2i hX dX8_exit_67 ?_
      exact rh_iret hX hR dX8_exit_68 (by simp only [List.map_cons, List.map_nil, List.cons_append, List.nil_append]) (by refine ⟨pa1, tg1, _, _, g1, T, ?ga, ?gb, rfl⟩; (case ga => rw [x_exit, if_neg h9, hCu]); (case gb => rw [x_exit, if_neg h9, hCu]; exact ⟨hg, by rw [List.length_append, List.length_map, List.length_range, List.length_singleton, Nat.add_sub_cancel' hT1]⟩))
    · intro c hc0 hc ihc g1 hg
      obtain ⟨e, rfl⟩ : ∃ e, c = e + 1 := ⟨c - 1, by omega⟩
      refine rh_iload_n hX dX8_exit_34 rfl ?_
      refine rh_aload_n hX dX8_exit_35 rfl ?_
      refine rh_get hX gl_X8_7 0 dX8_exit_36 rfl rfl ?_
      refine rh_bipush hX dX8_exit_39 kb_57 ?_
      refine rh_iaload hX 1 _ dX8_exit_41 rfl rn_c57 (by omega) (by decide) ?_
      refine rh_icmp_ge_f (tgt := 61) hX dX8_exit_42 (by decide) (by rw [hT]; exact nI_ge hc (by omega)) ?_
      refine rh_aload_n hX dX8_exit_45 rfl ?_
      refine rh_aload_n hX dX8_exit_46 rfl ?_
      refine rh_get hX gl_X8_45 0 dX8_exit_47 rfl rfl ?_
      refine rh_iload_n hX dX8_exit_50 rfl ?_
      refine rh_laload hX 12 _ dX8_exit_51 rfl rfl (by omega) (by decide) ?_
      rw [htg (e + 1) (by omega)]
      refine rh_uV hX lk_X8_299 mvX8_tell (fun l => c_X8_tell l E _ _ _ _ _ _ _ _ _ _ (e + 1) _ _ _ _ _ _ _ _ _ _ _ _ _ _ _ _ _ _ _ _ _ _ _ _ _ _ _ _ (by omega)) ⟨rfl, rfl⟩ ⟨Nat.le_of_ble_eq_true rfl, Nat.le_of_ble_eq_true rfl⟩ [0, 1, 2, 3, 4, 5, 6, 7, 8, 9, 10, 11, 12] rfl rfl 0 rfl dX8_exit_52 rfl rfl (Nat.le_of_ble_eq_true rfl) rfl ?_
      dsimp only [List.cons_append, List.nil_append, List.set_cons_succ, List.set_cons_zero, vput]
      refine rh_inc3 hX dX8_exit_55 (by decide) rfl (rn_i1 _) ?_
      refine rh_goto (tgt := 34) hX dX8_exit_58 (by decide) ?_
      exact ihc _ (by rw [show e + 1 + 1 - 1 = e + 1 by omega, range_push, ← List.append_assoc]; exact rowOk_push _ hg (by rw [List.length_append, List.length_map, List.length_range, List.length_singleton]; omega))
  · skip
    refine rh_iconst hX dX8_exit_12 ki_m1 ?_
    exact rh_iret hX hR dX8_exit_13 (by simp only [List.map_cons, List.map_nil, List.cons_append, List.nil_append]) (by first | exact ⟨pa, tg, sd, sr, rw, rm, by rw [x_exit, if_pos h9] <;> rfl, by rw [x_exit, if_pos h9]; exact ⟨rfl, rfl⟩, rfl⟩)

set_option maxRecDepth 100000 in
set_option maxHeartbeats 4000000 in
theorem c_X8_gets (l : Launch) (E : rhE) (B : Nat → Nat) (u : Nat → Int32) (kp : Nat → Int32) (ik : Int32) (ps : Nat → Int32) (pm : Nat) (dd : Int32) (tx : Nat → Int32) (ty : Nat) (rw : Nat → Int64) (rm : Nat) (th : Int32) (sz : Nat) (he : Nat) (wr : Int32) (mn : Nat → Int32) (vl : Int32) (tp : Int32) (lt : Int32) (ra : Int32) (pf : Int32) (pt : Int32) (pl : Int32) (pd : Int64) (prc : Int64) (ns : Int64) (tu : Nat) (ba : Int64) (na : Int64) (ca : Nat → Int64) (bo : Nat → Int32) (tr : Nat → Int64) (tH : Int32) (asd : Nat → Int32) (pa : Nat → Int64) (tg : Nat → Int64) (sd : Int64) (sr : Int64) (h s : Int32) (C : CT) (hCu : C.1 = fm u) (T : Nat) (hI : mI u T)  : Ctr l E yX8_gets cX8_gets 4 (some .int) (rmL 6) [.ref (B 0), .int h, .int s] (wM E B u kp ik ps pm dd tx ty rw rm th sz he wr mn vl tp lt ra pf pt pl pd prc ns tu ba na ca bo tr tH asd pa tg sd sr) (fun r w => ∃ pa1 tg1 sd1 sr1 rw1 rm1, r = some (Value.int (x_gets C T h s).1) ∧ mTold rw rm rw1 rm1 (x_gets C T h s).2 ∧ w = (wM E B u kp ik ps pm dd tx ty rw1 rm1 0 sz he wr mn vl tp lt ra pf pt pl pd prc ns tu ba na ca bo tr tH asd pa1 tg1 sd1 sr1)) := by
  refine Ctr.of (by decide) (Nat.le_of_ble_eq_true rfl) rfl rfl 1 ?_
  intro X hX hR
  have hM := hI.ok
  obtain ⟨hT, hT1, hT6, hcv⟩ := id hM
  refine rh_aload_n hX dX8_gets_0 rfl ?_
  refine rh_iconst hX dX8_gets_1 ki_0 ?_
  refine rh_put hX gl_X8_48 0 dX8_gets_2 rfl rfl rfl (Nat.le_of_ble_eq_true rfl) rfl ?_
  dsimp only [List.cons_append, List.nil_append, List.set_cons_succ, List.set_cons_zero, vput]
  refine rh_iload_n hX dX8_gets_5 rfl ?_
  refine rh_pS hX lk_X8_140 msX8_isHolder (fun l => c_X8_isHolderH l E _) ⟨rfl, rfl⟩ ⟨Nat.le_of_ble_eq_true rfl, Nat.le_of_ble_eq_true rfl⟩ [] rfl rfl dX8_gets_6 rfl rfl (Nat.le_of_ble_eq_true rfl) ?_
  refine rh_if_eq (tgt := 19) hX dX8_gets_9 (by decide) (fun h9 => ?_) (fun h9 => ?_)
  · skip
    refine rh_iconst hX dX8_gets_19 ki_m1 ?_
    exact rh_iret hX hR dX8_gets_20 (by simp only [List.map_cons, List.map_nil, List.cons_append, List.nil_append]) (by first | exact ⟨pa, tg, sd, sr, rw, rm, by rw [x_gets, if_pos h9] <;> rfl, by rw [x_gets, if_pos h9]; exact ⟨rfl, rfl⟩, rfl⟩ | exact ⟨pa, tg, sd, sr, rw, rm, by rw [x_gets, if_neg h9, if_pos h16] <;> rfl, by rw [x_gets, if_neg h9, if_pos h16]; exact ⟨rfl, rfl⟩, rfl⟩)
  · skip
    obtain ⟨hd, rfl, hdl⟩ := xH_1 h9
    refine rh_iload_n hX dX8_gets_12 rfl ?_
    refine rh_pS hX lk_X8_361 msX8_isSum (fun l => c_X8_isSumS l E _) ⟨rfl, rfl⟩ ⟨Nat.le_of_ble_eq_true rfl, Nat.le_of_ble_eq_true rfl⟩ [] rfl rfl dX8_gets_13 rfl rfl (Nat.le_of_ble_eq_true rfl) ?_
    refine rh_if_ne (tgt := 21) hX dX8_gets_16 (by decide) (fun h16 => ?_) (fun h16 => ?_)
    · skip
      have hs := sum_l h16
      refine rh_aload_n hX dX8_gets_21 rfl ?_
      refine rh_iload_n hX dX8_gets_22 rfl ?_
      refine rh_i2l hX dX8_gets_23 ?_
      refine rh_callV hX lk_X8_364 mvX8_converting (fun l => c_X8_converting l E _ _ _ _ _ _ _ _ _ _ _ _ _ _ _ _ _ _ _ _ _ _ _ _ _ _ _ _ _ _ _ _ _ _ _ _ _ _ _ T hI) ⟨rfl, rfl⟩ ⟨Nat.le_of_ble_eq_true rfl, Nat.le_of_ble_eq_true rfl⟩ [0, 1, 2, 3, 4, 5, 6, 7, 8, 9, 10, 11, 12] rfl rfl 0 rfl dX8_gets_24 rfl rfl (Nat.le_of_ble_eq_true rfl) (fun r w hp hf => ?_)
      obtain ⟨pa1, tg1, rfl, hpa, htg, rfl⟩ := hp
      dsimp only [vput, List.set_cons_succ, List.set_cons_zero, Option.toList, List.cons_append, List.nil_append]
      refine rh_istn3 hX dX8_gets_27 (by decide) rfl ?_
      refine rh_aload_n hX dX8_gets_28 rfl ?_
      refine rh_iconst hX dX8_gets_29 ki_0 ?_
      refine rh_put hX gl_X8_52 0 dX8_gets_30 rfl rfl rfl (Nat.le_of_ble_eq_true rfl) rfl ?_
      dsimp only [List.cons_append, List.nil_append, List.set_cons_succ, List.set_cons_zero, vput]
      refine rh_aload_n hX dX8_gets_33 rfl ?_
      refine rh_aload_n hX dX8_gets_34 rfl ?_
      refine rh_iload_n hX dX8_gets_35 rfl ?_
      refine rh_pV hX lk_X8_368 mvX8_getsAhead (fun l => c_X8_getsAhead l E _ _ _ _ _ _ _ _ _ _ _ _ _ _ _ _ _ _ _ _ _ _ _ _ _ _ _ _ _ _ _ _ _ _ _ _ _ _ hd T hM (by omega)) ⟨rfl, rfl⟩ ⟨Nat.le_of_ble_eq_true rfl, Nat.le_of_ble_eq_true rfl⟩ [0, 1, 2, 3, 4, 5, 6, 7, 8, 9, 10, 11, 12] rfl rfl 0 rfl dX8_gets_36 rfl rfl (Nat.le_of_ble_eq_true rfl) ?_
      rw [mGA_x hI hs hpa]
      refine rh_uV hX lk_X8_299 mvX8_tell (fun l => c_X8_tell l E _ _ _ _ _ _ _ _ _ _ 0 _ _ _ _ _ _ _ _ _ _ _ _ _ _ _ _ _ _ _ _ _ _ _ _ _ _ _ _ (by omega)) ⟨rfl, rfl⟩ ⟨Nat.le_of_ble_eq_true rfl, Nat.le_of_ble_eq_true rfl⟩ [0, 1, 2, 3, 4, 5, 6, 7, 8, 9, 10, 11, 12] rfl rfl 0 rfl dX8_gets_39 rfl rfl (Nat.le_of_ble_eq_true rfl) rfl ?_
      dsimp only [List.cons_append, List.nil_append, List.set_cons_succ, List.set_cons_zero, vput]
      refine rh_aload_n hX dX8_gets_42 rfl ?_
      refine rh_aload_n hX dX8_gets_43 rfl ?_
      refine rh_iload_n hX dX8_gets_44 rfl ?_
      refine rh_iload_n hX dX8_gets_45 rfl ?_
      refine rh_pV hX lk_X8_371 mvX8_getsShared (fun l => c_X8_getsShared l E _ _ _ _ _ _ _ _ _ _ _ _ _ _ _ _ _ _ _ _ _ _ _ _ _ _ _ _ _ _ _ _ _ _ _ _ _ _ hd _ T hM (by omega)) ⟨rfl, rfl⟩ ⟨Nat.le_of_ble_eq_true rfl, Nat.le_of_ble_eq_true rfl⟩ [0, 1, 2, 3, 4, 5, 6, 7, 8, 9, 10, 11, 12] rfl rfl 0 rfl dX8_gets_46 rfl rfl (Nat.le_of_ble_eq_true rfl) ?_
      rw [mGS_x hI s.toInt64 hd]
      refine rh_uV hX lk_X8_299 mvX8_tell (fun l => c_X8_tell l E _ _ _ _ _ _ _ _ _ _ (0 + 1) _ _ _ _ _ _ _ _ _ _ _ _ _ _ _ _ _ _ _ _ _ _ _ _ _ _ _ _ (by omega)) ⟨rfl, rfl⟩ ⟨Nat.le_of_ble_eq_true rfl, Nat.le_of_ble_eq_true rfl⟩ [0, 1, 2, 3, 4, 5, 6, 7, 8, 9, 10, 11, 12] rfl rfl 0 rfl dX8_gets_49 rfl rfl (Nat.le_of_ble_eq_true rfl) rfl ?_
      dsimp only [List.cons_append, List.nil_append, List.set_cons_succ, List.set_cons_zero, vput]
      refine rh_aload_n hX dX8_gets_52 rfl ?_
      refine rh_get hX gl_X8_23 0 dX8_gets_53 rfl rfl ?_
      refine rh_iconst hX dX8_gets_56 ki_0 ?_
      refine rh_laload hX 5 0 dX8_gets_57 rfl rn_c0 (by omega) (by decide) ?_
      rw [show va_up (va_up rw 0 (xHP (fm u) T s.toInt64 hd)) (0 + 1) (xHS (fm u) T s.toInt64 hd) 0 = xHP (fm u) T s.toInt64 hd from rfl]
      refine rh_aload_n hX dX8_gets_58 rfl ?_
      refine rh_get hX gl_X8_23 0 dX8_gets_59 rfl rfl ?_
      refine rh_iconst hX dX8_gets_62 ki_1 ?_
      refine rh_laload hX 5 1 dX8_gets_63 rfl rn_c1 (by omega) (by decide) ?_
      rw [show va_up (va_up rw 0 (xHP (fm u) T s.toInt64 hd)) (0 + 1) (xHS (fm u) T s.toInt64 hd) 1 = xHS (fm u) T s.toInt64 hd from rfl]
      refine rh_ladd hX dX8_gets_64 ?_
      refine rh_l2i hX dX8_gets_65 ?_
      exact rh_iret hX hR dX8_gets_66 (by simp only [List.map_cons, List.map_nil, List.cons_append, List.nil_append]) (by refine ⟨pa1, tg1, _, _, (va_up (va_up rw 0 _) (0 + 1) _), (0 + 1 + 1), ?ga, ?gb, rfl⟩; (case ga => rw [x_gets, if_neg h9, if_neg h16, nI_clamp (show hd < 2 ^ 31 by omega), hCu]); (case gb => rw [x_gets, if_neg h9, if_neg h16, nI_clamp (show hd < 2 ^ 31 by omega), hCu]; exact ⟨rowOk2 _ _ _, rfl⟩))
    · skip
      refine rh_iconst hX dX8_gets_19 ki_m1 ?_
      exact rh_iret hX hR dX8_gets_20 (by simp only [List.map_cons, List.map_nil, List.cons_append, List.nil_append]) (by first | exact ⟨pa, tg, sd, sr, rw, rm, by rw [x_gets, if_pos h9] <;> rfl, by rw [x_gets, if_pos h9]; exact ⟨rfl, rfl⟩, rfl⟩ | exact ⟨pa, tg, sd, sr, rw, rm, by rw [x_gets, if_neg h9, if_pos h16] <;> rfl, by rw [x_gets, if_neg h9, if_pos h16]; exact ⟨rfl, rfl⟩, rfl⟩)

set_option maxRecDepth 100000 in
set_option maxHeartbeats 4000000 in
theorem c_X8_over (l : Launch) (E : rhE) (B : Nat → Nat) (u : Nat → Int32) (kp : Nat → Int32) (ik : Int32) (ps : Nat → Int32) (pm : Nat) (dd : Int32) (tx : Nat → Int32) (ty : Nat) (rw : Nat → Int64) (rm : Nat) (th : Int32) (sz : Nat) (he : Nat) (wr : Int32) (mn : Nat → Int32) (vl : Int32) (tp : Int32) (lt : Int32) (ra : Int32) (pf : Int32) (pt : Int32) (pl : Int32) (pd : Int64) (prc : Int64) (ns : Int64) (tu : Nat) (ba : Int64) (na : Int64) (ca : Nat → Int64) (bo : Nat → Int32) (tr : Nat → Int64) (tH : Int32) (asd : Nat → Int32) (pa : Nat → Int64) (tg : Nat → Int64) (sd : Int64) (sr : Int64) (s : Int32) (C : CT) (hCu : C.1 = fm u) (T : Nat) (hI : mI u T)  : Ctr l E yX8_over cX8_over 7 (some .int) (rmL 7) [.ref (B 0), .int s] (wM E B u kp ik ps pm dd tx ty rw rm th sz he wr mn vl tp lt ra pf pt pl pd prc ns tu ba na ca bo tr tH asd pa tg sd sr) (fun r w => ∃ pa1 tg1 sd1 sr1 rw1 rm1, r = some (Value.int (x_over C T s).1) ∧ mTold rw rm rw1 rm1 (x_over C T s).2 ∧ w = (wM E B u kp ik ps pm dd tx ty rw1 rm1 0 sz he wr mn vl tp lt ra pf pt pl pd prc ns tu ba na ca bo tr tH asd pa1 tg1 sd1 sr1)) := by
  refine Ctr.of (by decide) (Nat.le_of_ble_eq_true rfl) rfl rfl 5 ?_
  intro X hX hR
  have hM := hI.ok
  obtain ⟨hT, hT1, hT6, hcv⟩ := id hM
  refine rh_aload_n hX dX8_over_0 rfl ?_
  refine rh_iconst hX dX8_over_1 ki_0 ?_
  refine rh_put hX gl_X8_48 0 dX8_over_2 rfl rfl rfl (Nat.le_of_ble_eq_true rfl) rfl ?_
  dsimp only [List.cons_append, List.nil_append, List.set_cons_succ, List.set_cons_zero, vput]
  refine rh_iload_n hX dX8_over_5 rfl ?_
  refine rh_pS hX lk_X8_361 msX8_isSum (fun l => c_X8_isSumS l E _) ⟨rfl, rfl⟩ ⟨Nat.le_of_ble_eq_true rfl, Nat.le_of_ble_eq_true rfl⟩ [] rfl rfl dX8_over_6 rfl rfl (Nat.le_of_ble_eq_true rfl) ?_
  refine rh_if_ne (tgt := 14) hX dX8_over_9 (by decide) (fun h9 => ?_) (fun h9 => ?_)
  · skip
    have hs := sum_l h9
    refine rh_iload_n hX dX8_over_14 rfl ?_
    refine rh_i2l hX dX8_over_15 ?_
    refine rh_lstn2 hX dX8_over_16 (by decide) rfl ?_
    refine rh_aload_n hX dX8_over_17 rfl ?_
    refine rh_iconst hX dX8_over_18 ki_0 ?_
    refine rh_put hX gl_X8_52 0 dX8_over_19 rfl rfl rfl (Nat.le_of_ble_eq_true rfl) rfl ?_
    dsimp only [List.cons_append, List.nil_append, List.set_cons_succ, List.set_cons_zero, vput]
    refine rh_iconst hX dX8_over_22 ki_0 ?_
    refine rh_ist4 hX dX8_over_23 (by decide) rfl ?_
    refine (rh_loop (P := fun i => ∀ g1 pa1 tg1 sd1 sr1, rowOk g1 ((List.range i).map (xHG (fm u) T s.toInt64)) → G X 25 [some (.ref (B 0)), some (.int s), some (.long (subF s.toInt64 (xHG (fm u) T s.toInt64) i)), none, some (.int (nI i)), none, none] [] (wM E B u kp ik ps pm dd tx ty g1 i 0 sz he wr mn vl tp lt ra pf pt pl pd prc ns tu ba na ca bo tr tH asd pa1 tg1 sd1 sr1)) (0) (8) (by omega) ?_ ?_) _ _ _ _ _ (rowOk_nil _)
    · intro g1 pa1 tg1 sd1 sr1 hg
      refine rh_iload hX dX8_over_25 rfl ?_
      refine rh_bipush hX dX8_over_27 kb_8 ?_
      refine rh_icmp_ge_t (tgt := 59) hX dX8_over_29 (by decide) (nI_le (a := 8) (b := 8) (Nat.le_refl 8) (by decide)) ?_
      refine rh_lload_n hX dX8_over_59 rfl ?_
      refine rh_l2i hX dX8_over_60 ?_
      exact rh_iret hX hR dX8_over_61 (by simp only [List.map_cons, List.map_nil, List.cons_append, List.nil_append]) (by refine ⟨pa1, tg1, sd1, sr1, g1, 8, ?ga, ?gb, rfl⟩; (case ga => rw [x_over, if_neg h9, hCu]); (case gb => rw [x_over, if_neg h9, hCu]; exact ⟨hg, by rw [List.length_map, List.length_range]⟩))
    · intro i hi0 hi ih g1 pa1 tg1 sd1 sr1 hg
      refine rh_iload hX dX8_over_25 rfl ?_
      refine rh_bipush hX dX8_over_27 kb_8 ?_
      refine rh_icmp_ge_f (tgt := 59) hX dX8_over_29 (by decide) (nI_ge (b := 8) hi (by decide)) ?_
      refine rh_aload_n hX dX8_over_32 rfl ?_
      refine rh_iload hX dX8_over_33 rfl ?_
      refine rh_iload_n hX dX8_over_35 rfl ?_
      refine rh_i2l hX dX8_over_36 ?_
      refine rh_callV hX lk_X8_376 mvX8_getsAll (fun l => c_X8_getsAll l E _ _ _ _ _ _ _ _ _ _ _ _ _ _ _ _ _ _ _ _ _ _ _ _ _ _ _ _ _ _ _ _ _ _ _ _ _ _ i s.toInt64 T hI (by omega) hs) ⟨rfl, rfl⟩ ⟨Nat.le_of_ble_eq_true rfl, Nat.le_of_ble_eq_true rfl⟩ [0, 1, 2, 3, 4, 5, 6, 7, 8, 9, 10, 11, 12] rfl rfl 0 rfl dX8_over_37 rfl rfl (Nat.le_of_ble_eq_true rfl) (fun r w hp hf => ?_)
      obtain ⟨pa2, tg2, rfl, hpa, htg, rfl⟩ := hp
      dsimp only [vput, List.set_cons_succ, List.set_cons_zero, Option.toList, List.cons_append, List.nil_append]
      refine rh_lst5 hX dX8_over_40 (by decide) rfl ?_
      refine rh_aload_n hX dX8_over_42 rfl ?_
      refine rh_lload hX dX8_over_43 rfl ?_
      refine rh_uV hX lk_X8_299 mvX8_tell (fun l => c_X8_tell l E _ _ _ _ _ _ _ _ _ _ i _ _ _ _ _ _ _ _ _ _ _ _ _ _ _ _ _ _ _ _ _ _ _ _ _ _ _ _ (by omega)) ⟨rfl, rfl⟩ ⟨Nat.le_of_ble_eq_true rfl, Nat.le_of_ble_eq_true rfl⟩ [0, 1, 2, 3, 4, 5, 6, 7, 8, 9, 10, 11, 12] rfl rfl 0 rfl dX8_over_45 rfl rfl (Nat.le_of_ble_eq_true rfl) rfl ?_
      dsimp only [List.cons_append, List.nil_append, List.set_cons_succ, List.set_cons_zero, vput]
      refine rh_lload_n hX dX8_over_48 rfl ?_
      refine rh_lload hX dX8_over_49 rfl ?_
      refine rh_lsub hX dX8_over_51 ?_
      refine rh_lstn2 hX dX8_over_52 (by decide) rfl ?_
      refine rh_inc4 hX dX8_over_53 (by decide) rfl (rn_i1 _) ?_
      refine rh_goto (tgt := 25) hX dX8_over_56 (by decide) ?_
      exact rh_wk (by exact ⟨rfl, rfl, rfl, rfl, trivial⟩) (ih _ _ _ _ _ (by rw [range_push]; exact rowOk_push _ hg (by rw [List.length_map, List.length_range])))
  · skip
    refine rh_iconst hX dX8_over_12 ki_m1 ?_
    exact rh_iret hX hR dX8_over_13 (by simp only [List.map_cons, List.map_nil, List.cons_append, List.nil_append]) (by first | exact ⟨pa, tg, sd, sr, rw, rm, by rw [x_over, if_pos h9] <;> rfl, by rw [x_over, if_pos h9]; exact ⟨rfl, rfl⟩, rfl⟩)

theorem cap_c (x : Int64) : (minl 2000000000 x).toInt32 = xCap x := by
  unfold xCap
  rw [minl_comm]

set_option maxRecDepth 100000 in
set_option maxHeartbeats 4000000 in
theorem c_X8_worth (l : Launch) (E : rhE) (B : Nat → Nat) (u : Nat → Int32) (kp : Nat → Int32) (ik : Int32) (ps : Nat → Int32) (pm : Nat) (dd : Int32) (tx : Nat → Int32) (ty : Nat) (rw : Nat → Int64) (rm : Nat) (th : Int32) (sz : Nat) (he : Nat) (wr : Int32) (mn : Nat → Int32) (vl : Int32) (tp : Int32) (lt : Int32) (ra : Int32) (pf : Int32) (pt : Int32) (pl : Int32) (pd : Int64) (prc : Int64) (ns : Int64) (tu : Nat) (ba : Int64) (na : Int64) (ca : Nat → Int64) (bo : Nat → Int32) (tr : Nat → Int64) (tH : Int32) (asd : Nat → Int32) (pa : Nat → Int64) (tg : Nat → Int64) (sd : Int64) (sr : Int64) (t s : Int32) (C : CT) (hCu : C.1 = fm u) (T : Nat) (hI : mI u T)  : Ctr l E yX8_worth cX8_worth 4 (some .int) (rmL 6) [.ref (B 0), .int t, .int s] (wM E B u kp ik ps pm dd tx ty rw rm th sz he wr mn vl tp lt ra pf pt pl pd prc ns tu ba na ca bo tr tH asd pa tg sd sr) (fun r w => ∃ pa1 tg1 sd1 sr1, r = some (Value.int (x_worth C T t s)) ∧ w = (wM E B u kp ik ps pm dd tx ty rw rm 0 sz he wr mn vl tp lt ra pf pt pl pd prc ns tu ba na ca bo tr tH asd pa1 tg1 sd1 sr1)) := by
  refine Ctr.of (by decide) (Nat.le_of_ble_eq_true rfl) rfl rfl 1 ?_
  intro X hX hR
  have hM := hI.ok
  obtain ⟨hT, hT1, hT6, hcv⟩ := id hM
  refine rh_aload_n hX dX8_worth_0 rfl ?_
  refine rh_iconst hX dX8_worth_1 ki_0 ?_
  refine rh_put hX gl_X8_48 0 dX8_worth_2 rfl rfl rfl (Nat.le_of_ble_eq_true rfl) rfl ?_
  dsimp only [List.cons_append, List.nil_append, List.set_cons_succ, List.set_cons_zero, vput]
  refine rh_aload_n hX dX8_worth_5 rfl ?_
  refine rh_iload_n hX dX8_worth_6 rfl ?_
  refine rh_pV hX lk_X8_64 mvX8_isType (fun l => c_X8_isType l E _ _ _ _ _ _ _ _ _ _ _ _ _ _ _ _ _ _ _ _ _ _ _ _ _ _ _ _ _ _ _ _ _ _ _ _ _ _ _ T hM) ⟨rfl, rfl⟩ ⟨Nat.le_of_ble_eq_true rfl, Nat.le_of_ble_eq_true rfl⟩ [0, 1, 2, 3, 4, 5, 6, 7, 8, 9, 10, 11, 12] rfl rfl 0 rfl dX8_worth_7 rfl rfl (Nat.le_of_ble_eq_true rfl) ?_
  refine rh_if_eq (tgt := 20) hX dX8_worth_10 (by decide) (fun h10 => ?_) (fun h10 => ?_)
  · skip
    refine rh_iconst hX dX8_worth_20 ki_m1 ?_
    exact rh_iret hX hR dX8_worth_21 (by simp only [List.map_cons, List.map_nil, List.cons_append, List.nil_append]) (by first | exact ⟨_, _, _, _, by rw [x_worth, if_pos h10] <;> rfl, rfl⟩ | exact ⟨_, _, _, _, by rw [x_worth, if_neg h10, if_pos h17] <;> rfl, rfl⟩)
  · skip
    obtain ⟨td, rfl, htd⟩ := xTy_1 hT6 h10
    refine rh_iload_n hX dX8_worth_13 rfl ?_
    refine rh_pS hX lk_X8_361 msX8_isSum (fun l => c_X8_isSumS l E _) ⟨rfl, rfl⟩ ⟨Nat.le_of_ble_eq_true rfl, Nat.le_of_ble_eq_true rfl⟩ [] rfl rfl dX8_worth_14 rfl rfl (Nat.le_of_ble_eq_true rfl) ?_
    refine rh_if_ne (tgt := 22) hX dX8_worth_17 (by decide) (fun h17 => ?_) (fun h17 => ?_)
    · skip
      have hs := sum_l h17
      refine rh_aload_n hX dX8_worth_22 rfl ?_
      refine rh_iload_n hX dX8_worth_23 rfl ?_
      refine rh_pV hX lk_X8_154 mvX8_allShares (fun l => c_X8_allShares l E _ _ _ _ _ _ _ _ _ _ _ _ _ _ _ _ _ _ _ _ _ _ _ _ _ _ _ _ _ _ _ _ _ _ _ _ _ _ td (by omega)) ⟨rfl, rfl⟩ ⟨Nat.le_of_ble_eq_true rfl, Nat.le_of_ble_eq_true rfl⟩ [0, 1, 2, 3, 4, 5, 6, 7, 8, 9, 10, 11, 12] rfl rfl 0 rfl dX8_worth_24 rfl rfl (Nat.le_of_ble_eq_true rfl) ?_
      refine rh_lconst hX dX8_worth_27 kL_0 ?_
      refine rh_lne (tgt := 35) hX dX8_worth_28 dX8_worth_29 (by decide) (fun h29 => ?_) (fun h29 => ?_)
      · skip
        refine rh_aload_n hX dX8_worth_35 rfl ?_
        refine rh_iload_n hX dX8_worth_36 rfl ?_
        refine rh_i2l hX dX8_worth_37 ?_
        refine rh_callV hX lk_X8_364 mvX8_converting (fun l => c_X8_converting l E _ _ _ _ _ _ _ _ _ _ _ _ _ _ _ _ _ _ _ _ _ _ _ _ _ _ _ _ _ _ _ _ _ _ _ _ _ _ _ T hI) ⟨rfl, rfl⟩ ⟨Nat.le_of_ble_eq_true rfl, Nat.le_of_ble_eq_true rfl⟩ [0, 1, 2, 3, 4, 5, 6, 7, 8, 9, 10, 11, 12] rfl rfl 0 rfl dX8_worth_38 rfl rfl (Nat.le_of_ble_eq_true rfl) (fun r w hp hf => ?_)
        obtain ⟨pa1, tg1, rfl, hpa, htg, rfl⟩ := hp
        dsimp only [vput, List.set_cons_succ, List.set_cons_zero, Option.toList, List.cons_append, List.nil_append]
        refine rh_istn3 hX dX8_worth_41 (by decide) rfl ?_
        refine rh_ldc2 hX dX8_worth_42 kl_X8_333 ?_
        refine rh_aload_n hX dX8_worth_45 rfl ?_
        refine rh_get hX gl_X8_45 0 dX8_worth_46 rfl rfl ?_
        refine rh_iload_n hX dX8_worth_49 rfl ?_
        refine rh_laload hX 12 td dX8_worth_50 rfl rfl (by omega) (by decide) ?_
        rw [htg td htd]
        refine rh_ldc2 hX dX8_worth_51 kl_X8_267 ?_
        refine rh_lmul hX dX8_worth_54 ?_
        refine rh_aload_n hX dX8_worth_55 rfl ?_
        refine rh_iload_n hX dX8_worth_56 rfl ?_
        refine rh_pV hX lk_X8_154 mvX8_allShares (fun l => c_X8_allShares l E _ _ _ _ _ _ _ _ _ _ _ _ _ _ _ _ _ _ _ _ _ _ _ _ _ _ _ _ _ _ _ _ _ _ _ _ _ _ td (by omega)) ⟨rfl, rfl⟩ ⟨Nat.le_of_ble_eq_true rfl, Nat.le_of_ble_eq_true rfl⟩ [0, 1, 2, 3, 4, 5, 6, 7, 8, 9, 10, 11, 12] rfl rfl 0 rfl dX8_worth_57 rfl rfl (Nat.le_of_ble_eq_true rfl) ?_
        refine rh_ldiv hX dX8_worth_60 h29 ?_
        refine rh_minl hX mm_X8_261 dX8_worth_61 (Nat.le_of_ble_eq_true rfl) (Nat.le_of_ble_eq_true rfl) ?_
        refine rh_l2i hX dX8_worth_64 ?_
        exact rh_iret hX hR dX8_worth_65 (by simp only [List.map_cons, List.map_nil, List.cons_append, List.nil_append]) ⟨pa1, tg1, _, _, by rw [x_worth, if_neg h10, if_neg h17, nI_clamp (show td < 2 ^ 31 by omega), hCu, if_neg h29, cQuot_n h29 (z_le.mpr (cAllHeld_b hI.b htd).1), ← cap_c, Int64.mul_comm 10000]; rfl, rfl⟩
      · skip
        refine rh_bipush hX dX8_worth_32 kb_m2 ?_
        exact rh_iret hX hR dX8_worth_34 (by simp only [List.map_cons, List.map_nil, List.cons_append, List.nil_append]) (by first | exact ⟨_, _, _, _, by rw [x_worth, if_neg h10, if_neg h17, nI_clamp (show td < 2 ^ 31 by omega), hCu, if_pos h29] <;> rfl, rfl⟩)
    · skip
      refine rh_iconst hX dX8_worth_20 ki_m1 ?_
      exact rh_iret hX hR dX8_worth_21 (by simp only [List.map_cons, List.map_nil, List.cons_append, List.nil_append]) (by first | exact ⟨_, _, _, _, by rw [x_worth, if_pos h10] <;> rfl, rfl⟩ | exact ⟨_, _, _, _, by rw [x_worth, if_neg h10, if_pos h17] <;> rfl, rfl⟩)

set_option maxRecDepth 100000 in
set_option maxHeartbeats 4000000 in
theorem c_X8_multiple (l : Launch) (E : rhE) (B : Nat → Nat) (u : Nat → Int32) (kp : Nat → Int32) (ik : Int32) (ps : Nat → Int32) (pm : Nat) (dd : Int32) (tx : Nat → Int32) (ty : Nat) (rw : Nat → Int64) (rm : Nat) (th : Int32) (sz : Nat) (he : Nat) (wr : Int32) (mn : Nat → Int32) (vl : Int32) (tp : Int32) (lt : Int32) (ra : Int32) (pf : Int32) (pt : Int32) (pl : Int32) (pd : Int64) (prc : Int64) (ns : Int64) (tu : Nat) (ba : Int64) (na : Int64) (ca : Nat → Int64) (bo : Nat → Int32) (tr : Nat → Int64) (tH : Int32) (asd : Nat → Int32) (pa : Nat → Int64) (tg : Nat → Int64) (sd : Int64) (sr : Int64) (h s : Int32) (C : CT) (hCu : C.1 = fm u) (T : Nat) (hI : mI u T)  : Ctr l E yX8_multiple cX8_multiple 5 (some .int) (rmL 7) [.ref (B 0), .int h, .int s] (wM E B u kp ik ps pm dd tx ty rw rm th sz he wr mn vl tp lt ra pf pt pl pd prc ns tu ba na ca bo tr tH asd pa tg sd sr) (fun r w => ∃ pa1 tg1 sd1 sr1, r = some (Value.int (x_multiple C T h s)) ∧ w = (wM E B u kp ik ps pm dd tx ty rw rm 0 sz he wr mn vl tp lt ra pf pt pl pd prc ns tu ba na ca bo tr tH asd pa1 tg1 sd1 sr1)) := by
  refine Ctr.of (by decide) (Nat.le_of_ble_eq_true rfl) rfl rfl 2 ?_
  intro X hX hR
  have hM := hI.ok
  obtain ⟨hT, hT1, hT6, hcv⟩ := id hM
  refine rh_aload_n hX dX8_multiple_0 rfl ?_
  refine rh_iconst hX dX8_multiple_1 ki_0 ?_
  refine rh_put hX gl_X8_48 0 dX8_multiple_2 rfl rfl rfl (Nat.le_of_ble_eq_true rfl) rfl ?_
  dsimp only [List.cons_append, List.nil_append, List.set_cons_succ, List.set_cons_zero, vput]
  refine rh_iload_n hX dX8_multiple_5 rfl ?_
  refine rh_pS hX lk_X8_140 msX8_isHolder (fun l => c_X8_isHolderH l E _) ⟨rfl, rfl⟩ ⟨Nat.le_of_ble_eq_true rfl, Nat.le_of_ble_eq_true rfl⟩ [] rfl rfl dX8_multiple_6 rfl rfl (Nat.le_of_ble_eq_true rfl) ?_
  refine rh_if_eq (tgt := 19) hX dX8_multiple_9 (by decide) (fun h9 => ?_) (fun h9 => ?_)
  · skip
    refine rh_iconst hX dX8_multiple_19 ki_m1 ?_
    exact rh_iret hX hR dX8_multiple_20 (by simp only [List.map_cons, List.map_nil, List.cons_append, List.nil_append]) (by first | exact ⟨_, _, _, _, by rw [x_multiple, if_pos h9] <;> rfl, rfl⟩ | exact ⟨_, _, _, _, by rw [x_multiple, if_neg h9, if_pos h16] <;> rfl, rfl⟩)
  · skip
    obtain ⟨hd, rfl, hdl⟩ := xH_1 h9
    refine rh_iload_n hX dX8_multiple_12 rfl ?_
    refine rh_pS hX lk_X8_361 msX8_isSum (fun l => c_X8_isSumS l E _) ⟨rfl, rfl⟩ ⟨Nat.le_of_ble_eq_true rfl, Nat.le_of_ble_eq_true rfl⟩ [] rfl rfl dX8_multiple_13 rfl rfl (Nat.le_of_ble_eq_true rfl) ?_
    refine rh_if_ne (tgt := 21) hX dX8_multiple_16 (by decide) (fun h16 => ?_) (fun h16 => ?_)
    · skip
      have hs := sum_l h16
      refine rh_aload_n hX dX8_multiple_21 rfl ?_
      refine rh_iload_n hX dX8_multiple_22 rfl ?_
      refine rh_pV hX lk_X8_330 mvX8_gave (fun l => c_X8_gave l E _ _ _ _ _ _ _ _ _ _ _ _ _ _ _ _ _ _ _ _ _ _ _ _ _ _ _ _ _ _ _ _ _ _ _ _ _ _ hd T hM (by omega)) ⟨rfl, rfl⟩ ⟨Nat.le_of_ble_eq_true rfl, Nat.le_of_ble_eq_true rfl⟩ [0, 1, 2, 3, 4, 5, 6, 7, 8, 9, 10, 11, 12] rfl rfl 0 rfl dX8_multiple_23 rfl rfl (Nat.le_of_ble_eq_true rfl) ?_
      refine rh_lstn3 hX dX8_multiple_26 (by decide) rfl ?_
      refine rh_lload_n hX dX8_multiple_27 rfl ?_
      refine rh_lconst hX dX8_multiple_28 kL_0 ?_
      refine rh_lne (tgt := 38) hX dX8_multiple_29 dX8_multiple_30 (by decide) (fun h30 => ?_) (fun h30 => ?_)
      · skip
        refine rh_ldc2 hX dX8_multiple_38 kl_X8_333 ?_
        refine rh_ldc2 hX dX8_multiple_41 kl_X8_380 ?_
        refine rh_aload_n hX dX8_multiple_44 rfl ?_
        refine rh_iload_n hX dX8_multiple_45 rfl ?_
        refine rh_iload_n hX dX8_multiple_46 rfl ?_
        refine rh_i2l hX dX8_multiple_47 ?_
        refine rh_callV hX lk_X8_376 mvX8_getsAll (fun l => c_X8_getsAll l E _ _ _ _ _ _ _ _ _ _ _ _ _ _ _ _ _ _ _ _ _ _ _ _ _ _ _ _ _ _ _ _ _ _ _ _ _ _ hd s.toInt64 T hI (by omega) hs) ⟨rfl, rfl⟩ ⟨Nat.le_of_ble_eq_true rfl, Nat.le_of_ble_eq_true rfl⟩ [0, 1, 2, 3, 4, 5, 6, 7, 8, 9, 10, 11, 12] rfl rfl 0 rfl dX8_multiple_48 rfl rfl (Nat.le_of_ble_eq_true rfl) (fun r w hp hf => ?_)
        obtain ⟨pa1, tg1, rfl, hpa, htg, rfl⟩ := hp
        dsimp only [vput, List.set_cons_succ, List.set_cons_zero, Option.toList, List.cons_append, List.nil_append]
        refine rh_lmul hX dX8_multiple_51 ?_
        refine rh_lload_n hX dX8_multiple_52 rfl ?_
        refine rh_ldiv hX dX8_multiple_53 h30 ?_
        refine rh_minl hX mm_X8_261 dX8_multiple_54 (Nat.le_of_ble_eq_true rfl) (Nat.le_of_ble_eq_true rfl) ?_
        refine rh_l2i hX dX8_multiple_57 ?_
        exact rh_iret hX hR dX8_multiple_58 (by simp only [List.map_cons, List.map_nil, List.cons_append, List.nil_append]) (by first | exact ⟨_, _, _, _, by rw [x_multiple, if_neg h9, if_neg h16, nI_clamp (show hd < 2 ^ 31 by omega), hCu, if_pos h30] <;> rfl, rfl⟩ | exact ⟨pa1, tg1, _, _, by rw [x_multiple, if_neg h9, if_neg h16, nI_clamp (show hd < 2 ^ 31 by omega), hCu, if_neg h30, cQuot_n h30 (z_le.mpr (cAllGiven_b hI hdl T (Nat.le_refl T)).1), ← cap_c]; rfl, rfl⟩)
      · skip
        refine rh_bipush hX dX8_multiple_33 kb_m2 ?_
        refine rh_goto (tgt := 58) hX dX8_multiple_35 (by decide) ?_
        exact rh_iret hX hR dX8_multiple_58 (by simp only [List.map_cons, List.map_nil, List.cons_append, List.nil_append]) (by first | exact ⟨_, _, _, _, by rw [x_multiple, if_neg h9, if_neg h16, nI_clamp (show hd < 2 ^ 31 by omega), hCu, if_pos h30] <;> rfl, rfl⟩ | exact ⟨pa1, tg1, _, _, by rw [x_multiple, if_neg h9, if_neg h16, nI_clamp (show hd < 2 ^ 31 by omega), hCu, if_neg h30, cQuot_n h30 (z_le.mpr (cAllGiven_b hI hdl T (Nat.le_refl T)).1), ← cap_c]; rfl, rfl⟩)
    · skip
      refine rh_iconst hX dX8_multiple_19 ki_m1 ?_
      exact rh_iret hX hR dX8_multiple_20 (by simp only [List.map_cons, List.map_nil, List.cons_append, List.nil_append]) (by first | exact ⟨_, _, _, _, by rw [x_multiple, if_pos h9] <;> rfl, rfl⟩ | exact ⟨_, _, _, _, by rw [x_multiple, if_neg h9, if_pos h16] <;> rfl, rfl⟩)
