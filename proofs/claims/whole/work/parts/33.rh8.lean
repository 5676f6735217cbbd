/-! a sale of all, of a house f with T classes -/
def xPt (f : Nat → Int64) (T : Nat) : Int32 := cTypesWith f 4 T
def xQ (f : Nat → Int64) (T : Nat) (s : Int64) : Int32 := sQ (cDue f) (cAllConv f) (cAllGranted f) (cTypesWith f 4 T) s T
def xL (f : Nat → Int64) (T : Nat) (s : Int64) : Int64 := pLeft (cDue f) (xQ f T s) s T (T - 1)
def xS (f : Nat → Int64) (T : Nat) (s : Int64) : Int64 := pShare (cAllConv f) (cAllGranted f) (cTypesWith f 4 T) (xQ f T s) T (T - 1)
def xPF (f : Nat → Int64) (T : Nat) (s : Int64) (c : Nat) : Int64 := if c = 0 then 0 else pFirst (cDue f) (xQ f T s) s T c
def xTG (f : Nat → Int64) (T : Nat) (s : Int64) (c : Nat) : Int64 := xPF f T s c + (if sIs (cTypesWith f 4 T) (xQ f T s) c = 0 then 0 else cQuot (xL f T s * cAllConv f c) (xS f T s))
def xHP (f : Nat → Int64) (T : Nat) (s : Int64) (h : Nat) : Int64 := sPrefd (cAllHeld f) (xPF f T s) f h T
def xHS (f : Nat → Int64) (T : Nat) (s : Int64) (h : Nat) : Int64 := sShared f (cTypesWith f 4 T) (xQ f T s) (xL f T s) (xS f T s) h T
def xHG (f : Nat → Int64) (T : Nat) (s : Int64) (h : Nat) : Int64 := xHP f T s h + xHS f T s h
theorem rowTo_in {g f : Nat → Int64} {i j : Nat} (h : j < i) : rowTo g f i j = g j := by
  unfold rowTo
  rw [if_pos h]
theorem pLeft_row (g du : Nat → Int64) (set : Int32) (s : Int64) (T : Nat) : ∀ j, j < T → pLeft (rowTo g du T) set s T j = pLeft g set s T j
  | 0, _ => by rw [pLeft, pLeft]
  | j + 1, h => by
    rw [pLeft, pLeft, pLeft_row g du set s T j (by omega), rowTo_in (by omega)]
theorem pFirst_row (g du : Nat → Int64) (set : Int32) (s : Int64) (T c : Nat) (h : c < T) : pFirst (rowTo g du T) set s T c = pFirst g set s T c := by
  rw [pFirst, pFirst, pLeft_row g du set s T _ (by omega), rowTo_in h]
theorem pShare_row (g cv : Nat → Int64) (gr : Int64) (pt set : Int32) (T : Nat) : ∀ j, j < T → pShare (rowTo g cv T) gr pt set T j = pShare g gr pt set T j
  | 0, h => by rw [pShare, pShare, rowTo_in h]
  | j + 1, h => by
    rw [pShare, pShare, pShare_row g cv gr pt set T j (by omega), rowTo_in (by omega)]
theorem sGets_row (g1 g2 du cv : Nat → Int64) (gr : Int64) (pt set : Int32) (s : Int64) (T c : Nat) (h : c < T) : sGets (rowTo g1 du T) (rowTo g2 cv T) gr pt set s T c = sGets g1 g2 gr pt set s T c := by
  rw [sGets, sGets, pFirst_row _ _ _ _ _ _ h, pLeft_row _ _ _ _ _ _ (by omega), pShare_row _ _ _ _ _ _ _ (by omega), rowTo_in h]
theorem firstFrom_ext (P Q : Nat → Bool) : ∀ k c, (∀ x, c ≤ x → x < c + k → P x = Q x) → firstFrom P k c = firstFrom Q k c
  | 0, c, _ => rfl
  | k + 1, c, h => by
    rw [firstFrom, firstFrom, h c (Nat.le_refl c) (by omega), firstFrom_ext P Q k (c + 1) (fun x h1 h2 => h x (by omega) (by omega))]
theorem sNext_row (g1 g2 du cv : Nat → Int64) (gr : Int64) (pt set : Int32) (s : Int64) (T : Nat) : sNext (rowTo g1 du T) (rowTo g2 cv T) gr pt set s T = sNext g1 g2 gr pt set s T := by
  unfold sNext
  refine firstFrom_ext _ _ _ _ (fun x h1 h2 => ?_)
  rw [sRather, sRather, sGets_row _ _ _ _ _ _ _ _ _ _ (by omega), sGets_row _ _ _ _ _ _ _ _ _ _ (by omega)]
theorem sIter_row (g1 g2 du cv : Nat → Int64) (gr : Int64) (pt : Int32) (s : Int64) (T : Nat) : ∀ k set, sIter (rowTo g1 du T) (rowTo g2 cv T) gr pt s T k set = sIter g1 g2 gr pt s T k set
  | 0, set => by rw [sIter, sIter]
  | k + 1, set => by rw [sIter, sIter, sNext_row, sIter_row g1 g2 du cv gr pt s T k]
theorem sQ_row (f du cv : Nat → Int64) (s : Int64) (T : Nat) : sQ (rowTo (cDue f) du T) (rowTo (cAllConv f) cv T) (cAllGranted f) (cTypesWith f 4 T) s T = xQ f T s := by
  rw [sQ, sIter_row]
  rfl
theorem xL_row (f du : Nat → Int64) (s : Int64) (T : Nat) (h : 1 ≤ T) : pLeft (rowTo (cDue f) du T) (xQ f T s) s T (T - 1) = xL f T s := pLeft_row _ _ _ _ _ _ (by omega)
theorem xS_row (f cv : Nat → Int64) (s : Int64) (T : Nat) (h : 1 ≤ T) : pShare (rowTo (cAllConv f) cv T) (cAllGranted f) (cTypesWith f 4 T) (xQ f T s) T (T - 1) = xS f T s := pShare_row _ _ _ _ _ _ _ (by omega)
theorem xPF_row (f du pf : Nat → Int64) (s : Int64) (T c : Nat) (hc : c < T) (h0 : pf 0 = 0) : pRow (rowTo (cDue f) du T) pf (xQ f T s) s T (T - 1) c = xPF f T s c := by
  unfold xPF
  by_cases e : c = 0
  · rw [if_pos e, pRow_out (Or.inl e) (by omega), e, h0]
  · rw [if_neg e, pRow_at _ _ _ _ _ _ _ (by omega), pFirst_row _ _ _ _ _ _ hc]
theorem xPF_0 (f du pf : Nat → Int64) (s : Int64) (T : Nat) (hT : 1 ≤ T) (h0 : pf 0 = 0) : pRow (rowTo (cDue f) du T) pf (xQ f T s) s T (T - 1) 0 = 0 := by
  rw [xPF_row f du pf s T 0 (by omega) h0]
  rfl
theorem xTG_row (f du pf cv : Nat → Int64) (s : Int64) (T c : Nat) (hc : c < T) (h0 : pf 0 = 0) : pRow (rowTo (cDue f) du T) pf (xQ f T s) s T (T - 1) c + (if sIs (cTypesWith f 4 T) (xQ f T s) c = 0 then 0 else cQuot (xL f T s * rowTo (cAllConv f) cv T c) (xS f T s)) = xTG f T s c := by
  rw [xPF_row f du pf s T c hc h0, rowTo_in hc]
  rfl
theorem sum1_ext (g h : Nat → Int64) : ∀ n, (∀ x, 1 ≤ x → x < n → g x = h x) → sum1 g n = sum1 h n
  | 0, _ => rfl
  | n + 1, q => by
    rw [sum1, sum1]
    by_cases e : n = 0
    · rw [if_pos e, if_pos e]
    · rw [if_neg e, if_neg e, sum1_ext g h n (fun x h1 h2 => q x h1 (by omega)), q n (by omega) (by omega)]
theorem xHP_row (f al du pf : Nat → Int64) (s : Int64) (h T : Nat) (h0 : pf 0 = 0) : sPrefd (rowTo (cAllHeld f) al T) (pRow (rowTo (cDue f) du T) pf (xQ f T s) s T (T - 1)) f h T = xHP f T s h := by
  rw [xHP, sPrefd, sPrefd]
  refine sum1_ext _ _ _ (fun x h1 h2 => ?_)
  rw [xPF_row f du pf s T x h2 h0, rowTo_in h2]
def x_exit (C : CT) (T : Nat) (s : Int32) : Int32 × Option (List Int64) := if xSum s = 0 then (-1, none) else ((xTG C.1 T s.toInt64 0).toInt32, some ([(xQ C.1 T s.toInt64).toInt64] ++ (List.range (T - 1)).map (fun k => xTG C.1 T s.toInt64 (k + 1))))
def x_gets (C : CT) (T : Nat) (h s : Int32) : Int32 × Option (List Int64) := if xH h = 0 then (-1, none) else if xSum s = 0 then (-1, none) else ((xHP C.1 T s.toInt64 h.toNatClampNeg + xHS C.1 T s.toInt64 h.toNatClampNeg).toInt32, some [xHP C.1 T s.toInt64 h.toNatClampNeg, xHS C.1 T s.toInt64 h.toNatClampNeg])
/-- s less what the first i of them get -/
def subF (s : Int64) (g : Nat → Int64) : Nat → Int64
  | 0 => s
  | n + 1 => subF s g n - g n
def x_over (C : CT) (T : Nat) (s : Int32) : Int32 × Option (List Int64) := if xSum s = 0 then (-1, none) else ((subF s.toInt64 (xHG C.1 T s.toInt64) 8).toInt32, some ((List.range 8).map (xHG C.1 T s.toInt64)))
def x_worth (C : CT) (T : Nat) (t s : Int32) : Int32 := if xTy T t = 0 then -1 else if xSum s = 0 then -1 else if cAllHeld C.1 t.toNatClampNeg = 0 then -2 else xCap (cQuot (10000 * xTG C.1 T s.toInt64 t.toNatClampNeg) (cAllHeld C.1 t.toNatClampNeg))
def x_multiple (C : CT) (T : Nat) (h s : Int32) : Int32 := if xH h = 0 then -1 else if xSum s = 0 then -1 else if cAllGiven C.1 h.toNatClampNeg T = 0 then -2 else xCap (cQuot (100 * xHG C.1 T s.toInt64 h.toNatClampNeg) (cAllGiven C.1 h.toNatClampNeg T))

set_option maxRecDepth 100000 in
set_option maxHeartbeats 4000000 in
theorem c_X7_exit (l : Launch) (E : rhE) (A : Nat → Nat) (C : CT) (Z : ZT) (s : Int32) (T : Nat) (hC : cOk C T) (hz : zOk Z) : Ctr l E yX7_exit cX7_exit 3 (some .int) (rmL 4) [.ref (A 0), .int s] (wC E A C Z) (fun r w => ∃ Z1 C1, r = some (Value.int (x_exit C T s).1) ∧ zOk Z1 ∧ rowTold C C1 (x_exit C T s).2 ∧ w = wC E A C1 Z1) := by
  refine Ctr.of (by decide) (Nat.le_of_ble_eq_true rfl) rfl rfl 1 ?_
  intro X hX hR
  obtain ⟨hT, hT1, hT6, hnx, hud, hn, hrn⟩ := id hC
  refine rh_iload_n hX dX7_exit_0 rfl ?_
  refine rh_pS hX lk_X7_289 msX7_isSum (fun l => c_X7_isSum l E _) ⟨rfl, rfl⟩ ⟨Nat.le_of_ble_eq_true rfl, Nat.le_of_ble_eq_true rfl⟩ [] rfl rfl dX7_exit_1 rfl rfl (Nat.le_of_ble_eq_true rfl) ?_
  refine rh_if_ne (tgt := 9) hX dX7_exit_4 (by decide) (fun h4 => ?_) (fun h4 => ?_)
  · skip
    refine rh_aload_n hX dX7_exit_9 rfl ?_
    refine rh_get hX gl_X7_61 0 dX7_exit_10 rfl rfl ?_
    refine rh_aload_n hX dX7_exit_13 rfl ?_
    refine rh_get hX gl_X7_12 0 dX7_exit_14 rfl rfl ?_
    refine rh_uV hX lk_X7_292 mvX4_looksAt (fun l => c_X4_looksAt l E _ _ _ _ _ _ _ _ _ _ _ _ _ _ _ _ _ _ T hT hT6 hT1) ⟨rfl, rfl⟩ ⟨Nat.le_of_ble_eq_true rfl, Nat.le_of_ble_eq_true rfl⟩ [29, 30, 31, 32, 33, 1, 2] rfl rfl 29 rfl dX7_exit_17 rfl rfl (Nat.le_of_ble_eq_true rfl) rfl ?_
    dsimp only [List.cons_append, List.nil_append, List.set_cons_succ, List.set_cons_zero, vput]
    refine rh_aload_n hX dX7_exit_20 rfl ?_
    refine rh_get hX gl_X7_61 0 dX7_exit_21 rfl rfl ?_
    refine rh_iload_n hX dX7_exit_24 rfl ?_
    refine rh_i2l hX dX7_exit_25 ?_
    refine rh_uV hX lk_X7_296 mvX4_settles (fun l => c_X4_settles l E _ _ _ _ _ _ _ _ _ _ _ _ _ _ _ _ (by omega) (by omega)) ⟨rfl, rfl⟩ ⟨Nat.le_of_ble_eq_true rfl, Nat.le_of_ble_eq_true rfl⟩ [29, 30, 31, 32, 33] rfl rfl 29 rfl dX7_exit_26 rfl rfl (Nat.le_of_ble_eq_true rfl) rfl ?_
    dsimp only [List.cons_append, List.nil_append, List.set_cons_succ, List.set_cons_zero, vput]
    rw [sQ_row, xL_row _ _ _ _ hT1, xS_row _ _ _ _ hT1]
    refine rh_aload_n hX dX7_exit_29 rfl ?_
    refine rh_get hX gl_X7_40 0 dX7_exit_30 rfl rfl ?_
    refine rh_uV hX lk_X7_184 mvX3_clear (fun l => c_X3_clear l E _ _ _ _) ⟨rfl, rfl⟩ ⟨Nat.le_of_ble_eq_true rfl, Nat.le_of_ble_eq_true rfl⟩ [18, 19] rfl rfl 18 rfl dX7_exit_33 rfl rfl (Nat.le_of_ble_eq_true rfl) rfl ?_
    dsimp only [List.cons_append, List.nil_append, List.set_cons_succ, List.set_cons_zero, vput]
    refine rh_aload_n hX dX7_exit_36 rfl ?_
    refine rh_get hX gl_X7_40 0 dX7_exit_37 rfl rfl ?_
    refine rh_aload_n hX dX7_exit_40 rfl ?_
    refine rh_get hX gl_X7_61 0 dX7_exit_41 rfl rfl ?_
    refine rh_get hX gl_X7_298 29 dX7_exit_44 rfl rfl ?_
    refine rh_i2l hX dX7_exit_47 ?_
    refine rh_uV hX lk_X7_181 mvX3_tell (fun l => c_X3_tell l E _ _ _ 0 _ (by omega)) ⟨rfl, rfl⟩ ⟨Nat.le_of_ble_eq_true rfl, Nat.le_of_ble_eq_true rfl⟩ [18, 19] rfl rfl 18 rfl dX7_exit_48 rfl rfl (Nat.le_of_ble_eq_true rfl) rfl ?_
    dsimp only [List.cons_append, List.nil_append, List.set_cons_succ, List.set_cons_zero, vput]
    refine rh_iconst hX dX7_exit_51 ki_1 ?_
    refine rh_istn2 hX dX7_exit_52 (by decide) rfl ?_
    refine (rh_loop (P := fun c => ∀ g1, rowOk g1 ([(xQ C.1 T s.toInt64).toInt64] ++ (List.range (c - 1)).map (fun k => xTG C.1 T s.toInt64 (k + 1))) → G X 53 [some (.ref (A 0)), some (.int s), some (.int (nI c))] [] (wC E A (setRow C g1 c) (Z.1, Z.2.1, Z.2.2.1, Z.2.2.2.1, ((rowTo (cAllHeld C.1) Z.2.2.2.2.1.1 T), (rowTo (cAllConv C.1) Z.2.2.2.2.1.2.1 T), (rowTo (cDue C.1) Z.2.2.2.2.1.2.2.1 T), (pRow (rowTo (cDue C.1) Z.2.2.2.2.1.2.2.1 T) Z.2.2.2.2.1.2.2.2.1 (xQ C.1 T s.toInt64) s.toInt64 T (T - 1)), cAllGranted C.1, T, cTypesWith C.1 4 T, (xQ C.1 T s.toInt64), (xL C.1 T s.toInt64), (xS C.1 T s.toInt64)), Z.2.2.2.2.2.1, Z.2.2.2.2.2.2))) (1) (T) (by omega) ?_ ?_) _ (rowOk1 _ _)
    · intro g1 hg
      refine rh_iload_n hX dX7_exit_53 rfl ?_
      refine rh_aload_n hX dX7_exit_54 rfl ?_
      refine rh_get hX gl_X7_12 0 dX7_exit_55 rfl rfl ?_
      refine rh_pV hX lk_X7_135 mvX1_types (fun l => c_X1_types l E _ _ _ T hT hT6) ⟨rfl, rfl⟩ ⟨Nat.le_of_ble_eq_true rfl, Nat.le_of_ble_eq_true rfl⟩ [1, 2] rfl rfl 1 rfl dX7_exit_58 rfl rfl (Nat.le_of_ble_eq_true rfl) ?_
      refine rh_icmp_ge_t (tgt := 85) hX dX7_exit_61 (by decide) (nI_le (Nat.le_refl T) (by omega)) ?_
      refine rh_aload_n hX dX7_exit_85 rfl ?_
      refine rh_get hX gl_X7_61 0 dX7_exit_86 rfl rfl ?_
      refine rh_iconst hX dX7_exit_89 ki_0 ?_
      refine rh_pV hX lk_X7_301 mvX4_typeGets (fun l => c_X4_typeGets l E _ _ _ _ _ _ _ _ _ _ _ _ _ _ _ 0 (by omega)) ⟨rfl, rfl⟩ ⟨Nat.le_of_ble_eq_true rfl, Nat.le_of_ble_eq_true rfl⟩ [29, 30, 31, 32, 33] rfl rfl 29 rfl dX7_exit_90 rfl rfl (Nat.le_of_ble_eq_true rfl) ?_
      rw [xTG_row C.1 _ _ _ _ T 0 (by omega) hz]
      refine rh_l2i hX dX7_exit_93 ?_
      exact rh_iret hX hR dX7_exit_94 (by simp only [List.map_cons, List.map_nil, List.cons_append, List.nil_append]) (by refine ⟨(Z.1, Z.2.1, Z.2.2.1, Z.2.2.2.1, ((rowTo (cAllHeld C.1) Z.2.2.2.2.1.1 T), (rowTo (cAllConv C.1) Z.2.2.2.2.1.2.1 T), (rowTo (cDue C.1) Z.2.2.2.2.1.2.2.1 T), (pRow (rowTo (cDue C.1) Z.2.2.2.2.1.2.2.1 T) Z.2.2.2.2.1.2.2.2.1 (xQ C.1 T s.toInt64) s.toInt64 T (T - 1)), cAllGranted C.1, T, cTypesWith C.1 4 T, (xQ C.1 T s.toInt64), (xL C.1 T s.toInt64), (xS C.1 T s.toInt64)), Z.2.2.2.2.2.1, Z.2.2.2.2.2.2), setRow C g1 T, ?ga, (xPF_0 C.1 _ _ _ T hT1 hz), ?gb, rfl⟩; (case ga => rw [x_exit, if_neg h4]); (case gb => rw [x_exit, if_neg h4]; exact ⟨_, hg, by rw [List.length_append, List.length_map, List.length_range, List.length_singleton, Nat.add_sub_cancel' hT1]⟩))
    · intro c hc0 hc ihc g1 hg
      obtain ⟨e, rfl⟩ : ∃ e, c = e + 1 := ⟨c - 1, by omega⟩
      refine rh_iload_n hX dX7_exit_53 rfl ?_
      refine rh_aload_n hX dX7_exit_54 rfl ?_
      refine rh_get hX gl_X7_12 0 dX7_exit_55 rfl rfl ?_
      refine rh_pV hX lk_X7_135 mvX1_types (fun l => c_X1_types l E _ _ _ T hT hT6) ⟨rfl, rfl⟩ ⟨Nat.le_of_ble_eq_true rfl, Nat.le_of_ble_eq_true rfl⟩ [1, 2] rfl rfl 1 rfl dX7_exit_58 rfl rfl (Nat.le_of_ble_eq_true rfl) ?_
      refine rh_icmp_ge_f (tgt := 85) hX dX7_exit_61 (by decide) (nI_ge hc (by omega)) ?_
      refine rh_aload_n hX dX7_exit_64 rfl ?_
      refine rh_get hX gl_X7_40 0 dX7_exit_65 rfl rfl ?_
      refine rh_aload_n hX dX7_exit_68 rfl ?_
      refine rh_get hX gl_X7_61 0 dX7_exit_69 rfl rfl ?_
      refine rh_iload_n hX dX7_exit_72 rfl ?_
      refine rh_pV hX lk_X7_301 mvX4_typeGets (fun l => c_X4_typeGets l E _ _ _ _ _ _ _ _ _ _ _ _ _ _ _ _ (by omega)) ⟨rfl, rfl⟩ ⟨Nat.le_of_ble_eq_true rfl, Nat.le_of_ble_eq_true rfl⟩ [29, 30, 31, 32, 33] rfl rfl 29 rfl dX7_exit_73 rfl rfl (Nat.le_of_ble_eq_true rfl) ?_
      rw [xTG_row C.1 _ _ _ _ T (e + 1) (by omega) hz]
      refine rh_uV hX lk_X7_181 mvX3_tell (fun l => c_X3_tell l E _ _ _ (e + 1) _ (by omega)) ⟨rfl, rfl⟩ ⟨Nat.le_of_ble_eq_true rfl, Nat.le_of_ble_eq_true rfl⟩ [18, 19] rfl rfl 18 rfl dX7_exit_76 rfl rfl (Nat.le_of_ble_eq_true rfl) rfl ?_
      dsimp only [List.cons_append, List.nil_append, List.set_cons_succ, List.set_cons_zero, vput]
      refine rh_inc2 hX dX7_exit_79 (by decide) rfl (rn_i1 _) ?_
      refine rh_goto (tgt := 53) hX dX7_exit_82 (by decide) ?_
      exact ihc _ (by rw [show e + 1 + 1 - 1 = e + 1 by omega, range_push, ← List.append_assoc]; exact rowOk_push _ hg (by rw [List.length_append, List.length_map, List.length_range, List.length_singleton]; omega))
  · skip
    refine rh_iconst hX dX7_exit_7 ki_m1 ?_
    exact rh_iret hX hR dX7_exit_8 (by simp only [List.map_cons, List.map_nil, List.cons_append, List.nil_append]) (by first | exact ⟨Z, C, by rw [x_exit, if_pos h4] <;> rfl, hz, by rw [x_exit, if_pos h4] <;> rfl, rfl⟩)

set_option maxRecDepth 100000 in
set_option maxHeartbeats 4000000 in
theorem c_X7_gets (l : Launch) (E : rhE) (A : Nat → Nat) (C : CT) (Z : ZT) (h s : Int32) (T : Nat) (hC : cOk C T) (hz : zOk Z) : Ctr l E yX7_gets cX7_gets 7 (some .int) (rmL 4) [.ref (A 0), .int h, .int s] (wC E A C Z) (fun r w => ∃ Z1 C1, r = some (Value.int (x_gets C T h s).1) ∧ zOk Z1 ∧ rowTold C C1 (x_gets C T h s).2 ∧ w = wC E A C1 Z1) := by
  refine Ctr.of (by decide) (Nat.le_of_ble_eq_true rfl) rfl rfl 4 ?_
  intro X hX hR
  obtain ⟨hT, hT1, hT6, hnx, hud, hn, hrn⟩ := id hC
  refine rh_iload_n hX dX7_gets_0 rfl ?_
  refine rh_pS hX lk_X7_104 msX7_isHolder (fun l => c_X7_isHolder l E _) ⟨rfl, rfl⟩ ⟨Nat.le_of_ble_eq_true rfl, Nat.le_of_ble_eq_true rfl⟩ [] rfl rfl dX7_gets_1 rfl rfl (Nat.le_of_ble_eq_true rfl) ?_
  refine rh_if_eq (tgt := 14) hX dX7_gets_4 (by decide) (fun ha => ?_) (fun ha => ?_)
  · skip
    refine rh_iconst hX dX7_gets_14 ki_m1 ?_
    exact rh_iret hX hR dX7_gets_15 (by simp only [List.map_cons, List.map_nil, List.cons_append, List.nil_append]) (by first | exact ⟨Z, C, by rw [x_gets, if_pos ha] <;> rfl, hz, by rw [x_gets, if_pos ha] <;> rfl, rfl⟩ | exact ⟨Z, C, by rw [x_gets, if_neg ha, if_pos hb] <;> rfl, hz, by rw [x_gets, if_neg ha, if_pos hb] <;> rfl, rfl⟩)
  · skip
    obtain ⟨hd, rfl, hdl⟩ := xH_1 ha
    refine rh_iload_n hX dX7_gets_7 rfl ?_
    refine rh_pS hX lk_X7_289 msX7_isSum (fun l => c_X7_isSum l E _) ⟨rfl, rfl⟩ ⟨Nat.le_of_ble_eq_true rfl, Nat.le_of_ble_eq_true rfl⟩ [] rfl rfl dX7_gets_8 rfl rfl (Nat.le_of_ble_eq_true rfl) ?_
    refine rh_if_ne (tgt := 16) hX dX7_gets_11 (by decide) (fun hb => ?_) (fun hb => ?_)
    · skip
      refine rh_aload_n hX dX7_gets_16 rfl ?_
      refine rh_get hX gl_X7_61 0 dX7_gets_17 rfl rfl ?_
      refine rh_aload_n hX dX7_gets_20 rfl ?_
      refine rh_get hX gl_X7_12 0 dX7_gets_21 rfl rfl ?_
      refine rh_uV hX lk_X7_292 mvX4_looksAt (fun l => c_X4_looksAt l E _ _ _ _ _ _ _ _ _ _ _ _ _ _ _ _ _ _ T hT hT6 hT1) ⟨rfl, rfl⟩ ⟨Nat.le_of_ble_eq_true rfl, Nat.le_of_ble_eq_true rfl⟩ [29, 30, 31, 32, 33, 1, 2] rfl rfl 29 rfl dX7_gets_24 rfl rfl (Nat.le_of_ble_eq_true rfl) rfl ?_
      dsimp only [List.cons_append, List.nil_append, List.set_cons_succ, List.set_cons_zero, vput]
      refine rh_aload_n hX dX7_gets_27 rfl ?_
      refine rh_get hX gl_X7_61 0 dX7_gets_28 rfl rfl ?_
      refine rh_iload_n hX dX7_gets_31 rfl ?_
      refine rh_i2l hX dX7_gets_32 ?_
      refine rh_uV hX lk_X7_296 mvX4_settles (fun l => c_X4_settles l E _ _ _ _ _ _ _ _ _ _ _ _ _ _ _ _ (by omega) (by omega)) ⟨rfl, rfl⟩ ⟨Nat.le_of_ble_eq_true rfl, Nat.le_of_ble_eq_true rfl⟩ [29, 30, 31, 32, 33] rfl rfl 29 rfl dX7_gets_33 rfl rfl (Nat.le_of_ble_eq_true rfl) rfl ?_
      dsimp only [List.cons_append, List.nil_append, List.set_cons_succ, List.set_cons_zero, vput]
      rw [sQ_row, xL_row _ _ _ _ hT1, xS_row _ _ _ _ hT1]
      refine rh_aload_n hX dX7_gets_36 rfl ?_
      refine rh_get hX gl_X7_61 0 dX7_gets_37 rfl rfl ?_
      refine rh_aload_n hX dX7_gets_40 rfl ?_
      refine rh_get hX gl_X7_12 0 dX7_gets_41 rfl rfl ?_
      refine rh_iload_n hX dX7_gets_44 rfl ?_
      refine rh_pV hX lk_X7_304 mvX4_preferred (fun l => c_X4_preferred l E _ _ _ _ _ _ _ _ _ _ _ _ _ _ _ _ _ _ _ (by omega) (by omega) (by omega)) ⟨rfl, rfl⟩ ⟨Nat.le_of_ble_eq_true rfl, Nat.le_of_ble_eq_true rfl⟩ [29, 30, 31, 32, 33, 1, 2] rfl rfl 29 rfl dX7_gets_45 rfl rfl (Nat.le_of_ble_eq_true rfl) ?_
      rw [xHP_row C.1 _ _ _ s.toInt64 hd T hz]
      refine rh_lstn3 hX dX7_gets_48 (by decide) rfl ?_
      refine rh_aload_n hX dX7_gets_49 rfl ?_
      refine rh_get hX gl_X7_61 0 dX7_gets_50 rfl rfl ?_
      refine rh_aload_n hX dX7_gets_53 rfl ?_
      refine rh_get hX gl_X7_12 0 dX7_gets_54 rfl rfl ?_
      refine rh_iload_n hX dX7_gets_57 rfl ?_
      refine rh_pV hX lk_X7_308 mvX4_shared (fun l => c_X4_shared l E _ _ _ _ _ _ _ _ _ _ _ _ _ _ _ _ _ _ _ (by omega) (by omega) (by omega)) ⟨rfl, rfl⟩ ⟨Nat.le_of_ble_eq_true rfl, Nat.le_of_ble_eq_true rfl⟩ [29, 30, 31, 32, 33, 1, 2] rfl rfl 29 rfl dX7_gets_58 rfl rfl (Nat.le_of_ble_eq_true rfl) ?_
      refine rh_lst5 hX dX7_gets_61 (by decide) rfl ?_
      refine rh_aload_n hX dX7_gets_63 rfl ?_
      refine rh_get hX gl_X7_40 0 dX7_gets_64 rfl rfl ?_
      refine rh_uV hX lk_X7_184 mvX3_clear (fun l => c_X3_clear l E _ _ _ _) ⟨rfl, rfl⟩ ⟨Nat.le_of_ble_eq_true rfl, Nat.le_of_ble_eq_true rfl⟩ [18, 19] rfl rfl 18 rfl dX7_gets_67 rfl rfl (Nat.le_of_ble_eq_true rfl) rfl ?_
      dsimp only [List.cons_append, List.nil_append, List.set_cons_succ, List.set_cons_zero, vput]
      refine rh_aload_n hX dX7_gets_70 rfl ?_
      refine rh_get hX gl_X7_40 0 dX7_gets_71 rfl rfl ?_
      refine rh_lload_n hX dX7_gets_74 rfl ?_
      refine rh_uV hX lk_X7_181 mvX3_tell (fun l => c_X3_tell l E _ _ _ 0 _ (by omega)) ⟨rfl, rfl⟩ ⟨Nat.le_of_ble_eq_true rfl, Nat.le_of_ble_eq_true rfl⟩ [18, 19] rfl rfl 18 rfl dX7_gets_75 rfl rfl (Nat.le_of_ble_eq_true rfl) rfl ?_
      dsimp only [List.cons_append, List.nil_append, List.set_cons_succ, List.set_cons_zero, vput]
      refine rh_aload_n hX dX7_gets_78 rfl ?_
      refine rh_get hX gl_X7_40 0 dX7_gets_79 rfl rfl ?_
      refine rh_lload hX dX7_gets_82 rfl ?_
      refine rh_uV hX lk_X7_181 mvX3_tell (fun l => c_X3_tell l E _ _ _ (0 + 1) _ (by omega)) ⟨rfl, rfl⟩ ⟨Nat.le_of_ble_eq_true rfl, Nat.le_of_ble_eq_true rfl⟩ [18, 19] rfl rfl 18 rfl dX7_gets_84 rfl rfl (Nat.le_of_ble_eq_true rfl) rfl ?_
      dsimp only [List.cons_append, List.nil_append, List.set_cons_succ, List.set_cons_zero, vput]
      refine rh_lload_n hX dX7_gets_87 rfl ?_
      refine rh_lload hX dX7_gets_88 rfl ?_
      refine rh_ladd hX dX7_gets_90 ?_
      refine rh_l2i hX dX7_gets_91 ?_
      exact rh_iret hX hR dX7_gets_92 (by simp only [List.map_cons, List.map_nil, List.cons_append, List.nil_append]) (by refine ⟨(Z.1, Z.2.1, Z.2.2.1, Z.2.2.2.1, ((rowTo (cAllHeld C.1) Z.2.2.2.2.1.1 T), (rowTo (cAllConv C.1) Z.2.2.2.2.1.2.1 T), (rowTo (cDue C.1) Z.2.2.2.2.1.2.2.1 T), (pRow (rowTo (cDue C.1) Z.2.2.2.2.1.2.2.1 T) Z.2.2.2.2.1.2.2.2.1 (xQ C.1 T s.toInt64) s.toInt64 T (T - 1)), cAllGranted C.1, T, cTypesWith C.1 4 T, (xQ C.1 T s.toInt64), (xL C.1 T s.toInt64), (xS C.1 T s.toInt64)), Z.2.2.2.2.2.1, Z.2.2.2.2.2.2), setRow C (va_up (va_up C.2.2.2.2.2.2.2.2.2.1 0 _) (0 + 1) _) (0 + 1 + 1), ?ga, (xPF_0 C.1 _ _ _ T hT1 hz), ?gb, rfl⟩; (case ga => rw [x_gets, if_neg ha, if_neg hb, nI_clamp (show hd < 2 ^ 31 by omega)] <;> rfl); (case gb => rw [x_gets, if_neg ha, if_neg hb, nI_clamp (show hd < 2 ^ 31 by omega)]; exact ⟨_, (rowOk2 _ _ _), rfl⟩))
    · skip
      refine rh_iconst hX dX7_gets_14 ki_m1 ?_
      exact rh_iret hX hR dX7_gets_15 (by simp only [List.map_cons, List.map_nil, List.cons_append, List.nil_append]) (by first | exact ⟨Z, C, by rw [x_gets, if_pos ha] <;> rfl, hz, by rw [x_gets, if_pos ha] <;> rfl, rfl⟩ | exact ⟨Z, C, by rw [x_gets, if_neg ha, if_pos hb] <;> rfl, hz, by rw [x_gets, if_neg ha, if_pos hb] <;> rfl, rfl⟩)

set_option maxRecDepth 100000 in
set_option maxHeartbeats 4000000 in
theorem c_X7_over (l : Launch) (E : rhE) (A : Nat → Nat) (C : CT) (Z : ZT) (s : Int32) (T : Nat) (hC : cOk C T) (hz : zOk Z) : Ctr l E yX7_over cX7_over 7 (some .int) (rmL 4) [.ref (A 0), .int s] (wC E A C Z) (fun r w => ∃ Z1 C1, r = some (Value.int (x_over C T s).1) ∧ zOk Z1 ∧ rowTold C C1 (x_over C T s).2 ∧ w = wC E A C1 Z1) := by
  refine Ctr.of (by decide) (Nat.le_of_ble_eq_true rfl) rfl rfl 5 ?_
  intro X hX hR
  obtain ⟨hT, hT1, hT6, hnx, hud, hn, hrn⟩ := id hC
  refine rh_iload_n hX dX7_over_0 rfl ?_
  refine rh_pS hX lk_X7_289 msX7_isSum (fun l => c_X7_isSum l E _) ⟨rfl, rfl⟩ ⟨Nat.le_of_ble_eq_true rfl, Nat.le_of_ble_eq_true rfl⟩ [] rfl rfl dX7_over_1 rfl rfl (Nat.le_of_ble_eq_true rfl) ?_
  refine rh_if_ne (tgt := 9) hX dX7_over_4 (by decide) (fun h4 => ?_) (fun h4 => ?_)
  · skip
    refine rh_aload_n hX dX7_over_9 rfl ?_
    refine rh_get hX gl_X7_61 0 dX7_over_10 rfl rfl ?_
    refine rh_aload_n hX dX7_over_13 rfl ?_
    refine rh_get hX gl_X7_12 0 dX7_over_14 rfl rfl ?_
    refine rh_uV hX lk_X7_292 mvX4_looksAt (fun l => c_X4_looksAt l E _ _ _ _ _ _ _ _ _ _ _ _ _ _ _ _ _ _ T hT hT6 hT1) ⟨rfl, rfl⟩ ⟨Nat.le_of_ble_eq_true rfl, Nat.le_of_ble_eq_true rfl⟩ [29, 30, 31, 32, 33, 1, 2] rfl rfl 29 rfl dX7_over_17 rfl rfl (Nat.le_of_ble_eq_true rfl) rfl ?_
    dsimp only [List.cons_append, List.nil_append, List.set_cons_succ, List.set_cons_zero, vput]
    refine rh_aload_n hX dX7_over_20 rfl ?_
    refine rh_get hX gl_X7_61 0 dX7_over_21 rfl rfl ?_
    refine rh_iload_n hX dX7_over_24 rfl ?_
    refine rh_i2l hX dX7_over_25 ?_
    refine rh_uV hX lk_X7_296 mvX4_settles (fun l => c_X4_settles l E _ _ _ _ _ _ _ _ _ _ _ _ _ _ _ _ (by omega) (by omega)) ⟨rfl, rfl⟩ ⟨Nat.le_of_ble_eq_true rfl, Nat.le_of_ble_eq_true rfl⟩ [29, 30, 31, 32, 33] rfl rfl 29 rfl dX7_over_26 rfl rfl (Nat.le_of_ble_eq_true rfl) rfl ?_
    dsimp only [List.cons_append, List.nil_append, List.set_cons_succ, List.set_cons_zero, vput]
    rw [sQ_row, xL_row _ _ _ _ hT1, xS_row _ _ _ _ hT1]
    refine rh_iload_n hX dX7_over_29 rfl ?_
    refine rh_i2l hX dX7_over_30 ?_
    refine rh_lstn2 hX dX7_over_31 (by decide) rfl ?_
    refine rh_aload_n hX dX7_over_32 rfl ?_
    refine rh_get hX gl_X7_40 0 dX7_over_33 rfl rfl ?_
    refine rh_uV hX lk_X7_184 mvX3_clear (fun l => c_X3_clear l E _ _ _ _) ⟨rfl, rfl⟩ ⟨Nat.le_of_ble_eq_true rfl, Nat.le_of_ble_eq_true rfl⟩ [18, 19] rfl rfl 18 rfl dX7_over_36 rfl rfl (Nat.le_of_ble_eq_true rfl) rfl ?_
    dsimp only [List.cons_append, List.nil_append, List.set_cons_succ, List.set_cons_zero, vput]
    refine rh_iconst hX dX7_over_39 ki_0 ?_
    refine rh_ist4 hX dX7_over_40 (by decide) rfl ?_
    refine (rh_loop (P := fun i => ∀ g1, rowOk g1 ((List.range i).map (xHG C.1 T s.toInt64)) → G X 42 [some (.ref (A 0)), some (.int s), some (.long (subF s.toInt64 (xHG C.1 T s.toInt64) i)), none, some (.int (nI i)), none, none] [] (wC E A (setRow C g1 i) (Z.1, Z.2.1, Z.2.2.1, Z.2.2.2.1, ((rowTo (cAllHeld C.1) Z.2.2.2.2.1.1 T), (rowTo (cAllConv C.1) Z.2.2.2.2.1.2.1 T), (rowTo (cDue C.1) Z.2.2.2.2.1.2.2.1 T), (pRow (rowTo (cDue C.1) Z.2.2.2.2.1.2.2.1 T) Z.2.2.2.2.1.2.2.2.1 (xQ C.1 T s.toInt64) s.toInt64 T (T - 1)), cAllGranted C.1, T, cTypesWith C.1 4 T, (xQ C.1 T s.toInt64), (xL C.1 T s.toInt64), (xS C.1 T s.toInt64)), Z.2.2.2.2.2.1, Z.2.2.2.2.2.2))) (0) (8) (by omega) ?_ ?_) _ (rowOk_nil _)
    · intro g1 hg
      refine rh_iload hX dX7_over_42 rfl ?_
      refine rh_bipush hX dX7_over_44 kb_8 ?_
      refine rh_icmp_ge_t (tgt := 84) hX dX7_over_46 (by decide) (nI_le (a := 8) (b := 8) (Nat.le_refl 8) (by decide)) ?_
      refine rh_lload_n hX dX7_over_84 rfl ?_
      refine rh_l2i hX dX7_over_85 ?_
      exact rh_iret hX hR dX7_over_86 (by simp only [List.map_cons, List.map_nil, List.cons_append, List.nil_append]) ⟨(Z.1, Z.2.1, Z.2.2.1, Z.2.2.2.1, ((rowTo (cAllHeld C.1) Z.2.2.2.2.1.1 T), (rowTo (cAllConv C.1) Z.2.2.2.2.1.2.1 T), (rowTo (cDue C.1) Z.2.2.2.2.1.2.2.1 T), (pRow (rowTo (cDue C.1) Z.2.2.2.2.1.2.2.1 T) Z.2.2.2.2.1.2.2.2.1 (xQ C.1 T s.toInt64) s.toInt64 T (T - 1)), cAllGranted C.1, T, cTypesWith C.1 4 T, (xQ C.1 T s.toInt64), (xL C.1 T s.toInt64), (xS C.1 T s.toInt64)), Z.2.2.2.2.2.1, Z.2.2.2.2.2.2), setRow C g1 8, by rw [x_over, if_neg h4], (xPF_0 C.1 _ _ _ T hT1 hz), by rw [x_over, if_neg h4]; exact ⟨_, hg, by rw [List.length_map, List.length_range]⟩, rfl⟩
    · intro i hi0 hi ih g1 hg
      refine rh_iload hX dX7_over_42 rfl ?_
      refine rh_bipush hX dX7_over_44 kb_8 ?_
      refine rh_icmp_ge_f (tgt := 84) hX dX7_over_46 (by decide) (nI_ge (b := 8) hi (by decide)) ?_
      refine rh_aload_n hX dX7_over_49 rfl ?_
      refine rh_get hX gl_X7_61 0 dX7_over_50 rfl rfl ?_
      refine rh_aload_n hX dX7_over_53 rfl ?_
      refine rh_get hX gl_X7_12 0 dX7_over_54 rfl rfl ?_
      refine rh_iload hX dX7_over_57 rfl ?_
      refine rh_pV hX lk_X7_311 mvX4_holderGets (fun l => c_X4_holderGets l E _ _ _ _ _ _ _ _ _ _ _ _ _ _ _ _ _ _ _ (by omega) (by omega) (by omega)) ⟨rfl, rfl⟩ ⟨Nat.le_of_ble_eq_true rfl, Nat.le_of_ble_eq_true rfl⟩ [29, 30, 31, 32, 33, 1, 2] rfl rfl 29 rfl dX7_over_59 rfl rfl (Nat.le_of_ble_eq_true rfl) ?_
      dsimp only [setRow]
      rw [xHP_row C.1 _ _ _ s.toInt64 i T hz]
      refine rh_lst5 hX dX7_over_62 (by decide) rfl ?_
      refine rh_aload_n hX dX7_over_64 rfl ?_
      refine rh_get hX gl_X7_40 0 dX7_over_65 rfl rfl ?_
      refine rh_lload hX dX7_over_68 rfl ?_
      refine rh_uV hX lk_X7_181 mvX3_tell (fun l => c_X3_tell l E _ _ _ i _ (by omega)) ⟨rfl, rfl⟩ ⟨Nat.le_of_ble_eq_true rfl, Nat.le_of_ble_eq_true rfl⟩ [18, 19] rfl rfl 18 rfl dX7_over_70 rfl rfl (Nat.le_of_ble_eq_true rfl) rfl ?_
      dsimp only [List.cons_append, List.nil_append, List.set_cons_succ, List.set_cons_zero, vput]
      refine rh_lload_n hX dX7_over_73 rfl ?_
      refine rh_lload hX dX7_over_74 rfl ?_
      refine rh_lsub hX dX7_over_76 ?_
      refine rh_lstn2 hX dX7_over_77 (by decide) rfl ?_
      refine rh_inc4 hX dX7_over_78 (by decide) rfl (rn_i1 _) ?_
      refine rh_goto (tgt := 42) hX dX7_over_81 (by decide) ?_
      exact rh_wk (by exact ⟨rfl, rfl, rfl, rfl, trivial⟩) (ih _ (by rw [range_push]; exact rowOk_push _ hg (by rw [List.length_map, List.length_range])))
  · skip
    refine rh_iconst hX dX7_over_7 ki_m1 ?_
    exact rh_iret hX hR dX7_over_8 (by simp only [List.map_cons, List.map_nil, List.cons_append, List.nil_append]) (by first | exact ⟨Z, C, by rw [x_over, if_pos h4] <;> rfl, hz, by rw [x_over, if_pos h4] <;> rfl, rfl⟩)

set_option maxRecDepth 100000 in
set_option maxHeartbeats 4000000 in
theorem c_X7_worth (l : Launch) (E : rhE) (A : Nat → Nat) (C : CT) (Z : ZT) (t s : Int32) (T : Nat) (hC : cOk C T) (hz : zOk Z) : Ctr l E yX7_worth cX7_worth 5 (some .int) (rmL 4) [.ref (A 0), .int t, .int s] (wC E A C Z) (fun r w => ∃ Z1, r = some (Value.int (x_worth C T t s)) ∧ zOk Z1 ∧ w = wC E A C Z1) := by
  refine Ctr.of (by decide) (Nat.le_of_ble_eq_true rfl) rfl rfl 2 ?_
  intro X hX hR
  obtain ⟨hT, hT1, hT6, hnx, hud, hn, hrn⟩ := id hC
  refine rh_aload_n hX dX7_worth_0 rfl ?_
  refine rh_iload_n hX dX7_worth_1 rfl ?_
  refine rh_aP hX lk_X7_110 mvX7_isType (fun l => c_X7_isType l E A C Z _ T hC) ⟨rfl, rfl⟩ ⟨Nat.le_of_ble_eq_true rfl, Nat.le_of_ble_eq_true rfl⟩ 0 rfl dX7_worth_2 rfl rfl (Nat.le_of_ble_eq_true rfl) ?_
  refine rh_if_eq (tgt := 15) hX dX7_worth_5 (by decide) (fun ha => ?_) (fun ha => ?_)
  · skip
    refine rh_iconst hX dX7_worth_15 ki_m1 ?_
    exact rh_iret hX hR dX7_worth_16 (by simp only [List.map_cons, List.map_nil, List.cons_append, List.nil_append]) (by first | exact ⟨Z, by rw [x_worth, if_pos ha] <;> rfl, hz, rfl⟩ | exact ⟨Z, by rw [x_worth, if_neg ha, if_pos hb] <;> rfl, hz, rfl⟩)
  · skip
    obtain ⟨td, rfl, htd⟩ := xTy_1 hT6 ha
    refine rh_iload_n hX dX7_worth_8 rfl ?_
    refine rh_pS hX lk_X7_289 msX7_isSum (fun l => c_X7_isSum l E _) ⟨rfl, rfl⟩ ⟨Nat.le_of_ble_eq_true rfl, Nat.le_of_ble_eq_true rfl⟩ [] rfl rfl dX7_worth_9 rfl rfl (Nat.le_of_ble_eq_true rfl) ?_
    refine rh_if_ne (tgt := 17) hX dX7_worth_12 (by decide) (fun hb => ?_) (fun hb => ?_)
    · skip
      refine rh_aload_n hX dX7_worth_17 rfl ?_
      refine rh_get hX gl_X7_12 0 dX7_worth_18 rfl rfl ?_
      refine rh_iload_n hX dX7_worth_21 rfl ?_
      refine rh_pV hX lk_X7_246 mvX1_allHeld (fun l => c_X1_allHeld l E _ _ _ td (by omega)) ⟨rfl, rfl⟩ ⟨Nat.le_of_ble_eq_true rfl, Nat.le_of_ble_eq_true rfl⟩ [1, 2] rfl rfl 1 rfl dX7_worth_22 rfl rfl (Nat.le_of_ble_eq_true rfl) ?_
      refine rh_lstn3 hX dX7_worth_25 (by decide) rfl ?_
      refine rh_lload_n hX dX7_worth_26 rfl ?_
      refine rh_lconst hX dX7_worth_27 kL_0 ?_
      refine rh_lne (tgt := 35) hX dX7_worth_28 dX7_worth_29 (by decide) (fun h29 => ?_) (fun h29 => ?_)
      · skip
        refine rh_aload_n hX dX7_worth_35 rfl ?_
        refine rh_get hX gl_X7_61 0 dX7_worth_36 rfl rfl ?_
        refine rh_aload_n hX dX7_worth_39 rfl ?_
        refine rh_get hX gl_X7_12 0 dX7_worth_40 rfl rfl ?_
        refine rh_uV hX lk_X7_292 mvX4_looksAt (fun l => c_X4_looksAt l E _ _ _ _ _ _ _ _ _ _ _ _ _ _ _ _ _ _ T hT hT6 hT1) ⟨rfl, rfl⟩ ⟨Nat.le_of_ble_eq_true rfl, Nat.le_of_ble_eq_true rfl⟩ [29, 30, 31, 32, 33, 1, 2] rfl rfl 29 rfl dX7_worth_43 rfl rfl (Nat.le_of_ble_eq_true rfl) rfl ?_
        dsimp only [List.cons_append, List.nil_append, List.set_cons_succ, List.set_cons_zero, vput]
        refine rh_aload_n hX dX7_worth_46 rfl ?_
        refine rh_get hX gl_X7_61 0 dX7_worth_47 rfl rfl ?_
        refine rh_iload_n hX dX7_worth_50 rfl ?_
        refine rh_i2l hX dX7_worth_51 ?_
        refine rh_uV hX lk_X7_296 mvX4_settles (fun l => c_X4_settles l E _ _ _ _ _ _ _ _ _ _ _ _ _ _ _ _ (by omega) (by omega)) ⟨rfl, rfl⟩ ⟨Nat.le_of_ble_eq_true rfl, Nat.le_of_ble_eq_true rfl⟩ [29, 30, 31, 32, 33] rfl rfl 29 rfl dX7_worth_52 rfl rfl (Nat.le_of_ble_eq_true rfl) rfl ?_
        dsimp only [List.cons_append, List.nil_append, List.set_cons_succ, List.set_cons_zero, vput]
        rw [sQ_row, xL_row _ _ _ _ hT1, xS_row _ _ _ _ hT1]
        refine rh_ldc2 hX dX7_worth_55 kl_X7_274 ?_
        refine rh_aload_n hX dX7_worth_58 rfl ?_
        refine rh_get hX gl_X7_61 0 dX7_worth_59 rfl rfl ?_
        refine rh_iload_n hX dX7_worth_62 rfl ?_
        refine rh_pV hX lk_X7_301 mvX4_typeGets (fun l => c_X4_typeGets l E _ _ _ _ _ _ _ _ _ _ _ _ _ _ _ _ (by omega)) ⟨rfl, rfl⟩ ⟨Nat.le_of_ble_eq_true rfl, Nat.le_of_ble_eq_true rfl⟩ [29, 30, 31, 32, 33] rfl rfl 29 rfl dX7_worth_63 rfl rfl (Nat.le_of_ble_eq_true rfl) ?_
        rw [xTG_row C.1 _ _ _ _ T td (by omega) hz]
        refine rh_lmul hX dX7_worth_66 ?_
        refine rh_lload_n hX dX7_worth_67 rfl ?_
        refine rh_pS hX lk_X7_187 msX7_quotient (fun l => c_X7_quotient l E _ _) ⟨rfl, rfl⟩ ⟨Nat.le_of_ble_eq_true rfl, Nat.le_of_ble_eq_true rfl⟩ [] rfl rfl dX7_worth_68 rfl rfl (Nat.le_of_ble_eq_true rfl) ?_
        refine rh_pS hX lk_X7_276 msX7_capped (fun l => c_X7_capped l E _) ⟨rfl, rfl⟩ ⟨Nat.le_of_ble_eq_true rfl, Nat.le_of_ble_eq_true rfl⟩ [] rfl rfl dX7_worth_71 rfl rfl (Nat.le_of_ble_eq_true rfl) ?_
        exact rh_iret hX hR dX7_worth_74 (by simp only [List.map_cons, List.map_nil, List.cons_append, List.nil_append]) (by first | exact ⟨(Z.1, Z.2.1, Z.2.2.1, Z.2.2.2.1, ((rowTo (cAllHeld C.1) Z.2.2.2.2.1.1 T), (rowTo (cAllConv C.1) Z.2.2.2.2.1.2.1 T), (rowTo (cDue C.1) Z.2.2.2.2.1.2.2.1 T), (pRow (rowTo (cDue C.1) Z.2.2.2.2.1.2.2.1 T) Z.2.2.2.2.1.2.2.2.1 (xQ C.1 T s.toInt64) s.toInt64 T (T - 1)), cAllGranted C.1, T, cTypesWith C.1 4 T, (xQ C.1 T s.toInt64), (xL C.1 T s.toInt64), (xS C.1 T s.toInt64)), Z.2.2.2.2.2.1, Z.2.2.2.2.2.2), by rw [x_worth, if_neg ha, if_neg hb, nI_clamp (show td < 2 ^ 31 by omega), if_neg h29] <;> rfl, (xPF_0 C.1 _ _ _ T hT1 hz), rfl⟩)
      · skip
        refine rh_bipush hX dX7_worth_32 kb_m2 ?_
        exact rh_iret hX hR dX7_worth_34 (by simp only [List.map_cons, List.map_nil, List.cons_append, List.nil_append]) (by first | exact ⟨Z, by rw [x_worth, if_neg ha, if_neg hb, nI_clamp (show td < 2 ^ 31 by omega), if_pos h29] <;> rfl, hz, rfl⟩)
    · skip
      refine rh_iconst hX dX7_worth_15 ki_m1 ?_
      exact rh_iret hX hR dX7_worth_16 (by simp only [List.map_cons, List.map_nil, List.cons_append, List.nil_append]) (by first | exact ⟨Z, by rw [x_worth, if_pos ha] <;> rfl, hz, rfl⟩ | exact ⟨Z, by rw [x_worth, if_neg ha, if_pos hb] <;> rfl, hz, rfl⟩)

set_option maxRecDepth 100000 in
set_option maxHeartbeats 4000000 in
theorem c_X7_multiple (l : Launch) (E : rhE) (A : Nat → Nat) (C : CT) (Z : ZT) (h s : Int32) (T : Nat) (hC : cOk C T) (hz : zOk Z) : Ctr l E yX7_multiple cX7_multiple 5 (some .int) (rmL 4) [.ref (A 0), .int h, .int s] (wC E A C Z) (fun r w => ∃ Z1, r = some (Value.int (x_multiple C T h s)) ∧ zOk Z1 ∧ w = wC E A C Z1) := by
  refine Ctr.of (by decide) (Nat.le_of_ble_eq_true rfl) rfl rfl 2 ?_
  intro X hX hR
  obtain ⟨hT, hT1, hT6, hnx, hud, hn, hrn⟩ := id hC
  refine rh_iload_n hX dX7_multiple_0 rfl ?_
  refine rh_pS hX lk_X7_104 msX7_isHolder (fun l => c_X7_isHolder l E _) ⟨rfl, rfl⟩ ⟨Nat.le_of_ble_eq_true rfl, Nat.le_of_ble_eq_true rfl⟩ [] rfl rfl dX7_multiple_1 rfl rfl (Nat.le_of_ble_eq_true rfl) ?_
  refine rh_if_eq (tgt := 14) hX dX7_multiple_4 (by decide) (fun ha => ?_) (fun ha => ?_)
  · skip
    refine rh_iconst hX dX7_multiple_14 ki_m1 ?_
    exact rh_iret hX hR dX7_multiple_15 (by simp only [List.map_cons, List.map_nil, List.cons_append, List.nil_append]) (by first | exact ⟨Z, by rw [x_multiple, if_pos ha] <;> rfl, hz, rfl⟩ | exact ⟨Z, by rw [x_multiple, if_neg ha, if_pos hb] <;> rfl, hz, rfl⟩)
  · skip
    obtain ⟨hd, rfl, hdl⟩ := xH_1 ha
    refine rh_iload_n hX dX7_multiple_7 rfl ?_
    refine rh_pS hX lk_X7_289 msX7_isSum (fun l => c_X7_isSum l E _) ⟨rfl, rfl⟩ ⟨Nat.le_of_ble_eq_true rfl, Nat.le_of_ble_eq_true rfl⟩ [] rfl rfl dX7_multiple_8 rfl rfl (Nat.le_of_ble_eq_true rfl) ?_
    refine rh_if_ne (tgt := 16) hX dX7_multiple_11 (by decide) (fun hb => ?_) (fun hb => ?_)
    · skip
      refine rh_aload_n hX dX7_multiple_16 rfl ?_
      refine rh_get hX gl_X7_12 0 dX7_multiple_17 rfl rfl ?_
      refine rh_iload_n hX dX7_multiple_20 rfl ?_
      refine rh_pV hX lk_X7_271 mvX1_allGiven (fun l => c_X1_allGiven l E _ _ _ hd T hT hT6 (by omega) hT1) ⟨rfl, rfl⟩ ⟨Nat.le_of_ble_eq_true rfl, Nat.le_of_ble_eq_true rfl⟩ [1, 2] rfl rfl 1 rfl dX7_multiple_21 rfl rfl (Nat.le_of_ble_eq_true rfl) ?_
      refine rh_lstn3 hX dX7_multiple_24 (by decide) rfl ?_
      refine rh_lload_n hX dX7_multiple_25 rfl ?_
      refine rh_lconst hX dX7_multiple_26 kL_0 ?_
      refine rh_lne (tgt := 34) hX dX7_multiple_27 dX7_multiple_28 (by decide) (fun h29 => ?_) (fun h29 => ?_)
      · skip
        refine rh_aload_n hX dX7_multiple_34 rfl ?_
        refine rh_get hX gl_X7_61 0 dX7_multiple_35 rfl rfl ?_
        refine rh_aload_n hX dX7_multiple_38 rfl ?_
        refine rh_get hX gl_X7_12 0 dX7_multiple_39 rfl rfl ?_
        refine rh_uV hX lk_X7_292 mvX4_looksAt (fun l => c_X4_looksAt l E _ _ _ _ _ _ _ _ _ _ _ _ _ _ _ _ _ _ T hT hT6 hT1) ⟨rfl, rfl⟩ ⟨Nat.le_of_ble_eq_true rfl, Nat.le_of_ble_eq_true rfl⟩ [29, 30, 31, 32, 33, 1, 2] rfl rfl 29 rfl dX7_multiple_42 rfl rfl (Nat.le_of_ble_eq_true rfl) rfl ?_
        dsimp only [List.cons_append, List.nil_append, List.set_cons_succ, List.set_cons_zero, vput]
        refine rh_aload_n hX dX7_multiple_45 rfl ?_
        refine rh_get hX gl_X7_61 0 dX7_multiple_46 rfl rfl ?_
        refine rh_iload_n hX dX7_multiple_49 rfl ?_
        refine rh_i2l hX dX7_multiple_50 ?_
        refine rh_uV hX lk_X7_296 mvX4_settles (fun l => c_X4_settles l E _ _ _ _ _ _ _ _ _ _ _ _ _ _ _ _ (by omega) (by omega)) ⟨rfl, rfl⟩ ⟨Nat.le_of_ble_eq_true rfl, Nat.le_of_ble_eq_true rfl⟩ [29, 30, 31, 32, 33] rfl rfl 29 rfl dX7_multiple_51 rfl rfl (Nat.le_of_ble_eq_true rfl) rfl ?_
        dsimp only [List.cons_append, List.nil_append, List.set_cons_succ, List.set_cons_zero, vput]
        rw [sQ_row, xL_row _ _ _ _ hT1, xS_row _ _ _ _ hT1]
        refine rh_ldc2 hX dX7_multiple_54 kl_X7_326 ?_
        refine rh_aload_n hX dX7_multiple_57 rfl ?_
        refine rh_get hX gl_X7_61 0 dX7_multiple_58 rfl rfl ?_
        refine rh_aload_n hX dX7_multiple_61 rfl ?_
        refine rh_get hX gl_X7_12 0 dX7_multiple_62 rfl rfl ?_
        refine rh_iload_n hX dX7_multiple_65 rfl ?_
        refine rh_pV hX lk_X7_311 mvX4_holderGets (fun l => c_X4_holderGets l E _ _ _ _ _ _ _ _ _ _ _ _ _ _ _ _ _ _ _ (by omega) (by omega) (by omega)) ⟨rfl, rfl⟩ ⟨Nat.le_of_ble_eq_true rfl, Nat.le_of_ble_eq_true rfl⟩ [29, 30, 31, 32, 33, 1, 2] rfl rfl 29 rfl dX7_multiple_66 rfl rfl (Nat.le_of_ble_eq_true rfl) ?_
        rw [xHP_row C.1 _ _ _ s.toInt64 hd T hz]
        refine rh_lmul hX dX7_multiple_69 ?_
        refine rh_lload_n hX dX7_multiple_70 rfl ?_
        refine rh_pS hX lk_X7_187 msX7_quotient (fun l => c_X7_quotient l E _ _) ⟨rfl, rfl⟩ ⟨Nat.le_of_ble_eq_true rfl, Nat.le_of_ble_eq_true rfl⟩ [] rfl rfl dX7_multiple_71 rfl rfl (Nat.le_of_ble_eq_true rfl) ?_
        refine rh_pS hX lk_X7_276 msX7_capped (fun l => c_X7_capped l E _) ⟨rfl, rfl⟩ ⟨Nat.le_of_ble_eq_true rfl, Nat.le_of_ble_eq_true rfl⟩ [] rfl rfl dX7_multiple_74 rfl rfl (Nat.le_of_ble_eq_true rfl) ?_
        exact rh_iret hX hR dX7_multiple_77 (by simp only [List.map_cons, List.map_nil, List.cons_append, List.nil_append]) (by first | exact ⟨(Z.1, Z.2.1, Z.2.2.1, Z.2.2.2.1, ((rowTo (cAllHeld C.1) Z.2.2.2.2.1.1 T), (rowTo (cAllConv C.1) Z.2.2.2.2.1.2.1 T), (rowTo (cDue C.1) Z.2.2.2.2.1.2.2.1 T), (pRow (rowTo (cDue C.1) Z.2.2.2.2.1.2.2.1 T) Z.2.2.2.2.1.2.2.2.1 (xQ C.1 T s.toInt64) s.toInt64 T (T - 1)), cAllGranted C.1, T, cTypesWith C.1 4 T, (xQ C.1 T s.toInt64), (xL C.1 T s.toInt64), (xS C.1 T s.toInt64)), Z.2.2.2.2.2.1, Z.2.2.2.2.2.2), by rw [x_multiple, if_neg ha, if_neg hb, nI_clamp (show hd < 2 ^ 31 by omega), if_neg h29] <;> rfl, (xPF_0 C.1 _ _ _ T hT1 hz), rfl⟩)
      · skip
        refine rh_bipush hX dX7_multiple_31 kb_m2 ?_
        exact rh_iret hX hR dX7_multiple_33 (by simp only [List.map_cons, List.map_nil, List.cons_append, List.nil_append]) (by first | exact ⟨Z, by rw [x_multiple, if_neg ha, if_neg hb, nI_clamp (show hd < 2 ^ 31 by omega), if_pos h29] <;> rfl, hz, rfl⟩)
    · skip
      refine rh_iconst hX dX7_multiple_14 ki_m1 ?_
      exact rh_iret hX hR dX7_multiple_15 (by simp only [List.map_cons, List.map_nil, List.cons_append, List.nil_append]) (by first | exact ⟨Z, by rw [x_multiple, if_pos ha] <;> rfl, hz, rfl⟩ | exact ⟨Z, by rw [x_multiple, if_neg ha, if_pos hb] <;> rfl, hz, rfl⟩)
