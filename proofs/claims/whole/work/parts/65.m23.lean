def uSel (u : Nat → Int32) (h to t : Nat) (n : Int32) : Nat → Int32 := va_up (va_up u (6 * h + t) (u (6 * h + t) - n)) (6 * to + t) (va_up u (6 * h + t) (u (6 * h + t) - n) (6 * to + t) + n)
def y_sells (u : Nat → Int32) (T : Nat) (h to t n : Int32) : YR := if xH h = 0 then (-1, none) else if xH to = 0 then (-1, none) else if xTy T t = 0 then (-1, none) else if n < 1 then (-1, none) else if u (6 * h.toNatClampNeg + t.toNatClampNeg) < n then (-2, none) else if h = to then (-2, none) else if 1000000000 < cSize (fm (uSel u h.toNatClampNeg to.toNatClampNeg t.toNatClampNeg n)) T then (-9, none) else (uSel u h.toNatClampNeg to.toNatClampNeg t.toNatClampNeg n (6 * h.toNatClampNeg + t.toNatClampNeg), some (uSel u h.toNatClampNeg to.toNatClampNeg t.toNatClampNeg n))
theorem mOk_uSel {u : Nat → Int32} {T h to t : Nat} {n : Int32} (hM : mOk u T) (hh : h < 8) (ht : to < 8) (h6 : t < 6) : mOk (uSel u h to t n) T := mOk_up (mOk_up hM (by omega) (by omega)) (by omega) (by omega)
/-- all that holder h has goes to another: c classes -/
def gvM (u : Nat → Int32) (h to : Nat) : Nat → Nat → Int32
  | 0 => u
  | c + 1 => va_up (va_up (gvM u h to c) (6 * to + c) (gvM u h to c (6 * to + c) + gvM u h to c (6 * h + c))) (6 * h + c) 0
termination_by c => c
theorem gvM_0 (u : Nat → Int32) (h to : Nat) : gvM u h to 0 = u := by rw [gvM]
theorem gvM_s (u : Nat → Int32) (h to c : Nat) : gvM u h to (c + 1) = va_up (va_up (gvM u h to c) (6 * to + c) (gvM u h to c (6 * to + c) + gvM u h to c (6 * h + c))) (6 * h + c) 0 := by rw [gvM]
theorem gvM_s' (u : Nat → Int32) (h to c : Nat) (hn : ¬ h = to) : gvM u h to (c + 1) = va_up (va_up (gvM u h to c) (6 * to + c) (gvM u h to c (6 * to + c) + gvM u h to c (6 * h + c))) (6 * h + c) 0 := gvM_s u h to c
theorem mOk_gvM {u : Nat → Int32} {T h to : Nat} (hM : mOk u T) (hh : h < 8) (ht : to < 8) : ∀ c : Nat, c ≤ 6 → mOk (gvM u h to c) T
  | 0, _ => by rw [gvM_0]; exact hM
  | c + 1, hc => by rw [gvM_s]; exact mOk_up (mOk_up (mOk_gvM hM hh ht c (by omega)) (by omega) (by omega)) (by omega) (by omega)
def gvOM (g : Nat → Int32) (h to : Nat) : Nat → Int32 := va_up (va_up g (48 + to) (g (48 + to) + g (48 + h))) (48 + h) 0
def uGiv (u : Nat → Int32) (T h to : Nat) : Nat → Int32 := gvOM (gvM u h to T) h to
theorem mOk_uGiv {u : Nat → Int32} {T h to : Nat} (hM : mOk u T) (hh : h < 8) (ht : to < 8) : mOk (uGiv u T h to) T := mOk_up (mOk_up (mOk_gvM hM hh ht T hM.2.2.1) (by omega) (by omega)) (by omega) (by omega)
def y_gives (u : Nat → Int32) (T : Nat) (h to : Int32) : YR := if xH h = 0 then (-1, none) else if xH to = 0 then (-1, none) else if h = to then (-2, none) else if cAny (fm u) h.toNatClampNeg T = 0 then (-2, none) else if 1000000000 < cSize (fm (uGiv u T h.toNatClampNeg to.toNatClampNeg)) T then (-9, none) else ((cClaim (fm (uGiv u T h.toNatClampNeg to.toNatClampNeg)) to.toNatClampNeg T).toInt32, some (uGiv u T h.toNatClampNeg to.toNatClampNeg))
def spA (u : Nat → Int32) (k : Int32) (i : Nat) : Nat → Int32 := fun x => if x < i then u x * k else u x
theorem spA_0 (u : Nat → Int32) (k : Int32) : spA u k 0 = u := by
  funext x
  unfold spA
  rw [if_neg (by omega)]
theorem spA_at (u : Nat → Int32) (k : Int32) (i : Nat) : spA u k i i = u i := by
  unfold spA
  rw [if_neg (by omega)]
theorem spA_s (u : Nat → Int32) (k : Int32) (i : Nat) : va_up (spA u k i) i (u i * k) = spA u k (i + 1) := by
  funext x
  unfold va_up spA
  by_cases e : x = i
  · rw [if_pos e, if_pos (by omega), e]
  · rw [if_neg e]
    by_cases h : x < i
    · rw [if_pos h, if_pos (by omega)]
    · rw [if_neg h, if_neg (by omega)]
def mxI (y : Int32) : Int32 := if 1 < y then y else 1
def spB (g : Nat → Int32) (k : Int32) (c : Nat) : Nat → Int32 := fun x => if (59 ≤ x ∧ x < 58 + c) ∨ (65 ≤ x ∧ x < 64 + c) then mxI (g x / k) else g x
theorem spB_1 (g : Nat → Int32) (k : Int32) : spB g k 1 = g := by
  funext x
  unfold spB
  rw [if_neg (by omega)]
theorem spB_p (g : Nat → Int32) (k : Int32) {c : Nat} (hc : c ≤ 6) : spB g k c (58 + c) = g (58 + c) := by
  unfold spB
  rw [if_neg (by omega)]
theorem spB_q (g : Nat → Int32) (k : Int32) {c : Nat} (hc : c ≤ 6) (v : Int32) : va_up (spB g k c) (58 + c) v (64 + c) = g (64 + c) := by
  unfold va_up spB
  rw [if_neg (by omega), if_neg (by omega)]
theorem spB_s (g : Nat → Int32) (k : Int32) {c : Nat} (h1 : 1 ≤ c) (hc : c < 6) : va_up (va_up (spB g k c) (58 + c) (if 1 < g (58 + c) / k then g (58 + c) / k else 1)) (64 + c) (if 1 < g (64 + c) / k then g (64 + c) / k else 1) = spB g k (c + 1) := by
  funext x
  unfold va_up spB
  by_cases e : x = 64 + c
  · rw [if_pos e, if_pos (c := (59 ≤ x ∧ x < 58 + (c + 1)) ∨ (65 ≤ x ∧ x < 64 + (c + 1))) (by omega), e]; rfl
  · rw [if_neg e]
    by_cases e2 : x = 58 + c
    · rw [if_pos e2, if_pos (c := (59 ≤ x ∧ x < 58 + (c + 1)) ∨ (65 ≤ x ∧ x < 64 + (c + 1))) (by omega), e2]; rfl
    · rw [if_neg e2]
      by_cases h : (59 ≤ x ∧ x < 58 + c) ∨ (65 ≤ x ∧ x < 64 + c)
      · rw [if_pos h, if_pos (by omega)]
      · rw [if_neg h, if_neg (by omega)]
def uSp (u : Nat → Int32) (k : Int32) (T : Nat) : Nat → Int32 := spB (spA u k 57) k T
theorem spB_57 (u : Nat → Int32) (k : Int32) (c : Nat) (hc : c ≤ 6) : spB (spA u k 57) k c 57 = u 57 := by
  unfold spB spA
  rw [if_neg (by omega), if_neg (by omega)]
theorem mxI_pos (y : Int32) : 0 < (mxI y).toInt64 := by
  unfold mxI
  rw [z_lt, z_l, show (0 : Int64).toInt = 0 by decide]
  by_cases h : 1 < y
  · rw [if_pos h]; rw [z_lt32, show (1 : Int32).toInt = 1 by decide] at h; omega
  · rw [if_neg h]; decide
theorem mOk_uSp {u : Nat → Int32} {T : Nat} {k : Int32} (hM : mOk u T) : mOk (uSp u k T) T := by
  obtain ⟨a, b, c, d⟩ := hM
  refine ⟨by rw [← a]; exact spB_57 u k T c, b, c, fun t t1 t2 => ?_⟩
  rw [← fm_fact _ (t := t) (k := 1) (by omega) (by omega)]
  unfold uSp spB
  rw [if_pos (by omega)]
  exact mxI_pos _
def spAll (f : Nat → Int64) (T : Nat) : Int64 := sumF (cAllGranted f + f 170) (fun t => cAllHeld f t) T
def y_splits (u : Nat → Int32) (T : Nat) (k : Int32) : YR := if xIn k.toInt64 2 10 = 0 then (-1, none) else if 1000000000 < k.toInt64 * spAll (fm u) T then (-9, none) else if 1000000000 < cSize (fm (uSp u k T)) T then (-9, none) else ((cSize (fm (uSp u k T)) T).toInt32, some (uSp u k T))

set_option maxRecDepth 100000 in
set_option maxHeartbeats 4000000 in
theorem c_X8_sells (l : Launch) (E : rhE) (B : Nat → Nat) (u : Nat → Int32) (kp : Nat → Int32) (ik : Int32) (ps : Nat → Int32) (pm : Nat) (dd : Int32) (tx : Nat → Int32) (ty : Nat) (rw : Nat → Int64) (rm : Nat) (th : Int32) (sz : Nat) (he : Nat) (wr : Int32) (mn : Nat → Int32) (vl : Int32) (tp : Int32) (lt : Int32) (ra : Int32) (pf : Int32) (pt : Int32) (pl : Int32) (pd : Int64) (prc : Int64) (ns : Int64) (tu : Nat) (ba : Int64) (na : Int64) (ca : Nat → Int64) (bo : Nat → Int32) (tr : Nat → Int64) (tH : Int32) (asd : Nat → Int32) (pa : Nat → Int64) (tg : Nat → Int64) (sd : Int64) (sr : Int64) (h to t n : Int32) (T : Nat) (hM : mOk u T) (hpm : pm ≤ 8)  : Ctr l E yX8_sells cX8_sells 5 (some .int) (rmL 6) [.ref (B 0), .int h, .int to, .int t, .int n] (wM E B u kp ik ps pm dd tx ty rw rm th sz he wr mn vl tp lt ra pf pt pl pd prc ns tu ba na ca bo tr tH asd pa tg sd sr) (fun r w => r = some (Value.int (y_sells u T h to t n).1) ∧ (∀ u1, (y_sells u T h to t n).2 = some u1 → w = (wM E B u1 kp ik (psDid ps pm u) (pmDid pm) (dd + 1) tx ty rw rm 0 sz he wr mn vl tp lt ra pf pt pl pd prc ns tu ba na ca bo tr tH u pa tg sd sr)) ∧ ((y_sells u T h to t n).2 = none → ∃ asd1, w = (wM E B u kp ik ps pm dd tx ty rw rm 0 sz he wr mn vl tp lt ra pf pt pl pd prc ns tu ba na ca bo tr tH asd1 pa tg sd sr))) := by
  refine Ctr.of (by decide) (Nat.le_of_ble_eq_true rfl) rfl rfl 0 ?_
  intro X hX hR
  obtain ⟨hT, hT1, hT6, hcv⟩ := id hM
  refine rh_aload_n hX dX8_sells_0 rfl ?_
  refine rh_iconst hX dX8_sells_1 ki_0 ?_
  refine rh_put hX gl_X8_48 0 dX8_sells_2 rfl rfl rfl (Nat.le_of_ble_eq_true rfl) rfl ?_
  dsimp only [List.cons_append, List.nil_append, List.set_cons_succ, List.set_cons_zero, vput]
  refine rh_iload_n hX dX8_sells_5 rfl ?_
  refine rh_pS hX lk_X8_140 msX8_isHolder (fun l => c_X8_isHolderH l E _) ⟨rfl, rfl⟩ ⟨Nat.le_of_ble_eq_true rfl, Nat.le_of_ble_eq_true rfl⟩ [] rfl rfl dX8_sells_6 rfl rfl (Nat.le_of_ble_eq_true rfl) ?_
  refine rh_if_eq (tgt := 33) hX dX8_sells_9 (by decide) (fun h9 => ?_) (fun h9 => ?_)
  · skip
    refine rh_iconst hX dX8_sells_33 ki_m1 ?_
    exact rh_iret hX hR dX8_sells_34 (by simp only [List.map_cons, List.map_nil, List.cons_append, List.nil_append]) (by first | exact ⟨by rw [y_sells, if_pos h9] <;> rfl, (fun z hz => by rw [y_sells, if_pos h9] at hz; cases hz), fun _ => ⟨_, rfl⟩⟩ | exact ⟨by rw [y_sells, if_neg h9, if_pos h16] <;> rfl, (fun z hz => by rw [y_sells, if_neg h9, if_pos h16] at hz; cases hz), fun _ => ⟨_, rfl⟩⟩ | exact ⟨by rw [y_sells, if_neg h9, if_neg h16, if_pos h24] <;> rfl, (fun z hz => by rw [y_sells, if_neg h9, if_neg h16, if_pos h24] at hz; cases hz), fun _ => ⟨_, rfl⟩⟩ | exact ⟨by rw [y_sells, if_neg h9, if_neg h16, if_neg h24, if_pos h30] <;> rfl, (fun z hz => by rw [y_sells, if_neg h9, if_neg h16, if_neg h24, if_pos h30] at hz; cases hz), fun _ => ⟨_, rfl⟩⟩)
  · skip
    obtain ⟨hd, rfl, hdl⟩ := xH_1 h9
    refine rh_iload_n hX dX8_sells_12 rfl ?_
    refine rh_pS hX lk_X8_140 msX8_isHolder (fun l => c_X8_isHolderH l E _) ⟨rfl, rfl⟩ ⟨Nat.le_of_ble_eq_true rfl, Nat.le_of_ble_eq_true rfl⟩ [] rfl rfl dX8_sells_13 rfl rfl (Nat.le_of_ble_eq_true rfl) ?_
    refine rh_if_eq (tgt := 33) hX dX8_sells_16 (by decide) (fun h16 => ?_) (fun h16 => ?_)
    · skip
      refine rh_iconst hX dX8_sells_33 ki_m1 ?_
      exact rh_iret hX hR dX8_sells_34 (by simp only [List.map_cons, List.map_nil, List.cons_append, List.nil_append]) (by first | exact ⟨by rw [y_sells, if_pos h9] <;> rfl, (fun z hz => by rw [y_sells, if_pos h9] at hz; cases hz), fun _ => ⟨_, rfl⟩⟩ | exact ⟨by rw [y_sells, if_neg h9, if_pos h16] <;> rfl, (fun z hz => by rw [y_sells, if_neg h9, if_pos h16] at hz; cases hz), fun _ => ⟨_, rfl⟩⟩ | exact ⟨by rw [y_sells, if_neg h9, if_neg h16, if_pos h24] <;> rfl, (fun z hz => by rw [y_sells, if_neg h9, if_neg h16, if_pos h24] at hz; cases hz), fun _ => ⟨_, rfl⟩⟩ | exact ⟨by rw [y_sells, if_neg h9, if_neg h16, if_neg h24, if_pos h30] <;> rfl, (fun z hz => by rw [y_sells, if_neg h9, if_neg h16, if_neg h24, if_pos h30] at hz; cases hz), fun _ => ⟨_, rfl⟩⟩)
    · skip
      obtain ⟨td, rfl, htl⟩ := xH_1 h16
      refine rh_aload_n hX dX8_sells_19 rfl ?_
      refine rh_iload_n hX dX8_sells_20 rfl ?_
      refine rh_pV hX lk_X8_64 mvX8_isType (fun l => c_X8_isType l E _ _ _ _ _ _ _ _ _ _ _ _ _ _ _ _ _ _ _ _ _ _ _ _ _ _ _ _ _ _ _ _ _ _ _ _ _ _ _ T hM) ⟨rfl, rfl⟩ ⟨Nat.le_of_ble_eq_true rfl, Nat.le_of_ble_eq_true rfl⟩ [0, 1, 2, 3, 4, 5, 6, 7, 8, 9, 10, 11, 12] rfl rfl 0 rfl dX8_sells_21 rfl rfl (Nat.le_of_ble_eq_true rfl) ?_
      refine rh_if_eq (tgt := 33) hX dX8_sells_24 (by decide) (fun h24 => ?_) (fun h24 => ?_)
      · skip
        refine rh_iconst hX dX8_sells_33 ki_m1 ?_
        exact rh_iret hX hR dX8_sells_34 (by simp only [List.map_cons, List.map_nil, List.cons_append, List.nil_append]) (by first | exact ⟨by rw [y_sells, if_pos h9] <;> rfl, (fun z hz => by rw [y_sells, if_pos h9] at hz; cases hz), fun _ => ⟨_, rfl⟩⟩ | exact ⟨by rw [y_sells, if_neg h9, if_pos h16] <;> rfl, (fun z hz => by rw [y_sells, if_neg h9, if_pos h16] at hz; cases hz), fun _ => ⟨_, rfl⟩⟩ | exact ⟨by rw [y_sells, if_neg h9, if_neg h16, if_pos h24] <;> rfl, (fun z hz => by rw [y_sells, if_neg h9, if_neg h16, if_pos h24] at hz; cases hz), fun _ => ⟨_, rfl⟩⟩ | exact ⟨by rw [y_sells, if_neg h9, if_neg h16, if_neg h24, if_pos h30] <;> rfl, (fun z hz => by rw [y_sells, if_neg h9, if_neg h16, if_neg h24, if_pos h30] at hz; cases hz), fun _ => ⟨_, rfl⟩⟩)
      · skip
        obtain ⟨yd, rfl, hyd⟩ := xTy_1 hT6 h24
        refine rh_iload hX dX8_sells_27 rfl ?_
        refine rh_iconst hX dX8_sells_29 ki_1 ?_
        refine rh_icmp_ge (tgt := 35) hX dX8_sells_30 (by decide) (fun h30 => ?_) (fun h30 => ?_)
        · skip
          have h30 : ¬ n < 1 := Int32.not_lt.mpr h30
          refine rh_aload_n hX dX8_sells_35 rfl ?_
          refine rh_iload_n hX dX8_sells_36 rfl ?_
          refine rh_iload_n hX dX8_sells_37 rfl ?_
          refine rh_pV hX lk_X8_80 mvX8_sharesOf (fun l => c_X8_sharesOf l E _ _ _ _ _ _ _ _ _ _ _ _ _ _ _ _ _ _ _ _ _ _ _ _ _ _ _ _ _ _ _ _ _ _ _ _ _ _ hd yd (by omega) (by omega)) ⟨rfl, rfl⟩ ⟨Nat.le_of_ble_eq_true rfl, Nat.le_of_ble_eq_true rfl⟩ [0, 1, 2, 3, 4, 5, 6, 7, 8, 9, 10, 11, 12] rfl rfl 0 rfl dX8_sells_38 rfl rfl (Nat.le_of_ble_eq_true rfl) ?_
          refine rh_iload hX dX8_sells_41 rfl ?_
          refine rh_icmp_lt (tgt := 51) hX dX8_sells_43 (by decide) (fun h43 => ?_) (fun h43 => ?_)
          · skip
            refine rh_bipush hX dX8_sells_51 kb_m2 ?_
            exact rh_iret hX hR dX8_sells_53 (by simp only [List.map_cons, List.map_nil, List.cons_append, List.nil_append]) (by first | exact ⟨by rw [y_sells, if_neg h9, if_neg h16, if_neg h24, if_neg h30, nI_clamp (show hd < 2 ^ 31 by omega), nI_clamp (show td < 2 ^ 31 by omega), nI_clamp (show yd < 2 ^ 31 by omega), if_pos h43] <;> rfl, (fun z hz => by rw [y_sells, if_neg h9, if_neg h16, if_neg h24, if_neg h30, nI_clamp (show hd < 2 ^ 31 by omega), nI_clamp (show td < 2 ^ 31 by omega), nI_clamp (show yd < 2 ^ 31 by omega), if_pos h43] at hz; cases hz), fun _ => ⟨_, rfl⟩⟩ | exact ⟨by rw [y_sells, if_neg h9, if_neg h16, if_neg h24, if_neg h30, nI_clamp (show hd < 2 ^ 31 by omega), nI_clamp (show td < 2 ^ 31 by omega), nI_clamp (show yd < 2 ^ 31 by omega), if_neg h43, if_pos h48] <;> rfl, (fun z hz => by rw [y_sells, if_neg h9, if_neg h16, if_neg h24, if_neg h30, nI_clamp (show hd < 2 ^ 31 by omega), nI_clamp (show td < 2 ^ 31 by omega), nI_clamp (show yd < 2 ^ 31 by omega), if_neg h43, if_pos h48] at hz; cases hz), fun _ => ⟨_, rfl⟩⟩)
          · skip
            refine rh_iload_n hX dX8_sells_46 rfl ?_
            refine rh_iload_n hX dX8_sells_47 rfl ?_
            refine rh_icmp_ne (tgt := 54) hX dX8_sells_48 (by decide) (fun h48 => ?_) (fun h48 => ?_)
            · skip
              refine rh_aload_n hX dX8_sells_54 rfl ?_
              refine rh_uV hX lk_X8_68 mvX8_lays (fun l => c_X8_lays l E _ _ _ _ _ _ _ _ _ _ _ _ _ _ _ _ _ _ _ _ _ _ _ _ _ _ _ _ _ _ _ _ _ _ _ _ _ _ ) ⟨rfl, rfl⟩ ⟨Nat.le_of_ble_eq_true rfl, Nat.le_of_ble_eq_true rfl⟩ [0, 1, 2, 3, 4, 5, 6, 7, 8, 9, 10, 11, 12] rfl rfl 0 rfl dX8_sells_55 rfl rfl (Nat.le_of_ble_eq_true rfl) rfl ?_
              dsimp only [List.cons_append, List.nil_append, List.set_cons_succ, List.set_cons_zero, vput]
              refine rh_aload_n hX dX8_sells_58 rfl ?_
              refine rh_iload_n hX dX8_sells_59 rfl ?_
              refine rh_iload_n hX dX8_sells_60 rfl ?_
              refine rh_aload_n hX dX8_sells_61 rfl ?_
              refine rh_iload_n hX dX8_sells_62 rfl ?_
              refine rh_iload_n hX dX8_sells_63 rfl ?_
              refine rh_pV hX lk_X8_80 mvX8_sharesOf (fun l => c_X8_sharesOf l E _ _ _ _ _ _ _ _ _ _ _ _ _ _ _ _ _ _ _ _ _ _ _ _ _ _ _ _ _ _ _ _ _ _ _ _ _ _ hd yd (by omega) (by omega)) ⟨rfl, rfl⟩ ⟨Nat.le_of_ble_eq_true rfl, Nat.le_of_ble_eq_true rfl⟩ [0, 1, 2, 3, 4, 5, 6, 7, 8, 9, 10, 11, 12] rfl rfl 0 rfl dX8_sells_64 rfl rfl (Nat.le_of_ble_eq_true rfl) ?_
              refine rh_iload hX dX8_sells_67 rfl ?_
              refine rh_isub hX dX8_sells_69 ?_
              refine rh_uV hX lk_X8_136 mvX8_has (fun l => c_X8_has l E _ _ _ _ _ _ _ _ _ _ _ _ _ _ _ _ _ _ _ _ _ _ _ _ _ _ _ _ _ _ _ _ _ _ _ _ _ _ hd yd _ (by omega) (by omega)) ⟨rfl, rfl⟩ ⟨Nat.le_of_ble_eq_true rfl, Nat.le_of_ble_eq_true rfl⟩ [0, 1, 2, 3, 4, 5, 6, 7, 8, 9, 10, 11, 12] rfl rfl 0 rfl dX8_sells_70 rfl rfl (Nat.le_of_ble_eq_true rfl) rfl ?_
              dsimp only [List.cons_append, List.nil_append, List.set_cons_succ, List.set_cons_zero, vput]
              refine rh_aload_n hX dX8_sells_73 rfl ?_
              refine rh_iload_n hX dX8_sells_74 rfl ?_
              refine rh_iload_n hX dX8_sells_75 rfl ?_
              refine rh_aload_n hX dX8_sells_76 rfl ?_
              refine rh_iload_n hX dX8_sells_77 rfl ?_
              refine rh_iload_n hX dX8_sells_78 rfl ?_
              refine rh_pV hX lk_X8_80 mvX8_sharesOf (fun l => c_X8_sharesOf l E _ _ _ _ _ _ _ _ _ _ _ _ _ _ _ _ _ _ _ _ _ _ _ _ _ _ _ _ _ _ _ _ _ _ _ _ _ _ td yd (by omega) (by omega)) ⟨rfl, rfl⟩ ⟨Nat.le_of_ble_eq_true rfl, Nat.le_of_ble_eq_true rfl⟩ [0, 1, 2, 3, 4, 5, 6, 7, 8, 9, 10, 11, 12] rfl rfl 0 rfl dX8_sells_79 rfl rfl (Nat.le_of_ble_eq_true rfl) ?_
              refine rh_iload hX dX8_sells_82 rfl ?_
              refine rh_iadd hX dX8_sells_84 ?_
              refine rh_uV hX lk_X8_136 mvX8_has (fun l => c_X8_has l E _ _ _ _ _ _ _ _ _ _ _ _ _ _ _ _ _ _ _ _ _ _ _ _ _ _ _ _ _ _ _ _ _ _ _ _ _ _ td yd _ (by omega) (by omega)) ⟨rfl, rfl⟩ ⟨Nat.le_of_ble_eq_true rfl, Nat.le_of_ble_eq_true rfl⟩ [0, 1, 2, 3, 4, 5, 6, 7, 8, 9, 10, 11, 12] rfl rfl 0 rfl dX8_sells_85 rfl rfl (Nat.le_of_ble_eq_true rfl) rfl ?_
              dsimp only [List.cons_append, List.nil_append, List.set_cons_succ, List.set_cons_zero, vput]
              refine rh_aload_n hX dX8_sells_88 rfl ?_
              refine rh_pV hX lk_X8_143 mvX8_fullNow (fun l => c_X8_fullNow l E _ _ _ _ _ _ _ _ _ _ _ _ _ _ _ _ _ _ _ _ _ _ _ _ _ _ _ _ _ _ _ _ _ _ _ _ _ _ T (mOk_uSel hM hdl htl (by omega))) ⟨rfl, rfl⟩ ⟨Nat.le_of_ble_eq_true rfl, Nat.le_of_ble_eq_true rfl⟩ [0, 1, 2, 3, 4, 5, 6, 7, 8, 9, 10, 11, 12] rfl rfl 0 rfl dX8_sells_89 rfl rfl (Nat.le_of_ble_eq_true rfl) ?_
              refine rh_ldc2 hX dX8_sells_92 kl_X8_131 ?_
              refine rh_lle (tgt := 106) hX dX8_sells_95 dX8_sells_96 (by decide) (fun h96 => ?_) (fun h96 => ?_)
              · skip
                have h96 : cSize (fm (uSel u hd td yd n)) T ≤ 1000000000 := h96
                have h96 : ¬ 1000000000 < cSize (fm (uSel u hd td yd n)) T := fun q => by rw [z_lt] at q; rw [z_le] at h96; omega
                refine rh_aload_n hX dX8_sells_106 rfl ?_
                refine rh_uV hX lk_X8_71 mvX8_did (fun l => c_X8_did l E _ _ _ _ _ _ _ _ _ _ _ _ _ _ _ _ _ _ _ _ _ _ _ _ _ _ _ _ _ _ _ _ _ _ _ _ _ _ (by omega)) ⟨rfl, rfl⟩ ⟨Nat.le_of_ble_eq_true rfl, Nat.le_of_ble_eq_true rfl⟩ [0, 1, 2, 3, 4, 5, 6, 7, 8, 9, 10, 11, 12] rfl rfl 0 rfl dX8_sells_107 rfl rfl (Nat.le_of_ble_eq_true rfl) rfl ?_
                dsimp only [List.cons_append, List.nil_append, List.set_cons_succ, List.set_cons_zero, vput]
                refine rh_aload_n hX dX8_sells_110 rfl ?_
                refine rh_iload_n hX dX8_sells_111 rfl ?_
                refine rh_iload_n hX dX8_sells_112 rfl ?_
                refine rh_pV hX lk_X8_80 mvX8_sharesOf (fun l => c_X8_sharesOf l E _ _ _ _ _ _ _ _ _ _ _ _ _ _ _ _ _ _ _ _ _ _ _ _ _ _ _ _ _ _ _ _ _ _ _ _ _ _ hd yd (by omega) (by omega)) ⟨rfl, rfl⟩ ⟨Nat.le_of_ble_eq_true rfl, Nat.le_of_ble_eq_true rfl⟩ [0, 1, 2, 3, 4, 5, 6, 7, 8, 9, 10, 11, 12] rfl rfl 0 rfl dX8_sells_113 rfl rfl (Nat.le_of_ble_eq_true rfl) ?_
                exact rh_iret hX hR dX8_sells_116 (by simp only [List.map_cons, List.map_nil, List.cons_append, List.nil_append]) ⟨by rw [y_sells, if_neg h9, if_neg h16, if_neg h24, if_neg h30, nI_clamp (show hd < 2 ^ 31 by omega), nI_clamp (show td < 2 ^ 31 by omega), nI_clamp (show yd < 2 ^ 31 by omega), if_neg h43, if_neg h48, if_neg h96] <;> rfl, (fun z hz => by rw [y_sells, if_neg h9, if_neg h16, if_neg h24, if_neg h30, nI_clamp (show hd < 2 ^ 31 by omega), nI_clamp (show td < 2 ^ 31 by omega), nI_clamp (show yd < 2 ^ 31 by omega), if_neg h43, if_neg h48, if_neg h96] at hz; cases hz; rfl), (fun hz => by rw [y_sells, if_neg h9, if_neg h16, if_neg h24, if_neg h30, nI_clamp (show hd < 2 ^ 31 by omega), nI_clamp (show td < 2 ^ 31 by omega), nI_clamp (show yd < 2 ^ 31 by omega), if_neg h43, if_neg h48, if_neg h96] at hz; cases hz)⟩
              · skip
                have h96 : ¬ cSize (fm (uSel u hd td yd n)) T ≤ 1000000000 := h96
                have h96 : 1000000000 < cSize (fm (uSel u hd td yd n)) T := by rw [z_lt]; rw [z_le] at h96; omega
                refine rh_aload_n hX dX8_sells_99 rfl ?_
                refine rh_uV hX lk_X8_146 mvX8_puts (fun l => c_X8_puts l E _ _ _ _ _ _ _ _ _ _ _ _ _ _ _ _ _ _ _ _ _ _ _ _ _ _ _ _ _ _ _ _ _ _ _ _ _ _ ) ⟨rfl, rfl⟩ ⟨Nat.le_of_ble_eq_true rfl, Nat.le_of_ble_eq_true rfl⟩ [0, 1, 2, 3, 4, 5, 6, 7, 8, 9, 10, 11, 12] rfl rfl 0 rfl dX8_sells_100 rfl rfl (Nat.le_of_ble_eq_true rfl) rfl ?_
                dsimp only [List.cons_append, List.nil_append, List.set_cons_succ, List.set_cons_zero, vput]
                refine rh_bipush hX dX8_sells_103 kb_m9 ?_
                exact rh_iret hX hR dX8_sells_105 (by simp only [List.map_cons, List.map_nil, List.cons_append, List.nil_append]) (by first | exact ⟨by rw [y_sells, if_neg h9, if_neg h16, if_neg h24, if_neg h30, nI_clamp (show hd < 2 ^ 31 by omega), nI_clamp (show td < 2 ^ 31 by omega), nI_clamp (show yd < 2 ^ 31 by omega), if_neg h43, if_neg h48, if_pos h96] <;> rfl, (fun z hz => by rw [y_sells, if_neg h9, if_neg h16, if_neg h24, if_neg h30, nI_clamp (show hd < 2 ^ 31 by omega), nI_clamp (show td < 2 ^ 31 by omega), nI_clamp (show yd < 2 ^ 31 by omega), if_neg h43, if_neg h48, if_pos h96] at hz; cases hz), fun _ => ⟨_, rfl⟩⟩)
            · skip
              refine rh_bipush hX dX8_sells_51 kb_m2 ?_
              exact rh_iret hX hR dX8_sells_53 (by simp only [List.map_cons, List.map_nil, List.cons_append, List.nil_append]) (by first | exact ⟨by rw [y_sells, if_neg h9, if_neg h16, if_neg h24, if_neg h30, nI_clamp (show hd < 2 ^ 31 by omega), nI_clamp (show td < 2 ^ 31 by omega), nI_clamp (show yd < 2 ^ 31 by omega), if_pos h43] <;> rfl, (fun z hz => by rw [y_sells, if_neg h9, if_neg h16, if_neg h24, if_neg h30, nI_clamp (show hd < 2 ^ 31 by omega), nI_clamp (show td < 2 ^ 31 by omega), nI_clamp (show yd < 2 ^ 31 by omega), if_pos h43] at hz; cases hz), fun _ => ⟨_, rfl⟩⟩ | exact ⟨by rw [y_sells, if_neg h9, if_neg h16, if_neg h24, if_neg h30, nI_clamp (show hd < 2 ^ 31 by omega), nI_clamp (show td < 2 ^ 31 by omega), nI_clamp (show yd < 2 ^ 31 by omega), if_neg h43, if_pos h48] <;> rfl, (fun z hz => by rw [y_sells, if_neg h9, if_neg h16, if_neg h24, if_neg h30, nI_clamp (show hd < 2 ^ 31 by omega), nI_clamp (show td < 2 ^ 31 by omega), nI_clamp (show yd < 2 ^ 31 by omega), if_neg h43, if_pos h48] at hz; cases hz), fun _ => ⟨_, rfl⟩⟩)
        · skip
          have h30 : n < 1 := Int32.not_le.mp h30
          refine rh_iconst hX dX8_sells_33 ki_m1 ?_
          exact rh_iret hX hR dX8_sells_34 (by simp only [List.map_cons, List.map_nil, List.cons_append, List.nil_append]) (by first | exact ⟨by rw [y_sells, if_pos h9] <;> rfl, (fun z hz => by rw [y_sells, if_pos h9] at hz; cases hz), fun _ => ⟨_, rfl⟩⟩ | exact ⟨by rw [y_sells, if_neg h9, if_pos h16] <;> rfl, (fun z hz => by rw [y_sells, if_neg h9, if_pos h16] at hz; cases hz), fun _ => ⟨_, rfl⟩⟩ | exact ⟨by rw [y_sells, if_neg h9, if_neg h16, if_pos h24] <;> rfl, (fun z hz => by rw [y_sells, if_neg h9, if_neg h16, if_pos h24] at hz; cases hz), fun _ => ⟨_, rfl⟩⟩ | exact ⟨by rw [y_sells, if_neg h9, if_neg h16, if_neg h24, if_pos h30] <;> rfl, (fun z hz => by rw [y_sells, if_neg h9, if_neg h16, if_neg h24, if_pos h30] at hz; cases hz), fun _ => ⟨_, rfl⟩⟩)

set_option maxRecDepth 100000 in
set_option maxHeartbeats 4000000 in
theorem c_X8_gives (l : Launch) (E : rhE) (B : Nat → Nat) (u : Nat → Int32) (kp : Nat → Int32) (ik : Int32) (ps : Nat → Int32) (pm : Nat) (dd : Int32) (tx : Nat → Int32) (ty : Nat) (rw : Nat → Int64) (rm : Nat) (th : Int32) (sz : Nat) (he : Nat) (wr : Int32) (mn : Nat → Int32) (vl : Int32) (tp : Int32) (lt : Int32) (ra : Int32) (pf : Int32) (pt : Int32) (pl : Int32) (pd : Int64) (prc : Int64) (ns : Int64) (tu : Nat) (ba : Int64) (na : Int64) (ca : Nat → Int64) (bo : Nat → Int32) (tr : Nat → Int64) (tH : Int32) (asd : Nat → Int32) (pa : Nat → Int64) (tg : Nat → Int64) (sd : Int64) (sr : Int64) (h to : Int32) (T : Nat) (hM : mOk u T) (hpm : pm ≤ 8)  : Ctr l E yX8_gives cX8_gives 6 (some .int) (rmL 6) [.ref (B 0), .int h, .int to] (wM E B u kp ik ps pm dd tx ty rw rm th sz he wr mn vl tp lt ra pf pt pl pd prc ns tu ba na ca bo tr tH asd pa tg sd sr) (fun r w => r = some (Value.int (y_gives u T h to).1) ∧ (∀ u1, (y_gives u T h to).2 = some u1 → w = (wM E B u1 kp ik (psDid ps pm u) (pmDid pm) (dd + 1) tx ty rw rm 0 sz he wr mn vl tp lt ra pf pt pl pd prc ns tu ba na ca bo tr tH u pa tg sd sr)) ∧ ((y_gives u T h to).2 = none → ∃ asd1, w = (wM E B u kp ik ps pm dd tx ty rw rm 0 sz he wr mn vl tp lt ra pf pt pl pd prc ns tu ba na ca bo tr tH asd1 pa tg sd sr))) := by
  refine Ctr.of (by decide) (Nat.le_of_ble_eq_true rfl) rfl rfl 3 ?_
  intro X hX hR
  obtain ⟨hT, hT1, hT6, hcv⟩ := id hM
  refine rh_aload_n hX dX8_gives_0 rfl ?_
  refine rh_iconst hX dX8_gives_1 ki_0 ?_
  refine rh_put hX gl_X8_48 0 dX8_gives_2 rfl rfl rfl (Nat.le_of_ble_eq_true rfl) rfl ?_
  dsimp only [List.cons_append, List.nil_append, List.set_cons_succ, List.set_cons_zero, vput]
  refine rh_iload_n hX dX8_gives_5 rfl ?_
  refine rh_pS hX lk_X8_140 msX8_isHolder (fun l => c_X8_isHolderH l E _) ⟨rfl, rfl⟩ ⟨Nat.le_of_ble_eq_true rfl, Nat.le_of_ble_eq_true rfl⟩ [] rfl rfl dX8_gives_6 rfl rfl (Nat.le_of_ble_eq_true rfl) ?_
  refine rh_if_eq (tgt := 19) hX dX8_gives_9 (by decide) (fun h9 => ?_) (fun h9 => ?_)
  · skip
    refine rh_iconst hX dX8_gives_19 ki_m1 ?_
    exact rh_iret hX hR dX8_gives_20 (by simp only [List.map_cons, List.map_nil, List.cons_append, List.nil_append]) (by first | exact ⟨by rw [y_gives, if_pos h9] <;> rfl, (fun z hz => by rw [y_gives, if_pos h9] at hz; cases hz), fun _ => ⟨_, rfl⟩⟩ | exact ⟨by rw [y_gives, if_neg h9, if_pos h16] <;> rfl, (fun z hz => by rw [y_gives, if_neg h9, if_pos h16] at hz; cases hz), fun _ => ⟨_, rfl⟩⟩)
  · skip
    obtain ⟨hd, rfl, hdl⟩ := xH_1 h9
    refine rh_iload_n hX dX8_gives_12 rfl ?_
    refine rh_pS hX lk_X8_140 msX8_isHolder (fun l => c_X8_isHolderH l E _) ⟨rfl, rfl⟩ ⟨Nat.le_of_ble_eq_true rfl, Nat.le_of_ble_eq_true rfl⟩ [] rfl rfl dX8_gives_13 rfl rfl (Nat.le_of_ble_eq_true rfl) ?_
    refine rh_if_ne (tgt := 21) hX dX8_gives_16 (by decide) (fun h16 => ?_) (fun h16 => ?_)
    · skip
      obtain ⟨td, rfl, htl⟩ := xH_1 h16
      refine rh_aload_n hX dX8_gives_21 rfl ?_
      refine rh_get hX gl_X8_7 0 dX8_gives_22 rfl rfl ?_
      refine rh_bipush hX dX8_gives_25 kb_48 ?_
      refine rh_iload_n hX dX8_gives_27 rfl ?_
      refine rh_iadd hX dX8_gives_28 ?_
      refine rh_iaload hX 1 _ dX8_gives_29 rfl (rn_a rn_c48 rfl) (by omega) (by decide) ?_
      refine rh_i2l hX dX8_gives_30 ?_
      rw [fm_granted u (h := hd) (by omega)]
      refine rh_lstn3 hX dX8_gives_31 (by decide) rfl ?_
      refine rh_iconst hX dX8_gives_32 ki_0 ?_
      refine rh_ist5 hX dX8_gives_33 (by decide) rfl ?_
      refine rh_loop (P := fun i => G X 35 [some (.ref (B 0)), some (.int (nI hd)), some (.int (nI td)), some (.long (sumF (cGranted (fm u) hd) (fun c => cHeld (fm u) hd c) i)), none, some (.int (nI i))] [] (wM E B u kp ik ps pm dd tx ty rw rm 0 sz he wr mn vl tp lt ra pf pt pl pd prc ns tu ba na ca bo tr tH asd pa tg sd sr)) (0) (T) (by omega) ?_ ?_
      · skip
        refine rh_iload hX dX8_gives_35 rfl ?_
        refine rh_aload_n hX dX8_gives_37 rfl ?_
        refine rh_get hX gl_X8_7 0 dX8_gives_38 rfl rfl ?_
        refine rh_bipush hX dX8_gives_41 kb_57 ?_
        refine rh_iaload hX 1 _ dX8_gives_43 rfl rn_c57 (by omega) (by decide) ?_
        refine rh_icmp_ge_t (tgt := 64) hX dX8_gives_44 (by decide) (by rw [hT]; exact nI_le (Nat.le_refl T) (by omega)) ?_
        refine rh_iload_n hX dX8_gives_64 rfl ?_
        refine rh_iload_n hX dX8_gives_65 rfl ?_
        refine rh_icmp_eq (tgt := 75) hX dX8_gives_66 (by decide) (fun h66 => ?_) (fun h66 => ?_)
        · skip
          refine rh_bipush hX dX8_gives_75 kb_m2 ?_
          exact rh_iret hX hR dX8_gives_77 (by simp only [List.map_cons, List.map_nil, List.cons_append, List.nil_append]) (by first | exact ⟨by rw [y_gives, if_neg h9, if_neg h16, if_pos h66] <;> rfl, (fun z hz => by rw [y_gives, if_neg h9, if_neg h16, if_pos h66] at hz; cases hz), fun _ => ⟨_, rfl⟩⟩ | exact ⟨by rw [y_gives, if_neg h9, if_neg h16, if_neg h66, nI_clamp (show hd < 2 ^ 31 by omega), nI_clamp (show td < 2 ^ 31 by omega), if_pos (show cAny (fm u) hd T = 0 from h72)] <;> rfl, (fun z hz => by rw [y_gives, if_neg h9, if_neg h16, if_neg h66, nI_clamp (show hd < 2 ^ 31 by omega), nI_clamp (show td < 2 ^ 31 by omega), if_pos (show cAny (fm u) hd T = 0 from h72)] at hz; cases hz), fun _ => ⟨_, rfl⟩⟩)
        · skip
          refine rh_lload_n hX dX8_gives_69 rfl ?_
          refine rh_lconst hX dX8_gives_70 kL_0 ?_
          refine rh_lne (tgt := 78) hX dX8_gives_71 dX8_gives_72 (by decide) (fun h72 => ?_) (fun h72 => ?_)
          · skip
            refine rh_aload_n hX dX8_gives_78 rfl ?_
            refine rh_uV hX lk_X8_68 mvX8_lays (fun l => c_X8_lays l E _ _ _ _ _ _ _ _ _ _ _ _ _ _ _ _ _ _ _ _ _ _ _ _ _ _ _ _ _ _ _ _ _ _ _ _ _ _ ) ⟨rfl, rfl⟩ ⟨Nat.le_of_ble_eq_true rfl, Nat.le_of_ble_eq_true rfl⟩ [0, 1, 2, 3, 4, 5, 6, 7, 8, 9, 10, 11, 12] rfl rfl 0 rfl dX8_gives_79 rfl rfl (Nat.le_of_ble_eq_true rfl) rfl ?_
            dsimp only [List.cons_append, List.nil_append, List.set_cons_succ, List.set_cons_zero, vput]
            refine rh_iconst hX dX8_gives_82 ki_0 ?_
            refine rh_ist5 hX dX8_gives_83 (by decide) rfl ?_
            suffices hP0 : G X 85 [some (.ref (B 0)), some (.int (nI hd)), some (.int (nI td)), some (.long (sumF (cGranted (fm u) hd) (fun c => cHeld (fm u) hd c) T)), none, some (.int 0)] [] (wM E B (gvM u hd td 0) kp ik ps pm dd tx ty rw rm 0 sz he wr mn vl tp lt ra pf pt pl pd prc ns tu ba na ca bo tr tH u pa tg sd sr) by rw [gvM_0] at hP0; exact hP0
            refine rh_loop (P := fun j => G X 85 [some (.ref (B 0)), some (.int (nI hd)), some (.int (nI td)), some (.long (sumF (cGranted (fm u) hd) (fun c => cHeld (fm u) hd c) T)), none, some (.int (nI j))] [] (wM E B (gvM u hd td j) kp ik ps pm dd tx ty rw rm 0 sz he wr mn vl tp lt ra pf pt pl pd prc ns tu ba na ca bo tr tH u pa tg sd sr)) (0) (T) (by omega) ?_ ?_
            · skip
              have hMg := mOk_gvM hM hdl htl T hT6
              refine rh_iload hX dX8_gives_85 rfl ?_
              refine rh_aload_n hX dX8_gives_87 rfl ?_
              refine rh_get hX gl_X8_7 0 dX8_gives_88 rfl rfl ?_
              refine rh_bipush hX dX8_gives_91 kb_57 ?_
              refine rh_iaload hX 1 _ dX8_gives_93 rfl rn_c57 (by omega) (by decide) ?_
              refine rh_icmp_ge_t (tgt := 133) hX dX8_gives_94 (by decide) (by rw [hMg.1]; exact nI_le (Nat.le_refl T) (by omega)) ?_
              refine rh_aload_n hX dX8_gives_133 rfl ?_
              refine rh_get hX gl_X8_7 0 dX8_gives_134 rfl rfl ?_
              refine rh_bipush hX dX8_gives_137 kb_48 ?_
              refine rh_iload_n hX dX8_gives_139 rfl ?_
              refine rh_iadd hX dX8_gives_140 ?_
              refine rh_dup2 hX dX8_gives_141 rfl rfl ?_
              refine rh_iaload hX 1 _ dX8_gives_142 rfl (rn_a rn_c48 rfl) (by omega) (by decide) ?_
              refine rh_aload_n hX dX8_gives_143 rfl ?_
              refine rh_get hX gl_X8_7 0 dX8_gives_144 rfl rfl ?_
              refine rh_bipush hX dX8_gives_147 kb_48 ?_
              refine rh_iload_n hX dX8_gives_149 rfl ?_
              refine rh_iadd hX dX8_gives_150 ?_
              refine rh_iaload hX 1 _ dX8_gives_151 rfl (rn_a rn_c48 rfl) (by omega) (by decide) ?_
              refine rh_iadd hX dX8_gives_152 ?_
              refine rh_iastore hX 1 _ dX8_gives_153 rfl (rn_a rn_c48 rfl) (by omega) (by decide) rfl ?_
              dsimp only [List.cons_append, List.nil_append, List.set_cons_succ, List.set_cons_zero, vput]
              refine rh_aload_n hX dX8_gives_154 rfl ?_
              refine rh_get hX gl_X8_7 0 dX8_gives_155 rfl rfl ?_
              refine rh_bipush hX dX8_gives_158 kb_48 ?_
              refine rh_iload_n hX dX8_gives_160 rfl ?_
              refine rh_iadd hX dX8_gives_161 ?_
              refine rh_iconst hX dX8_gives_162 ki_0 ?_
              refine rh_iastore hX 1 _ dX8_gives_163 rfl (rn_a rn_c48 rfl) (by omega) (by decide) rfl ?_
              dsimp only [List.cons_append, List.nil_append, List.set_cons_succ, List.set_cons_zero, vput]
              refine rh_aload_n hX dX8_gives_164 rfl ?_
              refine rh_pV hX lk_X8_143 mvX8_fullNow (fun l => c_X8_fullNow l E _ _ _ _ _ _ _ _ _ _ _ _ _ _ _ _ _ _ _ _ _ _ _ _ _ _ _ _ _ _ _ _ _ _ _ _ _ _ T (mOk_uGiv hM hdl htl)) ⟨rfl, rfl⟩ ⟨Nat.le_of_ble_eq_true rfl, Nat.le_of_ble_eq_true rfl⟩ [0, 1, 2, 3, 4, 5, 6, 7, 8, 9, 10, 11, 12] rfl rfl 0 rfl dX8_gives_165 rfl rfl (Nat.le_of_ble_eq_true rfl) ?_
              refine rh_ldc2 hX dX8_gives_168 kl_X8_131 ?_
              refine rh_lle (tgt := 182) hX dX8_gives_171 dX8_gives_172 (by decide) (fun h172 => ?_) (fun h172 => ?_)
              · skip
                have h172 : cSize (fm (uGiv u T hd td)) T ≤ 1000000000 := h172
                have h172 : ¬ 1000000000 < cSize (fm (uGiv u T hd td)) T := fun q => by rw [z_lt] at q; rw [z_le] at h172; omega
                refine rh_aload_n hX dX8_gives_182 rfl ?_
                refine rh_uV hX lk_X8_71 mvX8_did (fun l => c_X8_did l E _ _ _ _ _ _ _ _ _ _ _ _ _ _ _ _ _ _ _ _ _ _ _ _ _ _ _ _ _ _ _ _ _ _ _ _ _ _ (by omega)) ⟨rfl, rfl⟩ ⟨Nat.le_of_ble_eq_true rfl, Nat.le_of_ble_eq_true rfl⟩ [0, 1, 2, 3, 4, 5, 6, 7, 8, 9, 10, 11, 12] rfl rfl 0 rfl dX8_gives_183 rfl rfl (Nat.le_of_ble_eq_true rfl) rfl ?_
                dsimp only [List.cons_append, List.nil_append, List.set_cons_succ, List.set_cons_zero, vput]
                refine rh_aload_n hX dX8_gives_186 rfl ?_
                refine rh_iload_n hX dX8_gives_187 rfl ?_
                refine rh_pV hX lk_X8_149 mvX8_stakeOf (fun l => c_X8_stakeOf l E _ _ _ _ _ _ _ _ _ _ _ _ _ _ _ _ _ _ _ _ _ _ _ _ _ _ _ _ _ _ _ _ _ _ _ _ _ _ td T (mOk_uGiv hM hdl htl) (by omega)) ⟨rfl, rfl⟩ ⟨Nat.le_of_ble_eq_true rfl, Nat.le_of_ble_eq_true rfl⟩ [0, 1, 2, 3, 4, 5, 6, 7, 8, 9, 10, 11, 12] rfl rfl 0 rfl dX8_gives_188 rfl rfl (Nat.le_of_ble_eq_true rfl) ?_
                refine rh_l2i hX dX8_gives_191 ?_
                exact rh_iret hX hR dX8_gives_192 (by simp only [List.map_cons, List.map_nil, List.cons_append, List.nil_append]) ⟨by rw [y_gives, if_neg h9, if_neg h16, if_neg h66, nI_clamp (show hd < 2 ^ 31 by omega), nI_clamp (show td < 2 ^ 31 by omega), if_neg (show ¬ cAny (fm u) hd T = 0 from h72), if_neg h172] <;> rfl, (fun z hz => by rw [y_gives, if_neg h9, if_neg h16, if_neg h66, nI_clamp (show hd < 2 ^ 31 by omega), nI_clamp (show td < 2 ^ 31 by omega), if_neg (show ¬ cAny (fm u) hd T = 0 from h72), if_neg h172] at hz; cases hz; rfl), (fun hz => by rw [y_gives, if_neg h9, if_neg h16, if_neg h66, nI_clamp (show hd < 2 ^ 31 by omega), nI_clamp (show td < 2 ^ 31 by omega), if_neg (show ¬ cAny (fm u) hd T = 0 from h72), if_neg h172] at hz; cases hz)⟩
              · skip
                have h172 : ¬ cSize (fm (uGiv u T hd td)) T ≤ 1000000000 := h172
                have h172 : 1000000000 < cSize (fm (uGiv u T hd td)) T := by rw [z_lt]; rw [z_le] at h172; omega
                refine rh_aload_n hX dX8_gives_175 rfl ?_
                refine rh_uV hX lk_X8_146 mvX8_puts (fun l => c_X8_puts l E _ _ _ _ _ _ _ _ _ _ _ _ _ _ _ _ _ _ _ _ _ _ _ _ _ _ _ _ _ _ _ _ _ _ _ _ _ _ ) ⟨rfl, rfl⟩ ⟨Nat.le_of_ble_eq_true rfl, Nat.le_of_ble_eq_true rfl⟩ [0, 1, 2, 3, 4, 5, 6, 7, 8, 9, 10, 11, 12] rfl rfl 0 rfl dX8_gives_176 rfl rfl (Nat.le_of_ble_eq_true rfl) rfl ?_
                dsimp only [List.cons_append, List.nil_append, List.set_cons_succ, List.set_cons_zero, vput]
                refine rh_bipush hX dX8_gives_179 kb_m9 ?_
                exact rh_iret hX hR dX8_gives_181 (by simp only [List.map_cons, List.map_nil, List.cons_append, List.nil_append]) (by first | exact ⟨by rw [y_gives, if_neg h9, if_neg h16, if_neg h66, nI_clamp (show hd < 2 ^ 31 by omega), nI_clamp (show td < 2 ^ 31 by omega), if_neg (show ¬ cAny (fm u) hd T = 0 from h72), if_pos h172] <;> rfl, (fun z hz => by rw [y_gives, if_neg h9, if_neg h16, if_neg h66, nI_clamp (show hd < 2 ^ 31 by omega), nI_clamp (show td < 2 ^ 31 by omega), if_neg (show ¬ cAny (fm u) hd T = 0 from h72), if_pos h172] at hz; cases hz), fun _ => ⟨_, rfl⟩⟩)
            · intro j hj0 hj ihj
              have hMg := mOk_gvM hM hdl htl j (by omega)
              refine rh_iload hX dX8_gives_85 rfl ?_
              refine rh_aload_n hX dX8_gives_87 rfl ?_
              refine rh_get hX gl_X8_7 0 dX8_gives_88 rfl rfl ?_
              refine rh_bipush hX dX8_gives_91 kb_57 ?_
              refine rh_iaload hX 1 _ dX8_gives_93 rfl rn_c57 (by omega) (by decide) ?_
              refine rh_icmp_ge_f (tgt := 133) hX dX8_gives_94 (by decide) (by rw [hMg.1]; exact nI_ge hj (by omega)) ?_
              refine rh_aload_n hX dX8_gives_97 rfl ?_
              refine rh_iload_n hX dX8_gives_98 rfl ?_
              refine rh_iload hX dX8_gives_99 rfl ?_
              refine rh_aload_n hX dX8_gives_101 rfl ?_
              refine rh_iload_n hX dX8_gives_102 rfl ?_
              refine rh_iload hX dX8_gives_103 rfl ?_
              refine rh_pV hX lk_X8_80 mvX8_sharesOf (fun l => c_X8_sharesOf l E _ _ _ _ _ _ _ _ _ _ _ _ _ _ _ _ _ _ _ _ _ _ _ _ _ _ _ _ _ _ _ _ _ _ _ _ _ _ td j (by omega) (by omega)) ⟨rfl, rfl⟩ ⟨Nat.le_of_ble_eq_true rfl, Nat.le_of_ble_eq_true rfl⟩ [0, 1, 2, 3, 4, 5, 6, 7, 8, 9, 10, 11, 12] rfl rfl 0 rfl dX8_gives_105 rfl rfl (Nat.le_of_ble_eq_true rfl) ?_
              refine rh_aload_n hX dX8_gives_108 rfl ?_
              refine rh_iload_n hX dX8_gives_109 rfl ?_
              refine rh_iload hX dX8_gives_110 rfl ?_
              refine rh_pV hX lk_X8_80 mvX8_sharesOf (fun l => c_X8_sharesOf l E _ _ _ _ _ _ _ _ _ _ _ _ _ _ _ _ _ _ _ _ _ _ _ _ _ _ _ _ _ _ _ _ _ _ _ _ _ _ hd j (by omega) (by omega)) ⟨rfl, rfl⟩ ⟨Nat.le_of_ble_eq_true rfl, Nat.le_of_ble_eq_true rfl⟩ [0, 1, 2, 3, 4, 5, 6, 7, 8, 9, 10, 11, 12] rfl rfl 0 rfl dX8_gives_112 rfl rfl (Nat.le_of_ble_eq_true rfl) ?_
              refine rh_iadd hX dX8_gives_115 ?_
              refine rh_uV hX lk_X8_136 mvX8_has (fun l => c_X8_has l E _ _ _ _ _ _ _ _ _ _ _ _ _ _ _ _ _ _ _ _ _ _ _ _ _ _ _ _ _ _ _ _ _ _ _ _ _ _ td j _ (by omega) (by omega)) ⟨rfl, rfl⟩ ⟨Nat.le_of_ble_eq_true rfl, Nat.le_of_ble_eq_true rfl⟩ [0, 1, 2, 3, 4, 5, 6, 7, 8, 9, 10, 11, 12] rfl rfl 0 rfl dX8_gives_116 rfl rfl (Nat.le_of_ble_eq_true rfl) rfl ?_
              dsimp only [List.cons_append, List.nil_append, List.set_cons_succ, List.set_cons_zero, vput]
              refine rh_aload_n hX dX8_gives_119 rfl ?_
              refine rh_iload_n hX dX8_gives_120 rfl ?_
              refine rh_iload hX dX8_gives_121 rfl ?_
              refine rh_iconst hX dX8_gives_123 ki_0 ?_
              refine rh_uV hX lk_X8_136 mvX8_has (fun l => c_X8_has l E _ _ _ _ _ _ _ _ _ _ _ _ _ _ _ _ _ _ _ _ _ _ _ _ _ _ _ _ _ _ _ _ _ _ _ _ _ _ hd j _ (by omega) (by omega)) ⟨rfl, rfl⟩ ⟨Nat.le_of_ble_eq_true rfl, Nat.le_of_ble_eq_true rfl⟩ [0, 1, 2, 3, 4, 5, 6, 7, 8, 9, 10, 11, 12] rfl rfl 0 rfl dX8_gives_124 rfl rfl (Nat.le_of_ble_eq_true rfl) rfl ?_
              dsimp only [List.cons_append, List.nil_append, List.set_cons_succ, List.set_cons_zero, vput]
              refine rh_inc5 hX dX8_gives_127 (by decide) rfl (rn_i1 _) ?_
              refine rh_goto (tgt := 85) hX dX8_gives_130 (by decide) ?_
              rw [gvM_s] at ihj
              exact ihj
          · skip
            refine rh_bipush hX dX8_gives_75 kb_m2 ?_
            exact rh_iret hX hR dX8_gives_77 (by simp only [List.map_cons, List.map_nil, List.cons_append, List.nil_append]) (by first | exact ⟨by rw [y_gives, if_neg h9, if_neg h16, if_pos h66] <;> rfl, (fun z hz => by rw [y_gives, if_neg h9, if_neg h16, if_pos h66] at hz; cases hz), fun _ => ⟨_, rfl⟩⟩ | exact ⟨by rw [y_gives, if_neg h9, if_neg h16, if_neg h66, nI_clamp (show hd < 2 ^ 31 by omega), nI_clamp (show td < 2 ^ 31 by omega), if_pos (show cAny (fm u) hd T = 0 from h72)] <;> rfl, (fun z hz => by rw [y_gives, if_neg h9, if_neg h16, if_neg h66, nI_clamp (show hd < 2 ^ 31 by omega), nI_clamp (show td < 2 ^ 31 by omega), if_pos (show cAny (fm u) hd T = 0 from h72)] at hz; cases hz), fun _ => ⟨_, rfl⟩⟩)
      · intro i hi0 hi ih
        refine rh_iload hX dX8_gives_35 rfl ?_
        refine rh_aload_n hX dX8_gives_37 rfl ?_
        refine rh_get hX gl_X8_7 0 dX8_gives_38 rfl rfl ?_
        refine rh_bipush hX dX8_gives_41 kb_57 ?_
        refine rh_iaload hX 1 _ dX8_gives_43 rfl rn_c57 (by omega) (by decide) ?_
        refine rh_icmp_ge_f (tgt := 64) hX dX8_gives_44 (by decide) (by rw [hT]; exact nI_ge hi (by omega)) ?_
        refine rh_lload_n hX dX8_gives_47 rfl ?_
        refine rh_aload_n hX dX8_gives_48 rfl ?_
        refine rh_iload_n hX dX8_gives_49 rfl ?_
        refine rh_iload hX dX8_gives_50 rfl ?_
        refine rh_pV hX lk_X8_80 mvX8_sharesOf (fun l => c_X8_sharesOf l E _ _ _ _ _ _ _ _ _ _ _ _ _ _ _ _ _ _ _ _ _ _ _ _ _ _ _ _ _ _ _ _ _ _ _ _ _ _ hd i (by omega) (by omega)) ⟨rfl, rfl⟩ ⟨Nat.le_of_ble_eq_true rfl, Nat.le_of_ble_eq_true rfl⟩ [0, 1, 2, 3, 4, 5, 6, 7, 8, 9, 10, 11, 12] rfl rfl 0 rfl dX8_gives_52 rfl rfl (Nat.le_of_ble_eq_true rfl) ?_
        refine rh_i2l hX dX8_gives_55 ?_
        rw [fm_held u (h := hd) (t := i) (by omega) (by omega)]
        refine rh_ladd hX dX8_gives_56 ?_
        refine rh_lstn3 hX dX8_gives_57 (by decide) rfl ?_
        refine rh_inc5 hX dX8_gives_58 (by decide) rfl (rn_i1 _) ?_
        refine rh_goto (tgt := 35) hX dX8_gives_61 (by decide) ?_
        exact ih
    · skip
      refine rh_iconst hX dX8_gives_19 ki_m1 ?_
      exact rh_iret hX hR dX8_gives_20 (by simp only [List.map_cons, List.map_nil, List.cons_append, List.nil_append]) (by first | exact ⟨by rw [y_gives, if_pos h9] <;> rfl, (fun z hz => by rw [y_gives, if_pos h9] at hz; cases hz), fun _ => ⟨_, rfl⟩⟩ | exact ⟨by rw [y_gives, if_neg h9, if_pos h16] <;> rfl, (fun z hz => by rw [y_gives, if_neg h9, if_pos h16] at hz; cases hz), fun _ => ⟨_, rfl⟩⟩)

set_option maxRecDepth 100000 in
set_option maxHeartbeats 4000000 in
theorem c_X8_splits (l : Launch) (E : rhE) (B : Nat → Nat) (u : Nat → Int32) (kp : Nat → Int32) (ik : Int32) (ps : Nat → Int32) (pm : Nat) (dd : Int32) (tx : Nat → Int32) (ty : Nat) (rw : Nat → Int64) (rm : Nat) (th : Int32) (sz : Nat) (he : Nat) (wr : Int32) (mn : Nat → Int32) (vl : Int32) (tp : Int32) (lt : Int32) (ra : Int32) (pf : Int32) (pt : Int32) (pl : Int32) (pd : Int64) (prc : Int64) (ns : Int64) (tu : Nat) (ba : Int64) (na : Int64) (ca : Nat → Int64) (bo : Nat → Int32) (tr : Nat → Int64) (tH : Int32) (asd : Nat → Int32) (pa : Nat → Int64) (tg : Nat → Int64) (sd : Int64) (sr : Int64) (k : Int32) (T : Nat) (hM : mOk u T) (hpm : pm ≤ 8)  : Ctr l E yX8_splits cX8_splits 5 (some .int) (rmL 5) [.ref (B 0), .int k] (wM E B u kp ik ps pm dd tx ty rw rm th sz he wr mn vl tp lt ra pf pt pl pd prc ns tu ba na ca bo tr tH asd pa tg sd sr) (fun r w => r = some (Value.int (y_splits u T k).1) ∧ (∀ u1, (y_splits u T k).2 = some u1 → w = (wM E B u1 kp ik (psDid ps pm u) (pmDid pm) (dd + 1) tx ty rw rm 0 sz he wr mn vl tp lt ra pf pt pl pd prc ns tu ba na ca bo tr tH u pa tg sd sr)) ∧ ((y_splits u T k).2 = none → ∃ asd1, w = (wM E B u kp ik ps pm dd tx ty rw rm 0 sz he wr mn vl tp lt ra pf pt pl pd prc ns tu ba na ca bo tr tH asd1 pa tg sd sr))) := by
  refine Ctr.of (by decide) (Nat.le_of_ble_eq_true rfl) rfl rfl 3 ?_
  intro X hX hR
  obtain ⟨hT, hT1, hT6, hcv⟩ := id hM
  refine rh_aload_n hX dX8_splits_0 rfl ?_
  refine rh_iconst hX dX8_splits_1 ki_0 ?_
  refine rh_put hX gl_X8_48 0 dX8_splits_2 rfl rfl rfl (Nat.le_of_ble_eq_true rfl) rfl ?_
  dsimp only [List.cons_append, List.nil_append, List.set_cons_succ, List.set_cons_zero, vput]
  refine rh_iload_n hX dX8_splits_5 rfl ?_
  refine rh_i2l hX dX8_splits_6 ?_
  refine rh_ldc2 hX dX8_splits_7 kl_X8_152 ?_
  refine rh_ldc2 hX dX8_splits_10 kl_X8_120 ?_
  refine rh_pS hX lk_X8_58 msX8_in (fun l => c_X8_in l E _ _ _) ⟨rfl, rfl⟩ ⟨Nat.le_of_ble_eq_true rfl, Nat.le_of_ble_eq_true rfl⟩ [] rfl rfl dX8_splits_13 rfl rfl (Nat.le_of_ble_eq_true rfl) ?_
  refine rh_if_ne (tgt := 21) hX dX8_splits_16 (by decide) (fun h16 => ?_) (fun h16 => ?_)
  · skip
    have hk0 : ¬ k = 0 := fun q => h16 (by rw [q]; decide)
    refine rh_aload_n hX dX8_splits_21 rfl ?_
    refine rh_pV hX lk_X8_96 mvX8_allOptions (fun l => c_X8_allOptions l E _ _ _ _ _ _ _ _ _ _ _ _ _ _ _ _ _ _ _ _ _ _ _ _ _ _ _ _ _ _ _ _ _ _ _ _ _ _ ) ⟨rfl, rfl⟩ ⟨Nat.le_of_ble_eq_true rfl, Nat.le_of_ble_eq_true rfl⟩ [0, 1, 2, 3, 4, 5, 6, 7, 8, 9, 10, 11, 12] rfl rfl 0 rfl dX8_splits_22 rfl rfl (Nat.le_of_ble_eq_true rfl) ?_
    refine rh_aload_n hX dX8_splits_25 rfl ?_
    refine rh_get hX gl_X8_7 0 dX8_splits_26 rfl rfl ?_
    refine rh_bipush hX dX8_splits_29 kb_56 ?_
    refine rh_iaload hX 1 _ dX8_splits_31 rfl rn_c56 (by omega) (by decide) ?_
    refine rh_i2l hX dX8_splits_32 ?_
    rw [fm_pool u]
    refine rh_ladd hX dX8_splits_33 ?_
    refine rh_lstn2 hX dX8_splits_34 (by decide) rfl ?_
    refine rh_iconst hX dX8_splits_35 ki_0 ?_
    refine rh_ist4 hX dX8_splits_36 (by decide) rfl ?_
    refine rh_loop (P := fun i => G X 38 [some (.ref (B 0)), some (.int k), some (.long (sumF (cAllGranted (fm u) + fm u 170) (fun t => cAllHeld (fm u) t) i)), none, some (.int (nI i))] [] (wM E B u kp ik ps pm dd tx ty rw rm 0 sz he wr mn vl tp lt ra pf pt pl pd prc ns tu ba na ca bo tr tH asd pa tg sd sr)) (0) (T) (by omega) ?_ ?_
    · skip
      refine rh_iload hX dX8_splits_38 rfl ?_
      refine rh_aload_n hX dX8_splits_40 rfl ?_
      refine rh_get hX gl_X8_7 0 dX8_splits_41 rfl rfl ?_
      refine rh_bipush hX dX8_splits_44 kb_57 ?_
      refine rh_iaload hX 1 _ dX8_splits_46 rfl rn_c57 (by omega) (by decide) ?_
      refine rh_icmp_ge_t (tgt := 65) hX dX8_splits_47 (by decide) (by rw [hT]; exact nI_le (Nat.le_refl T) (by omega)) ?_
      refine rh_iload_n hX dX8_splits_65 rfl ?_
      refine rh_i2l hX dX8_splits_66 ?_
      refine rh_lload_n hX dX8_splits_67 rfl ?_
      refine rh_lmul hX dX8_splits_68 ?_
      refine rh_ldc2 hX dX8_splits_69 kl_X8_131 ?_
      refine rh_lle (tgt := 79) hX dX8_splits_72 dX8_splits_73 (by decide) (fun h73 => ?_) (fun h73 => ?_)
      · skip
        have h73 : k.toInt64 * spAll (fm u) T ≤ 1000000000 := h73
        have h73 : ¬ 1000000000 < k.toInt64 * spAll (fm u) T := fun q => by rw [z_lt] at q; rw [z_le] at h73; omega
        refine rh_aload_n hX dX8_splits_79 rfl ?_
        refine rh_uV hX lk_X8_68 mvX8_lays (fun l => c_X8_lays l E _ _ _ _ _ _ _ _ _ _ _ _ _ _ _ _ _ _ _ _ _ _ _ _ _ _ _ _ _ _ _ _ _ _ _ _ _ _ ) ⟨rfl, rfl⟩ ⟨Nat.le_of_ble_eq_true rfl, Nat.le_of_ble_eq_true rfl⟩ [0, 1, 2, 3, 4, 5, 6, 7, 8, 9, 10, 11, 12] rfl rfl 0 rfl dX8_splits_80 rfl rfl (Nat.le_of_ble_eq_true rfl) rfl ?_
        dsimp only [List.cons_append, List.nil_append, List.set_cons_succ, List.set_cons_zero, vput]
        refine rh_iconst hX dX8_splits_83 ki_0 ?_
        refine rh_ist4 hX dX8_splits_84 (by decide) rfl ?_
        suffices hP0 : G X 86 [some (.ref (B 0)), some (.int k), some (.long (sumF (cAllGranted (fm u) + fm u 170) (fun t => cAllHeld (fm u) t) T)), none, some (.int 0)] [] (wM E B (spA u k 0) kp ik ps pm dd tx ty rw rm 0 sz he wr mn vl tp lt ra pf pt pl pd prc ns tu ba na ca bo tr tH u pa tg sd sr) by rw [spA_0] at hP0; exact hP0
        refine rh_loop (P := fun j => G X 86 [some (.ref (B 0)), some (.int k), some (.long (sumF (cAllGranted (fm u) + fm u 170) (fun t => cAllHeld (fm u) t) T)), none, some (.int (nI j))] [] (wM E B (spA u k j) kp ik ps pm dd tx ty rw rm 0 sz he wr mn vl tp lt ra pf pt pl pd prc ns tu ba na ca bo tr tH u pa tg sd sr)) (0) (57) (by omega) ?_ ?_
        · skip
          refine rh_iload hX dX8_splits_86 rfl ?_
          refine rh_bipush hX dX8_splits_88 kb_56 ?_
          refine rh_icmp_gt_t (tgt := 110) hX dX8_splits_90 (by decide) (nI_lt (a := 56) (b := 57) (by decide) (by decide)) ?_
          refine rh_iconst hX dX8_splits_110 ki_1 ?_
          refine rh_ist4 hX dX8_splits_111 (by decide) rfl ?_
          suffices hP1 : G X 113 [some (.ref (B 0)), some (.int k), some (.long (sumF (cAllGranted (fm u) + fm u 170) (fun t => cAllHeld (fm u) t) T)), none, some (.int 1)] [] (wM E B (spB (spA u k 57) k 1) kp ik ps pm dd tx ty rw rm 0 sz he wr mn vl tp lt ra pf pt pl pd prc ns tu ba na ca bo tr tH u pa tg sd sr) by rw [spB_1] at hP1; exact hP1
          refine rh_loop (P := fun c => G X 113 [some (.ref (B 0)), some (.int k), some (.long (sumF (cAllGranted (fm u) + fm u 170) (fun t => cAllHeld (fm u) t) T)), none, some (.int (nI c))] [] (wM E B (spB (spA u k 57) k c) kp ik ps pm dd tx ty rw rm 0 sz he wr mn vl tp lt ra pf pt pl pd prc ns tu ba na ca bo tr tH u pa tg sd sr)) (1) (T) (by omega) ?_ ?_
          · skip
            refine rh_iload hX dX8_splits_113 rfl ?_
            refine rh_aload_n hX dX8_splits_115 rfl ?_
            refine rh_get hX gl_X8_7 0 dX8_splits_116 rfl rfl ?_
            refine rh_bipush hX dX8_splits_119 kb_57 ?_
            refine rh_iaload hX 1 _ dX8_splits_121 rfl rn_c57 (by omega) (by decide) ?_
            refine rh_icmp_ge_t (tgt := 183) hX dX8_splits_122 (by decide) (by rw [spB_57 u k T hT6, hT]; exact nI_le (Nat.le_refl T) (by omega)) ?_
            refine rh_aload_n hX dX8_splits_183 rfl ?_
            refine rh_pV hX lk_X8_143 mvX8_fullNow (fun l => c_X8_fullNow l E _ _ _ _ _ _ _ _ _ _ _ _ _ _ _ _ _ _ _ _ _ _ _ _ _ _ _ _ _ _ _ _ _ _ _ _ _ _ T (mOk_uSp hM)) ⟨rfl, rfl⟩ ⟨Nat.le_of_ble_eq_true rfl, Nat.le_of_ble_eq_true rfl⟩ [0, 1, 2, 3, 4, 5, 6, 7, 8, 9, 10, 11, 12] rfl rfl 0 rfl dX8_splits_184 rfl rfl (Nat.le_of_ble_eq_true rfl) ?_
            refine rh_ldc2 hX dX8_splits_187 kl_X8_131 ?_
            refine rh_lle (tgt := 201) hX dX8_splits_190 dX8_splits_191 (by decide) (fun h191 => ?_) (fun h191 => ?_)
            · skip
              have h191 : cSize (fm (uSp u k T)) T ≤ 1000000000 := h191
              have h191 : ¬ 1000000000 < cSize (fm (uSp u k T)) T := fun q => by rw [z_lt] at q; rw [z_le] at h191; omega
              refine rh_aload_n hX dX8_splits_201 rfl ?_
              refine rh_uV hX lk_X8_71 mvX8_did (fun l => c_X8_did l E _ _ _ _ _ _ _ _ _ _ _ _ _ _ _ _ _ _ _ _ _ _ _ _ _ _ _ _ _ _ _ _ _ _ _ _ _ _ (by omega)) ⟨rfl, rfl⟩ ⟨Nat.le_of_ble_eq_true rfl, Nat.le_of_ble_eq_true rfl⟩ [0, 1, 2, 3, 4, 5, 6, 7, 8, 9, 10, 11, 12] rfl rfl 0 rfl dX8_splits_202 rfl rfl (Nat.le_of_ble_eq_true rfl) rfl ?_
              dsimp only [List.cons_append, List.nil_append, List.set_cons_succ, List.set_cons_zero, vput]
              refine rh_aload_n hX dX8_splits_205 rfl ?_
              refine rh_pV hX lk_X8_143 mvX8_fullNow (fun l => c_X8_fullNow l E _ _ _ _ _ _ _ _ _ _ _ _ _ _ _ _ _ _ _ _ _ _ _ _ _ _ _ _ _ _ _ _ _ _ _ _ _ _ T (mOk_uSp hM)) ⟨rfl, rfl⟩ ⟨Nat.le_of_ble_eq_true rfl, Nat.le_of_ble_eq_true rfl⟩ [0, 1, 2, 3, 4, 5, 6, 7, 8, 9, 10, 11, 12] rfl rfl 0 rfl dX8_splits_206 rfl rfl (Nat.le_of_ble_eq_true rfl) ?_
              refine rh_l2i hX dX8_splits_209 ?_
              exact rh_iret hX hR dX8_splits_210 (by simp only [List.map_cons, List.map_nil, List.cons_append, List.nil_append]) ⟨by rw [y_splits, if_neg h16, if_neg h73, if_neg h191] <;> rfl, (fun z hz => by rw [y_splits, if_neg h16, if_neg h73, if_neg h191] at hz; cases hz; rfl), (fun hz => by rw [y_splits, if_neg h16, if_neg h73, if_neg h191] at hz; cases hz)⟩
            · skip
              have h191 : ¬ cSize (fm (uSp u k T)) T ≤ 1000000000 := h191
              have h191 : 1000000000 < cSize (fm (uSp u k T)) T := by rw [z_lt]; rw [z_le] at h191; omega
              refine rh_aload_n hX dX8_splits_194 rfl ?_
              refine rh_uV hX lk_X8_146 mvX8_puts (fun l => c_X8_puts l E _ _ _ _ _ _ _ _ _ _ _ _ _ _ _ _ _ _ _ _ _ _ _ _ _ _ _ _ _ _ _ _ _ _ _ _ _ _ ) ⟨rfl, rfl⟩ ⟨Nat.le_of_ble_eq_true rfl, Nat.le_of_ble_eq_true rfl⟩ [0, 1, 2, 3, 4, 5, 6, 7, 8, 9, 10, 11, 12] rfl rfl 0 rfl dX8_splits_195 rfl rfl (Nat.le_of_ble_eq_true rfl) rfl ?_
              dsimp only [List.cons_append, List.nil_append, List.set_cons_succ, List.set_cons_zero, vput]
              refine rh_bipush hX dX8_splits_198 kb_m9 ?_
              exact rh_iret hX hR dX8_splits_200 (by simp only [List.map_cons, List.map_nil, List.cons_append, List.nil_append]) (by first | exact ⟨by rw [y_splits, if_neg h16, if_neg h73, if_pos h191] <;> rfl, (fun z hz => by rw [y_splits, if_neg h16, if_neg h73, if_pos h191] at hz; cases hz), fun _ => ⟨_, rfl⟩⟩)
          · intro c hc0 hc ihc
            refine rh_iload hX dX8_splits_113 rfl ?_
            refine rh_aload_n hX dX8_splits_115 rfl ?_
            refine rh_get hX gl_X8_7 0 dX8_splits_116 rfl rfl ?_
            refine rh_bipush hX dX8_splits_119 kb_57 ?_
            refine rh_iaload hX 1 _ dX8_splits_121 rfl rn_c57 (by omega) (by decide) ?_
            refine rh_icmp_ge_f (tgt := 183) hX dX8_splits_122 (by decide) (by rw [spB_57 u k c (by omega), hT]; exact nI_ge hc (by omega)) ?_
            refine rh_aload_n hX dX8_splits_125 rfl ?_
            refine rh_get hX gl_X8_7 0 dX8_splits_126 rfl rfl ?_
            refine rh_bipush hX dX8_splits_129 kb_58 ?_
            refine rh_iload hX dX8_splits_131 rfl ?_
            refine rh_iadd hX dX8_splits_133 ?_
            refine rh_iconst hX dX8_splits_134 ki_1 ?_
            refine rh_aload_n hX dX8_splits_135 rfl ?_
            refine rh_get hX gl_X8_7 0 dX8_splits_136 rfl rfl ?_
            refine rh_bipush hX dX8_splits_139 kb_58 ?_
            refine rh_iload hX dX8_splits_141 rfl ?_
            refine rh_iadd hX dX8_splits_143 ?_
            refine rh_iaload hX 1 (58 + c) dX8_splits_144 rfl (rn_a rn_c58 rfl) (by omega) (by decide) ?_
            rw [spB_p _ k (by omega)]
            refine rh_iload_n hX dX8_splits_145 rfl ?_
            refine rh_idiv hX dX8_splits_146 hk0 ?_
            refine rh_maxi hX mm_X8_157 dX8_splits_147 (Nat.le_of_ble_eq_true rfl) (Nat.le_of_ble_eq_true rfl) ?_
            refine rh_iastore hX 1 _ dX8_splits_150 rfl (rn_a rn_c58 rfl) (by omega) (by decide) rfl ?_
            dsimp only [List.cons_append, List.nil_append, List.set_cons_succ, List.set_cons_zero, vput]
            refine rh_aload_n hX dX8_splits_151 rfl ?_
            refine rh_get hX gl_X8_7 0 dX8_splits_152 rfl rfl ?_
            refine rh_bipush hX dX8_splits_155 kb_64 ?_
            refine rh_iload hX dX8_splits_157 rfl ?_
            refine rh_iadd hX dX8_splits_159 ?_
            refine rh_iconst hX dX8_splits_160 ki_1 ?_
            refine rh_aload_n hX dX8_splits_161 rfl ?_
            refine rh_get hX gl_X8_7 0 dX8_splits_162 rfl rfl ?_
            refine rh_bipush hX dX8_splits_165 kb_64 ?_
            refine rh_iload hX dX8_splits_167 rfl ?_
            refine rh_iadd hX dX8_splits_169 ?_
            refine rh_iaload hX 1 (64 + c) dX8_splits_170 rfl (rn_a rn_c64 rfl) (by omega) (by decide) ?_
            rw [spB_q _ k (by omega)]
            refine rh_iload_n hX dX8_splits_171 rfl ?_
            refine rh_idiv hX dX8_splits_172 hk0 ?_
            refine rh_maxi hX mm_X8_157 dX8_splits_173 (Nat.le_of_ble_eq_true rfl) (Nat.le_of_ble_eq_true rfl) ?_
            refine rh_iastore hX 1 _ dX8_splits_176 rfl (rn_a rn_c64 rfl) (by omega) (by decide) rfl ?_
            dsimp only [List.cons_append, List.nil_append, List.set_cons_succ, List.set_cons_zero, vput]
            refine rh_inc4 hX dX8_splits_177 (by decide) rfl (rn_i1 _) ?_
            refine rh_goto (tgt := 113) hX dX8_splits_180 (by decide) ?_
            rw [← spB_s _ k hc0 (by omega)] at ihc
            exact ihc
        · intro j hj0 hj ihj
          refine rh_iload hX dX8_splits_86 rfl ?_
          refine rh_bipush hX dX8_splits_88 kb_56 ?_
          refine rh_icmp_gt_f (tgt := 110) hX dX8_splits_90 (by decide) (nI_nlt (a := 56) (b := j) (by omega) (by decide)) ?_
          refine rh_aload_n hX dX8_splits_93 rfl ?_
          refine rh_get hX gl_X8_7 0 dX8_splits_94 rfl rfl ?_
          refine rh_iload hX dX8_splits_97 rfl ?_
          refine rh_dup2 hX dX8_splits_99 rfl rfl ?_
          refine rh_iaload hX 1 j dX8_splits_100 rfl rfl (by omega) (by decide) ?_
          rw [spA_at]
          refine rh_iload_n hX dX8_splits_101 rfl ?_
          refine rh_imul hX dX8_splits_102 ?_
          refine rh_iastore hX 1 _ dX8_splits_103 rfl rfl (by omega) (by decide) rfl ?_
          dsimp only [List.cons_append, List.nil_append, List.set_cons_succ, List.set_cons_zero, vput]
          refine rh_inc4 hX dX8_splits_104 (by decide) rfl (rn_i1 _) ?_
          refine rh_goto (tgt := 86) hX dX8_splits_107 (by decide) ?_
          rw [← spA_s] at ihj
          exact ihj
      · skip
        have h73 : ¬ k.toInt64 * spAll (fm u) T ≤ 1000000000 := h73
        have h73 : 1000000000 < k.toInt64 * spAll (fm u) T := by rw [z_lt]; rw [z_le] at h73; omega
        refine rh_bipush hX dX8_splits_76 kb_m9 ?_
        exact rh_iret hX hR dX8_splits_78 (by simp only [List.map_cons, List.map_nil, List.cons_append, List.nil_append]) (by first | exact ⟨by rw [y_splits, if_neg h16, if_pos h73] <;> rfl, (fun z hz => by rw [y_splits, if_neg h16, if_pos h73] at hz; cases hz), fun _ => ⟨_, rfl⟩⟩)
    · intro i hi0 hi ih
      refine rh_iload hX dX8_splits_38 rfl ?_
      refine rh_aload_n hX dX8_splits_40 rfl ?_
      refine rh_get hX gl_X8_7 0 dX8_splits_41 rfl rfl ?_
      refine rh_bipush hX dX8_splits_44 kb_57 ?_
      refine rh_iaload hX 1 _ dX8_splits_46 rfl rn_c57 (by omega) (by decide) ?_
      refine rh_icmp_ge_f (tgt := 65) hX dX8_splits_47 (by decide) (by rw [hT]; exact nI_ge hi (by omega)) ?_
      refine rh_lload_n hX dX8_splits_50 rfl ?_
      refine rh_aload_n hX dX8_splits_51 rfl ?_
      refine rh_iload hX dX8_splits_52 rfl ?_
      refine rh_pV hX lk_X8_154 mvX8_allShares (fun l => c_X8_allShares l E _ _ _ _ _ _ _ _ _ _ _ _ _ _ _ _ _ _ _ _ _ _ _ _ _ _ _ _ _ _ _ _ _ _ _ _ _ _ i (by omega)) ⟨rfl, rfl⟩ ⟨Nat.le_of_ble_eq_true rfl, Nat.le_of_ble_eq_true rfl⟩ [0, 1, 2, 3, 4, 5, 6, 7, 8, 9, 10, 11, 12] rfl rfl 0 rfl dX8_splits_54 rfl rfl (Nat.le_of_ble_eq_true rfl) ?_
      refine rh_ladd hX dX8_splits_57 ?_
      refine rh_lstn2 hX dX8_splits_58 (by decide) rfl ?_
      refine rh_inc4 hX dX8_splits_59 (by decide) rfl (rn_i1 _) ?_
      refine rh_goto (tgt := 38) hX dX8_splits_62 (by decide) ?_
      exact ih
  · skip
    refine rh_iconst hX dX8_splits_19 ki_m1 ?_
    exact rh_iret hX hR dX8_splits_20 (by simp only [List.map_cons, List.map_nil, List.cons_append, List.nil_append]) (by first | exact ⟨by rw [y_splits, if_pos h16] <;> rfl, (fun z hz => by rw [y_splits, if_pos h16] at hz; cases hz), fun _ => ⟨_, rfl⟩⟩)
