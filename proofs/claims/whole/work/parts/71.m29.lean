/-! what the model reads of a round's terms: a state is (here, wrong, value, top, late, ratchet, pref, part, play) -/
abbrev MS : Type := Nat × Int32 × Int32 × Int32 × Int32 × Int32 × Int32 × Int32 × Int32
def tEw (tx : Nat → Int32) (sz fr : Nat) (q : MS) : Int32 := if q.2.1 = -1 then (if mSee tx sz q.1 = 58 then q.2.1 else mFault q.2.1 (nI (mLf (sC tx) sz q.1 fr))) else q.2.1
def tE (tx : Nat → Int32) (sz fr : Nat) (q : MS) : MS := ((mExp tx sz q.1 (tEw tx sz fr q) 58).1, (mExp tx sz q.1 (tEw tx sz fr q) 58).2, q.2.2)
abbrev msHe (q : MS) (h : Nat) : MS := (h, q.2)
abbrev mPq (tx : Nat → Int32) (sz : Nat) (q : MS) (i : Nat) : Bool × Nat := mPs (sC tx) sz q.1 q.2.1 i
/-- a blank and a number behind a word -/
def mBn (tx : Nat → Int32) (sz he : Nat) (wr : Int32) (mo : Int64) : Int32 × Nat × Int32 := mNum tx sz (mExp tx sz he wr 32).1 (mExp tx sz he wr 32).2 0 mo
def t7 (tx : Nat → Int32) (sz fr : Nat) (q : MS) : MS := if (mPq tx sz q 8).1 = true then tE tx sz 8 ((mPq tx sz q 8).2, q.2.1, q.2.2.1, q.2.2.2.1, q.2.2.2.2.1, q.2.2.2.2.2.1, q.2.2.2.2.2.2.1, q.2.2.2.2.2.2.2.1, 1) else tE tx sz fr q
def t6 (tx : Nat → Int32) (sz fr : Nat) (q : MS) : MS := if (mPq tx sz q 7).1 = true then t7 tx sz 7 ((mPq tx sz q 7).2, q.2.1, q.2.2.1, q.2.2.2.1, q.2.2.2.2.1, q.2.2.2.2.2.1, q.2.2.2.2.2.2.1, 1, q.2.2.2.2.2.2.2.2) else t7 tx sz fr q
def t5 (tx : Nat → Int32) (sz fr : Nat) (q : MS) : MS := if (mPq tx sz q 6).1 = true then t6 tx sz 6 ((mBn tx sz (mPq tx sz q 6).2 q.2.1 50).2.1, (mBn tx sz (mPq tx sz q 6).2 q.2.1 50).2.2, q.2.2.1, q.2.2.2.1, q.2.2.2.2.1, q.2.2.2.2.2.1, (mBn tx sz (mPq tx sz q 6).2 q.2.1 50).1, q.2.2.2.2.2.2.2.1, q.2.2.2.2.2.2.2.2) else t6 tx sz fr q
def t4 (tx : Nat → Int32) (sz fr : Nat) (q : MS) : MS := if (mPq tx sz q 5).1 = true then t5 tx sz 5 ((mPq tx sz q 5).2, q.2.1, q.2.2.1, q.2.2.2.1, q.2.2.2.2.1, 3, q.2.2.2.2.2.2.1, q.2.2.2.2.2.2.2.1, q.2.2.2.2.2.2.2.2) else t5 tx sz fr q
def t3 (tx : Nat → Int32) (sz fr : Nat) (q : MS) : MS := if (mPq tx sz q 4).1 = true then t5 tx sz 5 ((mPq tx sz q 4).2, q.2.1, q.2.2.1, q.2.2.2.1, q.2.2.2.2.1, 2, q.2.2.2.2.2.2.1, q.2.2.2.2.2.2.2.1, q.2.2.2.2.2.2.2.2) else t4 tx sz fr q
def t2 (tx : Nat → Int32) (sz fr : Nat) (q : MS) : MS := if (mPq tx sz q 3).1 = true then t5 tx sz 5 ((mPq tx sz q 3).2, q.2.1, q.2.2.1, q.2.2.2.1, q.2.2.2.2.1, 1, q.2.2.2.2.2.2.1, q.2.2.2.2.2.2.2.1, q.2.2.2.2.2.2.2.2) else t3 tx sz fr q
def t1 (tx : Nat → Int32) (sz fr : Nat) (q : MS) : MS := if (mPq tx sz q 2).1 = true then t2 tx sz 2 ((mPq tx sz q 2).2, q.2.1, q.2.2.1, q.2.2.2.1, 1, q.2.2.2.2.2.1, q.2.2.2.2.2.2.1, q.2.2.2.2.2.2.2.1, q.2.2.2.2.2.2.2.2) else t2 tx sz fr q
def t0 (tx : Nat → Int32) (sz fr : Nat) (q : MS) : MS := if (mPq tx sz q 1).1 = true then t1 tx sz 1 ((mBn tx sz (mPq tx sz q 1).2 q.2.1 500).2.1, (mBn tx sz (mPq tx sz q 1).2 q.2.1 500).2.2, q.2.2.1, (mBn tx sz (mPq tx sz q 1).2 q.2.1 500).1, q.2.2.2.2) else t1 tx sz fr q
def mVn (tx : Nat → Int32) (sz : Nat) : Int32 × Nat × Int32 := mNum tx sz (mExp tx sz 3 (-1) 32).1 (mExp tx sz 3 (-1) 32).2 1 1000000000
def tS (tx : Nat → Int32) (sz : Nat) (q : MS) : MS := if mSee tx sz 0 = rhCh 10 0 then (if mSee tx sz 1 = rhCh 10 1 then (if mSee tx sz 2 = rhCh 10 2 then t0 tx sz 0 ((mVn tx sz).2.1, (mVn tx sz).2.2, (mVn tx sz).1, 0, 0, 0, 10, 0, 0) else (2, nI 2, q.2.2)) else (1, nI 1, q.2.2)) else (0, nI 0, q.2.2)
theorem mPs_f {s : Nat → Int32} {n he : Nat} {wr : Int32} {i : Nat} (h : ¬ (mPs s n he wr i).1 = true) : (mPs s n he wr i).2 = he := by
  unfold mPs at *
  by_cases a : wr = -1
  · rw [if_pos a] at h ⊢
    by_cases b : tk s n he 32 = true
    · rw [if_pos b] at h ⊢
      by_cases c : (tkA s n i (he + 1)).1 = true
      · rw [if_pos c] at h; exact absurd rfl h
      · rw [if_neg c]
    · rw [if_neg b]
  · rw [if_neg a]
theorem mSee_lt {tx : Nat → Int32} {n p : Nat} (h : ¬ mSee tx n p = -1) : p < n := by
  unfold mSee at h
  by_cases q : p < n
  · exact q
  · rw [if_neg q] at h; exact absurd rfl h
theorem mExp_le {tx : Nat → Int32} {sz he : Nat} {wr c : Int32} (hc : ¬ c = -1) (h : he ≤ sz) : (mExp tx sz he wr c).1 ≤ sz := by
  unfold mExp
  split
  · split
    · rename_i q
      have := mSee_lt (tx := tx) (n := sz) (p := he) (fun z => hc (by rw [← q, z]))
      exact this
    · exact h
  · exact h
theorem xIn_see {tx : Nat → Int32} {sz he : Nat} (h : ¬ xIn (mSee tx sz he).toInt64 48 57 = 0) : he < sz := by
  apply mSee_lt (tx := tx)
  intro q
  rw [q] at h
  exact h (by decide)
theorem mNumL_le {tx : Nat → Int32} {sz : Nat} {le : Int32} {mo : Int64} : ∀ (n : Nat) (v : Int64) (he : Nat), he ≤ sz → (mNumL tx sz le mo n v he).2.1 ≤ sz
  | 0, v, he, h => by rw [mNumL]; exact h
  | n + 1, v, he, h => by
    rw [mNumL]
    split
    · exact h
    · split
      · exact h
      · rename_i q
        have := xIn_see q
        split
        · exact mNumL_le n _ _ (by omega)
        · exact h
theorem mNum_le {tx : Nat → Int32} {sz he : Nat} {wr le : Int32} {mo : Int64} (h : he ≤ sz) : (mNum tx sz he wr le mo).2.1 ≤ sz := by
  unfold mNum
  split
  · split
    · exact h
    · rename_i q
      have := xIn_see q
      split
      · exact h
      · split
        · exact mNumL_le 8 _ _ (by omega)
        · exact h
  · exact h
theorem tkaF_t {s : Nat → Int32} {n i : Nat} : ∀ (m j k : Nat), k ≤ n → (tkaF s n i m j k).1 = true → (tkaF s n i m j k).2 = k + m ∧ k + m ≤ n
  | 0, j, k, h, _ => by rw [tkaF]; exact ⟨rfl, h⟩
  | m + 1, j, k, h, q => by
    rw [tkaF] at q ⊢
    by_cases a : tk s n k (rhCh i j) = true
    · rw [if_pos a] at q ⊢
      have := tkaF_t m (j + 1) (k + 1) (by have := tk_lt a; omega) q
      exact ⟨by rw [this.1]; omega, by omega⟩
    · rw [if_neg a] at q; exact absurd q Bool.false_ne_true
theorem mPs_le {s : Nat → Int32} {n he : Nat} {wr : Int32} {i : Nat} (h : he ≤ n) : (mPs s n he wr i).2 ≤ n := by
  unfold mPs
  split
  · split
    · rename_i b
      split
      · rename_i c
        have := tkaF_t (rhLen.getD i 0) 0 (he + 1) (by have := tk_lt b; omega) c
        omega
      · exact h
    · exact h
  · exact h
theorem mBn_le {tx : Nat → Int32} {sz he : Nat} {wr : Int32} {mo : Int64} (h : he ≤ sz) : (mBn tx sz he wr mo).2.1 ≤ sz := mNum_le (mExp_le (by decide) h)

set_option maxRecDepth 100000 in
set_option maxHeartbeats 4000000 in
theorem rt_265 {X : rhX} {E : rhE} (B : Nat → Nat) (u : Nat → Int32) (kp : Nat → Int32) (ik : Int32) (ps : Nat → Int32) (pm : Nat) (dd : Int32) (tx : Nat → Int32) (ty : Nat) (rw : Nat → Int64) (rm : Nat) (th : Int32) (sz : Nat) (mn : Nat → Int32) (pd : Int64) (prc : Int64) (ns : Int64) (tu : Nat) (ba : Int64) (na : Int64) (ca : Nat → Int64) (bo : Nat → Int32) (tr : Nat → Int64) (tH : Int32) (asd : Nat → Int32) (pa : Nat → Int64) (tg : Nat → Int64) (sd : Int64) (sr : Int64) (hX : Ok X E yX8_readsTerms.cls cX8_readsTerms (rmL 6) 3) (F : MS) {W0 : va_W} (hW0 : W0.map Prod.fst = [B 0, B 1, B 2, B 3, B 4, B 5, B 6, B 7, B 8, B 9, B 10, B 11, B 12]) (hR : Rt X none W0 (One none (wM E B u kp ik ps pm dd tx ty rw rm th sz F.1 F.2.1 mn F.2.2.1 F.2.2.2.1 F.2.2.2.2.1 F.2.2.2.2.2.1 F.2.2.2.2.2.2.1 F.2.2.2.2.2.2.2.1 F.2.2.2.2.2.2.2.2 pd prc ns tu ba na ca bo tr tH asd pa tg sd sr))) (hsz : sz ≤ 200) (hbt : byteOk tx sz) : ∀ (he : Nat) (wr vl tp lt ra pf pt pl : Int32) (fr : Nat), he ≤ sz → fr ≤ 8 → tE tx sz fr (he, wr, vl, tp, lt, ra, pf, pt, pl) = F → G X 265 [some (.ref (B 0)), some (.int (nI fr)), none] [] (wM E B u kp ik ps pm dd tx ty rw rm th sz he wr mn vl tp lt ra pf pt pl pd prc ns tu ba na ca bo tr tH asd pa tg sd sr) := by
  intro he wr vl tp lt ra pf pt pl fr hhe hfr hF
  subst hF
  refine rh_aload_n hX dX8_readsTerms_265 rfl ?_
  refine rh_get hX gl_X8_105 0 dX8_readsTerms_266 rfl rfl ?_
  refine rh_iconst hX dX8_readsTerms_269 ki_m1 ?_
  refine rh_icmp_ne (tgt := 291) hX dX8_readsTerms_270 (by decide) (fun h270 => ?_) (fun h270 => ?_)
  · skip
    refine rh_aload_n hX dX8_readsTerms_291 rfl ?_
    refine rh_bipush hX dX8_readsTerms_292 kb_58 ?_
    refine rh_uV hX lk_X8_203 mvX8_expect (fun l => c_X8_expect l E _ _ _ _ _ _ _ _ _ _ _ _ _ _ _ _ _ _ _ _ _ _ _ _ _ _ _ _ _ _ _ _ _ _ _ _ _ _ 58 (by omega) (by omega)) ⟨rfl, rfl⟩ ⟨Nat.le_of_ble_eq_true rfl, Nat.le_of_ble_eq_true rfl⟩ [0, 1, 2, 3, 4, 5, 6, 7, 8, 9, 10, 11, 12] rfl rfl 0 rfl dX8_readsTerms_294 rfl rfl (Nat.le_of_ble_eq_true rfl) rfl ?_
    dsimp only [List.cons_append, List.nil_append, List.set_cons_succ, List.set_cons_zero, vput]
    exact rh_vret hX hR dX8_readsTerms_297 (by rw [hW0]; rfl) ⟨rfl, by first | (rw [tE, tEw, if_neg h270]; done) | (rw [tE, tEw, if_pos h270, if_pos h279]; done) | (rw [tE, tEw, if_pos h270, if_neg h279]; done)⟩
  · skip
    refine rh_aload_n hX dX8_readsTerms_273 rfl ?_
    refine rh_pV hX lk_X8_108 mvX8_sees (fun l => c_X8_sees l E _ _ _ _ _ _ _ _ _ _ _ _ _ _ _ _ _ _ _ _ _ _ _ _ _ _ _ _ _ _ _ _ _ _ _ _ _ _ (by omega) (by omega)) ⟨rfl, rfl⟩ ⟨Nat.le_of_ble_eq_true rfl, Nat.le_of_ble_eq_true rfl⟩ [0, 1, 2, 3, 4, 5, 6, 7, 8, 9, 10, 11, 12] rfl rfl 0 rfl dX8_readsTerms_274 rfl rfl (Nat.le_of_ble_eq_true rfl) ?_
    refine rh_bipush hX dX8_readsTerms_277 kb_58 ?_
    refine rh_icmp_eq (tgt := 291) hX dX8_readsTerms_279 (by decide) (fun h279 => ?_) (fun h279 => ?_)
    · skip
      refine rh_aload_n hX dX8_readsTerms_291 rfl ?_
      refine rh_bipush hX dX8_readsTerms_292 kb_58 ?_
      refine rh_uV hX lk_X8_203 mvX8_expect (fun l => c_X8_expect l E _ _ _ _ _ _ _ _ _ _ _ _ _ _ _ _ _ _ _ _ _ _ _ _ _ _ _ _ _ _ _ _ _ _ _ _ _ _ 58 (by omega) (by omega)) ⟨rfl, rfl⟩ ⟨Nat.le_of_ble_eq_true rfl, Nat.le_of_ble_eq_true rfl⟩ [0, 1, 2, 3, 4, 5, 6, 7, 8, 9, 10, 11, 12] rfl rfl 0 rfl dX8_readsTerms_294 rfl rfl (Nat.le_of_ble_eq_true rfl) rfl ?_
      dsimp only [List.cons_append, List.nil_append, List.set_cons_succ, List.set_cons_zero, vput]
      exact rh_vret hX hR dX8_readsTerms_297 (by rw [hW0]; rfl) ⟨rfl, by first | (rw [tE, tEw, if_neg h270]; done) | (rw [tE, tEw, if_pos h270, if_pos h279]; done) | (rw [tE, tEw, if_pos h270, if_neg h279]; done)⟩
    · skip
      refine rh_aload_n hX dX8_readsTerms_282 rfl ?_
      refine rh_aload_n hX dX8_readsTerms_283 rfl ?_
      refine rh_iload_n hX dX8_readsTerms_284 rfl ?_
      refine rh_pV hX lk_X8_232 mvX8_lastFit (fun l => c_X8_lastFit l E _ _ _ _ _ _ _ _ _ _ _ _ _ _ _ _ _ _ _ _ _ _ _ _ _ _ _ _ _ _ _ _ _ _ _ _ _ _ fr (by omega) (by omega) hbt (by omega)) ⟨rfl, rfl⟩ ⟨Nat.le_of_ble_eq_true rfl, Nat.le_of_ble_eq_true rfl⟩ [0, 1, 2, 3, 4, 5, 6, 7, 8, 9, 10, 11, 12] rfl rfl 0 rfl dX8_readsTerms_285 rfl rfl (Nat.le_of_ble_eq_true rfl) ?_
      refine rh_uV hX lk_X8_112 mvX8_fault (fun l => c_X8_fault l E _ _ _ _ _ _ _ _ _ _ _ _ _ _ _ _ _ _ _ _ _ _ _ _ _ _ _ _ _ _ _ _ _ _ _ _ _ _ _) ⟨rfl, rfl⟩ ⟨Nat.le_of_ble_eq_true rfl, Nat.le_of_ble_eq_true rfl⟩ [0, 1, 2, 3, 4, 5, 6, 7, 8, 9, 10, 11, 12] rfl rfl 0 rfl dX8_readsTerms_288 rfl rfl (Nat.le_of_ble_eq_true rfl) rfl ?_
      dsimp only [List.cons_append, List.nil_append, List.set_cons_succ, List.set_cons_zero, vput]
      refine rh_aload_n hX dX8_readsTerms_291 rfl ?_
      refine rh_bipush hX dX8_readsTerms_292 kb_58 ?_
      refine rh_uV hX lk_X8_203 mvX8_expect (fun l => c_X8_expect l E _ _ _ _ _ _ _ _ _ _ _ _ _ _ _ _ _ _ _ _ _ _ _ _ _ _ _ _ _ _ _ _ _ _ _ _ _ _ 58 (by omega) (by omega)) ⟨rfl, rfl⟩ ⟨Nat.le_of_ble_eq_true rfl, Nat.le_of_ble_eq_true rfl⟩ [0, 1, 2, 3, 4, 5, 6, 7, 8, 9, 10, 11, 12] rfl rfl 0 rfl dX8_readsTerms_294 rfl rfl (Nat.le_of_ble_eq_true rfl) rfl ?_
      dsimp only [List.cons_append, List.nil_append, List.set_cons_succ, List.set_cons_zero, vput]
      exact rh_vret hX hR dX8_readsTerms_297 (by rw [hW0]; rfl) ⟨rfl, by first | (rw [tE, tEw, if_neg h270]; done) | (rw [tE, tEw, if_pos h270, if_pos h279]; done) | (rw [tE, tEw, if_pos h270, if_neg h279]; done)⟩

set_option maxRecDepth 100000 in
set_option maxHeartbeats 4000000 in
theorem rt_248 {X : rhX} {E : rhE} (B : Nat → Nat) (u : Nat → Int32) (kp : Nat → Int32) (ik : Int32) (ps : Nat → Int32) (pm : Nat) (dd : Int32) (tx : Nat → Int32) (ty : Nat) (rw : Nat → Int64) (rm : Nat) (th : Int32) (sz : Nat) (mn : Nat → Int32) (pd : Int64) (prc : Int64) (ns : Int64) (tu : Nat) (ba : Int64) (na : Int64) (ca : Nat → Int64) (bo : Nat → Int32) (tr : Nat → Int64) (tH : Int32) (asd : Nat → Int32) (pa : Nat → Int64) (tg : Nat → Int64) (sd : Int64) (sr : Int64) (hX : Ok X E yX8_readsTerms.cls cX8_readsTerms (rmL 6) 3) (F : MS) {W0 : va_W} (hW0 : W0.map Prod.fst = [B 0, B 1, B 2, B 3, B 4, B 5, B 6, B 7, B 8, B 9, B 10, B 11, B 12]) (hR : Rt X none W0 (One none (wM E B u kp ik ps pm dd tx ty rw rm th sz F.1 F.2.1 mn F.2.2.1 F.2.2.2.1 F.2.2.2.2.1 F.2.2.2.2.2.1 F.2.2.2.2.2.2.1 F.2.2.2.2.2.2.2.1 F.2.2.2.2.2.2.2.2 pd prc ns tu ba na ca bo tr tH asd pa tg sd sr))) (hsz : sz ≤ 200) (hbt : byteOk tx sz) : ∀ (he : Nat) (wr vl tp lt ra pf pt pl : Int32) (fr : Nat), he ≤ sz → fr ≤ 8 → t7 tx sz fr (he, wr, vl, tp, lt, ra, pf, pt, pl) = F → G X 248 [some (.ref (B 0)), some (.int (nI fr)), none] [] (wM E B u kp ik ps pm dd tx ty rw rm th sz he wr mn vl tp lt ra pf pt pl pd prc ns tu ba na ca bo tr tH asd pa tg sd sr) := by
  intro he wr vl tp lt ra pf pt pl fr hhe hfr hF
  subst hF
  refine rh_aload_n hX dX8_readsTerms_248 rfl ?_
  refine rh_ldcS hX dX8_readsTerms_249 (List.mem_of_getElem? (i := 18) rfl) ?_
  refine rh_wV hX lk_X8_226 mvX8_passes (fun l => c_X8_passes l E _ _ _ _ _ _ _ _ _ _ _ _ _ _ _ _ _ _ _ _ _ _ _ _ _ _ _ _ _ _ _ _ _ _ _ _ _ _ 8 (by omega) (by omega) (by assumption) (by decide)) ⟨rfl, rfl⟩ ⟨Nat.le_of_ble_eq_true rfl, Nat.le_of_ble_eq_true rfl⟩ [0, 1, 2, 3, 4, 5, 6, 7, 8, 9, 10, 11, 12] rfl rfl 0 rfl dX8_readsTerms_251 rfl rfl (Nat.le_of_ble_eq_true rfl) rfl ?_
  dsimp only [List.cons_append, List.nil_append, List.set_cons_succ, List.set_cons_zero, vput]
  refine rh_if_eq (tgt := 265) hX dX8_readsTerms_254 (by decide) (fun hp => ?_) (fun hp => ?_)
  · skip
    have hp : ¬ (mPs (sC tx) sz he wr 8).1 = true := fun q => by rw [if_pos q] at hp; exact absurd hp (by decide)
    rw [mPs_f hp]
    exact rh_wk (lv' := [some (.ref (B 0)), some (.int (nI fr)), none]) (by exact ⟨rfl, rfl, trivial⟩) (rt_265 B u kp ik ps pm dd tx ty rw rm th sz mn pd prc ns tu ba na ca bo tr tH asd pa tg sd sr hX _ hW0 hR hsz hbt (he) (wr) (vl) (tp) (lt) (ra) (pf) (pt) (pl) fr hhe (by omega) (by rw [t7, if_neg (show ¬ (mPq tx sz (he, wr, vl, tp, lt, ra, pf, pt, pl) 8).1 = true from hp)]))
  · skip
    have hp : (mPs (sC tx) sz he wr 8).1 = true := Classical.not_not.mp (fun q => hp (if_neg q))
    have hle := mPs_le (s := sC tx) (wr := wr) (i := 8) hhe
    refine rh_aload_n hX dX8_readsTerms_257 rfl ?_
    refine rh_iconst hX dX8_readsTerms_258 ki_1 ?_
    refine rh_put hX gl_X8_224 0 dX8_readsTerms_259 rfl rfl rfl (Nat.le_of_ble_eq_true rfl) rfl ?_
    dsimp only [List.cons_append, List.nil_append, List.set_cons_succ, List.set_cons_zero, vput]
    refine rh_bipush hX dX8_readsTerms_262 kb_8 ?_
    refine rh_istn1 hX dX8_readsTerms_264 (by decide) rfl ?_
    exact rh_wk (lv' := [some (.ref (B 0)), some (.int (nI 8)), none]) (by exact ⟨rfl, rfl, trivial⟩) (rt_265 B u kp ik ps pm dd tx ty rw rm th sz mn pd prc ns tu ba na ca bo tr tH asd pa tg sd sr hX _ hW0 hR hsz hbt ((mPs (sC tx) sz he wr 8).2) (wr) (vl) (tp) (lt) (ra) (pf) (pt) (1) 8 (by first | exact hle | exact mBn_le hle) (by omega) (by rw [t7, if_pos (show (mPq tx sz (he, wr, vl, tp, lt, ra, pf, pt, pl) 8).1 = true from hp)] <;> rfl))

set_option maxRecDepth 100000 in
set_option maxHeartbeats 4000000 in
theorem rt_231 {X : rhX} {E : rhE} (B : Nat → Nat) (u : Nat → Int32) (kp : Nat → Int32) (ik : Int32) (ps : Nat → Int32) (pm : Nat) (dd : Int32) (tx : Nat → Int32) (ty : Nat) (rw : Nat → Int64) (rm : Nat) (th : Int32) (sz : Nat) (mn : Nat → Int32) (pd : Int64) (prc : Int64) (ns : Int64) (tu : Nat) (ba : Int64) (na : Int64) (ca : Nat → Int64) (bo : Nat → Int32) (tr : Nat → Int64) (tH : Int32) (asd : Nat → Int32) (pa : Nat → Int64) (tg : Nat → Int64) (sd : Int64) (sr : Int64) (hX : Ok X E yX8_readsTerms.cls cX8_readsTerms (rmL 6) 3) (F : MS) {W0 : va_W} (hW0 : W0.map Prod.fst = [B 0, B 1, B 2, B 3, B 4, B 5, B 6, B 7, B 8, B 9, B 10, B 11, B 12]) (hR : Rt X none W0 (One none (wM E B u kp ik ps pm dd tx ty rw rm th sz F.1 F.2.1 mn F.2.2.1 F.2.2.2.1 F.2.2.2.2.1 F.2.2.2.2.2.1 F.2.2.2.2.2.2.1 F.2.2.2.2.2.2.2.1 F.2.2.2.2.2.2.2.2 pd prc ns tu ba na ca bo tr tH asd pa tg sd sr))) (hsz : sz ≤ 200) (hbt : byteOk tx sz) : ∀ (he : Nat) (wr vl tp lt ra pf pt pl : Int32) (fr : Nat), he ≤ sz → fr ≤ 8 → t6 tx sz fr (he, wr, vl, tp, lt, ra, pf, pt, pl) = F → G X 231 [some (.ref (B 0)), some (.int (nI fr)), none] [] (wM E B u kp ik ps pm dd tx ty rw rm th sz he wr mn vl tp lt ra pf pt pl pd prc ns tu ba na ca bo tr tH asd pa tg sd sr) := by
  intro he wr vl tp lt ra pf pt pl fr hhe hfr hF
  subst hF
  refine rh_aload_n hX dX8_readsTerms_231 rfl ?_
  refine rh_ldcS hX dX8_readsTerms_232 (List.mem_of_getElem? (i := 17) rfl) ?_
  refine rh_wV hX lk_X8_226 mvX8_passes (fun l => c_X8_passes l E _ _ _ _ _ _ _ _ _ _ _ _ _ _ _ _ _ _ _ _ _ _ _ _ _ _ _ _ _ _ _ _ _ _ _ _ _ _ 7 (by omega) (by omega) (by assumption) (by decide)) ⟨rfl, rfl⟩ ⟨Nat.le_of_ble_eq_true rfl, Nat.le_of_ble_eq_true rfl⟩ [0, 1, 2, 3, 4, 5, 6, 7, 8, 9, 10, 11, 12] rfl rfl 0 rfl dX8_readsTerms_234 rfl rfl (Nat.le_of_ble_eq_true rfl) rfl ?_
  dsimp only [List.cons_append, List.nil_append, List.set_cons_succ, List.set_cons_zero, vput]
  refine rh_if_eq (tgt := 248) hX dX8_readsTerms_237 (by decide) (fun hp => ?_) (fun hp => ?_)
  · skip
    have hp : ¬ (mPs (sC tx) sz he wr 7).1 = true := fun q => by rw [if_pos q] at hp; exact absurd hp (by decide)
    rw [mPs_f hp]
    exact rh_wk (lv' := [some (.ref (B 0)), some (.int (nI fr)), none]) (by exact ⟨rfl, rfl, trivial⟩) (rt_248 B u kp ik ps pm dd tx ty rw rm th sz mn pd prc ns tu ba na ca bo tr tH asd pa tg sd sr hX _ hW0 hR hsz hbt (he) (wr) (vl) (tp) (lt) (ra) (pf) (pt) (pl) fr hhe (by omega) (by rw [t6, if_neg (show ¬ (mPq tx sz (he, wr, vl, tp, lt, ra, pf, pt, pl) 7).1 = true from hp)]))
  · skip
    have hp : (mPs (sC tx) sz he wr 7).1 = true := Classical.not_not.mp (fun q => hp (if_neg q))
    have hle := mPs_le (s := sC tx) (wr := wr) (i := 7) hhe
    refine rh_aload_n hX dX8_readsTerms_240 rfl ?_
    refine rh_iconst hX dX8_readsTerms_241 ki_1 ?_
    refine rh_put hX gl_X8_222 0 dX8_readsTerms_242 rfl rfl rfl (Nat.le_of_ble_eq_true rfl) rfl ?_
    dsimp only [List.cons_append, List.nil_append, List.set_cons_succ, List.set_cons_zero, vput]
    refine rh_bipush hX dX8_readsTerms_245 kb_7 ?_
    refine rh_istn1 hX dX8_readsTerms_247 (by decide) rfl ?_
    exact rh_wk (lv' := [some (.ref (B 0)), some (.int (nI 7)), none]) (by exact ⟨rfl, rfl, trivial⟩) (rt_248 B u kp ik ps pm dd tx ty rw rm th sz mn pd prc ns tu ba na ca bo tr tH asd pa tg sd sr hX _ hW0 hR hsz hbt ((mPs (sC tx) sz he wr 7).2) (wr) (vl) (tp) (lt) (ra) (pf) (1) (pl) 7 (by first | exact hle | exact mBn_le hle) (by omega) (by rw [t6, if_pos (show (mPq tx sz (he, wr, vl, tp, lt, ra, pf, pt, pl) 7).1 = true from hp)] <;> rfl))

set_option maxRecDepth 100000 in
set_option maxHeartbeats 4000000 in
theorem rt_201 {X : rhX} {E : rhE} (B : Nat → Nat) (u : Nat → Int32) (kp : Nat → Int32) (ik : Int32) (ps : Nat → Int32) (pm : Nat) (dd : Int32) (tx : Nat → Int32) (ty : Nat) (rw : Nat → Int64) (rm : Nat) (th : Int32) (sz : Nat) (mn : Nat → Int32) (pd : Int64) (prc : Int64) (ns : Int64) (tu : Nat) (ba : Int64) (na : Int64) (ca : Nat → Int64) (bo : Nat → Int32) (tr : Nat → Int64) (tH : Int32) (asd : Nat → Int32) (pa : Nat → Int64) (tg : Nat → Int64) (sd : Int64) (sr : Int64) (hX : Ok X E yX8_readsTerms.cls cX8_readsTerms (rmL 6) 3) (F : MS) {W0 : va_W} (hW0 : W0.map Prod.fst = [B 0, B 1, B 2, B 3, B 4, B 5, B 6, B 7, B 8, B 9, B 10, B 11, B 12]) (hR : Rt X none W0 (One none (wM E B u kp ik ps pm dd tx ty rw rm th sz F.1 F.2.1 mn F.2.2.1 F.2.2.2.1 F.2.2.2.2.1 F.2.2.2.2.2.1 F.2.2.2.2.2.2.1 F.2.2.2.2.2.2.2.1 F.2.2.2.2.2.2.2.2 pd prc ns tu ba na ca bo tr tH asd pa tg sd sr))) (hsz : sz ≤ 200) (hbt : byteOk tx sz) : ∀ (he : Nat) (wr vl tp lt ra pf pt pl : Int32) (fr : Nat), he ≤ sz → fr ≤ 8 → t5 tx sz fr (he, wr, vl, tp, lt, ra, pf, pt, pl) = F → G X 201 [some (.ref (B 0)), some (.int (nI fr)), none] [] (wM E B u kp ik ps pm dd tx ty rw rm th sz he wr mn vl tp lt ra pf pt pl pd prc ns tu ba na ca bo tr tH asd pa tg sd sr) := by
  intro he wr vl tp lt ra pf pt pl fr hhe hfr hF
  subst hF
  refine rh_aload_n hX dX8_readsTerms_201 rfl ?_
  refine rh_ldcS hX dX8_readsTerms_202 (List.mem_of_getElem? (i := 16) rfl) ?_
  refine rh_wV hX lk_X8_226 mvX8_passes (fun l => c_X8_passes l E _ _ _ _ _ _ _ _ _ _ _ _ _ _ _ _ _ _ _ _ _ _ _ _ _ _ _ _ _ _ _ _ _ _ _ _ _ _ 6 (by omega) (by omega) (by assumption) (by decide)) ⟨rfl, rfl⟩ ⟨Nat.le_of_ble_eq_true rfl, Nat.le_of_ble_eq_true rfl⟩ [0, 1, 2, 3, 4, 5, 6, 7, 8, 9, 10, 11, 12] rfl rfl 0 rfl dX8_readsTerms_204 rfl rfl (Nat.le_of_ble_eq_true rfl) rfl ?_
  dsimp only [List.cons_append, List.nil_append, List.set_cons_succ, List.set_cons_zero, vput]
  refine rh_if_eq (tgt := 231) hX dX8_readsTerms_207 (by decide) (fun hp => ?_) (fun hp => ?_)
  · skip
    have hp : ¬ (mPs (sC tx) sz he wr 6).1 = true := fun q => by rw [if_pos q] at hp; exact absurd hp (by decide)
    rw [mPs_f hp]
    exact rh_wk (lv' := [some (.ref (B 0)), some (.int (nI fr)), none]) (by exact ⟨rfl, rfl, trivial⟩) (rt_231 B u kp ik ps pm dd tx ty rw rm th sz mn pd prc ns tu ba na ca bo tr tH asd pa tg sd sr hX _ hW0 hR hsz hbt (he) (wr) (vl) (tp) (lt) (ra) (pf) (pt) (pl) fr hhe (by omega) (by rw [t5, if_neg (show ¬ (mPq tx sz (he, wr, vl, tp, lt, ra, pf, pt, pl) 6).1 = true from hp)]))
  · skip
    have hp : (mPs (sC tx) sz he wr 6).1 = true := Classical.not_not.mp (fun q => hp (if_neg q))
    have hle := mPs_le (s := sC tx) (wr := wr) (i := 6) hhe
    refine rh_aload_n hX dX8_readsTerms_210 rfl ?_
    refine rh_bipush hX dX8_readsTerms_211 kb_32 ?_
    refine rh_uV hX lk_X8_203 mvX8_expect (fun l => c_X8_expect l E _ _ _ _ _ _ _ _ _ _ _ _ _ _ _ _ _ _ _ _ _ _ _ _ _ _ _ _ _ _ _ _ _ _ _ _ _ _ 32 (by omega) (by omega)) ⟨rfl, rfl⟩ ⟨Nat.le_of_ble_eq_true rfl, Nat.le_of_ble_eq_true rfl⟩ [0, 1, 2, 3, 4, 5, 6, 7, 8, 9, 10, 11, 12] rfl rfl 0 rfl dX8_readsTerms_213 rfl rfl (Nat.le_of_ble_eq_true rfl) rfl ?_
    dsimp only [List.cons_append, List.nil_append, List.set_cons_succ, List.set_cons_zero, vput]
    have hle2 := mExp_le (tx := tx) (wr := wr) (c := 32) (by decide) hle
    refine rh_aload_n hX dX8_readsTerms_216 rfl ?_
    refine rh_aload_n hX dX8_readsTerms_217 rfl ?_
    refine rh_iconst hX dX8_readsTerms_218 ki_0 ?_
    refine rh_ldc2 hX dX8_readsTerms_219 kl_X8_167 ?_
    refine rh_wV hX lk_X8_127 mvX8_number (fun l => c_X8_number l E _ _ _ _ _ _ _ _ _ _ _ _ _ _ _ _ _ _ _ _ _ _ _ _ _ _ _ _ _ _ _ _ _ _ _ _ _ _ 0 50 (by omega) (by omega)) ⟨rfl, rfl⟩ ⟨Nat.le_of_ble_eq_true rfl, Nat.le_of_ble_eq_true rfl⟩ [0, 1, 2, 3, 4, 5, 6, 7, 8, 9, 10, 11, 12] rfl rfl 0 rfl dX8_readsTerms_222 rfl rfl (Nat.le_of_ble_eq_true rfl) rfl ?_
    dsimp only [List.cons_append, List.nil_append, List.set_cons_succ, List.set_cons_zero, vput]
    refine rh_put hX gl_X8_220 0 dX8_readsTerms_225 rfl rfl rfl (Nat.le_of_ble_eq_true rfl) rfl ?_
    dsimp only [List.cons_append, List.nil_append, List.set_cons_succ, List.set_cons_zero, vput]
    refine rh_bipush hX dX8_readsTerms_228 kb_6 ?_
    refine rh_istn1 hX dX8_readsTerms_230 (by decide) rfl ?_
    exact rh_wk (lv' := [some (.ref (B 0)), some (.int (nI 6)), none]) (by exact ⟨rfl, rfl, trivial⟩) (rt_231 B u kp ik ps pm dd tx ty rw rm th sz mn pd prc ns tu ba na ca bo tr tH asd pa tg sd sr hX _ hW0 hR hsz hbt ((mBn tx sz (mPs (sC tx) sz he wr 6).2 wr 50).2.1) ((mBn tx sz (mPs (sC tx) sz he wr 6).2 wr 50).2.2) (vl) (tp) (lt) (ra) ((mBn tx sz (mPs (sC tx) sz he wr 6).2 wr 50).1) (pt) (pl) 6 (by first | exact hle | exact mBn_le hle) (by omega) (by rw [t5, if_pos (show (mPq tx sz (he, wr, vl, tp, lt, ra, pf, pt, pl) 6).1 = true from hp)] <;> rfl))
