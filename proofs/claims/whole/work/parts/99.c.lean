theorem nIa1 {i : Nat} : nI i + 1 = nI (i + 1) := (nI_succ i).symm
theorem nIa2 {i : Nat} : nI i + 2 = nI (i + 2) := by
  rw [show i + 2 = i + 1 + 1 from rfl, nI_succ, nI_succ, Int32.add_assoc]
  rfl
theorem nIa3 {i : Nat} : nI i + 3 = nI (i + 3) := by
  rw [show i + 3 = i + 2 + 1 from rfl, nI_succ, ← nIa2, Int32.add_assoc]
  rfl
theorem nIa4 {i : Nat} : nI i + 4 = nI (i + 4) := by
  rw [show i + 4 = i + 3 + 1 from rfl, nI_succ, ← nIa3, Int32.add_assoc]
  rfl
theorem nIa5 {i : Nat} : nI i + 5 = nI (i + 5) := by
  rw [show i + 5 = i + 4 + 1 from rfl, nI_succ, ← nIa4, Int32.add_assoc]
  rfl
theorem lg_cmp_self {v : Int64} : lg_cmp v v = 0 := by
  unfold lg_cmp
  simp


set_option maxRecDepth 100000 in
set_option maxHeartbeats 4000000 in
theorem lc_sign {X : rhX} {E : rhE} {A B : Nat → Nat} {b0 L o i a b : Nat} {xs : Nat → Int32} {wc wm w3 d1 d2 : va_W} {f1 f2 : List Value} (hX : Ok X E RL cL_law room_1 8) (hR : RtL X b0 L xs a b) (hi : i + 5 ≤ L) (hL : L ≤ 2560) (h1 : wc = (A 0, .inr (7, f1)) :: d1) (h2 : wm = (B 0, .inr (8, f2)) :: d2) (S : StpC Value.int E A B wc wm yX7_sign cX7_sign 2 (some .int) (rmL 1) yX8_sign cX8_sign 3 (some .int) (rmL 0) [.int (xs (i + 1))]) (k : ∀ (C : CT) (T Tk : Nat) (Z : ZT) (u : Nat → Int32) (kp : Nat → Int32) (ik : Int32) (ps : Nat → Int32) (pm : Nat) (dd : Int32) (tx : Nat → Int32) (ty : Nat) (rw : Nat → Int64) (rm : Nat) (th : Int32) (sz : Nat) (he : Nat) (wr : Int32) (mn : Nat → Int32) (vl : Int32) (tp : Int32) (lt : Int32) (ra : Int32) (pf : Int32) (pt : Int32) (pl : Int32) (pd : Int64) (prc : Int64) (ns : Int64) (tu : Nat) (ba : Int64) (na : Int64) (ca : Nat → Int64) (bo : Nat → Int32) (tr : Nat → Int64) (tH : Int32) (asd : Nat → Int32) (pa : Nat → Int64) (tg : Nat → Int64) (sd : Int64) (sr : Int64), rl C T Tk u kp ik ps pm dd tx ty rw rm → zOk Z → G X 1754 [some (.ref b0), some (.ref (A 0)), some (.ref (B 0)), some (.ref o), some (.int (nI i)), none, none, none] [] (wC E A C Z ++ (wM E B u kp ik ps pm dd tx ty rw rm th sz he wr mn vl tp lt ra pf pt pl pd prc ns tu ba na ca bo tr tH asd pa tg sd sr ++ w3))) : G X 256 [some (.ref b0), some (.ref (A 0)), some (.ref (B 0)), some (.ref o), some (.int (nI i)), none, none, none] [] (wc ++ (wm ++ w3)) := by
  obtain ⟨P1, P2, S1, S2, S3⟩ := S
  refine rh_aload_n hX dL_law_256 rfl ?_
  refine rh_aload_n hX dL_law_257 rfl ?_
  refine rh_iload hX dL_law_258 rfl ?_
  refine rh_iconst hX dL_law_260 ki_1 ?_
  refine rh_iadd hX dL_law_261 ?_
  refine rq_sld hX hR (i + 1) dL_law_262 nIa1 (by omega) (by omega) ?_
  refine rh_cL hX (wc := wc) (wr := wm ++ w3) (As := [.int (xs (i + 1))]) (rest := []) lk_L_19 mvX7_sign S1 ⟨rfl, rfl⟩ ⟨Nat.le_of_ble_eq_true rfl, Nat.le_of_ble_eq_true rfl⟩ h1 dL_law_263 rfl rfl (Nat.le_of_ble_eq_true rfl) (fun r1 w1 hp1 => ?_)
  obtain ⟨v, rfl, S4⟩ := S3 r1 w1 hp1
  show G X 266 [some (.ref b0), some (.ref (A 0)), some (.ref (B 0)), some (.ref o), some (.int (nI i)), none, none, none] [.int v] (w1 ++ (wm ++ w3))
  refine rh_aload_n hX dL_law_266 rfl ?_
  refine rh_aload_n hX dL_law_267 rfl ?_
  refine rh_iload hX dL_law_268 rfl ?_
  refine rh_iconst hX dL_law_270 ki_1 ?_
  refine rh_iadd hX dL_law_271 ?_
  refine rq_sld hX hR (i + 1) dL_law_272 nIa1 (by omega) (by omega) ?_
  refine rh_cM hX (wa := w1) (wc := wm) (wr := w3) (As := [.int (xs (i + 1))]) (rest := [.int v]) lk_L_23 mvX8_sign S2 ⟨rfl, rfl⟩ ⟨Nat.le_of_ble_eq_true rfl, Nat.le_of_ble_eq_true rfl⟩ h2 dL_law_273 rfl rfl (Nat.le_of_ble_eq_true rfl) (fun r2 w2 hp2 => ?_)
  obtain ⟨rfl, hg⟩ := S4 r2 w2 hp2
  show G X 276 [some (.ref b0), some (.ref (A 0)), some (.ref (B 0)), some (.ref o), some (.int (nI i)), none, none, none] [.int v, .int v] (w1 ++ (w2 ++ w3))
  refine rh_icmp_eq_t hX dL_law_276 (tgt := 1754) (by decide) rfl ?_
  exact hg X 1754 [some (.ref b0), some (.ref (A 0)), some (.ref (B 0)), some (.ref o), some (.int (nI i)), none, none, none] [] w3 k

set_option maxRecDepth 100000 in
set_option maxHeartbeats 4000000 in
theorem lc_end {X : rhX} {E : rhE} {A B : Nat → Nat} {b0 L o i a b : Nat} {xs : Nat → Int32} {wc wm w3 d1 d2 : va_W} {f1 f2 : List Value} (hX : Ok X E RL cL_law room_1 8) (hR : RtL X b0 L xs a b) (hi : i + 5 ≤ L) (hL : L ≤ 2560) (h1 : wc = (A 0, .inr (7, f1)) :: d1) (h2 : wm = (B 0, .inr (8, f2)) :: d2) (S : StpC Value.int E A B wc wm yX7_end cX7_end 2 (some .boolean) (rmL 1) yX8_end cX8_end 2 (some .boolean) (rmL 1) [.int (xs (i + 1))]) (k : ∀ (C : CT) (T Tk : Nat) (Z : ZT) (u : Nat → Int32) (kp : Nat → Int32) (ik : Int32) (ps : Nat → Int32) (pm : Nat) (dd : Int32) (tx : Nat → Int32) (ty : Nat) (rw : Nat → Int64) (rm : Nat) (th : Int32) (sz : Nat) (he : Nat) (wr : Int32) (mn : Nat → Int32) (vl : Int32) (tp : Int32) (lt : Int32) (ra : Int32) (pf : Int32) (pt : Int32) (pl : Int32) (pd : Int64) (prc : Int64) (ns : Int64) (tu : Nat) (ba : Int64) (na : Int64) (ca : Nat → Int64) (bo : Nat → Int32) (tr : Nat → Int64) (tH : Int32) (asd : Nat → Int32) (pa : Nat → Int64) (tg : Nat → Int64) (sd : Int64) (sr : Int64), rl C T Tk u kp ik ps pm dd tx ty rw rm → zOk Z → G X 1754 [some (.ref b0), some (.ref (A 0)), some (.ref (B 0)), some (.ref o), some (.int (nI i)), none, none, none] [] (wC E A C Z ++ (wM E B u kp ik ps pm dd tx ty rw rm th sz he wr mn vl tp lt ra pf pt pl pd prc ns tu ba na ca bo tr tH asd pa tg sd sr ++ w3))) : G X 281 [some (.ref b0), some (.ref (A 0)), some (.ref (B 0)), some (.ref o), some (.int (nI i)), none, none, none] [] (wc ++ (wm ++ w3)) := by
  obtain ⟨P1, P2, S1, S2, S3⟩ := S
  refine rh_aload_n hX dL_law_281 rfl ?_
  refine rh_aload_n hX dL_law_282 rfl ?_
  refine rh_iload hX dL_law_283 rfl ?_
  refine rh_iconst hX dL_law_285 ki_1 ?_
  refine rh_iadd hX dL_law_286 ?_
  refine rq_sld hX hR (i + 1) dL_law_287 nIa1 (by omega) (by omega) ?_
  refine rh_cL hX (wc := wc) (wr := wm ++ w3) (As := [.int (xs (i + 1))]) (rest := []) lk_L_24 mvX7_end S1 ⟨rfl, rfl⟩ ⟨Nat.le_of_ble_eq_true rfl, Nat.le_of_ble_eq_true rfl⟩ h1 dL_law_288 rfl rfl (Nat.le_of_ble_eq_true rfl) (fun r1 w1 hp1 => ?_)
  obtain ⟨v, rfl, S4⟩ := S3 r1 w1 hp1
  show G X 291 [some (.ref b0), some (.ref (A 0)), some (.ref (B 0)), some (.ref o), some (.int (nI i)), none, none, none] [.int v] (w1 ++ (wm ++ w3))
  refine rh_aload_n hX dL_law_291 rfl ?_
  refine rh_aload_n hX dL_law_292 rfl ?_
  refine rh_iload hX dL_law_293 rfl ?_
  refine rh_iconst hX dL_law_295 ki_1 ?_
  refine rh_iadd hX dL_law_296 ?_
  refine rq_sld hX hR (i + 1) dL_law_297 nIa1 (by omega) (by omega) ?_
  refine rh_cM hX (wa := w1) (wc := wm) (wr := w3) (As := [.int (xs (i + 1))]) (rest := [.int v]) lk_L_28 mvX8_end S2 ⟨rfl, rfl⟩ ⟨Nat.le_of_ble_eq_true rfl, Nat.le_of_ble_eq_true rfl⟩ h2 dL_law_298 rfl rfl (Nat.le_of_ble_eq_true rfl) (fun r2 w2 hp2 => ?_)
  obtain ⟨rfl, hg⟩ := S4 r2 w2 hp2
  show G X 301 [some (.ref b0), some (.ref (A 0)), some (.ref (B 0)), some (.ref o), some (.int (nI i)), none, none, none] [.int v, .int v] (w1 ++ (w2 ++ w3))
  refine rh_icmp_eq_t hX dL_law_301 (tgt := 1754) (by decide) rfl ?_
  exact hg X 1754 [some (.ref b0), some (.ref (A 0)), some (.ref (B 0)), some (.ref o), some (.int (nI i)), none, none, none] [] w3 k

set_option maxRecDepth 100000 in
set_option maxHeartbeats 4000000 in
theorem lc_founds {X : rhX} {E : rhE} {A B : Nat → Nat} {b0 L o i a b : Nat} {xs : Nat → Int32} {wc wm w3 d1 d2 : va_W} {f1 f2 : List Value} (hX : Ok X E RL cL_law room_1 8) (hR : RtL X b0 L xs a b) (hi : i + 5 ≤ L) (hL : L ≤ 2560) (h1 : wc = (A 0, .inr (7, f1)) :: d1) (h2 : wm = (B 0, .inr (8, f2)) :: d2) (S : StpC Value.int E A B wc wm yX7_founds cX7_founds 4 (some .int) (rmL 5) yX8_founds cX8_founds 4 (some .int) (rmL 5) []) (k : ∀ (C : CT) (T Tk : Nat) (Z : ZT) (u : Nat → Int32) (kp : Nat → Int32) (ik : Int32) (ps : Nat → Int32) (pm : Nat) (dd : Int32) (tx : Nat → Int32) (ty : Nat) (rw : Nat → Int64) (rm : Nat) (th : Int32) (sz : Nat) (he : Nat) (wr : Int32) (mn : Nat → Int32) (vl : Int32) (tp : Int32) (lt : Int32) (ra : Int32) (pf : Int32) (pt : Int32) (pl : Int32) (pd : Int64) (prc : Int64) (ns : Int64) (tu : Nat) (ba : Int64) (na : Int64) (ca : Nat → Int64) (bo : Nat → Int32) (tr : Nat → Int64) (tH : Int32) (asd : Nat → Int32) (pa : Nat → Int64) (tg : Nat → Int64) (sd : Int64) (sr : Int64), rl C T Tk u kp ik ps pm dd tx ty rw rm → zOk Z → G X 1754 [some (.ref b0), some (.ref (A 0)), some (.ref (B 0)), some (.ref o), some (.int (nI i)), none, none, none] [] (wC E A C Z ++ (wM E B u kp ik ps pm dd tx ty rw rm th sz he wr mn vl tp lt ra pf pt pl pd prc ns tu ba na ca bo tr tH asd pa tg sd sr ++ w3))) : G X 306 [some (.ref b0), some (.ref (A 0)), some (.ref (B 0)), some (.ref o), some (.int (nI i)), none, none, none] [] (wc ++ (wm ++ w3)) := by
  obtain ⟨P1, P2, S1, S2, S3⟩ := S
  refine rh_aload_n hX dL_law_306 rfl ?_
  refine rh_cL hX (wc := wc) (wr := wm ++ w3) (As := []) (rest := []) lk_L_29 mvX7_founds S1 ⟨rfl, rfl⟩ ⟨Nat.le_of_ble_eq_true rfl, Nat.le_of_ble_eq_true rfl⟩ h1 dL_law_307 rfl rfl (Nat.le_of_ble_eq_true rfl) (fun r1 w1 hp1 => ?_)
  obtain ⟨v, rfl, S4⟩ := S3 r1 w1 hp1
  show G X 310 [some (.ref b0), some (.ref (A 0)), some (.ref (B 0)), some (.ref o), some (.int (nI i)), none, none, none] [.int v] (w1 ++ (wm ++ w3))
  refine rh_aload_n hX dL_law_310 rfl ?_
  refine rh_cM hX (wa := w1) (wc := wm) (wr := w3) (As := []) (rest := [.int v]) lk_L_33 mvX8_founds S2 ⟨rfl, rfl⟩ ⟨Nat.le_of_ble_eq_true rfl, Nat.le_of_ble_eq_true rfl⟩ h2 dL_law_311 rfl rfl (Nat.le_of_ble_eq_true rfl) (fun r2 w2 hp2 => ?_)
  obtain ⟨rfl, hg⟩ := S4 r2 w2 hp2
  show G X 314 [some (.ref b0), some (.ref (A 0)), some (.ref (B 0)), some (.ref o), some (.int (nI i)), none, none, none] [.int v, .int v] (w1 ++ (w2 ++ w3))
  refine rh_icmp_eq_t hX dL_law_314 (tgt := 1754) (by decide) rfl ?_
  exact hg X 1754 [some (.ref b0), some (.ref (A 0)), some (.ref (B 0)), some (.ref o), some (.int (nI i)), none, none, none] [] w3 k

set_option maxRecDepth 100000 in
set_option maxHeartbeats 4000000 in
theorem lc_issues {X : rhX} {E : rhE} {A B : Nat → Nat} {b0 L o i a b : Nat} {xs : Nat → Int32} {wc wm w3 d1 d2 : va_W} {f1 f2 : List Value} (hX : Ok X E RL cL_law room_1 8) (hR : RtL X b0 L xs a b) (hi : i + 5 ≤ L) (hL : L ≤ 2560) (h1 : wc = (A 0, .inr (7, f1)) :: d1) (h2 : wm = (B 0, .inr (8, f2)) :: d2) (S : StpC Value.int E A B wc wm yX7_issues cX7_issues 3 (some .int) (rmL 5) yX8_issues cX8_issues 3 (some .int) (rmL 6) [.int (xs (i + 1)), .int (xs (i + 2))]) (k : ∀ (C : CT) (T Tk : Nat) (Z : ZT) (u : Nat → Int32) (kp : Nat → Int32) (ik : Int32) (ps : Nat → Int32) (pm : Nat) (dd : Int32) (tx : Nat → Int32) (ty : Nat) (rw : Nat → Int64) (rm : Nat) (th : Int32) (sz : Nat) (he : Nat) (wr : Int32) (mn : Nat → Int32) (vl : Int32) (tp : Int32) (lt : Int32) (ra : Int32) (pf : Int32) (pt : Int32) (pl : Int32) (pd : Int64) (prc : Int64) (ns : Int64) (tu : Nat) (ba : Int64) (na : Int64) (ca : Nat → Int64) (bo : Nat → Int32) (tr : Nat → Int64) (tH : Int32) (asd : Nat → Int32) (pa : Nat → Int64) (tg : Nat → Int64) (sd : Int64) (sr : Int64), rl C T Tk u kp ik ps pm dd tx ty rw rm → zOk Z → G X 1754 [some (.ref b0), some (.ref (A 0)), some (.ref (B 0)), some (.ref o), some (.int (nI i)), none, none, none] [] (wC E A C Z ++ (wM E B u kp ik ps pm dd tx ty rw rm th sz he wr mn vl tp lt ra pf pt pl pd prc ns tu ba na ca bo tr tH asd pa tg sd sr ++ w3))) : G X 319 [some (.ref b0), some (.ref (A 0)), some (.ref (B 0)), some (.ref o), some (.int (nI i)), none, none, none] [] (wc ++ (wm ++ w3)) := by
  obtain ⟨P1, P2, S1, S2, S3⟩ := S
  refine rh_aload_n hX dL_law_319 rfl ?_
  refine rh_aload_n hX dL_law_320 rfl ?_
  refine rh_iload hX dL_law_321 rfl ?_
  refine rh_iconst hX dL_law_323 ki_1 ?_
  refine rh_iadd hX dL_law_324 ?_
  refine rq_sld hX hR (i + 1) dL_law_325 nIa1 (by omega) (by omega) ?_
  refine rh_aload_n hX dL_law_326 rfl ?_
  refine rh_iload hX dL_law_327 rfl ?_
  refine rh_iconst hX dL_law_329 ki_2 ?_
  refine rh_iadd hX dL_law_330 ?_
  refine rq_sld hX hR (i + 2) dL_law_331 nIa2 (by omega) (by omega) ?_
  refine rh_cL hX (wc := wc) (wr := wm ++ w3) (As := [.int (xs (i + 1)), .int (xs (i + 2))]) (rest := []) lk_L_34 mvX7_issues S1 ⟨rfl, rfl⟩ ⟨Nat.le_of_ble_eq_true rfl, Nat.le_of_ble_eq_true rfl⟩ h1 dL_law_332 rfl rfl (Nat.le_of_ble_eq_true rfl) (fun r1 w1 hp1 => ?_)
  obtain ⟨v, rfl, S4⟩ := S3 r1 w1 hp1
  show G X 335 [some (.ref b0), some (.ref (A 0)), some (.ref (B 0)), some (.ref o), some (.int (nI i)), none, none, none] [.int v] (w1 ++ (wm ++ w3))
  refine rh_aload_n hX dL_law_335 rfl ?_
  refine rh_aload_n hX dL_law_336 rfl ?_
  refine rh_iload hX dL_law_337 rfl ?_
  refine rh_iconst hX dL_law_339 ki_1 ?_
  refine rh_iadd hX dL_law_340 ?_
  refine rq_sld hX hR (i + 1) dL_law_341 nIa1 (by omega) (by omega) ?_
  refine rh_aload_n hX dL_law_342 rfl ?_
  refine rh_iload hX dL_law_343 rfl ?_
  refine rh_iconst hX dL_law_345 ki_2 ?_
  refine rh_iadd hX dL_law_346 ?_
  refine rq_sld hX hR (i + 2) dL_law_347 nIa2 (by omega) (by omega) ?_
  refine rh_cM hX (wa := w1) (wc := wm) (wr := w3) (As := [.int (xs (i + 1)), .int (xs (i + 2))]) (rest := [.int v]) lk_L_38 mvX8_issues S2 ⟨rfl, rfl⟩ ⟨Nat.le_of_ble_eq_true rfl, Nat.le_of_ble_eq_true rfl⟩ h2 dL_law_348 rfl rfl (Nat.le_of_ble_eq_true rfl) (fun r2 w2 hp2 => ?_)
  obtain ⟨rfl, hg⟩ := S4 r2 w2 hp2
  show G X 351 [some (.ref b0), some (.ref (A 0)), some (.ref (B 0)), some (.ref o), some (.int (nI i)), none, none, none] [.int v, .int v] (w1 ++ (w2 ++ w3))
  refine rh_icmp_eq_t hX dL_law_351 (tgt := 1754) (by decide) rfl ?_
  exact hg X 1754 [some (.ref b0), some (.ref (A 0)), some (.ref (B 0)), some (.ref o), some (.int (nI i)), none, none, none] [] w3 k

set_option maxRecDepth 100000 in
set_option maxHeartbeats 4000000 in
theorem lc_cancels {X : rhX} {E : rhE} {A B : Nat → Nat} {b0 L o i a b : Nat} {xs : Nat → Int32} {wc wm w3 d1 d2 : va_W} {f1 f2 : List Value} (hX : Ok X E RL cL_law room_1 8) (hR : RtL X b0 L xs a b) (hi : i + 5 ≤ L) (hL : L ≤ 2560) (h1 : wc = (A 0, .inr (7, f1)) :: d1) (h2 : wm = (B 0, .inr (8, f2)) :: d2) (S : StpC Value.int E A B wc wm yX7_cancels cX7_cancels 4 (some .int) (rmL 5) yX8_cancels cX8_cancels 4 (some .int) (rmL 6) [.int (xs (i + 1)), .int (xs (i + 2)), .int (xs (i + 3))]) (k : ∀ (C : CT) (T Tk : Nat) (Z : ZT) (u : Nat → Int32) (kp : Nat → Int32) (ik : Int32) (ps : Nat → Int32) (pm : Nat) (dd : Int32) (tx : Nat → Int32) (ty : Nat) (rw : Nat → Int64) (rm : Nat) (th : Int32) (sz : Nat) (he : Nat) (wr : Int32) (mn : Nat → Int32) (vl : Int32) (tp : Int32) (lt : Int32) (ra : Int32) (pf : Int32) (pt : Int32) (pl : Int32) (pd : Int64) (prc : Int64) (ns : Int64) (tu : Nat) (ba : Int64) (na : Int64) (ca : Nat → Int64) (bo : Nat → Int32) (tr : Nat → Int64) (tH : Int32) (asd : Nat → Int32) (pa : Nat → Int64) (tg : Nat → Int64) (sd : Int64) (sr : Int64), rl C T Tk u kp ik ps pm dd tx ty rw rm → zOk Z → G X 1754 [some (.ref b0), some (.ref (A 0)), some (.ref (B 0)), some (.ref o), some (.int (nI i)), none, none, none] [] (wC E A C Z ++ (wM E B u kp ik ps pm dd tx ty rw rm th sz he wr mn vl tp lt ra pf pt pl pd prc ns tu ba na ca bo tr tH asd pa tg sd sr ++ w3))) : G X 356 [some (.ref b0), some (.ref (A 0)), some (.ref (B 0)), some (.ref o), some (.int (nI i)), none, none, none] [] (wc ++ (wm ++ w3)) := by
  obtain ⟨P1, P2, S1, S2, S3⟩ := S
  refine rh_aload_n hX dL_law_356 rfl ?_
  refine rh_aload_n hX dL_law_357 rfl ?_
  refine rh_iload hX dL_law_358 rfl ?_
  refine rh_iconst hX dL_law_360 ki_1 ?_
  refine rh_iadd hX dL_law_361 ?_
  refine rq_sld hX hR (i + 1) dL_law_362 nIa1 (by omega) (by omega) ?_
  refine rh_aload_n hX dL_law_363 rfl ?_
  refine rh_iload hX dL_law_364 rfl ?_
  refine rh_iconst hX dL_law_366 ki_2 ?_
  refine rh_iadd hX dL_law_367 ?_
  refine rq_sld hX hR (i + 2) dL_law_368 nIa2 (by omega) (by omega) ?_
  refine rh_aload_n hX dL_law_369 rfl ?_
  refine rh_iload hX dL_law_370 rfl ?_
  refine rh_iconst hX dL_law_372 ki_3 ?_
  refine rh_iadd hX dL_law_373 ?_
  refine rq_sld hX hR (i + 3) dL_law_374 nIa3 (by omega) (by omega) ?_
  refine rh_cL hX (wc := wc) (wr := wm ++ w3) (As := [.int (xs (i + 1)), .int (xs (i + 2)), .int (xs (i + 3))]) (rest := []) lk_L_39 mvX7_cancels S1 ⟨rfl, rfl⟩ ⟨Nat.le_of_ble_eq_true rfl, Nat.le_of_ble_eq_true rfl⟩ h1 dL_law_375 rfl rfl (Nat.le_of_ble_eq_true rfl) (fun r1 w1 hp1 => ?_)
  obtain ⟨v, rfl, S4⟩ := S3 r1 w1 hp1
  show G X 378 [some (.ref b0), some (.ref (A 0)), some (.ref (B 0)), some (.ref o), some (.int (nI i)), none, none, none] [.int v] (w1 ++ (wm ++ w3))
  refine rh_aload_n hX dL_law_378 rfl ?_
  refine rh_aload_n hX dL_law_379 rfl ?_
  refine rh_iload hX dL_law_380 rfl ?_
  refine rh_iconst hX dL_law_382 ki_1 ?_
  refine rh_iadd hX dL_law_383 ?_
  refine rq_sld hX hR (i + 1) dL_law_384 nIa1 (by omega) (by omega) ?_
  refine rh_aload_n hX dL_law_385 rfl ?_
  refine rh_iload hX dL_law_386 rfl ?_
  refine rh_iconst hX dL_law_388 ki_2 ?_
  refine rh_iadd hX dL_law_389 ?_
  refine rq_sld hX hR (i + 2) dL_law_390 nIa2 (by omega) (by omega) ?_
  refine rh_aload_n hX dL_law_391 rfl ?_
  refine rh_iload hX dL_law_392 rfl ?_
  refine rh_iconst hX dL_law_394 ki_3 ?_
  refine rh_iadd hX dL_law_395 ?_
  refine rq_sld hX hR (i + 3) dL_law_396 nIa3 (by omega) (by omega) ?_
  refine rh_cM hX (wa := w1) (wc := wm) (wr := w3) (As := [.int (xs (i + 1)), .int (xs (i + 2)), .int (xs (i + 3))]) (rest := [.int v]) lk_L_43 mvX8_cancels S2 ⟨rfl, rfl⟩ ⟨Nat.le_of_ble_eq_true rfl, Nat.le_of_ble_eq_true rfl⟩ h2 dL_law_397 rfl rfl (Nat.le_of_ble_eq_true rfl) (fun r2 w2 hp2 => ?_)
  obtain ⟨rfl, hg⟩ := S4 r2 w2 hp2
  show G X 400 [some (.ref b0), some (.ref (A 0)), some (.ref (B 0)), some (.ref o), some (.int (nI i)), none, none, none] [.int v, .int v] (w1 ++ (w2 ++ w3))
  refine rh_icmp_eq_t hX dL_law_400 (tgt := 1754) (by decide) rfl ?_
  exact hg X 1754 [some (.ref b0), some (.ref (A 0)), some (.ref (B 0)), some (.ref o), some (.int (nI i)), none, none, none] [] w3 k

set_option maxRecDepth 100000 in
set_option maxHeartbeats 4000000 in
theorem lc_pool {X : rhX} {E : rhE} {A B : Nat → Nat} {b0 L o i a b : Nat} {xs : Nat → Int32} {wc wm w3 d1 d2 : va_W} {f1 f2 : List Value} (hX : Ok X E RL cL_law room_1 8) (hR : RtL X b0 L xs a b) (hi : i + 5 ≤ L) (hL : L ≤ 2560) (h1 : wc = (A 0, .inr (7, f1)) :: d1) (h2 : wm = (B 0, .inr (8, f2)) :: d2) (S : StpC Value.int E A B wc wm yX7_pool cX7_pool 3 (some .int) (rmL 5) yX8_pool cX8_pool 3 (some .int) (rmL 6) [.int (xs (i + 1))]) (k : ∀ (C : CT) (T Tk : Nat) (Z : ZT) (u : Nat → Int32) (kp : Nat → Int32) (ik : Int32) (ps : Nat → Int32) (pm : Nat) (dd : Int32) (tx : Nat → Int32) (ty : Nat) (rw : Nat → Int64) (rm : Nat) (th : Int32) (sz : Nat) (he : Nat) (wr : Int32) (mn : Nat → Int32) (vl : Int32) (tp : Int32) (lt : Int32) (ra : Int32) (pf : Int32) (pt : Int32) (pl : Int32) (pd : Int64) (prc : Int64) (ns : Int64) (tu : Nat) (ba : Int64) (na : Int64) (ca : Nat → Int64) (bo : Nat → Int32) (tr : Nat → Int64) (tH : Int32) (asd : Nat → Int32) (pa : Nat → Int64) (tg : Nat → Int64) (sd : Int64) (sr : Int64), rl C T Tk u kp ik ps pm dd tx ty rw rm → zOk Z → G X 1754 [some (.ref b0), some (.ref (A 0)), some (.ref (B 0)), some (.ref o), some (.int (nI i)), none, none, none] [] (wC E A C Z ++ (wM E B u kp ik ps pm dd tx ty rw rm th sz he wr mn vl tp lt ra pf pt pl pd prc ns tu ba na ca bo tr tH asd pa tg sd sr ++ w3))) : G X 405 [some (.ref b0), some (.ref (A 0)), some (.ref (B 0)), some (.ref o), some (.int (nI i)), none, none, none] [] (wc ++ (wm ++ w3)) := by
  obtain ⟨P1, P2, S1, S2, S3⟩ := S
  refine rh_aload_n hX dL_law_405 rfl ?_
  refine rh_aload_n hX dL_law_406 rfl ?_
  refine rh_iload hX dL_law_407 rfl ?_
  refine rh_iconst hX dL_law_409 ki_1 ?_
  refine rh_iadd hX dL_law_410 ?_
  refine rq_sld hX hR (i + 1) dL_law_411 nIa1 (by omega) (by omega) ?_
  refine rh_cL hX (wc := wc) (wr := wm ++ w3) (As := [.int (xs (i + 1))]) (rest := []) lk_L_44 mvX7_pool S1 ⟨rfl, rfl⟩ ⟨Nat.le_of_ble_eq_true rfl, Nat.le_of_ble_eq_true rfl⟩ h1 dL_law_412 rfl rfl (Nat.le_of_ble_eq_true rfl) (fun r1 w1 hp1 => ?_)
  obtain ⟨v, rfl, S4⟩ := S3 r1 w1 hp1
  show G X 415 [some (.ref b0), some (.ref (A 0)), some (.ref (B 0)), some (.ref o), some (.int (nI i)), none, none, none] [.int v] (w1 ++ (wm ++ w3))
  refine rh_aload_n hX dL_law_415 rfl ?_
  refine rh_aload_n hX dL_law_416 rfl ?_
  refine rh_iload hX dL_law_417 rfl ?_
  refine rh_iconst hX dL_law_419 ki_1 ?_
  refine rh_iadd hX dL_law_420 ?_
  refine rq_sld hX hR (i + 1) dL_law_421 nIa1 (by omega) (by omega) ?_
  refine rh_cM hX (wa := w1) (wc := wm) (wr := w3) (As := [.int (xs (i + 1))]) (rest := [.int v]) lk_L_47 mvX8_pool S2 ⟨rfl, rfl⟩ ⟨Nat.le_of_ble_eq_true rfl, Nat.le_of_ble_eq_true rfl⟩ h2 dL_law_422 rfl rfl (Nat.le_of_ble_eq_true rfl) (fun r2 w2 hp2 => ?_)
  obtain ⟨rfl, hg⟩ := S4 r2 w2 hp2
  show G X 425 [some (.ref b0), some (.ref (A 0)), some (.ref (B 0)), some (.ref o), some (.int (nI i)), none, none, none] [.int v, .int v] (w1 ++ (w2 ++ w3))
  refine rh_icmp_eq_t hX dL_law_425 (tgt := 1754) (by decide) rfl ?_
  exact hg X 1754 [some (.ref b0), some (.ref (A 0)), some (.ref (B 0)), some (.ref o), some (.int (nI i)), none, none, none] [] w3 k

set_option maxRecDepth 100000 in
set_option maxHeartbeats 4000000 in
theorem lc_grant {X : rhX} {E : rhE} {A B : Nat → Nat} {b0 L o i a b : Nat} {xs : Nat → Int32} {wc wm w3 d1 d2 : va_W} {f1 f2 : List Value} (hX : Ok X E RL cL_law room_1 8) (hR : RtL X b0 L xs a b) (hi : i + 5 ≤ L) (hL : L ≤ 2560) (h1 : wc = (A 0, .inr (7, f1)) :: d1) (h2 : wm = (B 0, .inr (8, f2)) :: d2) (S : StpC Value.int E A B wc wm yX7_grant cX7_grant 3 (some .int) (rmL 5) yX8_grant cX8_grant 3 (some .int) (rmL 6) [.int (xs (i + 1)), .int (xs (i + 2))]) (k : ∀ (C : CT) (T Tk : Nat) (Z : ZT) (u : Nat → Int32) (kp : Nat → Int32) (ik : Int32) (ps : Nat → Int32) (pm : Nat) (dd : Int32) (tx : Nat → Int32) (ty : Nat) (rw : Nat → Int64) (rm : Nat) (th : Int32) (sz : Nat) (he : Nat) (wr : Int32) (mn : Nat → Int32) (vl : Int32) (tp : Int32) (lt : Int32) (ra : Int32) (pf : Int32) (pt : Int32) (pl : Int32) (pd : Int64) (prc : Int64) (ns : Int64) (tu : Nat) (ba : Int64) (na : Int64) (ca : Nat → Int64) (bo : Nat → Int32) (tr : Nat → Int64) (tH : Int32) (asd : Nat → Int32) (pa : Nat → Int64) (tg : Nat → Int64) (sd : Int64) (sr : Int64), rl C T Tk u kp ik ps pm dd tx ty rw rm → zOk Z → G X 1754 [some (.ref b0), some (.ref (A 0)), some (.ref (B 0)), some (.ref o), some (.int (nI i)), none, none, none] [] (wC E A C Z ++ (wM E B u kp ik ps pm dd tx ty rw rm th sz he wr mn vl tp lt ra pf pt pl pd prc ns tu ba na ca bo tr tH asd pa tg sd sr ++ w3))) : G X 430 [some (.ref b0), some (.ref (A 0)), some (.ref (B 0)), some (.ref o), some (.int (nI i)), none, none, none] [] (wc ++ (wm ++ w3)) := by
  obtain ⟨P1, P2, S1, S2, S3⟩ := S
  refine rh_aload_n hX dL_law_430 rfl ?_
  refine rh_aload_n hX dL_law_431 rfl ?_
  refine rh_iload hX dL_law_432 rfl ?_
  refine rh_iconst hX dL_law_434 ki_1 ?_
  refine rh_iadd hX dL_law_435 ?_
  refine rq_sld hX hR (i + 1) dL_law_436 nIa1 (by omega) (by omega) ?_
  refine rh_aload_n hX dL_law_437 rfl ?_
  refine rh_iload hX dL_law_438 rfl ?_
  refine rh_iconst hX dL_law_440 ki_2 ?_
  refine rh_iadd hX dL_law_441 ?_
  refine rq_sld hX hR (i + 2) dL_law_442 nIa2 (by omega) (by omega) ?_
  refine rh_cL hX (wc := wc) (wr := wm ++ w3) (As := [.int (xs (i + 1)), .int (xs (i + 2))]) (rest := []) lk_L_48 mvX7_grant S1 ⟨rfl, rfl⟩ ⟨Nat.le_of_ble_eq_true rfl, Nat.le_of_ble_eq_true rfl⟩ h1 dL_law_443 rfl rfl (Nat.le_of_ble_eq_true rfl) (fun r1 w1 hp1 => ?_)
  obtain ⟨v, rfl, S4⟩ := S3 r1 w1 hp1
  show G X 446 [some (.ref b0), some (.ref (A 0)), some (.ref (B 0)), some (.ref o), some (.int (nI i)), none, none, none] [.int v] (w1 ++ (wm ++ w3))
  refine rh_aload_n hX dL_law_446 rfl ?_
  refine rh_aload_n hX dL_law_447 rfl ?_
  refine rh_iload hX dL_law_448 rfl ?_
  refine rh_iconst hX dL_law_450 ki_1 ?_
  refine rh_iadd hX dL_law_451 ?_
  refine rq_sld hX hR (i + 1) dL_law_452 nIa1 (by omega) (by omega) ?_
  refine rh_aload_n hX dL_law_453 rfl ?_
  refine rh_iload hX dL_law_454 rfl ?_
  refine rh_iconst hX dL_law_456 ki_2 ?_
  refine rh_iadd hX dL_law_457 ?_
  refine rq_sld hX hR (i + 2) dL_law_458 nIa2 (by omega) (by omega) ?_
  refine rh_cM hX (wa := w1) (wc := wm) (wr := w3) (As := [.int (xs (i + 1)), .int (xs (i + 2))]) (rest := [.int v]) lk_L_51 mvX8_grant S2 ⟨rfl, rfl⟩ ⟨Nat.le_of_ble_eq_true rfl, Nat.le_of_ble_eq_true rfl⟩ h2 dL_law_459 rfl rfl (Nat.le_of_ble_eq_true rfl) (fun r2 w2 hp2 => ?_)
  obtain ⟨rfl, hg⟩ := S4 r2 w2 hp2
  show G X 462 [some (.ref b0), some (.ref (A 0)), some (.ref (B 0)), some (.ref o), some (.int (nI i)), none, none, none] [.int v, .int v] (w1 ++ (w2 ++ w3))
  refine rh_icmp_eq_t hX dL_law_462 (tgt := 1754) (by decide) rfl ?_
  exact hg X 1754 [some (.ref b0), some (.ref (A 0)), some (.ref (B 0)), some (.ref o), some (.int (nI i)), none, none, none] [] w3 k

set_option maxRecDepth 100000 in
set_option maxHeartbeats 4000000 in
theorem lc_exercise {X : rhX} {E : rhE} {A B : Nat → Nat} {b0 L o i a b : Nat} {xs : Nat → Int32} {wc wm w3 d1 d2 : va_W} {f1 f2 : List Value} (hX : Ok X E RL cL_law room_1 8) (hR : RtL X b0 L xs a b) (hi : i + 5 ≤ L) (hL : L ≤ 2560) (h1 : wc = (A 0, .inr (7, f1)) :: d1) (h2 : wm = (B 0, .inr (8, f2)) :: d2) (S : StpC Value.int E A B wc wm yX7_exercise cX7_exercise 3 (some .int) (rmL 5) yX8_exercise cX8_exercise 3 (some .int) (rmL 6) [.int (xs (i + 1)), .int (xs (i + 2))]) (k : ∀ (C : CT) (T Tk : Nat) (Z : ZT) (u : Nat → Int32) (kp : Nat → Int32) (ik : Int32) (ps : Nat → Int32) (pm : Nat) (dd : Int32) (tx : Nat → Int32) (ty : Nat) (rw : Nat → Int64) (rm : Nat) (th : Int32) (sz : Nat) (he : Nat) (wr : Int32) (mn : Nat → Int32) (vl : Int32) (tp : Int32) (lt : Int32) (ra : Int32) (pf : Int32) (pt : Int32) (pl : Int32) (pd : Int64) (prc : Int64) (ns : Int64) (tu : Nat) (ba : Int64) (na : Int64) (ca : Nat → Int64) (bo : Nat → Int32) (tr : Nat → Int64) (tH : Int32) (asd : Nat → Int32) (pa : Nat → Int64) (tg : Nat → Int64) (sd : Int64) (sr : Int64), rl C T Tk u kp ik ps pm dd tx ty rw rm → zOk Z → G X 1754 [some (.ref b0), some (.ref (A 0)), some (.ref (B 0)), some (.ref o), some (.int (nI i)), none, none, none] [] (wC E A C Z ++ (wM E B u kp ik ps pm dd tx ty rw rm th sz he wr mn vl tp lt ra pf pt pl pd prc ns tu ba na ca bo tr tH asd pa tg sd sr ++ w3))) : G X 467 [some (.ref b0), some (.ref (A 0)), some (.ref (B 0)), some (.ref o), some (.int (nI i)), none, none, none] [] (wc ++ (wm ++ w3)) := by
  obtain ⟨P1, P2, S1, S2, S3⟩ := S
  refine rh_aload_n hX dL_law_467 rfl ?_
  refine rh_aload_n hX dL_law_468 rfl ?_
  refine rh_iload hX dL_law_469 rfl ?_
  refine rh_iconst hX dL_law_471 ki_1 ?_
  refine rh_iadd hX dL_law_472 ?_
  refine rq_sld hX hR (i + 1) dL_law_473 nIa1 (by omega) (by omega) ?_
  refine rh_aload_n hX dL_law_474 rfl ?_
  refine rh_iload hX dL_law_475 rfl ?_
  refine rh_iconst hX dL_law_477 ki_2 ?_
  refine rh_iadd hX dL_law_478 ?_
  refine rq_sld hX hR (i + 2) dL_law_479 nIa2 (by omega) (by omega) ?_
  refine rh_cL hX (wc := wc) (wr := wm ++ w3) (As := [.int (xs (i + 1)), .int (xs (i + 2))]) (rest := []) lk_L_52 mvX7_exercise S1 ⟨rfl, rfl⟩ ⟨Nat.le_of_ble_eq_true rfl, Nat.le_of_ble_eq_true rfl⟩ h1 dL_law_480 rfl rfl (Nat.le_of_ble_eq_true rfl) (fun r1 w1 hp1 => ?_)
  obtain ⟨v, rfl, S4⟩ := S3 r1 w1 hp1
  show G X 483 [some (.ref b0), some (.ref (A 0)), some (.ref (B 0)), some (.ref o), some (.int (nI i)), none, none, none] [.int v] (w1 ++ (wm ++ w3))
  refine rh_aload_n hX dL_law_483 rfl ?_
  refine rh_aload_n hX dL_law_484 rfl ?_
  refine rh_iload hX dL_law_485 rfl ?_
  refine rh_iconst hX dL_law_487 ki_1 ?_
  refine rh_iadd hX dL_law_488 ?_
  refine rq_sld hX hR (i + 1) dL_law_489 nIa1 (by omega) (by omega) ?_
  refine rh_aload_n hX dL_law_490 rfl ?_
  refine rh_iload hX dL_law_491 rfl ?_
  refine rh_iconst hX dL_law_493 ki_2 ?_
  refine rh_iadd hX dL_law_494 ?_
  refine rq_sld hX hR (i + 2) dL_law_495 nIa2 (by omega) (by omega) ?_
  refine rh_cM hX (wa := w1) (wc := wm) (wr := w3) (As := [.int (xs (i + 1)), .int (xs (i + 2))]) (rest := [.int v]) lk_L_55 mvX8_exercise S2 ⟨rfl, rfl⟩ ⟨Nat.le_of_ble_eq_true rfl, Nat.le_of_ble_eq_true rfl⟩ h2 dL_law_496 rfl rfl (Nat.le_of_ble_eq_true rfl) (fun r2 w2 hp2 => ?_)
  obtain ⟨rfl, hg⟩ := S4 r2 w2 hp2
  show G X 499 [some (.ref b0), some (.ref (A 0)), some (.ref (B 0)), some (.ref o), some (.int (nI i)), none, none, none] [.int v, .int v] (w1 ++ (w2 ++ w3))
  refine rh_icmp_eq_t hX dL_law_499 (tgt := 1754) (by decide) rfl ?_
  exact hg X 1754 [some (.ref b0), some (.ref (A 0)), some (.ref (B 0)), some (.ref o), some (.int (nI i)), none, none, none] [] w3 k

set_option maxRecDepth 100000 in
set_option maxHeartbeats 4000000 in
theorem lc_lapses {X : rhX} {E : rhE} {A B : Nat → Nat} {b0 L o i a b : Nat} {xs : Nat → Int32} {wc wm w3 d1 d2 : va_W} {f1 f2 : List Value} (hX : Ok X E RL cL_law room_1 8) (hR : RtL X b0 L xs a b) (hi : i + 5 ≤ L) (hL : L ≤ 2560) (h1 : wc = (A 0, .inr (7, f1)) :: d1) (h2 : wm = (B 0, .inr (8, f2)) :: d2) (S : StpC Value.int E A B wc wm yX7_lapses cX7_lapses 3 (some .int) (rmL 5) yX8_lapses cX8_lapses 3 (some .int) (rmL 6) [.int (xs (i + 1)), .int (xs (i + 2))]) (k : ∀ (C : CT) (T Tk : Nat) (Z : ZT) (u : Nat → Int32) (kp : Nat → Int32) (ik : Int32) (ps : Nat → Int32) (pm : Nat) (dd : Int32) (tx : Nat → Int32) (ty : Nat) (rw : Nat → Int64) (rm : Nat) (th : Int32) (sz : Nat) (he : Nat) (wr : Int32) (mn : Nat → Int32) (vl : Int32) (tp : Int32) (lt : Int32) (ra : Int32) (pf : Int32) (pt : Int32) (pl : Int32) (pd : Int64) (prc : Int64) (ns : Int64) (tu : Nat) (ba : Int64) (na : Int64) (ca : Nat → Int64) (bo : Nat → Int32) (tr : Nat → Int64) (tH : Int32) (asd : Nat → Int32) (pa : Nat → Int64) (tg : Nat → Int64) (sd : Int64) (sr : Int64), rl C T Tk u kp ik ps pm dd tx ty rw rm → zOk Z → G X 1754 [some (.ref b0), some (.ref (A 0)), some (.ref (B 0)), some (.ref o), some (.int (nI i)), none, none, none] [] (wC E A C Z ++ (wM E B u kp ik ps pm dd tx ty rw rm th sz he wr mn vl tp lt ra pf pt pl pd prc ns tu ba na ca bo tr tH asd pa tg sd sr ++ w3))) : G X 504 [some (.ref b0), some (.ref (A 0)), some (.ref (B 0)), some (.ref o), some (.int (nI i)), none, none, none] [] (wc ++ (wm ++ w3)) := by
  obtain ⟨P1, P2, S1, S2, S3⟩ := S
  refine rh_aload_n hX dL_law_504 rfl ?_
  refine rh_aload_n hX dL_law_505 rfl ?_
  refine rh_iload hX dL_law_506 rfl ?_
  refine rh_iconst hX dL_law_508 ki_1 ?_
  refine rh_iadd hX dL_law_509 ?_
  refine rq_sld hX hR (i + 1) dL_law_510 nIa1 (by omega) (by omega) ?_
  refine rh_aload_n hX dL_law_511 rfl ?_
  refine rh_iload hX dL_law_512 rfl ?_
  refine rh_iconst hX dL_law_514 ki_2 ?_
  refine rh_iadd hX dL_law_515 ?_
  refine rq_sld hX hR (i + 2) dL_law_516 nIa2 (by omega) (by omega) ?_
  refine rh_cL hX (wc := wc) (wr := wm ++ w3) (As := [.int (xs (i + 1)), .int (xs (i + 2))]) (rest := []) lk_L_56 mvX7_lapses S1 ⟨rfl, rfl⟩ ⟨Nat.le_of_ble_eq_true rfl, Nat.le_of_ble_eq_true rfl⟩ h1 dL_law_517 rfl rfl (Nat.le_of_ble_eq_true rfl) (fun r1 w1 hp1 => ?_)
  obtain ⟨v, rfl, S4⟩ := S3 r1 w1 hp1
  show G X 520 [some (.ref b0), some (.ref (A 0)), some (.ref (B 0)), some (.ref o), some (.int (nI i)), none, none, none] [.int v] (w1 ++ (wm ++ w3))
  refine rh_aload_n hX dL_law_520 rfl ?_
  refine rh_aload_n hX dL_law_521 rfl ?_
  refine rh_iload hX dL_law_522 rfl ?_
  refine rh_iconst hX dL_law_524 ki_1 ?_
  refine rh_iadd hX dL_law_525 ?_
  refine rq_sld hX hR (i + 1) dL_law_526 nIa1 (by omega) (by omega) ?_
  refine rh_aload_n hX dL_law_527 rfl ?_
  refine rh_iload hX dL_law_528 rfl ?_
  refine rh_iconst hX dL_law_530 ki_2 ?_
  refine rh_iadd hX dL_law_531 ?_
  refine rq_sld hX hR (i + 2) dL_law_532 nIa2 (by omega) (by omega) ?_
  refine rh_cM hX (wa := w1) (wc := wm) (wr := w3) (As := [.int (xs (i + 1)), .int (xs (i + 2))]) (rest := [.int v]) lk_L_59 mvX8_lapses S2 ⟨rfl, rfl⟩ ⟨Nat.le_of_ble_eq_true rfl, Nat.le_of_ble_eq_true rfl⟩ h2 dL_law_533 rfl rfl (Nat.le_of_ble_eq_true rfl) (fun r2 w2 hp2 => ?_)
  obtain ⟨rfl, hg⟩ := S4 r2 w2 hp2
  show G X 536 [some (.ref b0), some (.ref (A 0)), some (.ref (B 0)), some (.ref o), some (.int (nI i)), none, none, none] [.int v, .int v] (w1 ++ (w2 ++ w3))
  refine rh_icmp_eq_t hX dL_law_536 (tgt := 1754) (by decide) rfl ?_
  exact hg X 1754 [some (.ref b0), some (.ref (A 0)), some (.ref (B 0)), some (.ref o), some (.int (nI i)), none, none, none] [] w3 k

set_option maxRecDepth 100000 in
set_option maxHeartbeats 4000000 in
theorem lc_sells {X : rhX} {E : rhE} {A B : Nat → Nat} {b0 L o i a b : Nat} {xs : Nat → Int32} {wc wm w3 d1 d2 : va_W} {f1 f2 : List Value} (hX : Ok X E RL cL_law room_1 8) (hR : RtL X b0 L xs a b) (hi : i + 5 ≤ L) (hL : L ≤ 2560) (h1 : wc = (A 0, .inr (7, f1)) :: d1) (h2 : wm = (B 0, .inr (8, f2)) :: d2) (S : StpC Value.int E A B wc wm yX7_sells cX7_sells 5 (some .int) (rmL 5) yX8_sells cX8_sells 5 (some .int) (rmL 6) [.int (xs (i + 1)), .int (xs (i + 2)), .int (xs (i + 3)), .int (xs (i + 4))]) (k : ∀ (C : CT) (T Tk : Nat) (Z : ZT) (u : Nat → Int32) (kp : Nat → Int32) (ik : Int32) (ps : Nat → Int32) (pm : Nat) (dd : Int32) (tx : Nat → Int32) (ty : Nat) (rw : Nat → Int64) (rm : Nat) (th : Int32) (sz : Nat) (he : Nat) (wr : Int32) (mn : Nat → Int32) (vl : Int32) (tp : Int32) (lt : Int32) (ra : Int32) (pf : Int32) (pt : Int32) (pl : Int32) (pd : Int64) (prc : Int64) (ns : Int64) (tu : Nat) (ba : Int64) (na : Int64) (ca : Nat → Int64) (bo : Nat → Int32) (tr : Nat → Int64) (tH : Int32) (asd : Nat → Int32) (pa : Nat → Int64) (tg : Nat → Int64) (sd : Int64) (sr : Int64), rl C T Tk u kp ik ps pm dd tx ty rw rm → zOk Z → G X 1754 [some (.ref b0), some (.ref (A 0)), some (.ref (B 0)), some (.ref o), some (.int (nI i)), none, none, none] [] (wC E A C Z ++ (wM E B u kp ik ps pm dd tx ty rw rm th sz he wr mn vl tp lt ra pf pt pl pd prc ns tu ba na ca bo tr tH asd pa tg sd sr ++ w3))) : G X 541 [some (.ref b0), some (.ref (A 0)), some (.ref (B 0)), some (.ref o), some (.int (nI i)), none, none, none] [] (wc ++ (wm ++ w3)) := by
  obtain ⟨P1, P2, S1, S2, S3⟩ := S
  refine rh_aload_n hX dL_law_541 rfl ?_
  refine rh_aload_n hX dL_law_542 rfl ?_
  refine rh_iload hX dL_law_543 rfl ?_
  refine rh_iconst hX dL_law_545 ki_1 ?_
  refine rh_iadd hX dL_law_546 ?_
  refine rq_sld hX hR (i + 1) dL_law_547 nIa1 (by omega) (by omega) ?_
  refine rh_aload_n hX dL_law_548 rfl ?_
  refine rh_iload hX dL_law_549 rfl ?_
  refine rh_iconst hX dL_law_551 ki_2 ?_
  refine rh_iadd hX dL_law_552 ?_
  refine rq_sld hX hR (i + 2) dL_law_553 nIa2 (by omega) (by omega) ?_
  refine rh_aload_n hX dL_law_554 rfl ?_
  refine rh_iload hX dL_law_555 rfl ?_
  refine rh_iconst hX dL_law_557 ki_3 ?_
  refine rh_iadd hX dL_law_558 ?_
  refine rq_sld hX hR (i + 3) dL_law_559 nIa3 (by omega) (by omega) ?_
  refine rh_aload_n hX dL_law_560 rfl ?_
  refine rh_iload hX dL_law_561 rfl ?_
  refine rh_iconst hX dL_law_563 ki_4 ?_
  refine rh_iadd hX dL_law_564 ?_
  refine rq_sld hX hR (i + 4) dL_law_565 nIa4 (by omega) (by omega) ?_
  refine rh_cL hX (wc := wc) (wr := wm ++ w3) (As := [.int (xs (i + 1)), .int (xs (i + 2)), .int (xs (i + 3)), .int (xs (i + 4))]) (rest := []) lk_L_60 mvX7_sells S1 ⟨rfl, rfl⟩ ⟨Nat.le_of_ble_eq_true rfl, Nat.le_of_ble_eq_true rfl⟩ h1 dL_law_566 rfl rfl (Nat.le_of_ble_eq_true rfl) (fun r1 w1 hp1 => ?_)
  obtain ⟨v, rfl, S4⟩ := S3 r1 w1 hp1
  show G X 569 [some (.ref b0), some (.ref (A 0)), some (.ref (B 0)), some (.ref o), some (.int (nI i)), none, none, none] [.int v] (w1 ++ (wm ++ w3))
  refine rh_aload_n hX dL_law_569 rfl ?_
  refine rh_aload_n hX dL_law_570 rfl ?_
  refine rh_iload hX dL_law_571 rfl ?_
  refine rh_iconst hX dL_law_573 ki_1 ?_
  refine rh_iadd hX dL_law_574 ?_
  refine rq_sld hX hR (i + 1) dL_law_575 nIa1 (by omega) (by omega) ?_
  refine rh_aload_n hX dL_law_576 rfl ?_
  refine rh_iload hX dL_law_577 rfl ?_
  refine rh_iconst hX dL_law_579 ki_2 ?_
  refine rh_iadd hX dL_law_580 ?_
  refine rq_sld hX hR (i + 2) dL_law_581 nIa2 (by omega) (by omega) ?_
  refine rh_aload_n hX dL_law_582 rfl ?_
  refine rh_iload hX dL_law_583 rfl ?_
  refine rh_iconst hX dL_law_585 ki_3 ?_
  refine rh_iadd hX dL_law_586 ?_
  refine rq_sld hX hR (i + 3) dL_law_587 nIa3 (by omega) (by omega) ?_
  refine rh_aload_n hX dL_law_588 rfl ?_
  refine rh_iload hX dL_law_589 rfl ?_
  refine rh_iconst hX dL_law_591 ki_4 ?_
  refine rh_iadd hX dL_law_592 ?_
  refine rq_sld hX hR (i + 4) dL_law_593 nIa4 (by omega) (by omega) ?_
  refine rh_cM hX (wa := w1) (wc := wm) (wr := w3) (As := [.int (xs (i + 1)), .int (xs (i + 2)), .int (xs (i + 3)), .int (xs (i + 4))]) (rest := [.int v]) lk_L_64 mvX8_sells S2 ⟨rfl, rfl⟩ ⟨Nat.le_of_ble_eq_true rfl, Nat.le_of_ble_eq_true rfl⟩ h2 dL_law_594 rfl rfl (Nat.le_of_ble_eq_true rfl) (fun r2 w2 hp2 => ?_)
  obtain ⟨rfl, hg⟩ := S4 r2 w2 hp2
  show G X 597 [some (.ref b0), some (.ref (A 0)), some (.ref (B 0)), some (.ref o), some (.int (nI i)), none, none, none] [.int v, .int v] (w1 ++ (w2 ++ w3))
  refine rh_icmp_eq_t hX dL_law_597 (tgt := 1754) (by decide) rfl ?_
  exact hg X 1754 [some (.ref b0), some (.ref (A 0)), some (.ref (B 0)), some (.ref o), some (.int (nI i)), none, none, none] [] w3 k

set_option maxRecDepth 100000 in
set_option maxHeartbeats 4000000 in
theorem lc_gives {X : rhX} {E : rhE} {A B : Nat → Nat} {b0 L o i a b : Nat} {xs : Nat → Int32} {wc wm w3 d1 d2 : va_W} {f1 f2 : List Value} (hX : Ok X E RL cL_law room_1 8) (hR : RtL X b0 L xs a b) (hi : i + 5 ≤ L) (hL : L ≤ 2560) (h1 : wc = (A 0, .inr (7, f1)) :: d1) (h2 : wm = (B 0, .inr (8, f2)) :: d2) (S : StpC Value.int E A B wc wm yX7_gives cX7_gives 6 (some .int) (rmL 5) yX8_gives cX8_gives 6 (some .int) (rmL 6) [.int (xs (i + 1)), .int (xs (i + 2))]) (k : ∀ (C : CT) (T Tk : Nat) (Z : ZT) (u : Nat → Int32) (kp : Nat → Int32) (ik : Int32) (ps : Nat → Int32) (pm : Nat) (dd : Int32) (tx : Nat → Int32) (ty : Nat) (rw : Nat → Int64) (rm : Nat) (th : Int32) (sz : Nat) (he : Nat) (wr : Int32) (mn : Nat → Int32) (vl : Int32) (tp : Int32) (lt : Int32) (ra : Int32) (pf : Int32) (pt : Int32) (pl : Int32) (pd : Int64) (prc : Int64) (ns : Int64) (tu : Nat) (ba : Int64) (na : Int64) (ca : Nat → Int64) (bo : Nat → Int32) (tr : Nat → Int64) (tH : Int32) (asd : Nat → Int32) (pa : Nat → Int64) (tg : Nat → Int64) (sd : Int64) (sr : Int64), rl C T Tk u kp ik ps pm dd tx ty rw rm → zOk Z → G X 1754 [some (.ref b0), some (.ref (A 0)), some (.ref (B 0)), some (.ref o), some (.int (nI i)), none, none, none] [] (wC E A C Z ++ (wM E B u kp ik ps pm dd tx ty rw rm th sz he wr mn vl tp lt ra pf pt pl pd prc ns tu ba na ca bo tr tH asd pa tg sd sr ++ w3))) : G X 602 [some (.ref b0), some (.ref (A 0)), some (.ref (B 0)), some (.ref o), some (.int (nI i)), none, none, none] [] (wc ++ (wm ++ w3)) := by
  obtain ⟨P1, P2, S1, S2, S3⟩ := S
  refine rh_aload_n hX dL_law_602 rfl ?_
  refine rh_aload_n hX dL_law_603 rfl ?_
  refine rh_iload hX dL_law_604 rfl ?_
  refine rh_iconst hX dL_law_606 ki_1 ?_
  refine rh_iadd hX dL_law_607 ?_
  refine rq_sld hX hR (i + 1) dL_law_608 nIa1 (by omega) (by omega) ?_
  refine rh_aload_n hX dL_law_609 rfl ?_
  refine rh_iload hX dL_law_610 rfl ?_
  refine rh_iconst hX dL_law_612 ki_2 ?_
  refine rh_iadd hX dL_law_613 ?_
  refine rq_sld hX hR (i + 2) dL_law_614 nIa2 (by omega) (by omega) ?_
  refine rh_cL hX (wc := wc) (wr := wm ++ w3) (As := [.int (xs (i + 1)), .int (xs (i + 2))]) (rest := []) lk_L_65 mvX7_gives S1 ⟨rfl, rfl⟩ ⟨Nat.le_of_ble_eq_true rfl, Nat.le_of_ble_eq_true rfl⟩ h1 dL_law_615 rfl rfl (Nat.le_of_ble_eq_true rfl) (fun r1 w1 hp1 => ?_)
  obtain ⟨v, rfl, S4⟩ := S3 r1 w1 hp1
  show G X 618 [some (.ref b0), some (.ref (A 0)), some (.ref (B 0)), some (.ref o), some (.int (nI i)), none, none, none] [.int v] (w1 ++ (wm ++ w3))
  refine rh_aload_n hX dL_law_618 rfl ?_
  refine rh_aload_n hX dL_law_619 rfl ?_
  refine rh_iload hX dL_law_620 rfl ?_
  refine rh_iconst hX dL_law_622 ki_1 ?_
  refine rh_iadd hX dL_law_623 ?_
  refine rq_sld hX hR (i + 1) dL_law_624 nIa1 (by omega) (by omega) ?_
  refine rh_aload_n hX dL_law_625 rfl ?_
  refine rh_iload hX dL_law_626 rfl ?_
  refine rh_iconst hX dL_law_628 ki_2 ?_
  refine rh_iadd hX dL_law_629 ?_
  refine rq_sld hX hR (i + 2) dL_law_630 nIa2 (by omega) (by omega) ?_
  refine rh_cM hX (wa := w1) (wc := wm) (wr := w3) (As := [.int (xs (i + 1)), .int (xs (i + 2))]) (rest := [.int v]) lk_L_68 mvX8_gives S2 ⟨rfl, rfl⟩ ⟨Nat.le_of_ble_eq_true rfl, Nat.le_of_ble_eq_true rfl⟩ h2 dL_law_631 rfl rfl (Nat.le_of_ble_eq_true rfl) (fun r2 w2 hp2 => ?_)
  obtain ⟨rfl, hg⟩ := S4 r2 w2 hp2
  show G X 634 [some (.ref b0), some (.ref (A 0)), some (.ref (B 0)), some (.ref o), some (.int (nI i)), none, none, none] [.int v, .int v] (w1 ++ (w2 ++ w3))
  refine rh_icmp_eq_t hX dL_law_634 (tgt := 1754) (by decide) rfl ?_
  exact hg X 1754 [some (.ref b0), some (.ref (A 0)), some (.ref (B 0)), some (.ref o), some (.int (nI i)), none, none, none] [] w3 k

set_option maxRecDepth 100000 in
set_option maxHeartbeats 4000000 in
theorem lc_splits {X : rhX} {E : rhE} {A B : Nat → Nat} {b0 L o i a b : Nat} {xs : Nat → Int32} {wc wm w3 d1 d2 : va_W} {f1 f2 : List Value} (hX : Ok X E RL cL_law room_1 8) (hR : RtL X b0 L xs a b) (hi : i + 5 ≤ L) (hL : L ≤ 2560) (h1 : wc = (A 0, .inr (7, f1)) :: d1) (h2 : wm = (B 0, .inr (8, f2)) :: d2) (S : StpC Value.int E A B wc wm yX7_splits cX7_splits 2 (some .int) (rmL 5) yX8_splits cX8_splits 5 (some .int) (rmL 5) [.int (xs (i + 1))]) (k : ∀ (C : CT) (T Tk : Nat) (Z : ZT) (u : Nat → Int32) (kp : Nat → Int32) (ik : Int32) (ps : Nat → Int32) (pm : Nat) (dd : Int32) (tx : Nat → Int32) (ty : Nat) (rw : Nat → Int64) (rm : Nat) (th : Int32) (sz : Nat) (he : Nat) (wr : Int32) (mn : Nat → Int32) (vl : Int32) (tp : Int32) (lt : Int32) (ra : Int32) (pf : Int32) (pt : Int32) (pl : Int32) (pd : Int64) (prc : Int64) (ns : Int64) (tu : Nat) (ba : Int64) (na : Int64) (ca : Nat → Int64) (bo : Nat → Int32) (tr : Nat → Int64) (tH : Int32) (asd : Nat → Int32) (pa : Nat → Int64) (tg : Nat → Int64) (sd : Int64) (sr : Int64), rl C T Tk u kp ik ps pm dd tx ty rw rm → zOk Z → G X 1754 [some (.ref b0), some (.ref (A 0)), some (.ref (B 0)), some (.ref o), some (.int (nI i)), none, none, none] [] (wC E A C Z ++ (wM E B u kp ik ps pm dd tx ty rw rm th sz he wr mn vl tp lt ra pf pt pl pd prc ns tu ba na ca bo tr tH asd pa tg sd sr ++ w3))) : G X 639 [some (.ref b0), some (.ref (A 0)), some (.ref (B 0)), some (.ref o), some (.int (nI i)), none, none, none] [] (wc ++ (wm ++ w3)) := by
  obtain ⟨P1, P2, S1, S2, S3⟩ := S
  refine rh_aload_n hX dL_law_639 rfl ?_
  refine rh_aload_n hX dL_law_640 rfl ?_
  refine rh_iload hX dL_law_641 rfl ?_
  refine rh_iconst hX dL_law_643 ki_1 ?_
  refine rh_iadd hX dL_law_644 ?_
  refine rq_sld hX hR (i + 1) dL_law_645 nIa1 (by omega) (by omega) ?_
  refine rh_cL hX (wc := wc) (wr := wm ++ w3) (As := [.int (xs (i + 1))]) (rest := []) lk_L_69 mvX7_splits S1 ⟨rfl, rfl⟩ ⟨Nat.le_of_ble_eq_true rfl, Nat.le_of_ble_eq_true rfl⟩ h1 dL_law_646 rfl rfl (Nat.le_of_ble_eq_true rfl) (fun r1 w1 hp1 => ?_)
  obtain ⟨v, rfl, S4⟩ := S3 r1 w1 hp1
  show G X 649 [some (.ref b0), some (.ref (A 0)), some (.ref (B 0)), some (.ref o), some (.int (nI i)), none, none, none] [.int v] (w1 ++ (wm ++ w3))
  refine rh_aload_n hX dL_law_649 rfl ?_
  refine rh_aload_n hX dL_law_650 rfl ?_
  refine rh_iload hX dL_law_651 rfl ?_
  refine rh_iconst hX dL_law_653 ki_1 ?_
  refine rh_iadd hX dL_law_654 ?_
  refine rq_sld hX hR (i + 1) dL_law_655 nIa1 (by omega) (by omega) ?_
  refine rh_cM hX (wa := w1) (wc := wm) (wr := w3) (As := [.int (xs (i + 1))]) (rest := [.int v]) lk_L_72 mvX8_splits S2 ⟨rfl, rfl⟩ ⟨Nat.le_of_ble_eq_true rfl, Nat.le_of_ble_eq_true rfl⟩ h2 dL_law_656 rfl rfl (Nat.le_of_ble_eq_true rfl) (fun r2 w2 hp2 => ?_)
  obtain ⟨rfl, hg⟩ := S4 r2 w2 hp2
  show G X 659 [some (.ref b0), some (.ref (A 0)), some (.ref (B 0)), some (.ref o), some (.int (nI i)), none, none, none] [.int v, .int v] (w1 ++ (w2 ++ w3))
  refine rh_icmp_eq_t hX dL_law_659 (tgt := 1754) (by decide) rfl ?_
  exact hg X 1754 [some (.ref b0), some (.ref (A 0)), some (.ref (B 0)), some (.ref o), some (.int (nI i)), none, none, none] [] w3 k

set_option maxRecDepth 100000 in
set_option maxHeartbeats 4000000 in
theorem lc_converts {X : rhX} {E : rhE} {A B : Nat → Nat} {b0 L o i a b : Nat} {xs : Nat → Int32} {wc wm w3 d1 d2 : va_W} {f1 f2 : List Value} (hX : Ok X E RL cL_law room_1 8) (hR : RtL X b0 L xs a b) (hi : i + 5 ≤ L) (hL : L ≤ 2560) (h1 : wc = (A 0, .inr (7, f1)) :: d1) (h2 : wm = (B 0, .inr (8, f2)) :: d2) (S : StpC Value.int E A B wc wm yX7_converts cX7_converts 6 (some .int) (rmL 5) yX8_converts cX8_converts 5 (some .int) (rmL 6) [.int (xs (i + 1)), .int (xs (i + 2)), .int (xs (i + 3))]) (k : ∀ (C : CT) (T Tk : Nat) (Z : ZT) (u : Nat → Int32) (kp : Nat → Int32) (ik : Int32) (ps : Nat → Int32) (pm : Nat) (dd : Int32) (tx : Nat → Int32) (ty : Nat) (rw : Nat → Int64) (rm : Nat) (th : Int32) (sz : Nat) (he : Nat) (wr : Int32) (mn : Nat → Int32) (vl : Int32) (tp : Int32) (lt : Int32) (ra : Int32) (pf : Int32) (pt : Int32) (pl : Int32) (pd : Int64) (prc : Int64) (ns : Int64) (tu : Nat) (ba : Int64) (na : Int64) (ca : Nat → Int64) (bo : Nat → Int32) (tr : Nat → Int64) (tH : Int32) (asd : Nat → Int32) (pa : Nat → Int64) (tg : Nat → Int64) (sd : Int64) (sr : Int64), rl C T Tk u kp ik ps pm dd tx ty rw rm → zOk Z → G X 1754 [some (.ref b0), some (.ref (A 0)), some (.ref (B 0)), some (.ref o), some (.int (nI i)), none, none, none] [] (wC E A C Z ++ (wM E B u kp ik ps pm dd tx ty rw rm th sz he wr mn vl tp lt ra pf pt pl pd prc ns tu ba na ca bo tr tH asd pa tg sd sr ++ w3))) : G X 664 [some (.ref b0), some (.ref (A 0)), some (.ref (B 0)), some (.ref o), some (.int (nI i)), none, none, none] [] (wc ++ (wm ++ w3)) := by
  obtain ⟨P1, P2, S1, S2, S3⟩ := S
  refine rh_aload_n hX dL_law_664 rfl ?_
  refine rh_aload_n hX dL_law_665 rfl ?_
  refine rh_iload hX dL_law_666 rfl ?_
  refine rh_iconst hX dL_law_668 ki_1 ?_
  refine rh_iadd hX dL_law_669 ?_
  refine rq_sld hX hR (i + 1) dL_law_670 nIa1 (by omega) (by omega) ?_
  refine rh_aload_n hX dL_law_671 rfl ?_
  refine rh_iload hX dL_law_672 rfl ?_
  refine rh_iconst hX dL_law_674 ki_2 ?_
  refine rh_iadd hX dL_law_675 ?_
  refine rq_sld hX hR (i + 2) dL_law_676 nIa2 (by omega) (by omega) ?_
  refine rh_aload_n hX dL_law_677 rfl ?_
  refine rh_iload hX dL_law_678 rfl ?_
  refine rh_iconst hX dL_law_680 ki_3 ?_
  refine rh_iadd hX dL_law_681 ?_
  refine rq_sld hX hR (i + 3) dL_law_682 nIa3 (by omega) (by omega) ?_
  refine rh_cL hX (wc := wc) (wr := wm ++ w3) (As := [.int (xs (i + 1)), .int (xs (i + 2)), .int (xs (i + 3))]) (rest := []) lk_L_73 mvX7_converts S1 ⟨rfl, rfl⟩ ⟨Nat.le_of_ble_eq_true rfl, Nat.le_of_ble_eq_true rfl⟩ h1 dL_law_683 rfl rfl (Nat.le_of_ble_eq_true rfl) (fun r1 w1 hp1 => ?_)
  obtain ⟨v, rfl, S4⟩ := S3 r1 w1 hp1
  show G X 686 [some (.ref b0), some (.ref (A 0)), some (.ref (B 0)), some (.ref o), some (.int (nI i)), none, none, none] [.int v] (w1 ++ (wm ++ w3))
  refine rh_aload_n hX dL_law_686 rfl ?_
  refine rh_aload_n hX dL_law_687 rfl ?_
  refine rh_iload hX dL_law_688 rfl ?_
  refine rh_iconst hX dL_law_690 ki_1 ?_
  refine rh_iadd hX dL_law_691 ?_
  refine rq_sld hX hR (i + 1) dL_law_692 nIa1 (by omega) (by omega) ?_
  refine rh_aload_n hX dL_law_693 rfl ?_
  refine rh_iload hX dL_law_694 rfl ?_
  refine rh_iconst hX dL_law_696 ki_2 ?_
  refine rh_iadd hX dL_law_697 ?_
  refine rq_sld hX hR (i + 2) dL_law_698 nIa2 (by omega) (by omega) ?_
  refine rh_aload_n hX dL_law_699 rfl ?_
  refine rh_iload hX dL_law_700 rfl ?_
  refine rh_iconst hX dL_law_702 ki_3 ?_
  refine rh_iadd hX dL_law_703 ?_
  refine rq_sld hX hR (i + 3) dL_law_704 nIa3 (by omega) (by omega) ?_
  refine rh_cM hX (wa := w1) (wc := wm) (wr := w3) (As := [.int (xs (i + 1)), .int (xs (i + 2)), .int (xs (i + 3))]) (rest := [.int v]) lk_L_76 mvX8_converts S2 ⟨rfl, rfl⟩ ⟨Nat.le_of_ble_eq_true rfl, Nat.le_of_ble_eq_true rfl⟩ h2 dL_law_705 rfl rfl (Nat.le_of_ble_eq_true rfl) (fun r2 w2 hp2 => ?_)
  obtain ⟨rfl, hg⟩ := S4 r2 w2 hp2
  show G X 708 [some (.ref b0), some (.ref (A 0)), some (.ref (B 0)), some (.ref o), some (.int (nI i)), none, none, none] [.int v, .int v] (w1 ++ (w2 ++ w3))
  refine rh_icmp_eq_t hX dL_law_708 (tgt := 1754) (by decide) rfl ?_
  exact hg X 1754 [some (.ref b0), some (.ref (A 0)), some (.ref (B 0)), some (.ref o), some (.int (nI i)), none, none, none] [] w3 k

set_option maxRecDepth 100000 in
set_option maxHeartbeats 4000000 in
theorem lc_term {X : rhX} {E : rhE} {A B : Nat → Nat} {b0 L o i a b : Nat} {xs : Nat → Int32} {wc wm w3 d1 d2 : va_W} {f1 f2 : List Value} (hX : Ok X E RL cL_law room_1 8) (hR : RtL X b0 L xs a b) (hi : i + 5 ≤ L) (hL : L ≤ 2560) (h1 : wc = (A 0, .inr (7, f1)) :: d1) (h2 : wm = (B 0, .inr (8, f2)) :: d2) (S : StpC Value.int E A B wc wm yX7_term cX7_term 5 (some .int) (rmL 5) yX8_term cX8_term 5 (some .int) (rmL 3) [.int (xs (i + 1)), .int (xs (i + 2)), .int (xs (i + 3))]) (k : ∀ (C : CT) (T Tk : Nat) (Z : ZT) (u : Nat → Int32) (kp : Nat → Int32) (ik : Int32) (ps : Nat → Int32) (pm : Nat) (dd : Int32) (tx : Nat → Int32) (ty : Nat) (rw : Nat → Int64) (rm : Nat) (th : Int32) (sz : Nat) (he : Nat) (wr : Int32) (mn : Nat → Int32) (vl : Int32) (tp : Int32) (lt : Int32) (ra : Int32) (pf : Int32) (pt : Int32) (pl : Int32) (pd : Int64) (prc : Int64) (ns : Int64) (tu : Nat) (ba : Int64) (na : Int64) (ca : Nat → Int64) (bo : Nat → Int32) (tr : Nat → Int64) (tH : Int32) (asd : Nat → Int32) (pa : Nat → Int64) (tg : Nat → Int64) (sd : Int64) (sr : Int64), rl C T Tk u kp ik ps pm dd tx ty rw rm → zOk Z → G X 1754 [some (.ref b0), some (.ref (A 0)), some (.ref (B 0)), some (.ref o), some (.int (nI i)), none, none, none] [] (wC E A C Z ++ (wM E B u kp ik ps pm dd tx ty rw rm th sz he wr mn vl tp lt ra pf pt pl pd prc ns tu ba na ca bo tr tH asd pa tg sd sr ++ w3))) : G X 713 [some (.ref b0), some (.ref (A 0)), some (.ref (B 0)), some (.ref o), some (.int (nI i)), none, none, none] [] (wc ++ (wm ++ w3)) := by
  obtain ⟨P1, P2, S1, S2, S3⟩ := S
  refine rh_aload_n hX dL_law_713 rfl ?_
  refine rh_aload_n hX dL_law_714 rfl ?_
  refine rh_iload hX dL_law_715 rfl ?_
  refine rh_iconst hX dL_law_717 ki_1 ?_
  refine rh_iadd hX dL_law_718 ?_
  refine rq_sld hX hR (i + 1) dL_law_719 nIa1 (by omega) (by omega) ?_
  refine rh_aload_n hX dL_law_720 rfl ?_
  refine rh_iload hX dL_law_721 rfl ?_
  refine rh_iconst hX dL_law_723 ki_2 ?_
  refine rh_iadd hX dL_law_724 ?_
  refine rq_sld hX hR (i + 2) dL_law_725 nIa2 (by omega) (by omega) ?_
  refine rh_aload_n hX dL_law_726 rfl ?_
  refine rh_iload hX dL_law_727 rfl ?_
  refine rh_iconst hX dL_law_729 ki_3 ?_
  refine rh_iadd hX dL_law_730 ?_
  refine rq_sld hX hR (i + 3) dL_law_731 nIa3 (by omega) (by omega) ?_
  refine rh_cL hX (wc := wc) (wr := wm ++ w3) (As := [.int (xs (i + 1)), .int (xs (i + 2)), .int (xs (i + 3))]) (rest := []) lk_L_77 mvX7_term S1 ⟨rfl, rfl⟩ ⟨Nat.le_of_ble_eq_true rfl, Nat.le_of_ble_eq_true rfl⟩ h1 dL_law_732 rfl rfl (Nat.le_of_ble_eq_true rfl) (fun r1 w1 hp1 => ?_)
  obtain ⟨v, rfl, S4⟩ := S3 r1 w1 hp1
  show G X 735 [some (.ref b0), some (.ref (A 0)), some (.ref (B 0)), some (.ref o), some (.int (nI i)), none, none, none] [.int v] (w1 ++ (wm ++ w3))
  refine rh_aload_n hX dL_law_735 rfl ?_
  refine rh_aload_n hX dL_law_736 rfl ?_
  refine rh_iload hX dL_law_737 rfl ?_
  refine rh_iconst hX dL_law_739 ki_1 ?_
  refine rh_iadd hX dL_law_740 ?_
  refine rq_sld hX hR (i + 1) dL_law_741 nIa1 (by omega) (by omega) ?_
  refine rh_aload_n hX dL_law_742 rfl ?_
  refine rh_iload hX dL_law_743 rfl ?_
  refine rh_iconst hX dL_law_745 ki_2 ?_
  refine rh_iadd hX dL_law_746 ?_
  refine rq_sld hX hR (i + 2) dL_law_747 nIa2 (by omega) (by omega) ?_
  refine rh_aload_n hX dL_law_748 rfl ?_
  refine rh_iload hX dL_law_749 rfl ?_
  refine rh_iconst hX dL_law_751 ki_3 ?_
  refine rh_iadd hX dL_law_752 ?_
  refine rq_sld hX hR (i + 3) dL_law_753 nIa3 (by omega) (by omega) ?_
  refine rh_cM hX (wa := w1) (wc := wm) (wr := w3) (As := [.int (xs (i + 1)), .int (xs (i + 2)), .int (xs (i + 3))]) (rest := [.int v]) lk_L_80 mvX8_term S2 ⟨rfl, rfl⟩ ⟨Nat.le_of_ble_eq_true rfl, Nat.le_of_ble_eq_true rfl⟩ h2 dL_law_754 rfl rfl (Nat.le_of_ble_eq_true rfl) (fun r2 w2 hp2 => ?_)
  obtain ⟨rfl, hg⟩ := S4 r2 w2 hp2
  show G X 757 [some (.ref b0), some (.ref (A 0)), some (.ref (B 0)), some (.ref o), some (.int (nI i)), none, none, none] [.int v, .int v] (w1 ++ (w2 ++ w3))
  refine rh_icmp_eq_t hX dL_law_757 (tgt := 1754) (by decide) rfl ?_
  exact hg X 1754 [some (.ref b0), some (.ref (A 0)), some (.ref (B 0)), some (.ref o), some (.int (nI i)), none, none, none] [] w3 k

set_option maxRecDepth 100000 in
set_option maxHeartbeats 4000000 in
theorem lc_round {X : rhX} {E : rhE} {A B : Nat → Nat} {b0 L o i a b : Nat} {xs : Nat → Int32} {wc wm w3 d1 d2 : va_W} {f1 f2 : List Value} (hX : Ok X E RL cL_law room_1 8) (hR : RtL X b0 L xs a b) (hi : i + 5 ≤ L) (hL : L ≤ 2560) (h1 : wc = (A 0, .inr (7, f1)) :: d1) (h2 : wm = (B 0, .inr (8, f2)) :: d2) (S : StpC Value.int E A B wc wm yX7_round cX7_round 3 (some .int) (rmL 9) yX8_round cX8_round 2 (some .int) (rmL 8) []) (k : ∀ (C : CT) (T Tk : Nat) (Z : ZT) (u : Nat → Int32) (kp : Nat → Int32) (ik : Int32) (ps : Nat → Int32) (pm : Nat) (dd : Int32) (tx : Nat → Int32) (ty : Nat) (rw : Nat → Int64) (rm : Nat) (th : Int32) (sz : Nat) (he : Nat) (wr : Int32) (mn : Nat → Int32) (vl : Int32) (tp : Int32) (lt : Int32) (ra : Int32) (pf : Int32) (pt : Int32) (pl : Int32) (pd : Int64) (prc : Int64) (ns : Int64) (tu : Nat) (ba : Int64) (na : Int64) (ca : Nat → Int64) (bo : Nat → Int32) (tr : Nat → Int64) (tH : Int32) (asd : Nat → Int32) (pa : Nat → Int64) (tg : Nat → Int64) (sd : Int64) (sr : Int64), rl C T Tk u kp ik ps pm dd tx ty rw rm → zOk Z → G X 1754 [some (.ref b0), some (.ref (A 0)), some (.ref (B 0)), some (.ref o), some (.int (nI i)), none, none, none] [] (wC E A C Z ++ (wM E B u kp ik ps pm dd tx ty rw rm th sz he wr mn vl tp lt ra pf pt pl pd prc ns tu ba na ca bo tr tH asd pa tg sd sr ++ w3))) : G X 762 [some (.ref b0), some (.ref (A 0)), some (.ref (B 0)), some (.ref o), some (.int (nI i)), none, none, none] [] (wc ++ (wm ++ w3)) := by
  obtain ⟨P1, P2, S1, S2, S3⟩ := S
  refine rh_aload_n hX dL_law_762 rfl ?_
  refine rh_cL hX (wc := wc) (wr := wm ++ w3) (As := []) (rest := []) lk_L_81 mvX7_round S1 ⟨rfl, rfl⟩ ⟨Nat.le_of_ble_eq_true rfl, Nat.le_of_ble_eq_true rfl⟩ h1 dL_law_763 rfl rfl (Nat.le_of_ble_eq_true rfl) (fun r1 w1 hp1 => ?_)
  obtain ⟨v, rfl, S4⟩ := S3 r1 w1 hp1
  show G X 766 [some (.ref b0), some (.ref (A 0)), some (.ref (B 0)), some (.ref o), some (.int (nI i)), none, none, none] [.int v] (w1 ++ (wm ++ w3))
  refine rh_aload_n hX dL_law_766 rfl ?_
  refine rh_cM hX (wa := w1) (wc := wm) (wr := w3) (As := []) (rest := [.int v]) lk_L_84 mvX8_round S2 ⟨rfl, rfl⟩ ⟨Nat.le_of_ble_eq_true rfl, Nat.le_of_ble_eq_true rfl⟩ h2 dL_law_767 rfl rfl (Nat.le_of_ble_eq_true rfl) (fun r2 w2 hp2 => ?_)
  obtain ⟨rfl, hg⟩ := S4 r2 w2 hp2
  show G X 770 [some (.ref b0), some (.ref (A 0)), some (.ref (B 0)), some (.ref o), some (.int (nI i)), none, none, none] [.int v, .int v] (w1 ++ (w2 ++ w3))
  refine rh_icmp_eq_t hX dL_law_770 (tgt := 1754) (by decide) rfl ?_
  exact hg X 1754 [some (.ref b0), some (.ref (A 0)), some (.ref (B 0)), some (.ref o), some (.int (nI i)), none, none, none] [] w3 k

set_option maxRecDepth 100000 in
set_option maxHeartbeats 4000000 in
theorem lc_thought {X : rhX} {E : rhE} {A B : Nat → Nat} {b0 L o i a b : Nat} {xs : Nat → Int32} {wc wm w3 d1 d2 : va_W} {f1 f2 : List Value} (hX : Ok X E RL cL_law room_1 8) (hR : RtL X b0 L xs a b) (hi : i + 5 ≤ L) (hL : L ≤ 2560) (h1 : wc = (A 0, .inr (7, f1)) :: d1) (h2 : wm = (B 0, .inr (8, f2)) :: d2) (S : StpC Value.int E A B wc wm yX7_thought cX7_thought 4 (some .int) (rmL 9) yX8_thought cX8_thought 3 (some .int) (rmL 8) []) (k : ∀ (C : CT) (T Tk : Nat) (Z : ZT) (u : Nat → Int32) (kp : Nat → Int32) (ik : Int32) (ps : Nat → Int32) (pm : Nat) (dd : Int32) (tx : Nat → Int32) (ty : Nat) (rw : Nat → Int64) (rm : Nat) (th : Int32) (sz : Nat) (he : Nat) (wr : Int32) (mn : Nat → Int32) (vl : Int32) (tp : Int32) (lt : Int32) (ra : Int32) (pf : Int32) (pt : Int32) (pl : Int32) (pd : Int64) (prc : Int64) (ns : Int64) (tu : Nat) (ba : Int64) (na : Int64) (ca : Nat → Int64) (bo : Nat → Int32) (tr : Nat → Int64) (tH : Int32) (asd : Nat → Int32) (pa : Nat → Int64) (tg : Nat → Int64) (sd : Int64) (sr : Int64), rl C T Tk u kp ik ps pm dd tx ty rw rm → zOk Z → G X 1754 [some (.ref b0), some (.ref (A 0)), some (.ref (B 0)), some (.ref o), some (.int (nI i)), none, none, none] [] (wC E A C Z ++ (wM E B u kp ik ps pm dd tx ty rw rm th sz he wr mn vl tp lt ra pf pt pl pd prc ns tu ba na ca bo tr tH asd pa tg sd sr ++ w3))) : G X 775 [some (.ref b0), some (.ref (A 0)), some (.ref (B 0)), some (.ref o), some (.int (nI i)), none, none, none] [] (wc ++ (wm ++ w3)) := by
  obtain ⟨P1, P2, S1, S2, S3⟩ := S
  refine rh_aload_n hX dL_law_775 rfl ?_
  refine rh_cL hX (wc := wc) (wr := wm ++ w3) (As := []) (rest := []) lk_L_85 mvX7_thought S1 ⟨rfl, rfl⟩ ⟨Nat.le_of_ble_eq_true rfl, Nat.le_of_ble_eq_true rfl⟩ h1 dL_law_776 rfl rfl (Nat.le_of_ble_eq_true rfl) (fun r1 w1 hp1 => ?_)
  obtain ⟨v, rfl, S4⟩ := S3 r1 w1 hp1
  show G X 779 [some (.ref b0), some (.ref (A 0)), some (.ref (B 0)), some (.ref o), some (.int (nI i)), none, none, none] [.int v] (w1 ++ (wm ++ w3))
  refine rh_aload_n hX dL_law_779 rfl ?_
  refine rh_cM hX (wa := w1) (wc := wm) (wr := w3) (As := []) (rest := [.int v]) lk_L_88 mvX8_thought S2 ⟨rfl, rfl⟩ ⟨Nat.le_of_ble_eq_true rfl, Nat.le_of_ble_eq_true rfl⟩ h2 dL_law_780 rfl rfl (Nat.le_of_ble_eq_true rfl) (fun r2 w2 hp2 => ?_)
  obtain ⟨rfl, hg⟩ := S4 r2 w2 hp2
  show G X 783 [some (.ref b0), some (.ref (A 0)), some (.ref (B 0)), some (.ref o), some (.int (nI i)), none, none, none] [.int v, .int v] (w1 ++ (w2 ++ w3))
  refine rh_icmp_eq_t hX dL_law_783 (tgt := 1754) (by decide) rfl ?_
  exact hg X 1754 [some (.ref b0), some (.ref (A 0)), some (.ref (B 0)), some (.ref o), some (.int (nI i)), none, none, none] [] w3 k

set_option maxRecDepth 100000 in
set_option maxHeartbeats 4000000 in
theorem lc_told {X : rhX} {E : rhE} {A B : Nat → Nat} {b0 L o i a b : Nat} {xs : Nat → Int32} {wc wm w3 d1 d2 : va_W} {f1 f2 : List Value} (hX : Ok X E RL cL_law room_1 8) (hR : RtL X b0 L xs a b) (hi : i + 5 ≤ L) (hL : L ≤ 2560) (h1 : wc = (A 0, .inr (7, f1)) :: d1) (h2 : wm = (B 0, .inr (8, f2)) :: d2) (S : StpC Value.int E A B wc wm yX7_told cX7_told 3 (some .int) (rmL 2) yX8_told cX8_told 3 (some .int) (rmL 3) [.int (xs (i + 1)), .int (xs (i + 2))]) (k : ∀ (C : CT) (T Tk : Nat) (Z : ZT) (u : Nat → Int32) (kp : Nat → Int32) (ik : Int32) (ps : Nat → Int32) (pm : Nat) (dd : Int32) (tx : Nat → Int32) (ty : Nat) (rw : Nat → Int64) (rm : Nat) (th : Int32) (sz : Nat) (he : Nat) (wr : Int32) (mn : Nat → Int32) (vl : Int32) (tp : Int32) (lt : Int32) (ra : Int32) (pf : Int32) (pt : Int32) (pl : Int32) (pd : Int64) (prc : Int64) (ns : Int64) (tu : Nat) (ba : Int64) (na : Int64) (ca : Nat → Int64) (bo : Nat → Int32) (tr : Nat → Int64) (tH : Int32) (asd : Nat → Int32) (pa : Nat → Int64) (tg : Nat → Int64) (sd : Int64) (sr : Int64), rl C T Tk u kp ik ps pm dd tx ty rw rm → zOk Z → G X 1754 [some (.ref b0), some (.ref (A 0)), some (.ref (B 0)), some (.ref o), some (.int (nI i)), none, none, none] [] (wC E A C Z ++ (wM E B u kp ik ps pm dd tx ty rw rm th sz he wr mn vl tp lt ra pf pt pl pd prc ns tu ba na ca bo tr tH asd pa tg sd sr ++ w3))) : G X 788 [some (.ref b0), some (.ref (A 0)), some (.ref (B 0)), some (.ref o), some (.int (nI i)), none, none, none] [] (wc ++ (wm ++ w3)) := by
  obtain ⟨P1, P2, S1, S2, S3⟩ := S
  refine rh_aload_n hX dL_law_788 rfl ?_
  refine rh_aload_n hX dL_law_789 rfl ?_
  refine rh_iload hX dL_law_790 rfl ?_
  refine rh_iconst hX dL_law_792 ki_1 ?_
  refine rh_iadd hX dL_law_793 ?_
  refine rq_sld hX hR (i + 1) dL_law_794 nIa1 (by omega) (by omega) ?_
  refine rh_aload_n hX dL_law_795 rfl ?_
  refine rh_iload hX dL_law_796 rfl ?_
  refine rh_iconst hX dL_law_798 ki_2 ?_
  refine rh_iadd hX dL_law_799 ?_
  refine rq_sld hX hR (i + 2) dL_law_800 nIa2 (by omega) (by omega) ?_
  refine rh_cL hX (wc := wc) (wr := wm ++ w3) (As := [.int (xs (i + 1)), .int (xs (i + 2))]) (rest := []) lk_L_89 mvX7_told S1 ⟨rfl, rfl⟩ ⟨Nat.le_of_ble_eq_true rfl, Nat.le_of_ble_eq_true rfl⟩ h1 dL_law_801 rfl rfl (Nat.le_of_ble_eq_true rfl) (fun r1 w1 hp1 => ?_)
  obtain ⟨v, rfl, S4⟩ := S3 r1 w1 hp1
  show G X 804 [some (.ref b0), some (.ref (A 0)), some (.ref (B 0)), some (.ref o), some (.int (nI i)), none, none, none] [.int v] (w1 ++ (wm ++ w3))
  refine rh_aload_n hX dL_law_804 rfl ?_
  refine rh_aload_n hX dL_law_805 rfl ?_
  refine rh_iload hX dL_law_806 rfl ?_
  refine rh_iconst hX dL_law_808 ki_1 ?_
  refine rh_iadd hX dL_law_809 ?_
  refine rq_sld hX hR (i + 1) dL_law_810 nIa1 (by omega) (by omega) ?_
  refine rh_aload_n hX dL_law_811 rfl ?_
  refine rh_iload hX dL_law_812 rfl ?_
  refine rh_iconst hX dL_law_814 ki_2 ?_
  refine rh_iadd hX dL_law_815 ?_
  refine rq_sld hX hR (i + 2) dL_law_816 nIa2 (by omega) (by omega) ?_
  refine rh_cM hX (wa := w1) (wc := wm) (wr := w3) (As := [.int (xs (i + 1)), .int (xs (i + 2))]) (rest := [.int v]) lk_L_92 mvX8_told S2 ⟨rfl, rfl⟩ ⟨Nat.le_of_ble_eq_true rfl, Nat.le_of_ble_eq_true rfl⟩ h2 dL_law_817 rfl rfl (Nat.le_of_ble_eq_true rfl) (fun r2 w2 hp2 => ?_)
  obtain ⟨rfl, hg⟩ := S4 r2 w2 hp2
  show G X 820 [some (.ref b0), some (.ref (A 0)), some (.ref (B 0)), some (.ref o), some (.int (nI i)), none, none, none] [.int v, .int v] (w1 ++ (w2 ++ w3))
  refine rh_icmp_eq_t hX dL_law_820 (tgt := 1754) (by decide) rfl ?_
  exact hg X 1754 [some (.ref b0), some (.ref (A 0)), some (.ref (B 0)), some (.ref o), some (.int (nI i)), none, none, none] [] w3 k

set_option maxRecDepth 100000 in
set_option maxHeartbeats 4000000 in
theorem lc_diluted {X : rhX} {E : rhE} {A B : Nat → Nat} {b0 L o i a b : Nat} {xs : Nat → Int32} {wc wm w3 d1 d2 : va_W} {f1 f2 : List Value} (hX : Ok X E RL cL_law room_1 8) (hR : RtL X b0 L xs a b) (hi : i + 5 ≤ L) (hL : L ≤ 2560) (h1 : wc = (A 0, .inr (7, f1)) :: d1) (h2 : wm = (B 0, .inr (8, f2)) :: d2) (S : StpC Value.int E A B wc wm yX7_diluted cX7_diluted 6 (some .int) (rmL 9) yX8_diluted cX8_diluted 9 (some .int) (rmL 8) [.int (xs (i + 1))]) (k : ∀ (C : CT) (T Tk : Nat) (Z : ZT) (u : Nat → Int32) (kp : Nat → Int32) (ik : Int32) (ps : Nat → Int32) (pm : Nat) (dd : Int32) (tx : Nat → Int32) (ty : Nat) (rw : Nat → Int64) (rm : Nat) (th : Int32) (sz : Nat) (he : Nat) (wr : Int32) (mn : Nat → Int32) (vl : Int32) (tp : Int32) (lt : Int32) (ra : Int32) (pf : Int32) (pt : Int32) (pl : Int32) (pd : Int64) (prc : Int64) (ns : Int64) (tu : Nat) (ba : Int64) (na : Int64) (ca : Nat → Int64) (bo : Nat → Int32) (tr : Nat → Int64) (tH : Int32) (asd : Nat → Int32) (pa : Nat → Int64) (tg : Nat → Int64) (sd : Int64) (sr : Int64), rl C T Tk u kp ik ps pm dd tx ty rw rm → zOk Z → G X 1754 [some (.ref b0), some (.ref (A 0)), some (.ref (B 0)), some (.ref o), some (.int (nI i)), none, none, none] [] (wC E A C Z ++ (wM E B u kp ik ps pm dd tx ty rw rm th sz he wr mn vl tp lt ra pf pt pl pd prc ns tu ba na ca bo tr tH asd pa tg sd sr ++ w3))) : G X 825 [some (.ref b0), some (.ref (A 0)), some (.ref (B 0)), some (.ref o), some (.int (nI i)), none, none, none] [] (wc ++ (wm ++ w3)) := by
  obtain ⟨P1, P2, S1, S2, S3⟩ := S
  refine rh_aload_n hX dL_law_825 rfl ?_
  refine rh_aload_n hX dL_law_826 rfl ?_
  refine rh_iload hX dL_law_827 rfl ?_
  refine rh_iconst hX dL_law_829 ki_1 ?_
  refine rh_iadd hX dL_law_830 ?_
  refine rq_sld hX hR (i + 1) dL_law_831 nIa1 (by omega) (by omega) ?_
  refine rh_cL hX (wc := wc) (wr := wm ++ w3) (As := [.int (xs (i + 1))]) (rest := []) lk_L_93 mvX7_diluted S1 ⟨rfl, rfl⟩ ⟨Nat.le_of_ble_eq_true rfl, Nat.le_of_ble_eq_true rfl⟩ h1 dL_law_832 rfl rfl (Nat.le_of_ble_eq_true rfl) (fun r1 w1 hp1 => ?_)
  obtain ⟨v, rfl, S4⟩ := S3 r1 w1 hp1
  show G X 835 [some (.ref b0), some (.ref (A 0)), some (.ref (B 0)), some (.ref o), some (.int (nI i)), none, none, none] [.int v] (w1 ++ (wm ++ w3))
  refine rh_aload_n hX dL_law_835 rfl ?_
  refine rh_aload_n hX dL_law_836 rfl ?_
  refine rh_iload hX dL_law_837 rfl ?_
  refine rh_iconst hX dL_law_839 ki_1 ?_
  refine rh_iadd hX dL_law_840 ?_
  refine rq_sld hX hR (i + 1) dL_law_841 nIa1 (by omega) (by omega) ?_
  refine rh_cM hX (wa := w1) (wc := wm) (wr := w3) (As := [.int (xs (i + 1))]) (rest := [.int v]) lk_L_96 mvX8_diluted S2 ⟨rfl, rfl⟩ ⟨Nat.le_of_ble_eq_true rfl, Nat.le_of_ble_eq_true rfl⟩ h2 dL_law_842 rfl rfl (Nat.le_of_ble_eq_true rfl) (fun r2 w2 hp2 => ?_)
  obtain ⟨rfl, hg⟩ := S4 r2 w2 hp2
  show G X 845 [some (.ref b0), some (.ref (A 0)), some (.ref (B 0)), some (.ref o), some (.int (nI i)), none, none, none] [.int v, .int v] (w1 ++ (w2 ++ w3))
  refine rh_icmp_eq_t hX dL_law_845 (tgt := 1754) (by decide) rfl ?_
  exact hg X 1754 [some (.ref b0), some (.ref (A 0)), some (.ref (B 0)), some (.ref o), some (.int (nI i)), none, none, none] [] w3 k

set_option maxRecDepth 100000 in
set_option maxHeartbeats 4000000 in
theorem lc_threatens {X : rhX} {E : rhE} {A B : Nat → Nat} {b0 L o i a b : Nat} {xs : Nat → Int32} {wc wm w3 d1 d2 : va_W} {f1 f2 : List Value} (hX : Ok X E RL cL_law room_1 8) (hR : RtL X b0 L xs a b) (hi : i + 5 ≤ L) (hL : L ≤ 2560) (h1 : wc = (A 0, .inr (7, f1)) :: d1) (h2 : wm = (B 0, .inr (8, f2)) :: d2) (S : StpC Value.int E A B wc wm yX7_threatens cX7_threatens 3 (some .int) (rmL 9) yX8_threatens cX8_threatens 2 (some .int) (rmL 8) []) (k : ∀ (C : CT) (T Tk : Nat) (Z : ZT) (u : Nat → Int32) (kp : Nat → Int32) (ik : Int32) (ps : Nat → Int32) (pm : Nat) (dd : Int32) (tx : Nat → Int32) (ty : Nat) (rw : Nat → Int64) (rm : Nat) (th : Int32) (sz : Nat) (he : Nat) (wr : Int32) (mn : Nat → Int32) (vl : Int32) (tp : Int32) (lt : Int32) (ra : Int32) (pf : Int32) (pt : Int32) (pl : Int32) (pd : Int64) (prc : Int64) (ns : Int64) (tu : Nat) (ba : Int64) (na : Int64) (ca : Nat → Int64) (bo : Nat → Int32) (tr : Nat → Int64) (tH : Int32) (asd : Nat → Int32) (pa : Nat → Int64) (tg : Nat → Int64) (sd : Int64) (sr : Int64), rl C T Tk u kp ik ps pm dd tx ty rw rm → zOk Z → G X 1754 [some (.ref b0), some (.ref (A 0)), some (.ref (B 0)), some (.ref o), some (.int (nI i)), none, none, none] [] (wC E A C Z ++ (wM E B u kp ik ps pm dd tx ty rw rm th sz he wr mn vl tp lt ra pf pt pl pd prc ns tu ba na ca bo tr tH asd pa tg sd sr ++ w3))) : G X 850 [some (.ref b0), some (.ref (A 0)), some (.ref (B 0)), some (.ref o), some (.int (nI i)), none, none, none] [] (wc ++ (wm ++ w3)) := by
  obtain ⟨P1, P2, S1, S2, S3⟩ := S
  refine rh_aload_n hX dL_law_850 rfl ?_
  refine rh_cL hX (wc := wc) (wr := wm ++ w3) (As := []) (rest := []) lk_L_97 mvX7_threatens S1 ⟨rfl, rfl⟩ ⟨Nat.le_of_ble_eq_true rfl, Nat.le_of_ble_eq_true rfl⟩ h1 dL_law_851 rfl rfl (Nat.le_of_ble_eq_true rfl) (fun r1 w1 hp1 => ?_)
  obtain ⟨v, rfl, S4⟩ := S3 r1 w1 hp1
  show G X 854 [some (.ref b0), some (.ref (A 0)), some (.ref (B 0)), some (.ref o), some (.int (nI i)), none, none, none] [.int v] (w1 ++ (wm ++ w3))
  refine rh_aload_n hX dL_law_854 rfl ?_
  refine rh_cM hX (wa := w1) (wc := wm) (wr := w3) (As := []) (rest := [.int v]) lk_L_100 mvX8_threatens S2 ⟨rfl, rfl⟩ ⟨Nat.le_of_ble_eq_true rfl, Nat.le_of_ble_eq_true rfl⟩ h2 dL_law_855 rfl rfl (Nat.le_of_ble_eq_true rfl) (fun r2 w2 hp2 => ?_)
  obtain ⟨rfl, hg⟩ := S4 r2 w2 hp2
  show G X 858 [some (.ref b0), some (.ref (A 0)), some (.ref (B 0)), some (.ref o), some (.int (nI i)), none, none, none] [.int v, .int v] (w1 ++ (w2 ++ w3))
  refine rh_icmp_eq_t hX dL_law_858 (tgt := 1754) (by decide) rfl ?_
  exact hg X 1754 [some (.ref b0), some (.ref (A 0)), some (.ref (B 0)), some (.ref o), some (.int (nI i)), none, none, none] [] w3 k

set_option maxRecDepth 100000 in
set_option maxHeartbeats 4000000 in
theorem lc_sweep {X : rhX} {E : rhE} {A B : Nat → Nat} {b0 L o i a b : Nat} {xs : Nat → Int32} {wc wm w3 d1 d2 : va_W} {f1 f2 : List Value} (hX : Ok X E RL cL_law room_1 8) (hR : RtL X b0 L xs a b) (hi : i + 5 ≤ L) (hL : L ≤ 2560) (h1 : wc = (A 0, .inr (7, f1)) :: d1) (h2 : wm = (B 0, .inr (8, f2)) :: d2) (S : StpC Value.int E A B wc wm yX7_sweep cX7_sweep 8 (some .int) (rmL 9) yX8_sweep cX8_sweep 8 (some .int) (rmL 8) [.int (xs (i + 1))]) (k : ∀ (C : CT) (T Tk : Nat) (Z : ZT) (u : Nat → Int32) (kp : Nat → Int32) (ik : Int32) (ps : Nat → Int32) (pm : Nat) (dd : Int32) (tx : Nat → Int32) (ty : Nat) (rw : Nat → Int64) (rm : Nat) (th : Int32) (sz : Nat) (he : Nat) (wr : Int32) (mn : Nat → Int32) (vl : Int32) (tp : Int32) (lt : Int32) (ra : Int32) (pf : Int32) (pt : Int32) (pl : Int32) (pd : Int64) (prc : Int64) (ns : Int64) (tu : Nat) (ba : Int64) (na : Int64) (ca : Nat → Int64) (bo : Nat → Int32) (tr : Nat → Int64) (tH : Int32) (asd : Nat → Int32) (pa : Nat → Int64) (tg : Nat → Int64) (sd : Int64) (sr : Int64), rl C T Tk u kp ik ps pm dd tx ty rw rm → zOk Z → G X 1754 [some (.ref b0), some (.ref (A 0)), some (.ref (B 0)), some (.ref o), some (.int (nI i)), none, none, none] [] (wC E A C Z ++ (wM E B u kp ik ps pm dd tx ty rw rm th sz he wr mn vl tp lt ra pf pt pl pd prc ns tu ba na ca bo tr tH asd pa tg sd sr ++ w3))) : G X 863 [some (.ref b0), some (.ref (A 0)), some (.ref (B 0)), some (.ref o), some (.int (nI i)), none, none, none] [] (wc ++ (wm ++ w3)) := by
  obtain ⟨P1, P2, S1, S2, S3⟩ := S
  refine rh_aload_n hX dL_law_863 rfl ?_
  refine rh_aload_n hX dL_law_864 rfl ?_
  refine rh_iload hX dL_law_865 rfl ?_
  refine rh_iconst hX dL_law_867 ki_1 ?_
  refine rh_iadd hX dL_law_868 ?_
  refine rq_sld hX hR (i + 1) dL_law_869 nIa1 (by omega) (by omega) ?_
  refine rh_cL hX (wc := wc) (wr := wm ++ w3) (As := [.int (xs (i + 1))]) (rest := []) lk_L_101 mvX7_sweep S1 ⟨rfl, rfl⟩ ⟨Nat.le_of_ble_eq_true rfl, Nat.le_of_ble_eq_true rfl⟩ h1 dL_law_870 rfl rfl (Nat.le_of_ble_eq_true rfl) (fun r1 w1 hp1 => ?_)
  obtain ⟨v, rfl, S4⟩ := S3 r1 w1 hp1
  show G X 873 [some (.ref b0), some (.ref (A 0)), some (.ref (B 0)), some (.ref o), some (.int (nI i)), none, none, none] [.int v] (w1 ++ (wm ++ w3))
  refine rh_aload_n hX dL_law_873 rfl ?_
  refine rh_aload_n hX dL_law_874 rfl ?_
  refine rh_iload hX dL_law_875 rfl ?_
  refine rh_iconst hX dL_law_877 ki_1 ?_
  refine rh_iadd hX dL_law_878 ?_
  refine rq_sld hX hR (i + 1) dL_law_879 nIa1 (by omega) (by omega) ?_
  refine rh_cM hX (wa := w1) (wc := wm) (wr := w3) (As := [.int (xs (i + 1))]) (rest := [.int v]) lk_L_104 mvX8_sweep S2 ⟨rfl, rfl⟩ ⟨Nat.le_of_ble_eq_true rfl, Nat.le_of_ble_eq_true rfl⟩ h2 dL_law_880 rfl rfl (Nat.le_of_ble_eq_true rfl) (fun r2 w2 hp2 => ?_)
  obtain ⟨rfl, hg⟩ := S4 r2 w2 hp2
  show G X 883 [some (.ref b0), some (.ref (A 0)), some (.ref (B 0)), some (.ref o), some (.int (nI i)), none, none, none] [.int v, .int v] (w1 ++ (w2 ++ w3))
  refine rh_icmp_eq_t hX dL_law_883 (tgt := 1754) (by decide) rfl ?_
  exact hg X 1754 [some (.ref b0), some (.ref (A 0)), some (.ref (B 0)), some (.ref o), some (.int (nI i)), none, none, none] [] w3 k

set_option maxRecDepth 100000 in
set_option maxHeartbeats 4000000 in
theorem lc_ratchets {X : rhX} {E : rhE} {A B : Nat → Nat} {b0 L o i a b : Nat} {xs : Nat → Int32} {wc wm w3 d1 d2 : va_W} {f1 f2 : List Value} (hX : Ok X E RL cL_law room_1 8) (hR : RtL X b0 L xs a b) (hi : i + 5 ≤ L) (hL : L ≤ 2560) (h1 : wc = (A 0, .inr (7, f1)) :: d1) (h2 : wm = (B 0, .inr (8, f2)) :: d2) (S : StpC Value.int E A B wc wm yX7_ratchets cX7_ratchets 5 (some .int) (rmL 9) yX8_ratchets cX8_ratchets 5 (some .int) (rmL 8) []) (k : ∀ (C : CT) (T Tk : Nat) (Z : ZT) (u : Nat → Int32) (kp : Nat → Int32) (ik : Int32) (ps : Nat → Int32) (pm : Nat) (dd : Int32) (tx : Nat → Int32) (ty : Nat) (rw : Nat → Int64) (rm : Nat) (th : Int32) (sz : Nat) (he : Nat) (wr : Int32) (mn : Nat → Int32) (vl : Int32) (tp : Int32) (lt : Int32) (ra : Int32) (pf : Int32) (pt : Int32) (pl : Int32) (pd : Int64) (prc : Int64) (ns : Int64) (tu : Nat) (ba : Int64) (na : Int64) (ca : Nat → Int64) (bo : Nat → Int32) (tr : Nat → Int64) (tH : Int32) (asd : Nat → Int32) (pa : Nat → Int64) (tg : Nat → Int64) (sd : Int64) (sr : Int64), rl C T Tk u kp ik ps pm dd tx ty rw rm → zOk Z → G X 1754 [some (.ref b0), some (.ref (A 0)), some (.ref (B 0)), some (.ref o), some (.int (nI i)), none, none, none] [] (wC E A C Z ++ (wM E B u kp ik ps pm dd tx ty rw rm th sz he wr mn vl tp lt ra pf pt pl pd prc ns tu ba na ca bo tr tH asd pa tg sd sr ++ w3))) : G X 888 [some (.ref b0), some (.ref (A 0)), some (.ref (B 0)), some (.ref o), some (.int (nI i)), none, none, none] [] (wc ++ (wm ++ w3)) := by
  obtain ⟨P1, P2, S1, S2, S3⟩ := S
  refine rh_aload_n hX dL_law_888 rfl ?_
  refine rh_cL hX (wc := wc) (wr := wm ++ w3) (As := []) (rest := []) lk_L_105 mvX7_ratchets S1 ⟨rfl, rfl⟩ ⟨Nat.le_of_ble_eq_true rfl, Nat.le_of_ble_eq_true rfl⟩ h1 dL_law_889 rfl rfl (Nat.le_of_ble_eq_true rfl) (fun r1 w1 hp1 => ?_)
  obtain ⟨v, rfl, S4⟩ := S3 r1 w1 hp1
  show G X 892 [some (.ref b0), some (.ref (A 0)), some (.ref (B 0)), some (.ref o), some (.int (nI i)), none, none, none] [.int v] (w1 ++ (wm ++ w3))
  refine rh_aload_n hX dL_law_892 rfl ?_
  refine rh_cM hX (wa := w1) (wc := wm) (wr := w3) (As := []) (rest := [.int v]) lk_L_108 mvX8_ratchets S2 ⟨rfl, rfl⟩ ⟨Nat.le_of_ble_eq_true rfl, Nat.le_of_ble_eq_true rfl⟩ h2 dL_law_893 rfl rfl (Nat.le_of_ble_eq_true rfl) (fun r2 w2 hp2 => ?_)
  obtain ⟨rfl, hg⟩ := S4 r2 w2 hp2
  show G X 896 [some (.ref b0), some (.ref (A 0)), some (.ref (B 0)), some (.ref o), some (.int (nI i)), none, none, none] [.int v, .int v] (w1 ++ (w2 ++ w3))
  refine rh_icmp_eq_t hX dL_law_896 (tgt := 1754) (by decide) rfl ?_
  exact hg X 1754 [some (.ref b0), some (.ref (A 0)), some (.ref (B 0)), some (.ref o), some (.int (nI i)), none, none, none] [] w3 k

set_option maxRecDepth 100000 in
set_option maxHeartbeats 4000000 in
theorem lc_ratchet {X : rhX} {E : rhE} {A B : Nat → Nat} {b0 L o i a b : Nat} {xs : Nat → Int32} {wc wm w3 d1 d2 : va_W} {f1 f2 : List Value} (hX : Ok X E RL cL_law room_1 8) (hR : RtL X b0 L xs a b) (hi : i + 5 ≤ L) (hL : L ≤ 2560) (h1 : wc = (A 0, .inr (7, f1)) :: d1) (h2 : wm = (B 0, .inr (8, f2)) :: d2) (S : StpC Value.int E A B wc wm yX7_ratchet cX7_ratchet 9 (some .int) (rmL 4) yX8_ratchet cX8_ratchet 5 (some .int) (rmL 5) [.int (xs (i + 1)), .int (xs (i + 2)), .int (xs (i + 3)), .int (xs (i + 4))]) (k : ∀ (C : CT) (T Tk : Nat) (Z : ZT) (u : Nat → Int32) (kp : Nat → Int32) (ik : Int32) (ps : Nat → Int32) (pm : Nat) (dd : Int32) (tx : Nat → Int32) (ty : Nat) (rw : Nat → Int64) (rm : Nat) (th : Int32) (sz : Nat) (he : Nat) (wr : Int32) (mn : Nat → Int32) (vl : Int32) (tp : Int32) (lt : Int32) (ra : Int32) (pf : Int32) (pt : Int32) (pl : Int32) (pd : Int64) (prc : Int64) (ns : Int64) (tu : Nat) (ba : Int64) (na : Int64) (ca : Nat → Int64) (bo : Nat → Int32) (tr : Nat → Int64) (tH : Int32) (asd : Nat → Int32) (pa : Nat → Int64) (tg : Nat → Int64) (sd : Int64) (sr : Int64), rl C T Tk u kp ik ps pm dd tx ty rw rm → zOk Z → G X 1754 [some (.ref b0), some (.ref (A 0)), some (.ref (B 0)), some (.ref o), some (.int (nI i)), none, none, none] [] (wC E A C Z ++ (wM E B u kp ik ps pm dd tx ty rw rm th sz he wr mn vl tp lt ra pf pt pl pd prc ns tu ba na ca bo tr tH asd pa tg sd sr ++ w3))) : G X 901 [some (.ref b0), some (.ref (A 0)), some (.ref (B 0)), some (.ref o), some (.int (nI i)), none, none, none] [] (wc ++ (wm ++ w3)) := by
  obtain ⟨P1, P2, S1, S2, S3⟩ := S
  refine rh_aload_n hX dL_law_901 rfl ?_
  refine rh_aload_n hX dL_law_902 rfl ?_
  refine rh_iload hX dL_law_903 rfl ?_
  refine rh_iconst hX dL_law_905 ki_1 ?_
  refine rh_iadd hX dL_law_906 ?_
  refine rq_sld hX hR (i + 1) dL_law_907 nIa1 (by omega) (by omega) ?_
  refine rh_aload_n hX dL_law_908 rfl ?_
  refine rh_iload hX dL_law_909 rfl ?_
  refine rh_iconst hX dL_law_911 ki_2 ?_
  refine rh_iadd hX dL_law_912 ?_
  refine rq_sld hX hR (i + 2) dL_law_913 nIa2 (by omega) (by omega) ?_
  refine rh_aload_n hX dL_law_914 rfl ?_
  refine rh_iload hX dL_law_915 rfl ?_
  refine rh_iconst hX dL_law_917 ki_3 ?_
  refine rh_iadd hX dL_law_918 ?_
  refine rq_sld hX hR (i + 3) dL_law_919 nIa3 (by omega) (by omega) ?_
  refine rh_aload_n hX dL_law_920 rfl ?_
  refine rh_iload hX dL_law_921 rfl ?_
  refine rh_iconst hX dL_law_923 ki_4 ?_
  refine rh_iadd hX dL_law_924 ?_
  refine rq_sld hX hR (i + 4) dL_law_925 nIa4 (by omega) (by omega) ?_
  refine rh_cL hX (wc := wc) (wr := wm ++ w3) (As := [.int (xs (i + 1)), .int (xs (i + 2)), .int (xs (i + 3)), .int (xs (i + 4))]) (rest := []) lk_L_109 mvX7_ratchet S1 ⟨rfl, rfl⟩ ⟨Nat.le_of_ble_eq_true rfl, Nat.le_of_ble_eq_true rfl⟩ h1 dL_law_926 rfl rfl (Nat.le_of_ble_eq_true rfl) (fun r1 w1 hp1 => ?_)
  obtain ⟨v, rfl, S4⟩ := S3 r1 w1 hp1
  show G X 929 [some (.ref b0), some (.ref (A 0)), some (.ref (B 0)), some (.ref o), some (.int (nI i)), none, none, none] [.int v] (w1 ++ (wm ++ w3))
  refine rh_aload_n hX dL_law_929 rfl ?_
  refine rh_aload_n hX dL_law_930 rfl ?_
  refine rh_iload hX dL_law_931 rfl ?_
  refine rh_iconst hX dL_law_933 ki_1 ?_
  refine rh_iadd hX dL_law_934 ?_
  refine rq_sld hX hR (i + 1) dL_law_935 nIa1 (by omega) (by omega) ?_
  refine rh_aload_n hX dL_law_936 rfl ?_
  refine rh_iload hX dL_law_937 rfl ?_
  refine rh_iconst hX dL_law_939 ki_2 ?_
  refine rh_iadd hX dL_law_940 ?_
  refine rq_sld hX hR (i + 2) dL_law_941 nIa2 (by omega) (by omega) ?_
  refine rh_aload_n hX dL_law_942 rfl ?_
  refine rh_iload hX dL_law_943 rfl ?_
  refine rh_iconst hX dL_law_945 ki_3 ?_
  refine rh_iadd hX dL_law_946 ?_
  refine rq_sld hX hR (i + 3) dL_law_947 nIa3 (by omega) (by omega) ?_
  refine rh_aload_n hX dL_law_948 rfl ?_
  refine rh_iload hX dL_law_949 rfl ?_
  refine rh_iconst hX dL_law_951 ki_4 ?_
  refine rh_iadd hX dL_law_952 ?_
  refine rq_sld hX hR (i + 4) dL_law_953 nIa4 (by omega) (by omega) ?_
  refine rh_cM hX (wa := w1) (wc := wm) (wr := w3) (As := [.int (xs (i + 1)), .int (xs (i + 2)), .int (xs (i + 3)), .int (xs (i + 4))]) (rest := [.int v]) lk_L_112 mvX8_ratchet S2 ⟨rfl, rfl⟩ ⟨Nat.le_of_ble_eq_true rfl, Nat.le_of_ble_eq_true rfl⟩ h2 dL_law_954 rfl rfl (Nat.le_of_ble_eq_true rfl) (fun r2 w2 hp2 => ?_)
  obtain ⟨rfl, hg⟩ := S4 r2 w2 hp2
  show G X 957 [some (.ref b0), some (.ref (A 0)), some (.ref (B 0)), some (.ref o), some (.int (nI i)), none, none, none] [.int v, .int v] (w1 ++ (w2 ++ w3))
  refine rh_icmp_eq_t hX dL_law_957 (tgt := 1754) (by decide) rfl ?_
  exact hg X 1754 [some (.ref b0), some (.ref (A 0)), some (.ref (B 0)), some (.ref o), some (.int (nI i)), none, none, none] [] w3 k

set_option maxRecDepth 100000 in
set_option maxHeartbeats 4000000 in
theorem lc_shares {X : rhX} {E : rhE} {A B : Nat → Nat} {b0 L o i a b : Nat} {xs : Nat → Int32} {wc wm w3 d1 d2 : va_W} {f1 f2 : List Value} (hX : Ok X E RL cL_law room_1 8) (hR : RtL X b0 L xs a b) (hi : i + 5 ≤ L) (hL : L ≤ 2560) (h1 : wc = (A 0, .inr (7, f1)) :: d1) (h2 : wm = (B 0, .inr (8, f2)) :: d2) (S : StpC Value.int E A B wc wm yX7_shares cX7_shares 3 (some .int) (rmL 2) yX8_shares cX8_shares 3 (some .int) (rmL 3) [.int (xs (i + 1)), .int (xs (i + 2))]) (k : ∀ (C : CT) (T Tk : Nat) (Z : ZT) (u : Nat → Int32) (kp : Nat → Int32) (ik : Int32) (ps : Nat → Int32) (pm : Nat) (dd : Int32) (tx : Nat → Int32) (ty : Nat) (rw : Nat → Int64) (rm : Nat) (th : Int32) (sz : Nat) (he : Nat) (wr : Int32) (mn : Nat → Int32) (vl : Int32) (tp : Int32) (lt : Int32) (ra : Int32) (pf : Int32) (pt : Int32) (pl : Int32) (pd : Int64) (prc : Int64) (ns : Int64) (tu : Nat) (ba : Int64) (na : Int64) (ca : Nat → Int64) (bo : Nat → Int32) (tr : Nat → Int64) (tH : Int32) (asd : Nat → Int32) (pa : Nat → Int64) (tg : Nat → Int64) (sd : Int64) (sr : Int64), rl C T Tk u kp ik ps pm dd tx ty rw rm → zOk Z → G X 1754 [some (.ref b0), some (.ref (A 0)), some (.ref (B 0)), some (.ref o), some (.int (nI i)), none, none, none] [] (wC E A C Z ++ (wM E B u kp ik ps pm dd tx ty rw rm th sz he wr mn vl tp lt ra pf pt pl pd prc ns tu ba na ca bo tr tH asd pa tg sd sr ++ w3))) : G X 962 [some (.ref b0), some (.ref (A 0)), some (.ref (B 0)), some (.ref o), some (.int (nI i)), none, none, none] [] (wc ++ (wm ++ w3)) := by
  obtain ⟨P1, P2, S1, S2, S3⟩ := S
  refine rh_aload_n hX dL_law_962 rfl ?_
  refine rh_aload_n hX dL_law_963 rfl ?_
  refine rh_iload hX dL_law_964 rfl ?_
  refine rh_iconst hX dL_law_966 ki_1 ?_
  refine rh_iadd hX dL_law_967 ?_
  refine rq_sld hX hR (i + 1) dL_law_968 nIa1 (by omega) (by omega) ?_
  refine rh_aload_n hX dL_law_969 rfl ?_
  refine rh_iload hX dL_law_970 rfl ?_
  refine rh_iconst hX dL_law_972 ki_2 ?_
  refine rh_iadd hX dL_law_973 ?_
  refine rq_sld hX hR (i + 2) dL_law_974 nIa2 (by omega) (by omega) ?_
  refine rh_cL hX (wc := wc) (wr := wm ++ w3) (As := [.int (xs (i + 1)), .int (xs (i + 2))]) (rest := []) lk_L_113 mvX7_shares S1 ⟨rfl, rfl⟩ ⟨Nat.le_of_ble_eq_true rfl, Nat.le_of_ble_eq_true rfl⟩ h1 dL_law_975 rfl rfl (Nat.le_of_ble_eq_true rfl) (fun r1 w1 hp1 => ?_)
  obtain ⟨v, rfl, S4⟩ := S3 r1 w1 hp1
  show G X 978 [some (.ref b0), some (.ref (A 0)), some (.ref (B 0)), some (.ref o), some (.int (nI i)), none, none, none] [.int v] (w1 ++ (wm ++ w3))
  refine rh_aload_n hX dL_law_978 rfl ?_
  refine rh_aload_n hX dL_law_979 rfl ?_
  refine rh_iload hX dL_law_980 rfl ?_
  refine rh_iconst hX dL_law_982 ki_1 ?_
  refine rh_iadd hX dL_law_983 ?_
  refine rq_sld hX hR (i + 1) dL_law_984 nIa1 (by omega) (by omega) ?_
  refine rh_aload_n hX dL_law_985 rfl ?_
  refine rh_iload hX dL_law_986 rfl ?_
  refine rh_iconst hX dL_law_988 ki_2 ?_
  refine rh_iadd hX dL_law_989 ?_
  refine rq_sld hX hR (i + 2) dL_law_990 nIa2 (by omega) (by omega) ?_
  refine rh_cM hX (wa := w1) (wc := wm) (wr := w3) (As := [.int (xs (i + 1)), .int (xs (i + 2))]) (rest := [.int v]) lk_L_116 mvX8_shares S2 ⟨rfl, rfl⟩ ⟨Nat.le_of_ble_eq_true rfl, Nat.le_of_ble_eq_true rfl⟩ h2 dL_law_991 rfl rfl (Nat.le_of_ble_eq_true rfl) (fun r2 w2 hp2 => ?_)
  obtain ⟨rfl, hg⟩ := S4 r2 w2 hp2
  show G X 994 [some (.ref b0), some (.ref (A 0)), some (.ref (B 0)), some (.ref o), some (.int (nI i)), none, none, none] [.int v, .int v] (w1 ++ (w2 ++ w3))
  refine rh_icmp_eq_t hX dL_law_994 (tgt := 1754) (by decide) rfl ?_
  exact hg X 1754 [some (.ref b0), some (.ref (A 0)), some (.ref (B 0)), some (.ref o), some (.int (nI i)), none, none, none] [] w3 k

set_option maxRecDepth 100000 in
set_option maxHeartbeats 4000000 in
theorem lc_options {X : rhX} {E : rhE} {A B : Nat → Nat} {b0 L o i a b : Nat} {xs : Nat → Int32} {wc wm w3 d1 d2 : va_W} {f1 f2 : List Value} (hX : Ok X E RL cL_law room_1 8) (hR : RtL X b0 L xs a b) (hi : i + 5 ≤ L) (hL : L ≤ 2560) (h1 : wc = (A 0, .inr (7, f1)) :: d1) (h2 : wm = (B 0, .inr (8, f2)) :: d2) (S : StpC Value.int E A B wc wm yX7_options cX7_options 2 (some .int) (rmL 1) yX8_options cX8_options 2 (some .int) (rmL 3) [.int (xs (i + 1))]) (k : ∀ (C : CT) (T Tk : Nat) (Z : ZT) (u : Nat → Int32) (kp : Nat → Int32) (ik : Int32) (ps : Nat → Int32) (pm : Nat) (dd : Int32) (tx : Nat → Int32) (ty : Nat) (rw : Nat → Int64) (rm : Nat) (th : Int32) (sz : Nat) (he : Nat) (wr : Int32) (mn : Nat → Int32) (vl : Int32) (tp : Int32) (lt : Int32) (ra : Int32) (pf : Int32) (pt : Int32) (pl : Int32) (pd : Int64) (prc : Int64) (ns : Int64) (tu : Nat) (ba : Int64) (na : Int64) (ca : Nat → Int64) (bo : Nat → Int32) (tr : Nat → Int64) (tH : Int32) (asd : Nat → Int32) (pa : Nat → Int64) (tg : Nat → Int64) (sd : Int64) (sr : Int64), rl C T Tk u kp ik ps pm dd tx ty rw rm → zOk Z → G X 1754 [some (.ref b0), some (.ref (A 0)), some (.ref (B 0)), some (.ref o), some (.int (nI i)), none, none, none] [] (wC E A C Z ++ (wM E B u kp ik ps pm dd tx ty rw rm th sz he wr mn vl tp lt ra pf pt pl pd prc ns tu ba na ca bo tr tH asd pa tg sd sr ++ w3))) : G X 999 [some (.ref b0), some (.ref (A 0)), some (.ref (B 0)), some (.ref o), some (.int (nI i)), none, none, none] [] (wc ++ (wm ++ w3)) := by
  obtain ⟨P1, P2, S1, S2, S3⟩ := S
  refine rh_aload_n hX dL_law_999 rfl ?_
  refine rh_aload_n hX dL_law_1000 rfl ?_
  refine rh_iload hX dL_law_1001 rfl ?_
  refine rh_iconst hX dL_law_1003 ki_1 ?_
  refine rh_iadd hX dL_law_1004 ?_
  refine rq_sld hX hR (i + 1) dL_law_1005 nIa1 (by omega) (by omega) ?_
  refine rh_cL hX (wc := wc) (wr := wm ++ w3) (As := [.int (xs (i + 1))]) (rest := []) lk_L_117 mvX7_options S1 ⟨rfl, rfl⟩ ⟨Nat.le_of_ble_eq_true rfl, Nat.le_of_ble_eq_true rfl⟩ h1 dL_law_1006 rfl rfl (Nat.le_of_ble_eq_true rfl) (fun r1 w1 hp1 => ?_)
  obtain ⟨v, rfl, S4⟩ := S3 r1 w1 hp1
  show G X 1009 [some (.ref b0), some (.ref (A 0)), some (.ref (B 0)), some (.ref o), some (.int (nI i)), none, none, none] [.int v] (w1 ++ (wm ++ w3))
  refine rh_aload_n hX dL_law_1009 rfl ?_
  refine rh_aload_n hX dL_law_1010 rfl ?_
  refine rh_iload hX dL_law_1011 rfl ?_
  refine rh_iconst hX dL_law_1013 ki_1 ?_
  refine rh_iadd hX dL_law_1014 ?_
  refine rq_sld hX hR (i + 1) dL_law_1015 nIa1 (by omega) (by omega) ?_
  refine rh_cM hX (wa := w1) (wc := wm) (wr := w3) (As := [.int (xs (i + 1))]) (rest := [.int v]) lk_L_120 mvX8_options S2 ⟨rfl, rfl⟩ ⟨Nat.le_of_ble_eq_true rfl, Nat.le_of_ble_eq_true rfl⟩ h2 dL_law_1016 rfl rfl (Nat.le_of_ble_eq_true rfl) (fun r2 w2 hp2 => ?_)
  obtain ⟨rfl, hg⟩ := S4 r2 w2 hp2
  show G X 1019 [some (.ref b0), some (.ref (A 0)), some (.ref (B 0)), some (.ref o), some (.int (nI i)), none, none, none] [.int v, .int v] (w1 ++ (w2 ++ w3))
  refine rh_icmp_eq_t hX dL_law_1019 (tgt := 1754) (by decide) rfl ?_
  exact hg X 1754 [some (.ref b0), some (.ref (A 0)), some (.ref (B 0)), some (.ref o), some (.int (nI i)), none, none, none] [] w3 k

set_option maxRecDepth 100000 in
set_option maxHeartbeats 4000000 in
theorem lc_stake {X : rhX} {E : rhE} {A B : Nat → Nat} {b0 L o i a b : Nat} {xs : Nat → Int32} {wc wm w3 d1 d2 : va_W} {f1 f2 : List Value} (hX : Ok X E RL cL_law room_1 8) (hR : RtL X b0 L xs a b) (hi : i + 5 ≤ L) (hL : L ≤ 2560) (h1 : wc = (A 0, .inr (7, f1)) :: d1) (h2 : wm = (B 0, .inr (8, f2)) :: d2) (S : StpC Value.int E A B wc wm yX7_stake cX7_stake 4 (some .int) (rmL 4) yX8_stake cX8_stake 2 (some .int) (rmL 5) [.int (xs (i + 1))]) (k : ∀ (C : CT) (T Tk : Nat) (Z : ZT) (u : Nat → Int32) (kp : Nat → Int32) (ik : Int32) (ps : Nat → Int32) (pm : Nat) (dd : Int32) (tx : Nat → Int32) (ty : Nat) (rw : Nat → Int64) (rm : Nat) (th : Int32) (sz : Nat) (he : Nat) (wr : Int32) (mn : Nat → Int32) (vl : Int32) (tp : Int32) (lt : Int32) (ra : Int32) (pf : Int32) (pt : Int32) (pl : Int32) (pd : Int64) (prc : Int64) (ns : Int64) (tu : Nat) (ba : Int64) (na : Int64) (ca : Nat → Int64) (bo : Nat → Int32) (tr : Nat → Int64) (tH : Int32) (asd : Nat → Int32) (pa : Nat → Int64) (tg : Nat → Int64) (sd : Int64) (sr : Int64), rl C T Tk u kp ik ps pm dd tx ty rw rm → zOk Z → G X 1754 [some (.ref b0), some (.ref (A 0)), some (.ref (B 0)), some (.ref o), some (.int (nI i)), none, none, none] [] (wC E A C Z ++ (wM E B u kp ik ps pm dd tx ty rw rm th sz he wr mn vl tp lt ra pf pt pl pd prc ns tu ba na ca bo tr tH asd pa tg sd sr ++ w3))) : G X 1024 [some (.ref b0), some (.ref (A 0)), some (.ref (B 0)), some (.ref o), some (.int (nI i)), none, none, none] [] (wc ++ (wm ++ w3)) := by
  obtain ⟨P1, P2, S1, S2, S3⟩ := S
  refine rh_aload_n hX dL_law_1024 rfl ?_
  refine rh_aload_n hX dL_law_1025 rfl ?_
  refine rh_iload hX dL_law_1026 rfl ?_
  refine rh_iconst hX dL_law_1028 ki_1 ?_
  refine rh_iadd hX dL_law_1029 ?_
  refine rq_sld hX hR (i + 1) dL_law_1030 nIa1 (by omega) (by omega) ?_
  refine rh_cL hX (wc := wc) (wr := wm ++ w3) (As := [.int (xs (i + 1))]) (rest := []) lk_L_121 mvX7_stake S1 ⟨rfl, rfl⟩ ⟨Nat.le_of_ble_eq_true rfl, Nat.le_of_ble_eq_true rfl⟩ h1 dL_law_1031 rfl rfl (Nat.le_of_ble_eq_true rfl) (fun r1 w1 hp1 => ?_)
  obtain ⟨v, rfl, S4⟩ := S3 r1 w1 hp1
  show G X 1034 [some (.ref b0), some (.ref (A 0)), some (.ref (B 0)), some (.ref o), some (.int (nI i)), none, none, none] [.int v] (w1 ++ (wm ++ w3))
  refine rh_aload_n hX dL_law_1034 rfl ?_
  refine rh_aload_n hX dL_law_1035 rfl ?_
  refine rh_iload hX dL_law_1036 rfl ?_
  refine rh_iconst hX dL_law_1038 ki_1 ?_
  refine rh_iadd hX dL_law_1039 ?_
  refine rq_sld hX hR (i + 1) dL_law_1040 nIa1 (by omega) (by omega) ?_
  refine rh_cM hX (wa := w1) (wc := wm) (wr := w3) (As := [.int (xs (i + 1))]) (rest := [.int v]) lk_L_124 mvX8_stake S2 ⟨rfl, rfl⟩ ⟨Nat.le_of_ble_eq_true rfl, Nat.le_of_ble_eq_true rfl⟩ h2 dL_law_1041 rfl rfl (Nat.le_of_ble_eq_true rfl) (fun r2 w2 hp2 => ?_)
  obtain ⟨rfl, hg⟩ := S4 r2 w2 hp2
  show G X 1044 [some (.ref b0), some (.ref (A 0)), some (.ref (B 0)), some (.ref o), some (.int (nI i)), none, none, none] [.int v, .int v] (w1 ++ (w2 ++ w3))
  refine rh_icmp_eq_t hX dL_law_1044 (tgt := 1754) (by decide) rfl ?_
  exact hg X 1754 [some (.ref b0), some (.ref (A 0)), some (.ref (B 0)), some (.ref o), some (.int (nI i)), none, none, none] [] w3 k

set_option maxRecDepth 100000 in
set_option maxHeartbeats 4000000 in
theorem lc_full {X : rhX} {E : rhE} {A B : Nat → Nat} {b0 L o i a b : Nat} {xs : Nat → Int32} {wc wm w3 d1 d2 : va_W} {f1 f2 : List Value} (hX : Ok X E RL cL_law room_1 8) (hR : RtL X b0 L xs a b) (hi : i + 5 ≤ L) (hL : L ≤ 2560) (h1 : wc = (A 0, .inr (7, f1)) :: d1) (h2 : wm = (B 0, .inr (8, f2)) :: d2) (S : StpC Value.int E A B wc wm yX7_full cX7_full 2 (some .int) (rmL 4) yX8_full cX8_full 2 (some .int) (rmL 5) []) (k : ∀ (C : CT) (T Tk : Nat) (Z : ZT) (u : Nat → Int32) (kp : Nat → Int32) (ik : Int32) (ps : Nat → Int32) (pm : Nat) (dd : Int32) (tx : Nat → Int32) (ty : Nat) (rw : Nat → Int64) (rm : Nat) (th : Int32) (sz : Nat) (he : Nat) (wr : Int32) (mn : Nat → Int32) (vl : Int32) (tp : Int32) (lt : Int32) (ra : Int32) (pf : Int32) (pt : Int32) (pl : Int32) (pd : Int64) (prc : Int64) (ns : Int64) (tu : Nat) (ba : Int64) (na : Int64) (ca : Nat → Int64) (bo : Nat → Int32) (tr : Nat → Int64) (tH : Int32) (asd : Nat → Int32) (pa : Nat → Int64) (tg : Nat → Int64) (sd : Int64) (sr : Int64), rl C T Tk u kp ik ps pm dd tx ty rw rm → zOk Z → G X 1754 [some (.ref b0), some (.ref (A 0)), some (.ref (B 0)), some (.ref o), some (.int (nI i)), none, none, none] [] (wC E A C Z ++ (wM E B u kp ik ps pm dd tx ty rw rm th sz he wr mn vl tp lt ra pf pt pl pd prc ns tu ba na ca bo tr tH asd pa tg sd sr ++ w3))) : G X 1049 [some (.ref b0), some (.ref (A 0)), some (.ref (B 0)), some (.ref o), some (.int (nI i)), none, none, none] [] (wc ++ (wm ++ w3)) := by
  obtain ⟨P1, P2, S1, S2, S3⟩ := S
  refine rh_aload_n hX dL_law_1049 rfl ?_
  refine rh_cL hX (wc := wc) (wr := wm ++ w3) (As := []) (rest := []) lk_L_125 mvX7_full S1 ⟨rfl, rfl⟩ ⟨Nat.le_of_ble_eq_true rfl, Nat.le_of_ble_eq_true rfl⟩ h1 dL_law_1050 rfl rfl (Nat.le_of_ble_eq_true rfl) (fun r1 w1 hp1 => ?_)
  obtain ⟨v, rfl, S4⟩ := S3 r1 w1 hp1
  show G X 1053 [some (.ref b0), some (.ref (A 0)), some (.ref (B 0)), some (.ref o), some (.int (nI i)), none, none, none] [.int v] (w1 ++ (wm ++ w3))
  refine rh_aload_n hX dL_law_1053 rfl ?_
  refine rh_cM hX (wa := w1) (wc := wm) (wr := w3) (As := []) (rest := [.int v]) lk_L_128 mvX8_full S2 ⟨rfl, rfl⟩ ⟨Nat.le_of_ble_eq_true rfl, Nat.le_of_ble_eq_true rfl⟩ h2 dL_law_1054 rfl rfl (Nat.le_of_ble_eq_true rfl) (fun r2 w2 hp2 => ?_)
  obtain ⟨rfl, hg⟩ := S4 r2 w2 hp2
  show G X 1057 [some (.ref b0), some (.ref (A 0)), some (.ref (B 0)), some (.ref o), some (.int (nI i)), none, none, none] [.int v, .int v] (w1 ++ (w2 ++ w3))
  refine rh_icmp_eq_t hX dL_law_1057 (tgt := 1754) (by decide) rfl ?_
  exact hg X 1754 [some (.ref b0), some (.ref (A 0)), some (.ref (B 0)), some (.ref o), some (.int (nI i)), none, none, none] [] w3 k

set_option maxRecDepth 100000 in
set_option maxHeartbeats 4000000 in
theorem lc_type {X : rhX} {E : rhE} {A B : Nat → Nat} {b0 L o i a b : Nat} {xs : Nat → Int32} {wc wm w3 d1 d2 : va_W} {f1 f2 : List Value} (hX : Ok X E RL cL_law room_1 8) (hR : RtL X b0 L xs a b) (hi : i + 5 ≤ L) (hL : L ≤ 2560) (h1 : wc = (A 0, .inr (7, f1)) :: d1) (h2 : wm = (B 0, .inr (8, f2)) :: d2) (S : StpC Value.int E A B wc wm yX7_type cX7_type 3 (some .int) (rmL 2) yX8_type cX8_type 3 (some .int) (rmL 3) [.int (xs (i + 1)), .int (xs (i + 2))]) (k : ∀ (C : CT) (T Tk : Nat) (Z : ZT) (u : Nat → Int32) (kp : Nat → Int32) (ik : Int32) (ps : Nat → Int32) (pm : Nat) (dd : Int32) (tx : Nat → Int32) (ty : Nat) (rw : Nat → Int64) (rm : Nat) (th : Int32) (sz : Nat) (he : Nat) (wr : Int32) (mn : Nat → Int32) (vl : Int32) (tp : Int32) (lt : Int32) (ra : Int32) (pf : Int32) (pt : Int32) (pl : Int32) (pd : Int64) (prc : Int64) (ns : Int64) (tu : Nat) (ba : Int64) (na : Int64) (ca : Nat → Int64) (bo : Nat → Int32) (tr : Nat → Int64) (tH : Int32) (asd : Nat → Int32) (pa : Nat → Int64) (tg : Nat → Int64) (sd : Int64) (sr : Int64), rl C T Tk u kp ik ps pm dd tx ty rw rm → zOk Z → G X 1754 [some (.ref b0), some (.ref (A 0)), some (.ref (B 0)), some (.ref o), some (.int (nI i)), none, none, none] [] (wC E A C Z ++ (wM E B u kp ik ps pm dd tx ty rw rm th sz he wr mn vl tp lt ra pf pt pl pd prc ns tu ba na ca bo tr tH asd pa tg sd sr ++ w3))) : G X 1062 [some (.ref b0), some (.ref (A 0)), some (.ref (B 0)), some (.ref o), some (.int (nI i)), none, none, none] [] (wc ++ (wm ++ w3)) := by
  obtain ⟨P1, P2, S1, S2, S3⟩ := S
  refine rh_aload_n hX dL_law_1062 rfl ?_
  refine rh_aload_n hX dL_law_1063 rfl ?_
  refine rh_iload hX dL_law_1064 rfl ?_
  refine rh_iconst hX dL_law_1066 ki_1 ?_
  refine rh_iadd hX dL_law_1067 ?_
  refine rq_sld hX hR (i + 1) dL_law_1068 nIa1 (by omega) (by omega) ?_
  refine rh_aload_n hX dL_law_1069 rfl ?_
  refine rh_iload hX dL_law_1070 rfl ?_
  refine rh_iconst hX dL_law_1072 ki_2 ?_
  refine rh_iadd hX dL_law_1073 ?_
  refine rq_sld hX hR (i + 2) dL_law_1074 nIa2 (by omega) (by omega) ?_
  refine rh_cL hX (wc := wc) (wr := wm ++ w3) (As := [.int (xs (i + 1)), .int (xs (i + 2))]) (rest := []) lk_L_129 mvX7_type S1 ⟨rfl, rfl⟩ ⟨Nat.le_of_ble_eq_true rfl, Nat.le_of_ble_eq_true rfl⟩ h1 dL_law_1075 rfl rfl (Nat.le_of_ble_eq_true rfl) (fun r1 w1 hp1 => ?_)
  obtain ⟨v, rfl, S4⟩ := S3 r1 w1 hp1
  show G X 1078 [some (.ref b0), some (.ref (A 0)), some (.ref (B 0)), some (.ref o), some (.int (nI i)), none, none, none] [.int v] (w1 ++ (wm ++ w3))
  refine rh_aload_n hX dL_law_1078 rfl ?_
  refine rh_aload_n hX dL_law_1079 rfl ?_
  refine rh_iload hX dL_law_1080 rfl ?_
  refine rh_iconst hX dL_law_1082 ki_1 ?_
  refine rh_iadd hX dL_law_1083 ?_
  refine rq_sld hX hR (i + 1) dL_law_1084 nIa1 (by omega) (by omega) ?_
  refine rh_aload_n hX dL_law_1085 rfl ?_
  refine rh_iload hX dL_law_1086 rfl ?_
  refine rh_iconst hX dL_law_1088 ki_2 ?_
  refine rh_iadd hX dL_law_1089 ?_
  refine rq_sld hX hR (i + 2) dL_law_1090 nIa2 (by omega) (by omega) ?_
  refine rh_cM hX (wa := w1) (wc := wm) (wr := w3) (As := [.int (xs (i + 1)), .int (xs (i + 2))]) (rest := [.int v]) lk_L_132 mvX8_type S2 ⟨rfl, rfl⟩ ⟨Nat.le_of_ble_eq_true rfl, Nat.le_of_ble_eq_true rfl⟩ h2 dL_law_1091 rfl rfl (Nat.le_of_ble_eq_true rfl) (fun r2 w2 hp2 => ?_)
  obtain ⟨rfl, hg⟩ := S4 r2 w2 hp2
  show G X 1094 [some (.ref b0), some (.ref (A 0)), some (.ref (B 0)), some (.ref o), some (.int (nI i)), none, none, none] [.int v, .int v] (w1 ++ (w2 ++ w3))
  refine rh_icmp_eq_t hX dL_law_1094 (tgt := 1754) (by decide) rfl ?_
  exact hg X 1754 [some (.ref b0), some (.ref (A 0)), some (.ref (B 0)), some (.ref o), some (.int (nI i)), none, none, none] [] w3 k

set_option maxRecDepth 100000 in
set_option maxHeartbeats 4000000 in
theorem lc_needs {X : rhX} {E : rhE} {A B : Nat → Nat} {b0 L o i a b : Nat} {xs : Nat → Int32} {wc wm w3 d1 d2 : va_W} {f1 f2 : List Value} (hX : Ok X E RL cL_law room_1 8) (hR : RtL X b0 L xs a b) (hi : i + 5 ≤ L) (hL : L ≤ 2560) (h1 : wc = (A 0, .inr (7, f1)) :: d1) (h2 : wm = (B 0, .inr (8, f2)) :: d2) (S : StpC Value.int E A B wc wm yX7_needs cX7_needs 5 (some .int) (rmL 4) yX8_needs cX8_needs 5 (some .int) (rmL 5) [.int (xs (i + 1)), .int (xs (i + 2))]) (k : ∀ (C : CT) (T Tk : Nat) (Z : ZT) (u : Nat → Int32) (kp : Nat → Int32) (ik : Int32) (ps : Nat → Int32) (pm : Nat) (dd : Int32) (tx : Nat → Int32) (ty : Nat) (rw : Nat → Int64) (rm : Nat) (th : Int32) (sz : Nat) (he : Nat) (wr : Int32) (mn : Nat → Int32) (vl : Int32) (tp : Int32) (lt : Int32) (ra : Int32) (pf : Int32) (pt : Int32) (pl : Int32) (pd : Int64) (prc : Int64) (ns : Int64) (tu : Nat) (ba : Int64) (na : Int64) (ca : Nat → Int64) (bo : Nat → Int32) (tr : Nat → Int64) (tH : Int32) (asd : Nat → Int32) (pa : Nat → Int64) (tg : Nat → Int64) (sd : Int64) (sr : Int64), rl C T Tk u kp ik ps pm dd tx ty rw rm → zOk Z → G X 1754 [some (.ref b0), some (.ref (A 0)), some (.ref (B 0)), some (.ref o), some (.int (nI i)), none, none, none] [] (wC E A C Z ++ (wM E B u kp ik ps pm dd tx ty rw rm th sz he wr mn vl tp lt ra pf pt pl pd prc ns tu ba na ca bo tr tH asd pa tg sd sr ++ w3))) : G X 1099 [some (.ref b0), some (.ref (A 0)), some (.ref (B 0)), some (.ref o), some (.int (nI i)), none, none, none] [] (wc ++ (wm ++ w3)) := by
  obtain ⟨P1, P2, S1, S2, S3⟩ := S
  refine rh_aload_n hX dL_law_1099 rfl ?_
  refine rh_aload_n hX dL_law_1100 rfl ?_
  refine rh_iload hX dL_law_1101 rfl ?_
  refine rh_iconst hX dL_law_1103 ki_1 ?_
  refine rh_iadd hX dL_law_1104 ?_
  refine rq_sld hX hR (i + 1) dL_law_1105 nIa1 (by omega) (by omega) ?_
  refine rh_aload_n hX dL_law_1106 rfl ?_
  refine rh_iload hX dL_law_1107 rfl ?_
  refine rh_iconst hX dL_law_1109 ki_2 ?_
  refine rh_iadd hX dL_law_1110 ?_
  refine rq_sld hX hR (i + 2) dL_law_1111 nIa2 (by omega) (by omega) ?_
  refine rh_cL hX (wc := wc) (wr := wm ++ w3) (As := [.int (xs (i + 1)), .int (xs (i + 2))]) (rest := []) lk_L_133 mvX7_needs S1 ⟨rfl, rfl⟩ ⟨Nat.le_of_ble_eq_true rfl, Nat.le_of_ble_eq_true rfl⟩ h1 dL_law_1112 rfl rfl (Nat.le_of_ble_eq_true rfl) (fun r1 w1 hp1 => ?_)
  obtain ⟨v, rfl, S4⟩ := S3 r1 w1 hp1
  show G X 1115 [some (.ref b0), some (.ref (A 0)), some (.ref (B 0)), some (.ref o), some (.int (nI i)), none, none, none] [.int v] (w1 ++ (wm ++ w3))
  refine rh_aload_n hX dL_law_1115 rfl ?_
  refine rh_aload_n hX dL_law_1116 rfl ?_
  refine rh_iload hX dL_law_1117 rfl ?_
  refine rh_iconst hX dL_law_1119 ki_1 ?_
  refine rh_iadd hX dL_law_1120 ?_
  refine rq_sld hX hR (i + 1) dL_law_1121 nIa1 (by omega) (by omega) ?_
  refine rh_aload_n hX dL_law_1122 rfl ?_
  refine rh_iload hX dL_law_1123 rfl ?_
  refine rh_iconst hX dL_law_1125 ki_2 ?_
  refine rh_iadd hX dL_law_1126 ?_
  refine rq_sld hX hR (i + 2) dL_law_1127 nIa2 (by omega) (by omega) ?_
  refine rh_cM hX (wa := w1) (wc := wm) (wr := w3) (As := [.int (xs (i + 1)), .int (xs (i + 2))]) (rest := [.int v]) lk_L_136 mvX8_needs S2 ⟨rfl, rfl⟩ ⟨Nat.le_of_ble_eq_true rfl, Nat.le_of_ble_eq_true rfl⟩ h2 dL_law_1128 rfl rfl (Nat.le_of_ble_eq_true rfl) (fun r2 w2 hp2 => ?_)
  obtain ⟨rfl, hg⟩ := S4 r2 w2 hp2
  show G X 1131 [some (.ref b0), some (.ref (A 0)), some (.ref (B 0)), some (.ref o), some (.int (nI i)), none, none, none] [.int v, .int v] (w1 ++ (w2 ++ w3))
  refine rh_icmp_eq_t hX dL_law_1131 (tgt := 1754) (by decide) rfl ?_
  exact hg X 1754 [some (.ref b0), some (.ref (A 0)), some (.ref (B 0)), some (.ref o), some (.int (nI i)), none, none, none] [] w3 k

set_option maxRecDepth 100000 in
set_option maxHeartbeats 4000000 in
theorem lc_greatest {X : rhX} {E : rhE} {A B : Nat → Nat} {b0 L o i a b : Nat} {xs : Nat → Int32} {wc wm w3 d1 d2 : va_W} {f1 f2 : List Value} (hX : Ok X E RL cL_law room_1 8) (hR : RtL X b0 L xs a b) (hi : i + 5 ≤ L) (hL : L ≤ 2560) (h1 : wc = (A 0, .inr (7, f1)) :: d1) (h2 : wm = (B 0, .inr (8, f2)) :: d2) (S : StpC Value.int E A B wc wm yX7_greatest cX7_greatest 2 (some .int) (rmL 4) yX8_greatest cX8_greatest 5 (some .int) (rmL 5) []) (k : ∀ (C : CT) (T Tk : Nat) (Z : ZT) (u : Nat → Int32) (kp : Nat → Int32) (ik : Int32) (ps : Nat → Int32) (pm : Nat) (dd : Int32) (tx : Nat → Int32) (ty : Nat) (rw : Nat → Int64) (rm : Nat) (th : Int32) (sz : Nat) (he : Nat) (wr : Int32) (mn : Nat → Int32) (vl : Int32) (tp : Int32) (lt : Int32) (ra : Int32) (pf : Int32) (pt : Int32) (pl : Int32) (pd : Int64) (prc : Int64) (ns : Int64) (tu : Nat) (ba : Int64) (na : Int64) (ca : Nat → Int64) (bo : Nat → Int32) (tr : Nat → Int64) (tH : Int32) (asd : Nat → Int32) (pa : Nat → Int64) (tg : Nat → Int64) (sd : Int64) (sr : Int64), rl C T Tk u kp ik ps pm dd tx ty rw rm → zOk Z → G X 1754 [some (.ref b0), some (.ref (A 0)), some (.ref (B 0)), some (.ref o), some (.int (nI i)), none, none, none] [] (wC E A C Z ++ (wM E B u kp ik ps pm dd tx ty rw rm th sz he wr mn vl tp lt ra pf pt pl pd prc ns tu ba na ca bo tr tH asd pa tg sd sr ++ w3))) : G X 1136 [some (.ref b0), some (.ref (A 0)), some (.ref (B 0)), some (.ref o), some (.int (nI i)), none, none, none] [] (wc ++ (wm ++ w3)) := by
  obtain ⟨P1, P2, S1, S2, S3⟩ := S
  refine rh_aload_n hX dL_law_1136 rfl ?_
  refine rh_cL hX (wc := wc) (wr := wm ++ w3) (As := []) (rest := []) lk_L_137 mvX7_greatest S1 ⟨rfl, rfl⟩ ⟨Nat.le_of_ble_eq_true rfl, Nat.le_of_ble_eq_true rfl⟩ h1 dL_law_1137 rfl rfl (Nat.le_of_ble_eq_true rfl) (fun r1 w1 hp1 => ?_)
  obtain ⟨v, rfl, S4⟩ := S3 r1 w1 hp1
  show G X 1140 [some (.ref b0), some (.ref (A 0)), some (.ref (B 0)), some (.ref o), some (.int (nI i)), none, none, none] [.int v] (w1 ++ (wm ++ w3))
  refine rh_aload_n hX dL_law_1140 rfl ?_
  refine rh_cM hX (wa := w1) (wc := wm) (wr := w3) (As := []) (rest := [.int v]) lk_L_140 mvX8_greatest S2 ⟨rfl, rfl⟩ ⟨Nat.le_of_ble_eq_true rfl, Nat.le_of_ble_eq_true rfl⟩ h2 dL_law_1141 rfl rfl (Nat.le_of_ble_eq_true rfl) (fun r2 w2 hp2 => ?_)
  obtain ⟨rfl, hg⟩ := S4 r2 w2 hp2
  show G X 1144 [some (.ref b0), some (.ref (A 0)), some (.ref (B 0)), some (.ref o), some (.int (nI i)), none, none, none] [.int v, .int v] (w1 ++ (w2 ++ w3))
  refine rh_icmp_eq_t hX dL_law_1144 (tgt := 1754) (by decide) rfl ?_
  exact hg X 1754 [some (.ref b0), some (.ref (A 0)), some (.ref (B 0)), some (.ref o), some (.int (nI i)), none, none, none] [] w3 k

set_option maxRecDepth 100000 in
set_option maxHeartbeats 4000000 in
theorem lc_control {X : rhX} {E : rhE} {A B : Nat → Nat} {b0 L o i a b : Nat} {xs : Nat → Int32} {wc wm w3 d1 d2 : va_W} {f1 f2 : List Value} (hX : Ok X E RL cL_law room_1 8) (hR : RtL X b0 L xs a b) (hi : i + 5 ≤ L) (hL : L ≤ 2560) (h1 : wc = (A 0, .inr (7, f1)) :: d1) (h2 : wm = (B 0, .inr (8, f2)) :: d2) (S : StpC Value.int E A B wc wm yX7_control cX7_control 1 (some .int) (rmL 5) yX8_control cX8_control 7 (some .int) (rmL 5) []) (k : ∀ (C : CT) (T Tk : Nat) (Z : ZT) (u : Nat → Int32) (kp : Nat → Int32) (ik : Int32) (ps : Nat → Int32) (pm : Nat) (dd : Int32) (tx : Nat → Int32) (ty : Nat) (rw : Nat → Int64) (rm : Nat) (th : Int32) (sz : Nat) (he : Nat) (wr : Int32) (mn : Nat → Int32) (vl : Int32) (tp : Int32) (lt : Int32) (ra : Int32) (pf : Int32) (pt : Int32) (pl : Int32) (pd : Int64) (prc : Int64) (ns : Int64) (tu : Nat) (ba : Int64) (na : Int64) (ca : Nat → Int64) (bo : Nat → Int32) (tr : Nat → Int64) (tH : Int32) (asd : Nat → Int32) (pa : Nat → Int64) (tg : Nat → Int64) (sd : Int64) (sr : Int64), rl C T Tk u kp ik ps pm dd tx ty rw rm → zOk Z → G X 1754 [some (.ref b0), some (.ref (A 0)), some (.ref (B 0)), some (.ref o), some (.int (nI i)), none, none, none] [] (wC E A C Z ++ (wM E B u kp ik ps pm dd tx ty rw rm th sz he wr mn vl tp lt ra pf pt pl pd prc ns tu ba na ca bo tr tH asd pa tg sd sr ++ w3))) : G X 1149 [some (.ref b0), some (.ref (A 0)), some (.ref (B 0)), some (.ref o), some (.int (nI i)), none, none, none] [] (wc ++ (wm ++ w3)) := by
  obtain ⟨P1, P2, S1, S2, S3⟩ := S
  refine rh_aload_n hX dL_law_1149 rfl ?_
  refine rh_cL hX (wc := wc) (wr := wm ++ w3) (As := []) (rest := []) lk_L_141 mvX7_control S1 ⟨rfl, rfl⟩ ⟨Nat.le_of_ble_eq_true rfl, Nat.le_of_ble_eq_true rfl⟩ h1 dL_law_1150 rfl rfl (Nat.le_of_ble_eq_true rfl) (fun r1 w1 hp1 => ?_)
  obtain ⟨v, rfl, S4⟩ := S3 r1 w1 hp1
  show G X 1153 [some (.ref b0), some (.ref (A 0)), some (.ref (B 0)), some (.ref o), some (.int (nI i)), none, none, none] [.int v] (w1 ++ (wm ++ w3))
  refine rh_aload_n hX dL_law_1153 rfl ?_
  refine rh_cM hX (wa := w1) (wc := wm) (wr := w3) (As := []) (rest := [.int v]) lk_L_144 mvX8_control S2 ⟨rfl, rfl⟩ ⟨Nat.le_of_ble_eq_true rfl, Nat.le_of_ble_eq_true rfl⟩ h2 dL_law_1154 rfl rfl (Nat.le_of_ble_eq_true rfl) (fun r2 w2 hp2 => ?_)
  obtain ⟨rfl, hg⟩ := S4 r2 w2 hp2
  show G X 1157 [some (.ref b0), some (.ref (A 0)), some (.ref (B 0)), some (.ref o), some (.int (nI i)), none, none, none] [.int v, .int v] (w1 ++ (w2 ++ w3))
  refine rh_icmp_eq_t hX dL_law_1157 (tgt := 1754) (by decide) rfl ?_
  exact hg X 1754 [some (.ref b0), some (.ref (A 0)), some (.ref (B 0)), some (.ref o), some (.int (nI i)), none, none, none] [] w3 k

set_option maxRecDepth 100000 in
set_option maxHeartbeats 4000000 in
theorem lc_leads {X : rhX} {E : rhE} {A B : Nat → Nat} {b0 L o i a b : Nat} {xs : Nat → Int32} {wc wm w3 d1 d2 : va_W} {f1 f2 : List Value} (hX : Ok X E RL cL_law room_1 8) (hR : RtL X b0 L xs a b) (hi : i + 5 ≤ L) (hL : L ≤ 2560) (h1 : wc = (A 0, .inr (7, f1)) :: d1) (h2 : wm = (B 0, .inr (8, f2)) :: d2) (S : StpC Value.int E A B wc wm yX7_leads cX7_leads 7 (some .int) (rmL 4) yX8_leads cX8_leads 6 (some .int) (rmL 4) [.int (xs (i + 1))]) (k : ∀ (C : CT) (T Tk : Nat) (Z : ZT) (u : Nat → Int32) (kp : Nat → Int32) (ik : Int32) (ps : Nat → Int32) (pm : Nat) (dd : Int32) (tx : Nat → Int32) (ty : Nat) (rw : Nat → Int64) (rm : Nat) (th : Int32) (sz : Nat) (he : Nat) (wr : Int32) (mn : Nat → Int32) (vl : Int32) (tp : Int32) (lt : Int32) (ra : Int32) (pf : Int32) (pt : Int32) (pl : Int32) (pd : Int64) (prc : Int64) (ns : Int64) (tu : Nat) (ba : Int64) (na : Int64) (ca : Nat → Int64) (bo : Nat → Int32) (tr : Nat → Int64) (tH : Int32) (asd : Nat → Int32) (pa : Nat → Int64) (tg : Nat → Int64) (sd : Int64) (sr : Int64), rl C T Tk u kp ik ps pm dd tx ty rw rm → zOk Z → G X 1754 [some (.ref b0), some (.ref (A 0)), some (.ref (B 0)), some (.ref o), some (.int (nI i)), none, none, none] [] (wC E A C Z ++ (wM E B u kp ik ps pm dd tx ty rw rm th sz he wr mn vl tp lt ra pf pt pl pd prc ns tu ba na ca bo tr tH asd pa tg sd sr ++ w3))) : G X 1162 [some (.ref b0), some (.ref (A 0)), some (.ref (B 0)), some (.ref o), some (.int (nI i)), none, none, none] [] (wc ++ (wm ++ w3)) := by
  obtain ⟨P1, P2, S1, S2, S3⟩ := S
  refine rh_aload_n hX dL_law_1162 rfl ?_
  refine rh_aload_n hX dL_law_1163 rfl ?_
  refine rh_iload hX dL_law_1164 rfl ?_
  refine rh_iconst hX dL_law_1166 ki_1 ?_
  refine rh_iadd hX dL_law_1167 ?_
  refine rq_sld hX hR (i + 1) dL_law_1168 nIa1 (by omega) (by omega) ?_
  refine rh_cL hX (wc := wc) (wr := wm ++ w3) (As := [.int (xs (i + 1))]) (rest := []) lk_L_145 mvX7_leads S1 ⟨rfl, rfl⟩ ⟨Nat.le_of_ble_eq_true rfl, Nat.le_of_ble_eq_true rfl⟩ h1 dL_law_1169 rfl rfl (Nat.le_of_ble_eq_true rfl) (fun r1 w1 hp1 => ?_)
  obtain ⟨v, rfl, S4⟩ := S3 r1 w1 hp1
  show G X 1172 [some (.ref b0), some (.ref (A 0)), some (.ref (B 0)), some (.ref o), some (.int (nI i)), none, none, none] [.int v] (w1 ++ (wm ++ w3))
  refine rh_aload_n hX dL_law_1172 rfl ?_
  refine rh_aload_n hX dL_law_1173 rfl ?_
  refine rh_iload hX dL_law_1174 rfl ?_
  refine rh_iconst hX dL_law_1176 ki_1 ?_
  refine rh_iadd hX dL_law_1177 ?_
  refine rq_sld hX hR (i + 1) dL_law_1178 nIa1 (by omega) (by omega) ?_
  refine rh_cM hX (wa := w1) (wc := wm) (wr := w3) (As := [.int (xs (i + 1))]) (rest := [.int v]) lk_L_148 mvX8_leads S2 ⟨rfl, rfl⟩ ⟨Nat.le_of_ble_eq_true rfl, Nat.le_of_ble_eq_true rfl⟩ h2 dL_law_1179 rfl rfl (Nat.le_of_ble_eq_true rfl) (fun r2 w2 hp2 => ?_)
  obtain ⟨rfl, hg⟩ := S4 r2 w2 hp2
  show G X 1182 [some (.ref b0), some (.ref (A 0)), some (.ref (B 0)), some (.ref o), some (.int (nI i)), none, none, none] [.int v, .int v] (w1 ++ (w2 ++ w3))
  refine rh_icmp_eq_t hX dL_law_1182 (tgt := 1754) (by decide) rfl ?_
  exact hg X 1754 [some (.ref b0), some (.ref (A 0)), some (.ref (B 0)), some (.ref o), some (.int (nI i)), none, none, none] [] w3 k

set_option maxRecDepth 100000 in
set_option maxHeartbeats 4000000 in
theorem lc_block {X : rhX} {E : rhE} {A B : Nat → Nat} {b0 L o i a b : Nat} {xs : Nat → Int32} {wc wm w3 d1 d2 : va_W} {f1 f2 : List Value} (hX : Ok X E RL cL_law room_1 8) (hR : RtL X b0 L xs a b) (hi : i + 5 ≤ L) (hL : L ≤ 2560) (h1 : wc = (A 0, .inr (7, f1)) :: d1) (h2 : wm = (B 0, .inr (8, f2)) :: d2) (S : StpC Value.int E A B wc wm yX7_block cX7_block 2 (some .int) (rmL 5) yX8_block cX8_block 9 (some .int) (rmL 4) [.int (xs (i + 1))]) (k : ∀ (C : CT) (T Tk : Nat) (Z : ZT) (u : Nat → Int32) (kp : Nat → Int32) (ik : Int32) (ps : Nat → Int32) (pm : Nat) (dd : Int32) (tx : Nat → Int32) (ty : Nat) (rw : Nat → Int64) (rm : Nat) (th : Int32) (sz : Nat) (he : Nat) (wr : Int32) (mn : Nat → Int32) (vl : Int32) (tp : Int32) (lt : Int32) (ra : Int32) (pf : Int32) (pt : Int32) (pl : Int32) (pd : Int64) (prc : Int64) (ns : Int64) (tu : Nat) (ba : Int64) (na : Int64) (ca : Nat → Int64) (bo : Nat → Int32) (tr : Nat → Int64) (tH : Int32) (asd : Nat → Int32) (pa : Nat → Int64) (tg : Nat → Int64) (sd : Int64) (sr : Int64), rl C T Tk u kp ik ps pm dd tx ty rw rm → zOk Z → G X 1754 [some (.ref b0), some (.ref (A 0)), some (.ref (B 0)), some (.ref o), some (.int (nI i)), none, none, none] [] (wC E A C Z ++ (wM E B u kp ik ps pm dd tx ty rw rm th sz he wr mn vl tp lt ra pf pt pl pd prc ns tu ba na ca bo tr tH asd pa tg sd sr ++ w3))) : G X 1187 [some (.ref b0), some (.ref (A 0)), some (.ref (B 0)), some (.ref o), some (.int (nI i)), none, none, none] [] (wc ++ (wm ++ w3)) := by
  obtain ⟨P1, P2, S1, S2, S3⟩ := S
  refine rh_aload_n hX dL_law_1187 rfl ?_
  refine rh_aload_n hX dL_law_1188 rfl ?_
  refine rh_iload hX dL_law_1189 rfl ?_
  refine rh_iconst hX dL_law_1191 ki_1 ?_
  refine rh_iadd hX dL_law_1192 ?_
  refine rq_sld hX hR (i + 1) dL_law_1193 nIa1 (by omega) (by omega) ?_
  refine rh_cL hX (wc := wc) (wr := wm ++ w3) (As := [.int (xs (i + 1))]) (rest := []) lk_L_149 mvX7_block S1 ⟨rfl, rfl⟩ ⟨Nat.le_of_ble_eq_true rfl, Nat.le_of_ble_eq_true rfl⟩ h1 dL_law_1194 rfl rfl (Nat.le_of_ble_eq_true rfl) (fun r1 w1 hp1 => ?_)
  obtain ⟨v, rfl, S4⟩ := S3 r1 w1 hp1
  show G X 1197 [some (.ref b0), some (.ref (A 0)), some (.ref (B 0)), some (.ref o), some (.int (nI i)), none, none, none] [.int v] (w1 ++ (wm ++ w3))
  refine rh_aload_n hX dL_law_1197 rfl ?_
  refine rh_aload_n hX dL_law_1198 rfl ?_
  refine rh_iload hX dL_law_1199 rfl ?_
  refine rh_iconst hX dL_law_1201 ki_1 ?_
  refine rh_iadd hX dL_law_1202 ?_
  refine rq_sld hX hR (i + 1) dL_law_1203 nIa1 (by omega) (by omega) ?_
  refine rh_cM hX (wa := w1) (wc := wm) (wr := w3) (As := [.int (xs (i + 1))]) (rest := [.int v]) lk_L_152 mvX8_block S2 ⟨rfl, rfl⟩ ⟨Nat.le_of_ble_eq_true rfl, Nat.le_of_ble_eq_true rfl⟩ h2 dL_law_1204 rfl rfl (Nat.le_of_ble_eq_true rfl) (fun r2 w2 hp2 => ?_)
  obtain ⟨rfl, hg⟩ := S4 r2 w2 hp2
  show G X 1207 [some (.ref b0), some (.ref (A 0)), some (.ref (B 0)), some (.ref o), some (.int (nI i)), none, none, none] [.int v, .int v] (w1 ++ (w2 ++ w3))
  refine rh_icmp_eq_t hX dL_law_1207 (tgt := 1754) (by decide) rfl ?_
  exact hg X 1754 [some (.ref b0), some (.ref (A 0)), some (.ref (B 0)), some (.ref o), some (.int (nI i)), none, none, none] [] w3 k

set_option maxRecDepth 100000 in
set_option maxHeartbeats 4000000 in
theorem lc_paid {X : rhX} {E : rhE} {A B : Nat → Nat} {b0 L o i a b : Nat} {xs : Nat → Int32} {wc wm w3 d1 d2 : va_W} {f1 f2 : List Value} (hX : Ok X E RL cL_law room_1 8) (hR : RtL X b0 L xs a b) (hi : i + 5 ≤ L) (hL : L ≤ 2560) (h1 : wc = (A 0, .inr (7, f1)) :: d1) (h2 : wm = (B 0, .inr (8, f2)) :: d2) (S : StpC Value.int E A B wc wm yX7_paid cX7_paid 3 (some .int) (rmL 3) yX8_paid cX8_paid 3 (some .int) (rmL 5) [.int (xs (i + 1))]) (k : ∀ (C : CT) (T Tk : Nat) (Z : ZT) (u : Nat → Int32) (kp : Nat → Int32) (ik : Int32) (ps : Nat → Int32) (pm : Nat) (dd : Int32) (tx : Nat → Int32) (ty : Nat) (rw : Nat → Int64) (rm : Nat) (th : Int32) (sz : Nat) (he : Nat) (wr : Int32) (mn : Nat → Int32) (vl : Int32) (tp : Int32) (lt : Int32) (ra : Int32) (pf : Int32) (pt : Int32) (pl : Int32) (pd : Int64) (prc : Int64) (ns : Int64) (tu : Nat) (ba : Int64) (na : Int64) (ca : Nat → Int64) (bo : Nat → Int32) (tr : Nat → Int64) (tH : Int32) (asd : Nat → Int32) (pa : Nat → Int64) (tg : Nat → Int64) (sd : Int64) (sr : Int64), rl C T Tk u kp ik ps pm dd tx ty rw rm → zOk Z → G X 1754 [some (.ref b0), some (.ref (A 0)), some (.ref (B 0)), some (.ref o), some (.int (nI i)), none, none, none] [] (wC E A C Z ++ (wM E B u kp ik ps pm dd tx ty rw rm th sz he wr mn vl tp lt ra pf pt pl pd prc ns tu ba na ca bo tr tH asd pa tg sd sr ++ w3))) : G X 1212 [some (.ref b0), some (.ref (A 0)), some (.ref (B 0)), some (.ref o), some (.int (nI i)), none, none, none] [] (wc ++ (wm ++ w3)) := by
  obtain ⟨P1, P2, S1, S2, S3⟩ := S
  refine rh_aload_n hX dL_law_1212 rfl ?_
  refine rh_aload_n hX dL_law_1213 rfl ?_
  refine rh_iload hX dL_law_1214 rfl ?_
  refine rh_iconst hX dL_law_1216 ki_1 ?_
  refine rh_iadd hX dL_law_1217 ?_
  refine rq_sld hX hR (i + 1) dL_law_1218 nIa1 (by omega) (by omega) ?_
  refine rh_cL hX (wc := wc) (wr := wm ++ w3) (As := [.int (xs (i + 1))]) (rest := []) lk_L_153 mvX7_paid S1 ⟨rfl, rfl⟩ ⟨Nat.le_of_ble_eq_true rfl, Nat.le_of_ble_eq_true rfl⟩ h1 dL_law_1219 rfl rfl (Nat.le_of_ble_eq_true rfl) (fun r1 w1 hp1 => ?_)
  obtain ⟨v, rfl, S4⟩ := S3 r1 w1 hp1
  show G X 1222 [some (.ref b0), some (.ref (A 0)), some (.ref (B 0)), some (.ref o), some (.int (nI i)), none, none, none] [.int v] (w1 ++ (wm ++ w3))
  refine rh_aload_n hX dL_law_1222 rfl ?_
  refine rh_aload_n hX dL_law_1223 rfl ?_
  refine rh_iload hX dL_law_1224 rfl ?_
  refine rh_iconst hX dL_law_1226 ki_1 ?_
  refine rh_iadd hX dL_law_1227 ?_
  refine rq_sld hX hR (i + 1) dL_law_1228 nIa1 (by omega) (by omega) ?_
  refine rh_cM hX (wa := w1) (wc := wm) (wr := w3) (As := [.int (xs (i + 1))]) (rest := [.int v]) lk_L_156 mvX8_paid S2 ⟨rfl, rfl⟩ ⟨Nat.le_of_ble_eq_true rfl, Nat.le_of_ble_eq_true rfl⟩ h2 dL_law_1229 rfl rfl (Nat.le_of_ble_eq_true rfl) (fun r2 w2 hp2 => ?_)
  obtain ⟨rfl, hg⟩ := S4 r2 w2 hp2
  show G X 1232 [some (.ref b0), some (.ref (A 0)), some (.ref (B 0)), some (.ref o), some (.int (nI i)), none, none, none] [.int v, .int v] (w1 ++ (w2 ++ w3))
  refine rh_icmp_eq_t hX dL_law_1232 (tgt := 1754) (by decide) rfl ?_
  exact hg X 1754 [some (.ref b0), some (.ref (A 0)), some (.ref (B 0)), some (.ref o), some (.int (nI i)), none, none, none] [] w3 k

set_option maxRecDepth 100000 in
set_option maxHeartbeats 4000000 in
theorem lc_value {X : rhX} {E : rhE} {A B : Nat → Nat} {b0 L o i a b : Nat} {xs : Nat → Int32} {wc wm w3 d1 d2 : va_W} {f1 f2 : List Value} (hX : Ok X E RL cL_law room_1 8) (hR : RtL X b0 L xs a b) (hi : i + 5 ≤ L) (hL : L ≤ 2560) (h1 : wc = (A 0, .inr (7, f1)) :: d1) (h2 : wm = (B 0, .inr (8, f2)) :: d2) (S : StpC Value.int E A B wc wm yX7_value cX7_value 2 (some .int) (rmL 4) yX8_value cX8_value 2 (some .int) (rmL 5) []) (k : ∀ (C : CT) (T Tk : Nat) (Z : ZT) (u : Nat → Int32) (kp : Nat → Int32) (ik : Int32) (ps : Nat → Int32) (pm : Nat) (dd : Int32) (tx : Nat → Int32) (ty : Nat) (rw : Nat → Int64) (rm : Nat) (th : Int32) (sz : Nat) (he : Nat) (wr : Int32) (mn : Nat → Int32) (vl : Int32) (tp : Int32) (lt : Int32) (ra : Int32) (pf : Int32) (pt : Int32) (pl : Int32) (pd : Int64) (prc : Int64) (ns : Int64) (tu : Nat) (ba : Int64) (na : Int64) (ca : Nat → Int64) (bo : Nat → Int32) (tr : Nat → Int64) (tH : Int32) (asd : Nat → Int32) (pa : Nat → Int64) (tg : Nat → Int64) (sd : Int64) (sr : Int64), rl C T Tk u kp ik ps pm dd tx ty rw rm → zOk Z → G X 1754 [some (.ref b0), some (.ref (A 0)), some (.ref (B 0)), some (.ref o), some (.int (nI i)), none, none, none] [] (wC E A C Z ++ (wM E B u kp ik ps pm dd tx ty rw rm th sz he wr mn vl tp lt ra pf pt pl pd prc ns tu ba na ca bo tr tH asd pa tg sd sr ++ w3))) : G X 1237 [some (.ref b0), some (.ref (A 0)), some (.ref (B 0)), some (.ref o), some (.int (nI i)), none, none, none] [] (wc ++ (wm ++ w3)) := by
  obtain ⟨P1, P2, S1, S2, S3⟩ := S
  refine rh_aload_n hX dL_law_1237 rfl ?_
  refine rh_cL hX (wc := wc) (wr := wm ++ w3) (As := []) (rest := []) lk_L_157 mvX7_value S1 ⟨rfl, rfl⟩ ⟨Nat.le_of_ble_eq_true rfl, Nat.le_of_ble_eq_true rfl⟩ h1 dL_law_1238 rfl rfl (Nat.le_of_ble_eq_true rfl) (fun r1 w1 hp1 => ?_)
  obtain ⟨v, rfl, S4⟩ := S3 r1 w1 hp1
  show G X 1241 [some (.ref b0), some (.ref (A 0)), some (.ref (B 0)), some (.ref o), some (.int (nI i)), none, none, none] [.int v] (w1 ++ (wm ++ w3))
  refine rh_aload_n hX dL_law_1241 rfl ?_
  refine rh_cM hX (wa := w1) (wc := wm) (wr := w3) (As := []) (rest := [.int v]) lk_L_160 mvX8_value S2 ⟨rfl, rfl⟩ ⟨Nat.le_of_ble_eq_true rfl, Nat.le_of_ble_eq_true rfl⟩ h2 dL_law_1242 rfl rfl (Nat.le_of_ble_eq_true rfl) (fun r2 w2 hp2 => ?_)
  obtain ⟨rfl, hg⟩ := S4 r2 w2 hp2
  show G X 1245 [some (.ref b0), some (.ref (A 0)), some (.ref (B 0)), some (.ref o), some (.int (nI i)), none, none, none] [.int v, .int v] (w1 ++ (w2 ++ w3))
  refine rh_icmp_eq_t hX dL_law_1245 (tgt := 1754) (by decide) rfl ?_
  exact hg X 1754 [some (.ref b0), some (.ref (A 0)), some (.ref (B 0)), some (.ref o), some (.int (nI i)), none, none, none] [] w3 k

set_option maxRecDepth 100000 in
set_option maxHeartbeats 4000000 in
theorem lc_majority {X : rhX} {E : rhE} {A B : Nat → Nat} {b0 L o i a b : Nat} {xs : Nat → Int32} {wc wm w3 d1 d2 : va_W} {f1 f2 : List Value} (hX : Ok X E RL cL_law room_1 8) (hR : RtL X b0 L xs a b) (hi : i + 5 ≤ L) (hL : L ≤ 2560) (h1 : wc = (A 0, .inr (7, f1)) :: d1) (h2 : wm = (B 0, .inr (8, f2)) :: d2) (S : StpC Value.int E A B wc wm yX7_majority cX7_majority 8 (some .int) (rmL 4) yX8_majority cX8_majority 8 (some .int) (rmL 5) [.int (xs (i + 1))]) (k : ∀ (C : CT) (T Tk : Nat) (Z : ZT) (u : Nat → Int32) (kp : Nat → Int32) (ik : Int32) (ps : Nat → Int32) (pm : Nat) (dd : Int32) (tx : Nat → Int32) (ty : Nat) (rw : Nat → Int64) (rm : Nat) (th : Int32) (sz : Nat) (he : Nat) (wr : Int32) (mn : Nat → Int32) (vl : Int32) (tp : Int32) (lt : Int32) (ra : Int32) (pf : Int32) (pt : Int32) (pl : Int32) (pd : Int64) (prc : Int64) (ns : Int64) (tu : Nat) (ba : Int64) (na : Int64) (ca : Nat → Int64) (bo : Nat → Int32) (tr : Nat → Int64) (tH : Int32) (asd : Nat → Int32) (pa : Nat → Int64) (tg : Nat → Int64) (sd : Int64) (sr : Int64), rl C T Tk u kp ik ps pm dd tx ty rw rm → zOk Z → G X 1754 [some (.ref b0), some (.ref (A 0)), some (.ref (B 0)), some (.ref o), some (.int (nI i)), none, none, none] [] (wC E A C Z ++ (wM E B u kp ik ps pm dd tx ty rw rm th sz he wr mn vl tp lt ra pf pt pl pd prc ns tu ba na ca bo tr tH asd pa tg sd sr ++ w3))) : G X 1250 [some (.ref b0), some (.ref (A 0)), some (.ref (B 0)), some (.ref o), some (.int (nI i)), none, none, none] [] (wc ++ (wm ++ w3)) := by
  obtain ⟨P1, P2, S1, S2, S3⟩ := S
  refine rh_aload_n hX dL_law_1250 rfl ?_
  refine rh_aload_n hX dL_law_1251 rfl ?_
  refine rh_iload hX dL_law_1252 rfl ?_
  refine rh_iconst hX dL_law_1254 ki_1 ?_
  refine rh_iadd hX dL_law_1255 ?_
  refine rq_sld hX hR (i + 1) dL_law_1256 nIa1 (by omega) (by omega) ?_
  refine rh_cL hX (wc := wc) (wr := wm ++ w3) (As := [.int (xs (i + 1))]) (rest := []) lk_L_161 mvX7_majority S1 ⟨rfl, rfl⟩ ⟨Nat.le_of_ble_eq_true rfl, Nat.le_of_ble_eq_true rfl⟩ h1 dL_law_1257 rfl rfl (Nat.le_of_ble_eq_true rfl) (fun r1 w1 hp1 => ?_)
  obtain ⟨v, rfl, S4⟩ := S3 r1 w1 hp1
  show G X 1260 [some (.ref b0), some (.ref (A 0)), some (.ref (B 0)), some (.ref o), some (.int (nI i)), none, none, none] [.int v] (w1 ++ (wm ++ w3))
  refine rh_aload_n hX dL_law_1260 rfl ?_
  refine rh_aload_n hX dL_law_1261 rfl ?_
  refine rh_iload hX dL_law_1262 rfl ?_
  refine rh_iconst hX dL_law_1264 ki_1 ?_
  refine rh_iadd hX dL_law_1265 ?_
  refine rq_sld hX hR (i + 1) dL_law_1266 nIa1 (by omega) (by omega) ?_
  refine rh_cM hX (wa := w1) (wc := wm) (wr := w3) (As := [.int (xs (i + 1))]) (rest := [.int v]) lk_L_164 mvX8_majority S2 ⟨rfl, rfl⟩ ⟨Nat.le_of_ble_eq_true rfl, Nat.le_of_ble_eq_true rfl⟩ h2 dL_law_1267 rfl rfl (Nat.le_of_ble_eq_true rfl) (fun r2 w2 hp2 => ?_)
  obtain ⟨rfl, hg⟩ := S4 r2 w2 hp2
  show G X 1270 [some (.ref b0), some (.ref (A 0)), some (.ref (B 0)), some (.ref o), some (.int (nI i)), none, none, none] [.int v, .int v] (w1 ++ (w2 ++ w3))
  refine rh_icmp_eq_t hX dL_law_1270 (tgt := 1754) (by decide) rfl ?_
  exact hg X 1754 [some (.ref b0), some (.ref (A 0)), some (.ref (B 0)), some (.ref o), some (.int (nI i)), none, none, none] [] w3 k

set_option maxRecDepth 100000 in
set_option maxHeartbeats 4000000 in
theorem lc_swing {X : rhX} {E : rhE} {A B : Nat → Nat} {b0 L o i a b : Nat} {xs : Nat → Int32} {wc wm w3 d1 d2 : va_W} {f1 f2 : List Value} (hX : Ok X E RL cL_law room_1 8) (hR : RtL X b0 L xs a b) (hi : i + 5 ≤ L) (hL : L ≤ 2560) (h1 : wc = (A 0, .inr (7, f1)) :: d1) (h2 : wm = (B 0, .inr (8, f2)) :: d2) (S : StpC Value.int E A B wc wm yX7_swing cX7_swing 7 (some .int) (rmL 4) yX8_swing cX8_swing 3 (some .int) (rmL 5) [.int (xs (i + 1))]) (k : ∀ (C : CT) (T Tk : Nat) (Z : ZT) (u : Nat → Int32) (kp : Nat → Int32) (ik : Int32) (ps : Nat → Int32) (pm : Nat) (dd : Int32) (tx : Nat → Int32) (ty : Nat) (rw : Nat → Int64) (rm : Nat) (th : Int32) (sz : Nat) (he : Nat) (wr : Int32) (mn : Nat → Int32) (vl : Int32) (tp : Int32) (lt : Int32) (ra : Int32) (pf : Int32) (pt : Int32) (pl : Int32) (pd : Int64) (prc : Int64) (ns : Int64) (tu : Nat) (ba : Int64) (na : Int64) (ca : Nat → Int64) (bo : Nat → Int32) (tr : Nat → Int64) (tH : Int32) (asd : Nat → Int32) (pa : Nat → Int64) (tg : Nat → Int64) (sd : Int64) (sr : Int64), rl C T Tk u kp ik ps pm dd tx ty rw rm → zOk Z → G X 1754 [some (.ref b0), some (.ref (A 0)), some (.ref (B 0)), some (.ref o), some (.int (nI i)), none, none, none] [] (wC E A C Z ++ (wM E B u kp ik ps pm dd tx ty rw rm th sz he wr mn vl tp lt ra pf pt pl pd prc ns tu ba na ca bo tr tH asd pa tg sd sr ++ w3))) : G X 1275 [some (.ref b0), some (.ref (A 0)), some (.ref (B 0)), some (.ref o), some (.int (nI i)), none, none, none] [] (wc ++ (wm ++ w3)) := by
  obtain ⟨P1, P2, S1, S2, S3⟩ := S
  refine rh_aload_n hX dL_law_1275 rfl ?_
  refine rh_aload_n hX dL_law_1276 rfl ?_
  refine rh_iload hX dL_law_1277 rfl ?_
  refine rh_iconst hX dL_law_1279 ki_1 ?_
  refine rh_iadd hX dL_law_1280 ?_
  refine rq_sld hX hR (i + 1) dL_law_1281 nIa1 (by omega) (by omega) ?_
  refine rh_cL hX (wc := wc) (wr := wm ++ w3) (As := [.int (xs (i + 1))]) (rest := []) lk_L_165 mvX7_swing S1 ⟨rfl, rfl⟩ ⟨Nat.le_of_ble_eq_true rfl, Nat.le_of_ble_eq_true rfl⟩ h1 dL_law_1282 rfl rfl (Nat.le_of_ble_eq_true rfl) (fun r1 w1 hp1 => ?_)
  obtain ⟨v, rfl, S4⟩ := S3 r1 w1 hp1
  show G X 1285 [some (.ref b0), some (.ref (A 0)), some (.ref (B 0)), some (.ref o), some (.int (nI i)), none, none, none] [.int v] (w1 ++ (wm ++ w3))
  refine rh_aload_n hX dL_law_1285 rfl ?_
  refine rh_aload_n hX dL_law_1286 rfl ?_
  refine rh_iload hX dL_law_1287 rfl ?_
  refine rh_iconst hX dL_law_1289 ki_1 ?_
  refine rh_iadd hX dL_law_1290 ?_
  refine rq_sld hX hR (i + 1) dL_law_1291 nIa1 (by omega) (by omega) ?_
  refine rh_cM hX (wa := w1) (wc := wm) (wr := w3) (As := [.int (xs (i + 1))]) (rest := [.int v]) lk_L_168 mvX8_swing S2 ⟨rfl, rfl⟩ ⟨Nat.le_of_ble_eq_true rfl, Nat.le_of_ble_eq_true rfl⟩ h2 dL_law_1292 rfl rfl (Nat.le_of_ble_eq_true rfl) (fun r2 w2 hp2 => ?_)
  obtain ⟨rfl, hg⟩ := S4 r2 w2 hp2
  show G X 1295 [some (.ref b0), some (.ref (A 0)), some (.ref (B 0)), some (.ref o), some (.int (nI i)), none, none, none] [.int v, .int v] (w1 ++ (w2 ++ w3))
  refine rh_icmp_eq_t hX dL_law_1295 (tgt := 1754) (by decide) rfl ?_
  exact hg X 1754 [some (.ref b0), some (.ref (A 0)), some (.ref (B 0)), some (.ref o), some (.int (nI i)), none, none, none] [] w3 k

set_option maxRecDepth 100000 in
set_option maxHeartbeats 4000000 in
theorem lc_exit {X : rhX} {E : rhE} {A B : Nat → Nat} {b0 L o i a b : Nat} {xs : Nat → Int32} {wc wm w3 d1 d2 : va_W} {f1 f2 : List Value} (hX : Ok X E RL cL_law room_1 8) (hR : RtL X b0 L xs a b) (hi : i + 5 ≤ L) (hL : L ≤ 2560) (h1 : wc = (A 0, .inr (7, f1)) :: d1) (h2 : wm = (B 0, .inr (8, f2)) :: d2) (S : StpC Value.int E A B wc wm yX7_exit cX7_exit 3 (some .int) (rmL 4) yX8_exit cX8_exit 4 (some .int) (rmL 6) [.int (xs (i + 1))]) (k : ∀ (C : CT) (T Tk : Nat) (Z : ZT) (u : Nat → Int32) (kp : Nat → Int32) (ik : Int32) (ps : Nat → Int32) (pm : Nat) (dd : Int32) (tx : Nat → Int32) (ty : Nat) (rw : Nat → Int64) (rm : Nat) (th : Int32) (sz : Nat) (he : Nat) (wr : Int32) (mn : Nat → Int32) (vl : Int32) (tp : Int32) (lt : Int32) (ra : Int32) (pf : Int32) (pt : Int32) (pl : Int32) (pd : Int64) (prc : Int64) (ns : Int64) (tu : Nat) (ba : Int64) (na : Int64) (ca : Nat → Int64) (bo : Nat → Int32) (tr : Nat → Int64) (tH : Int32) (asd : Nat → Int32) (pa : Nat → Int64) (tg : Nat → Int64) (sd : Int64) (sr : Int64), rl C T Tk u kp ik ps pm dd tx ty rw rm → zOk Z → G X 1754 [some (.ref b0), some (.ref (A 0)), some (.ref (B 0)), some (.ref o), some (.int (nI i)), none, none, none] [] (wC E A C Z ++ (wM E B u kp ik ps pm dd tx ty rw rm th sz he wr mn vl tp lt ra pf pt pl pd prc ns tu ba na ca bo tr tH asd pa tg sd sr ++ w3))) : G X 1300 [some (.ref b0), some (.ref (A 0)), some (.ref (B 0)), some (.ref o), some (.int (nI i)), none, none, none] [] (wc ++ (wm ++ w3)) := by
  obtain ⟨P1, P2, S1, S2, S3⟩ := S
  refine rh_aload_n hX dL_law_1300 rfl ?_
  refine rh_aload_n hX dL_law_1301 rfl ?_
  refine rh_iload hX dL_law_1302 rfl ?_
  refine rh_iconst hX dL_law_1304 ki_1 ?_
  refine rh_iadd hX dL_law_1305 ?_
  refine rq_sld hX hR (i + 1) dL_law_1306 nIa1 (by omega) (by omega) ?_
  refine rh_cL hX (wc := wc) (wr := wm ++ w3) (As := [.int (xs (i + 1))]) (rest := []) lk_L_169 mvX7_exit S1 ⟨rfl, rfl⟩ ⟨Nat.le_of_ble_eq_true rfl, Nat.le_of_ble_eq_true rfl⟩ h1 dL_law_1307 rfl rfl (Nat.le_of_ble_eq_true rfl) (fun r1 w1 hp1 => ?_)
  obtain ⟨v, rfl, S4⟩ := S3 r1 w1 hp1
  show G X 1310 [some (.ref b0), some (.ref (A 0)), some (.ref (B 0)), some (.ref o), some (.int (nI i)), none, none, none] [.int v] (w1 ++ (wm ++ w3))
  refine rh_aload_n hX dL_law_1310 rfl ?_
  refine rh_aload_n hX dL_law_1311 rfl ?_
  refine rh_iload hX dL_law_1312 rfl ?_
  refine rh_iconst hX dL_law_1314 ki_1 ?_
  refine rh_iadd hX dL_law_1315 ?_
  refine rq_sld hX hR (i + 1) dL_law_1316 nIa1 (by omega) (by omega) ?_
  refine rh_cM hX (wa := w1) (wc := wm) (wr := w3) (As := [.int (xs (i + 1))]) (rest := [.int v]) lk_L_172 mvX8_exit S2 ⟨rfl, rfl⟩ ⟨Nat.le_of_ble_eq_true rfl, Nat.le_of_ble_eq_true rfl⟩ h2 dL_law_1317 rfl rfl (Nat.le_of_ble_eq_true rfl) (fun r2 w2 hp2 => ?_)
  obtain ⟨rfl, hg⟩ := S4 r2 w2 hp2
  show G X 1320 [some (.ref b0), some (.ref (A 0)), some (.ref (B 0)), some (.ref o), some (.int (nI i)), none, none, none] [.int v, .int v] (w1 ++ (w2 ++ w3))
  refine rh_icmp_eq_t hX dL_law_1320 (tgt := 1754) (by decide) rfl ?_
  exact hg X 1754 [some (.ref b0), some (.ref (A 0)), some (.ref (B 0)), some (.ref o), some (.int (nI i)), none, none, none] [] w3 k

set_option maxRecDepth 100000 in
set_option maxHeartbeats 4000000 in
theorem lc_gets {X : rhX} {E : rhE} {A B : Nat → Nat} {b0 L o i a b : Nat} {xs : Nat → Int32} {wc wm w3 d1 d2 : va_W} {f1 f2 : List Value} (hX : Ok X E RL cL_law room_1 8) (hR : RtL X b0 L xs a b) (hi : i + 5 ≤ L) (hL : L ≤ 2560) (h1 : wc = (A 0, .inr (7, f1)) :: d1) (h2 : wm = (B 0, .inr (8, f2)) :: d2) (S : StpC Value.int E A B wc wm yX7_gets cX7_gets 7 (some .int) (rmL 4) yX8_gets cX8_gets 4 (some .int) (rmL 6) [.int (xs (i + 1)), .int (xs (i + 2))]) (k : ∀ (C : CT) (T Tk : Nat) (Z : ZT) (u : Nat → Int32) (kp : Nat → Int32) (ik : Int32) (ps : Nat → Int32) (pm : Nat) (dd : Int32) (tx : Nat → Int32) (ty : Nat) (rw : Nat → Int64) (rm : Nat) (th : Int32) (sz : Nat) (he : Nat) (wr : Int32) (mn : Nat → Int32) (vl : Int32) (tp : Int32) (lt : Int32) (ra : Int32) (pf : Int32) (pt : Int32) (pl : Int32) (pd : Int64) (prc : Int64) (ns : Int64) (tu : Nat) (ba : Int64) (na : Int64) (ca : Nat → Int64) (bo : Nat → Int32) (tr : Nat → Int64) (tH : Int32) (asd : Nat → Int32) (pa : Nat → Int64) (tg : Nat → Int64) (sd : Int64) (sr : Int64), rl C T Tk u kp ik ps pm dd tx ty rw rm → zOk Z → G X 1754 [some (.ref b0), some (.ref (A 0)), some (.ref (B 0)), some (.ref o), some (.int (nI i)), none, none, none] [] (wC E A C Z ++ (wM E B u kp ik ps pm dd tx ty rw rm th sz he wr mn vl tp lt ra pf pt pl pd prc ns tu ba na ca bo tr tH asd pa tg sd sr ++ w3))) : G X 1325 [some (.ref b0), some (.ref (A 0)), some (.ref (B 0)), some (.ref o), some (.int (nI i)), none, none, none] [] (wc ++ (wm ++ w3)) := by
  obtain ⟨P1, P2, S1, S2, S3⟩ := S
  refine rh_aload_n hX dL_law_1325 rfl ?_
  refine rh_aload_n hX dL_law_1326 rfl ?_
  refine rh_iload hX dL_law_1327 rfl ?_
  refine rh_iconst hX dL_law_1329 ki_1 ?_
  refine rh_iadd hX dL_law_1330 ?_
  refine rq_sld hX hR (i + 1) dL_law_1331 nIa1 (by omega) (by omega) ?_
  refine rh_aload_n hX dL_law_1332 rfl ?_
  refine rh_iload hX dL_law_1333 rfl ?_
  refine rh_iconst hX dL_law_1335 ki_2 ?_
  refine rh_iadd hX dL_law_1336 ?_
  refine rq_sld hX hR (i + 2) dL_law_1337 nIa2 (by omega) (by omega) ?_
  refine rh_cL hX (wc := wc) (wr := wm ++ w3) (As := [.int (xs (i + 1)), .int (xs (i + 2))]) (rest := []) lk_L_173 mvX7_gets S1 ⟨rfl, rfl⟩ ⟨Nat.le_of_ble_eq_true rfl, Nat.le_of_ble_eq_true rfl⟩ h1 dL_law_1338 rfl rfl (Nat.le_of_ble_eq_true rfl) (fun r1 w1 hp1 => ?_)
  obtain ⟨v, rfl, S4⟩ := S3 r1 w1 hp1
  show G X 1341 [some (.ref b0), some (.ref (A 0)), some (.ref (B 0)), some (.ref o), some (.int (nI i)), none, none, none] [.int v] (w1 ++ (wm ++ w3))
  refine rh_aload_n hX dL_law_1341 rfl ?_
  refine rh_aload_n hX dL_law_1342 rfl ?_
  refine rh_iload hX dL_law_1343 rfl ?_
  refine rh_iconst hX dL_law_1345 ki_1 ?_
  refine rh_iadd hX dL_law_1346 ?_
  refine rq_sld hX hR (i + 1) dL_law_1347 nIa1 (by omega) (by omega) ?_
  refine rh_aload_n hX dL_law_1348 rfl ?_
  refine rh_iload hX dL_law_1349 rfl ?_
  refine rh_iconst hX dL_law_1351 ki_2 ?_
  refine rh_iadd hX dL_law_1352 ?_
  refine rq_sld hX hR (i + 2) dL_law_1353 nIa2 (by omega) (by omega) ?_
  refine rh_cM hX (wa := w1) (wc := wm) (wr := w3) (As := [.int (xs (i + 1)), .int (xs (i + 2))]) (rest := [.int v]) lk_L_176 mvX8_gets S2 ⟨rfl, rfl⟩ ⟨Nat.le_of_ble_eq_true rfl, Nat.le_of_ble_eq_true rfl⟩ h2 dL_law_1354 rfl rfl (Nat.le_of_ble_eq_true rfl) (fun r2 w2 hp2 => ?_)
  obtain ⟨rfl, hg⟩ := S4 r2 w2 hp2
  show G X 1357 [some (.ref b0), some (.ref (A 0)), some (.ref (B 0)), some (.ref o), some (.int (nI i)), none, none, none] [.int v, .int v] (w1 ++ (w2 ++ w3))
  refine rh_icmp_eq_t hX dL_law_1357 (tgt := 1754) (by decide) rfl ?_
  exact hg X 1754 [some (.ref b0), some (.ref (A 0)), some (.ref (B 0)), some (.ref o), some (.int (nI i)), none, none, none] [] w3 k

set_option maxRecDepth 100000 in
set_option maxHeartbeats 4000000 in
theorem lc_over {X : rhX} {E : rhE} {A B : Nat → Nat} {b0 L o i a b : Nat} {xs : Nat → Int32} {wc wm w3 d1 d2 : va_W} {f1 f2 : List Value} (hX : Ok X E RL cL_law room_1 8) (hR : RtL X b0 L xs a b) (hi : i + 5 ≤ L) (hL : L ≤ 2560) (h1 : wc = (A 0, .inr (7, f1)) :: d1) (h2 : wm = (B 0, .inr (8, f2)) :: d2) (S : StpC Value.int E A B wc wm yX7_over cX7_over 7 (some .int) (rmL 4) yX8_over cX8_over 7 (some .int) (rmL 7) [.int (xs (i + 1))]) (k : ∀ (C : CT) (T Tk : Nat) (Z : ZT) (u : Nat → Int32) (kp : Nat → Int32) (ik : Int32) (ps : Nat → Int32) (pm : Nat) (dd : Int32) (tx : Nat → Int32) (ty : Nat) (rw : Nat → Int64) (rm : Nat) (th : Int32) (sz : Nat) (he : Nat) (wr : Int32) (mn : Nat → Int32) (vl : Int32) (tp : Int32) (lt : Int32) (ra : Int32) (pf : Int32) (pt : Int32) (pl : Int32) (pd : Int64) (prc : Int64) (ns : Int64) (tu : Nat) (ba : Int64) (na : Int64) (ca : Nat → Int64) (bo : Nat → Int32) (tr : Nat → Int64) (tH : Int32) (asd : Nat → Int32) (pa : Nat → Int64) (tg : Nat → Int64) (sd : Int64) (sr : Int64), rl C T Tk u kp ik ps pm dd tx ty rw rm → zOk Z → G X 1754 [some (.ref b0), some (.ref (A 0)), some (.ref (B 0)), some (.ref o), some (.int (nI i)), none, none, none] [] (wC E A C Z ++ (wM E B u kp ik ps pm dd tx ty rw rm th sz he wr mn vl tp lt ra pf pt pl pd prc ns tu ba na ca bo tr tH asd pa tg sd sr ++ w3))) : G X 1362 [some (.ref b0), some (.ref (A 0)), some (.ref (B 0)), some (.ref o), some (.int (nI i)), none, none, none] [] (wc ++ (wm ++ w3)) := by
  obtain ⟨P1, P2, S1, S2, S3⟩ := S
  refine rh_aload_n hX dL_law_1362 rfl ?_
  refine rh_aload_n hX dL_law_1363 rfl ?_
  refine rh_iload hX dL_law_1364 rfl ?_
  refine rh_iconst hX dL_law_1366 ki_1 ?_
  refine rh_iadd hX dL_law_1367 ?_
  refine rq_sld hX hR (i + 1) dL_law_1368 nIa1 (by omega) (by omega) ?_
  refine rh_cL hX (wc := wc) (wr := wm ++ w3) (As := [.int (xs (i + 1))]) (rest := []) lk_L_177 mvX7_over S1 ⟨rfl, rfl⟩ ⟨Nat.le_of_ble_eq_true rfl, Nat.le_of_ble_eq_true rfl⟩ h1 dL_law_1369 rfl rfl (Nat.le_of_ble_eq_true rfl) (fun r1 w1 hp1 => ?_)
  obtain ⟨v, rfl, S4⟩ := S3 r1 w1 hp1
  show G X 1372 [some (.ref b0), some (.ref (A 0)), some (.ref (B 0)), some (.ref o), some (.int (nI i)), none, none, none] [.int v] (w1 ++ (wm ++ w3))
  refine rh_aload_n hX dL_law_1372 rfl ?_
  refine rh_aload_n hX dL_law_1373 rfl ?_
  refine rh_iload hX dL_law_1374 rfl ?_
  refine rh_iconst hX dL_law_1376 ki_1 ?_
  refine rh_iadd hX dL_law_1377 ?_
  refine rq_sld hX hR (i + 1) dL_law_1378 nIa1 (by omega) (by omega) ?_
  refine rh_cM hX (wa := w1) (wc := wm) (wr := w3) (As := [.int (xs (i + 1))]) (rest := [.int v]) lk_L_180 mvX8_over S2 ⟨rfl, rfl⟩ ⟨Nat.le_of_ble_eq_true rfl, Nat.le_of_ble_eq_true rfl⟩ h2 dL_law_1379 rfl rfl (Nat.le_of_ble_eq_true rfl) (fun r2 w2 hp2 => ?_)
  obtain ⟨rfl, hg⟩ := S4 r2 w2 hp2
  show G X 1382 [some (.ref b0), some (.ref (A 0)), some (.ref (B 0)), some (.ref o), some (.int (nI i)), none, none, none] [.int v, .int v] (w1 ++ (w2 ++ w3))
  refine rh_icmp_eq_t hX dL_law_1382 (tgt := 1754) (by decide) rfl ?_
  exact hg X 1754 [some (.ref b0), some (.ref (A 0)), some (.ref (B 0)), some (.ref o), some (.int (nI i)), none, none, none] [] w3 k

set_option maxRecDepth 100000 in
set_option maxHeartbeats 4000000 in
theorem lc_worth {X : rhX} {E : rhE} {A B : Nat → Nat} {b0 L o i a b : Nat} {xs : Nat → Int32} {wc wm w3 d1 d2 : va_W} {f1 f2 : List Value} (hX : Ok X E RL cL_law room_1 8) (hR : RtL X b0 L xs a b) (hi : i + 5 ≤ L) (hL : L ≤ 2560) (h1 : wc = (A 0, .inr (7, f1)) :: d1) (h2 : wm = (B 0, .inr (8, f2)) :: d2) (S : StpC Value.int E A B wc wm yX7_worth cX7_worth 5 (some .int) (rmL 4) yX8_worth cX8_worth 4 (some .int) (rmL 6) [.int (xs (i + 1)), .int (xs (i + 2))]) (k : ∀ (C : CT) (T Tk : Nat) (Z : ZT) (u : Nat → Int32) (kp : Nat → Int32) (ik : Int32) (ps : Nat → Int32) (pm : Nat) (dd : Int32) (tx : Nat → Int32) (ty : Nat) (rw : Nat → Int64) (rm : Nat) (th : Int32) (sz : Nat) (he : Nat) (wr : Int32) (mn : Nat → Int32) (vl : Int32) (tp : Int32) (lt : Int32) (ra : Int32) (pf : Int32) (pt : Int32) (pl : Int32) (pd : Int64) (prc : Int64) (ns : Int64) (tu : Nat) (ba : Int64) (na : Int64) (ca : Nat → Int64) (bo : Nat → Int32) (tr : Nat → Int64) (tH : Int32) (asd : Nat → Int32) (pa : Nat → Int64) (tg : Nat → Int64) (sd : Int64) (sr : Int64), rl C T Tk u kp ik ps pm dd tx ty rw rm → zOk Z → G X 1754 [some (.ref b0), some (.ref (A 0)), some (.ref (B 0)), some (.ref o), some (.int (nI i)), none, none, none] [] (wC E A C Z ++ (wM E B u kp ik ps pm dd tx ty rw rm th sz he wr mn vl tp lt ra pf pt pl pd prc ns tu ba na ca bo tr tH asd pa tg sd sr ++ w3))) : G X 1387 [some (.ref b0), some (.ref (A 0)), some (.ref (B 0)), some (.ref o), some (.int (nI i)), none, none, none] [] (wc ++ (wm ++ w3)) := by
  obtain ⟨P1, P2, S1, S2, S3⟩ := S
  refine rh_aload_n hX dL_law_1387 rfl ?_
  refine rh_aload_n hX dL_law_1388 rfl ?_
  refine rh_iload hX dL_law_1389 rfl ?_
  refine rh_iconst hX dL_law_1391 ki_1 ?_
  refine rh_iadd hX dL_law_1392 ?_
  refine rq_sld hX hR (i + 1) dL_law_1393 nIa1 (by omega) (by omega) ?_
  refine rh_aload_n hX dL_law_1394 rfl ?_
  refine rh_iload hX dL_law_1395 rfl ?_
  refine rh_iconst hX dL_law_1397 ki_2 ?_
  refine rh_iadd hX dL_law_1398 ?_
  refine rq_sld hX hR (i + 2) dL_law_1399 nIa2 (by omega) (by omega) ?_
  refine rh_cL hX (wc := wc) (wr := wm ++ w3) (As := [.int (xs (i + 1)), .int (xs (i + 2))]) (rest := []) lk_L_181 mvX7_worth S1 ⟨rfl, rfl⟩ ⟨Nat.le_of_ble_eq_true rfl, Nat.le_of_ble_eq_true rfl⟩ h1 dL_law_1400 rfl rfl (Nat.le_of_ble_eq_true rfl) (fun r1 w1 hp1 => ?_)
  obtain ⟨v, rfl, S4⟩ := S3 r1 w1 hp1
  show G X 1403 [some (.ref b0), some (.ref (A 0)), some (.ref (B 0)), some (.ref o), some (.int (nI i)), none, none, none] [.int v] (w1 ++ (wm ++ w3))
  refine rh_aload_n hX dL_law_1403 rfl ?_
  refine rh_aload_n hX dL_law_1404 rfl ?_
  refine rh_iload hX dL_law_1405 rfl ?_
  refine rh_iconst hX dL_law_1407 ki_1 ?_
  refine rh_iadd hX dL_law_1408 ?_
  refine rq_sld hX hR (i + 1) dL_law_1409 nIa1 (by omega) (by omega) ?_
  refine rh_aload_n hX dL_law_1410 rfl ?_
  refine rh_iload hX dL_law_1411 rfl ?_
  refine rh_iconst hX dL_law_1413 ki_2 ?_
  refine rh_iadd hX dL_law_1414 ?_
  refine rq_sld hX hR (i + 2) dL_law_1415 nIa2 (by omega) (by omega) ?_
  refine rh_cM hX (wa := w1) (wc := wm) (wr := w3) (As := [.int (xs (i + 1)), .int (xs (i + 2))]) (rest := [.int v]) lk_L_184 mvX8_worth S2 ⟨rfl, rfl⟩ ⟨Nat.le_of_ble_eq_true rfl, Nat.le_of_ble_eq_true rfl⟩ h2 dL_law_1416 rfl rfl (Nat.le_of_ble_eq_true rfl) (fun r2 w2 hp2 => ?_)
  obtain ⟨rfl, hg⟩ := S4 r2 w2 hp2
  show G X 1419 [some (.ref b0), some (.ref (A 0)), some (.ref (B 0)), some (.ref o), some (.int (nI i)), none, none, none] [.int v, .int v] (w1 ++ (w2 ++ w3))
  refine rh_icmp_eq_t hX dL_law_1419 (tgt := 1754) (by decide) rfl ?_
  exact hg X 1754 [some (.ref b0), some (.ref (A 0)), some (.ref (B 0)), some (.ref o), some (.int (nI i)), none, none, none] [] w3 k

set_option maxRecDepth 100000 in
set_option maxHeartbeats 4000000 in
theorem lc_curve {X : rhX} {E : rhE} {A B : Nat → Nat} {b0 L o i a b : Nat} {xs : Nat → Int32} {wc wm w3 d1 d2 : va_W} {f1 f2 : List Value} (hX : Ok X E RL cL_law room_1 8) (hR : RtL X b0 L xs a b) (hi : i + 5 ≤ L) (hL : L ≤ 2560) (h1 : wc = (A 0, .inr (7, f1)) :: d1) (h2 : wm = (B 0, .inr (8, f2)) :: d2) (S : StpC Value.long E A B wc wm yX7_curve cX7_curve 8 (some .long) (rmL 4) yX8_curve cX8_curve 8 (some .long) (rmL 7) [.int (xs (i + 1)), .int (xs (i + 2))]) (k : ∀ (C : CT) (T Tk : Nat) (Z : ZT) (u : Nat → Int32) (kp : Nat → Int32) (ik : Int32) (ps : Nat → Int32) (pm : Nat) (dd : Int32) (tx : Nat → Int32) (ty : Nat) (rw : Nat → Int64) (rm : Nat) (th : Int32) (sz : Nat) (he : Nat) (wr : Int32) (mn : Nat → Int32) (vl : Int32) (tp : Int32) (lt : Int32) (ra : Int32) (pf : Int32) (pt : Int32) (pl : Int32) (pd : Int64) (prc : Int64) (ns : Int64) (tu : Nat) (ba : Int64) (na : Int64) (ca : Nat → Int64) (bo : Nat → Int32) (tr : Nat → Int64) (tH : Int32) (asd : Nat → Int32) (pa : Nat → Int64) (tg : Nat → Int64) (sd : Int64) (sr : Int64), rl C T Tk u kp ik ps pm dd tx ty rw rm → zOk Z → G X 1754 [some (.ref b0), some (.ref (A 0)), some (.ref (B 0)), some (.ref o), some (.int (nI i)), none, none, none] [] (wC E A C Z ++ (wM E B u kp ik ps pm dd tx ty rw rm th sz he wr mn vl tp lt ra pf pt pl pd prc ns tu ba na ca bo tr tH asd pa tg sd sr ++ w3))) : G X 1424 [some (.ref b0), some (.ref (A 0)), some (.ref (B 0)), some (.ref o), some (.int (nI i)), none, none, none] [] (wc ++ (wm ++ w3)) := by
  obtain ⟨P1, P2, S1, S2, S3⟩ := S
  refine rh_aload_n hX dL_law_1424 rfl ?_
  refine rh_aload_n hX dL_law_1425 rfl ?_
  refine rh_iload hX dL_law_1426 rfl ?_
  refine rh_iconst hX dL_law_1428 ki_1 ?_
  refine rh_iadd hX dL_law_1429 ?_
  refine rq_sld hX hR (i + 1) dL_law_1430 nIa1 (by omega) (by omega) ?_
  refine rh_aload_n hX dL_law_1431 rfl ?_
  refine rh_iload hX dL_law_1432 rfl ?_
  refine rh_iconst hX dL_law_1434 ki_2 ?_
  refine rh_iadd hX dL_law_1435 ?_
  refine rq_sld hX hR (i + 2) dL_law_1436 nIa2 (by omega) (by omega) ?_
  refine rh_cL hX (wc := wc) (wr := wm ++ w3) (As := [.int (xs (i + 1)), .int (xs (i + 2))]) (rest := []) lk_L_185 mvX7_curve S1 ⟨rfl, rfl⟩ ⟨Nat.le_of_ble_eq_true rfl, Nat.le_of_ble_eq_true rfl⟩ h1 dL_law_1437 rfl rfl (Nat.le_of_ble_eq_true rfl) (fun r1 w1 hp1 => ?_)
  obtain ⟨v, rfl, S4⟩ := S3 r1 w1 hp1
  show G X 1440 [some (.ref b0), some (.ref (A 0)), some (.ref (B 0)), some (.ref o), some (.int (nI i)), none, none, none] [.long v] (w1 ++ (wm ++ w3))
  refine rh_aload_n hX dL_law_1440 rfl ?_
  refine rh_aload_n hX dL_law_1441 rfl ?_
  refine rh_iload hX dL_law_1442 rfl ?_
  refine rh_iconst hX dL_law_1444 ki_1 ?_
  refine rh_iadd hX dL_law_1445 ?_
  refine rq_sld hX hR (i + 1) dL_law_1446 nIa1 (by omega) (by omega) ?_
  refine rh_aload_n hX dL_law_1447 rfl ?_
  refine rh_iload hX dL_law_1448 rfl ?_
  refine rh_iconst hX dL_law_1450 ki_2 ?_
  refine rh_iadd hX dL_law_1451 ?_
  refine rq_sld hX hR (i + 2) dL_law_1452 nIa2 (by omega) (by omega) ?_
  refine rh_cM hX (wa := w1) (wc := wm) (wr := w3) (As := [.int (xs (i + 1)), .int (xs (i + 2))]) (rest := [.long v]) lk_L_189 mvX8_curve S2 ⟨rfl, rfl⟩ ⟨Nat.le_of_ble_eq_true rfl, Nat.le_of_ble_eq_true rfl⟩ h2 dL_law_1453 rfl rfl (Nat.le_of_ble_eq_true rfl) (fun r2 w2 hp2 => ?_)
  obtain ⟨rfl, hg⟩ := S4 r2 w2 hp2
  show G X 1456 [some (.ref b0), some (.ref (A 0)), some (.ref (B 0)), some (.ref o), some (.int (nI i)), none, none, none] [.long v, .long v] (w1 ++ (w2 ++ w3))
  refine rh_lcmp hX dL_law_1456 ?_
  refine rh_if_eq_t hX dL_law_1457 (tgt := 1754) (by decide) lg_cmp_self ?_
  exact hg X 1754 [some (.ref b0), some (.ref (A 0)), some (.ref (B 0)), some (.ref o), some (.int (nI i)), none, none, none] [] w3 k

set_option maxRecDepth 100000 in
set_option maxHeartbeats 4000000 in
theorem lc_stage {X : rhX} {E : rhE} {A B : Nat → Nat} {b0 L o i a b : Nat} {xs : Nat → Int32} {wc wm w3 d1 d2 : va_W} {f1 f2 : List Value} (hX : Ok X E RL cL_law room_1 8) (hR : RtL X b0 L xs a b) (hi : i + 5 ≤ L) (hL : L ≤ 2560) (h1 : wc = (A 0, .inr (7, f1)) :: d1) (h2 : wm = (B 0, .inr (8, f2)) :: d2) (S : StpC Value.int E A B wc wm yX7_stage cX7_stage 8 (some .int) (rmL 4) yX8_stage cX8_stage 9 (some .int) (rmL 6) [.int (xs (i + 1))]) (k : ∀ (C : CT) (T Tk : Nat) (Z : ZT) (u : Nat → Int32) (kp : Nat → Int32) (ik : Int32) (ps : Nat → Int32) (pm : Nat) (dd : Int32) (tx : Nat → Int32) (ty : Nat) (rw : Nat → Int64) (rm : Nat) (th : Int32) (sz : Nat) (he : Nat) (wr : Int32) (mn : Nat → Int32) (vl : Int32) (tp : Int32) (lt : Int32) (ra : Int32) (pf : Int32) (pt : Int32) (pl : Int32) (pd : Int64) (prc : Int64) (ns : Int64) (tu : Nat) (ba : Int64) (na : Int64) (ca : Nat → Int64) (bo : Nat → Int32) (tr : Nat → Int64) (tH : Int32) (asd : Nat → Int32) (pa : Nat → Int64) (tg : Nat → Int64) (sd : Int64) (sr : Int64), rl C T Tk u kp ik ps pm dd tx ty rw rm → zOk Z → G X 1754 [some (.ref b0), some (.ref (A 0)), some (.ref (B 0)), some (.ref o), some (.int (nI i)), none, none, none] [] (wC E A C Z ++ (wM E B u kp ik ps pm dd tx ty rw rm th sz he wr mn vl tp lt ra pf pt pl pd prc ns tu ba na ca bo tr tH asd pa tg sd sr ++ w3))) : G X 1462 [some (.ref b0), some (.ref (A 0)), some (.ref (B 0)), some (.ref o), some (.int (nI i)), none, none, none] [] (wc ++ (wm ++ w3)) := by
  obtain ⟨P1, P2, S1, S2, S3⟩ := S
  refine rh_aload_n hX dL_law_1462 rfl ?_
  refine rh_aload_n hX dL_law_1463 rfl ?_
  refine rh_iload hX dL_law_1464 rfl ?_
  refine rh_iconst hX dL_law_1466 ki_1 ?_
  refine rh_iadd hX dL_law_1467 ?_
  refine rq_sld hX hR (i + 1) dL_law_1468 nIa1 (by omega) (by omega) ?_
  refine rh_cL hX (wc := wc) (wr := wm ++ w3) (As := [.int (xs (i + 1))]) (rest := []) lk_L_190 mvX7_stage S1 ⟨rfl, rfl⟩ ⟨Nat.le_of_ble_eq_true rfl, Nat.le_of_ble_eq_true rfl⟩ h1 dL_law_1469 rfl rfl (Nat.le_of_ble_eq_true rfl) (fun r1 w1 hp1 => ?_)
  obtain ⟨v, rfl, S4⟩ := S3 r1 w1 hp1
  show G X 1472 [some (.ref b0), some (.ref (A 0)), some (.ref (B 0)), some (.ref o), some (.int (nI i)), none, none, none] [.int v] (w1 ++ (wm ++ w3))
  refine rh_aload_n hX dL_law_1472 rfl ?_
  refine rh_aload_n hX dL_law_1473 rfl ?_
  refine rh_iload hX dL_law_1474 rfl ?_
  refine rh_iconst hX dL_law_1476 ki_1 ?_
  refine rh_iadd hX dL_law_1477 ?_
  refine rq_sld hX hR (i + 1) dL_law_1478 nIa1 (by omega) (by omega) ?_
  refine rh_cM hX (wa := w1) (wc := wm) (wr := w3) (As := [.int (xs (i + 1))]) (rest := [.int v]) lk_L_193 mvX8_stage S2 ⟨rfl, rfl⟩ ⟨Nat.le_of_ble_eq_true rfl, Nat.le_of_ble_eq_true rfl⟩ h2 dL_law_1479 rfl rfl (Nat.le_of_ble_eq_true rfl) (fun r2 w2 hp2 => ?_)
  obtain ⟨rfl, hg⟩ := S4 r2 w2 hp2
  show G X 1482 [some (.ref b0), some (.ref (A 0)), some (.ref (B 0)), some (.ref o), some (.int (nI i)), none, none, none] [.int v, .int v] (w1 ++ (w2 ++ w3))
  refine rh_icmp_eq_t hX dL_law_1482 (tgt := 1754) (by decide) rfl ?_
  exact hg X 1754 [some (.ref b0), some (.ref (A 0)), some (.ref (B 0)), some (.ref o), some (.int (nI i)), none, none, none] [] w3 k

set_option maxRecDepth 100000 in
set_option maxHeartbeats 4000000 in
theorem lc_reaches {X : rhX} {E : rhE} {A B : Nat → Nat} {b0 L o i a b : Nat} {xs : Nat → Int32} {wc wm w3 d1 d2 : va_W} {f1 f2 : List Value} (hX : Ok X E RL cL_law room_1 8) (hR : RtL X b0 L xs a b) (hi : i + 5 ≤ L) (hL : L ≤ 2560) (h1 : wc = (A 0, .inr (7, f1)) :: d1) (h2 : wm = (B 0, .inr (8, f2)) :: d2) (S : StpC Value.int E A B wc wm yX7_reaches cX7_reaches 5 (some .int) (rmL 4) yX8_reaches cX8_reaches 5 (some .int) (rmL 7) [.int (xs (i + 1)), .int (xs (i + 2)), .int (xs (i + 3))]) (k : ∀ (C : CT) (T Tk : Nat) (Z : ZT) (u : Nat → Int32) (kp : Nat → Int32) (ik : Int32) (ps : Nat → Int32) (pm : Nat) (dd : Int32) (tx : Nat → Int32) (ty : Nat) (rw : Nat → Int64) (rm : Nat) (th : Int32) (sz : Nat) (he : Nat) (wr : Int32) (mn : Nat → Int32) (vl : Int32) (tp : Int32) (lt : Int32) (ra : Int32) (pf : Int32) (pt : Int32) (pl : Int32) (pd : Int64) (prc : Int64) (ns : Int64) (tu : Nat) (ba : Int64) (na : Int64) (ca : Nat → Int64) (bo : Nat → Int32) (tr : Nat → Int64) (tH : Int32) (asd : Nat → Int32) (pa : Nat → Int64) (tg : Nat → Int64) (sd : Int64) (sr : Int64), rl C T Tk u kp ik ps pm dd tx ty rw rm → zOk Z → G X 1754 [some (.ref b0), some (.ref (A 0)), some (.ref (B 0)), some (.ref o), some (.int (nI i)), none, none, none] [] (wC E A C Z ++ (wM E B u kp ik ps pm dd tx ty rw rm th sz he wr mn vl tp lt ra pf pt pl pd prc ns tu ba na ca bo tr tH asd pa tg sd sr ++ w3))) : G X 1487 [some (.ref b0), some (.ref (A 0)), some (.ref (B 0)), some (.ref o), some (.int (nI i)), none, none, none] [] (wc ++ (wm ++ w3)) := by
  obtain ⟨P1, P2, S1, S2, S3⟩ := S
  refine rh_aload_n hX dL_law_1487 rfl ?_
  refine rh_aload_n hX dL_law_1488 rfl ?_
  refine rh_iload hX dL_law_1489 rfl ?_
  refine rh_iconst hX dL_law_1491 ki_1 ?_
  refine rh_iadd hX dL_law_1492 ?_
  refine rq_sld hX hR (i + 1) dL_law_1493 nIa1 (by omega) (by omega) ?_
  refine rh_aload_n hX dL_law_1494 rfl ?_
  refine rh_iload hX dL_law_1495 rfl ?_
  refine rh_iconst hX dL_law_1497 ki_2 ?_
  refine rh_iadd hX dL_law_1498 ?_
  refine rq_sld hX hR (i + 2) dL_law_1499 nIa2 (by omega) (by omega) ?_
  refine rh_aload_n hX dL_law_1500 rfl ?_
  refine rh_iload hX dL_law_1501 rfl ?_
  refine rh_iconst hX dL_law_1503 ki_3 ?_
  refine rh_iadd hX dL_law_1504 ?_
  refine rq_sld hX hR (i + 3) dL_law_1505 nIa3 (by omega) (by omega) ?_
  refine rh_cL hX (wc := wc) (wr := wm ++ w3) (As := [.int (xs (i + 1)), .int (xs (i + 2)), .int (xs (i + 3))]) (rest := []) lk_L_194 mvX7_reaches S1 ⟨rfl, rfl⟩ ⟨Nat.le_of_ble_eq_true rfl, Nat.le_of_ble_eq_true rfl⟩ h1 dL_law_1506 rfl rfl (Nat.le_of_ble_eq_true rfl) (fun r1 w1 hp1 => ?_)
  obtain ⟨v, rfl, S4⟩ := S3 r1 w1 hp1
  show G X 1509 [some (.ref b0), some (.ref (A 0)), some (.ref (B 0)), some (.ref o), some (.int (nI i)), none, none, none] [.int v] (w1 ++ (wm ++ w3))
  refine rh_aload_n hX dL_law_1509 rfl ?_
  refine rh_aload_n hX dL_law_1510 rfl ?_
  refine rh_iload hX dL_law_1511 rfl ?_
  refine rh_iconst hX dL_law_1513 ki_1 ?_
  refine rh_iadd hX dL_law_1514 ?_
  refine rq_sld hX hR (i + 1) dL_law_1515 nIa1 (by omega) (by omega) ?_
  refine rh_aload_n hX dL_law_1516 rfl ?_
  refine rh_iload hX dL_law_1517 rfl ?_
  refine rh_iconst hX dL_law_1519 ki_2 ?_
  refine rh_iadd hX dL_law_1520 ?_
  refine rq_sld hX hR (i + 2) dL_law_1521 nIa2 (by omega) (by omega) ?_
  refine rh_aload_n hX dL_law_1522 rfl ?_
  refine rh_iload hX dL_law_1523 rfl ?_
  refine rh_iconst hX dL_law_1525 ki_3 ?_
  refine rh_iadd hX dL_law_1526 ?_
  refine rq_sld hX hR (i + 3) dL_law_1527 nIa3 (by omega) (by omega) ?_
  refine rh_cM hX (wa := w1) (wc := wm) (wr := w3) (As := [.int (xs (i + 1)), .int (xs (i + 2)), .int (xs (i + 3))]) (rest := [.int v]) lk_L_197 mvX8_reaches S2 ⟨rfl, rfl⟩ ⟨Nat.le_of_ble_eq_true rfl, Nat.le_of_ble_eq_true rfl⟩ h2 dL_law_1528 rfl rfl (Nat.le_of_ble_eq_true rfl) (fun r2 w2 hp2 => ?_)
  obtain ⟨rfl, hg⟩ := S4 r2 w2 hp2
  show G X 1531 [some (.ref b0), some (.ref (A 0)), some (.ref (B 0)), some (.ref o), some (.int (nI i)), none, none, none] [.int v, .int v] (w1 ++ (w2 ++ w3))
  refine rh_icmp_eq_t hX dL_law_1531 (tgt := 1754) (by decide) rfl ?_
  exact hg X 1754 [some (.ref b0), some (.ref (A 0)), some (.ref (B 0)), some (.ref o), some (.int (nI i)), none, none, none] [] w3 k

set_option maxRecDepth 100000 in
set_option maxHeartbeats 4000000 in
theorem lc_multiple {X : rhX} {E : rhE} {A B : Nat → Nat} {b0 L o i a b : Nat} {xs : Nat → Int32} {wc wm w3 d1 d2 : va_W} {f1 f2 : List Value} (hX : Ok X E RL cL_law room_1 8) (hR : RtL X b0 L xs a b) (hi : i + 5 ≤ L) (hL : L ≤ 2560) (h1 : wc = (A 0, .inr (7, f1)) :: d1) (h2 : wm = (B 0, .inr (8, f2)) :: d2) (S : StpC Value.int E A B wc wm yX7_multiple cX7_multiple 5 (some .int) (rmL 4) yX8_multiple cX8_multiple 5 (some .int) (rmL 7) [.int (xs (i + 1)), .int (xs (i + 2))]) (k : ∀ (C : CT) (T Tk : Nat) (Z : ZT) (u : Nat → Int32) (kp : Nat → Int32) (ik : Int32) (ps : Nat → Int32) (pm : Nat) (dd : Int32) (tx : Nat → Int32) (ty : Nat) (rw : Nat → Int64) (rm : Nat) (th : Int32) (sz : Nat) (he : Nat) (wr : Int32) (mn : Nat → Int32) (vl : Int32) (tp : Int32) (lt : Int32) (ra : Int32) (pf : Int32) (pt : Int32) (pl : Int32) (pd : Int64) (prc : Int64) (ns : Int64) (tu : Nat) (ba : Int64) (na : Int64) (ca : Nat → Int64) (bo : Nat → Int32) (tr : Nat → Int64) (tH : Int32) (asd : Nat → Int32) (pa : Nat → Int64) (tg : Nat → Int64) (sd : Int64) (sr : Int64), rl C T Tk u kp ik ps pm dd tx ty rw rm → zOk Z → G X 1754 [some (.ref b0), some (.ref (A 0)), some (.ref (B 0)), some (.ref o), some (.int (nI i)), none, none, none] [] (wC E A C Z ++ (wM E B u kp ik ps pm dd tx ty rw rm th sz he wr mn vl tp lt ra pf pt pl pd prc ns tu ba na ca bo tr tH asd pa tg sd sr ++ w3))) : G X 1536 [some (.ref b0), some (.ref (A 0)), some (.ref (B 0)), some (.ref o), some (.int (nI i)), none, none, none] [] (wc ++ (wm ++ w3)) := by
  obtain ⟨P1, P2, S1, S2, S3⟩ := S
  refine rh_aload_n hX dL_law_1536 rfl ?_
  refine rh_aload_n hX dL_law_1537 rfl ?_
  refine rh_iload hX dL_law_1538 rfl ?_
  refine rh_iconst hX dL_law_1540 ki_1 ?_
  refine rh_iadd hX dL_law_1541 ?_
  refine rq_sld hX hR (i + 1) dL_law_1542 nIa1 (by omega) (by omega) ?_
  refine rh_aload_n hX dL_law_1543 rfl ?_
  refine rh_iload hX dL_law_1544 rfl ?_
  refine rh_iconst hX dL_law_1546 ki_2 ?_
  refine rh_iadd hX dL_law_1547 ?_
  refine rq_sld hX hR (i + 2) dL_law_1548 nIa2 (by omega) (by omega) ?_
  refine rh_cL hX (wc := wc) (wr := wm ++ w3) (As := [.int (xs (i + 1)), .int (xs (i + 2))]) (rest := []) lk_L_198 mvX7_multiple S1 ⟨rfl, rfl⟩ ⟨Nat.le_of_ble_eq_true rfl, Nat.le_of_ble_eq_true rfl⟩ h1 dL_law_1549 rfl rfl (Nat.le_of_ble_eq_true rfl) (fun r1 w1 hp1 => ?_)
  obtain ⟨v, rfl, S4⟩ := S3 r1 w1 hp1
  show G X 1552 [some (.ref b0), some (.ref (A 0)), some (.ref (B 0)), some (.ref o), some (.int (nI i)), none, none, none] [.int v] (w1 ++ (wm ++ w3))
  refine rh_aload_n hX dL_law_1552 rfl ?_
  refine rh_aload_n hX dL_law_1553 rfl ?_
  refine rh_iload hX dL_law_1554 rfl ?_
  refine rh_iconst hX dL_law_1556 ki_1 ?_
  refine rh_iadd hX dL_law_1557 ?_
  refine rq_sld hX hR (i + 1) dL_law_1558 nIa1 (by omega) (by omega) ?_
  refine rh_aload_n hX dL_law_1559 rfl ?_
  refine rh_iload hX dL_law_1560 rfl ?_
  refine rh_iconst hX dL_law_1562 ki_2 ?_
  refine rh_iadd hX dL_law_1563 ?_
  refine rq_sld hX hR (i + 2) dL_law_1564 nIa2 (by omega) (by omega) ?_
  refine rh_cM hX (wa := w1) (wc := wm) (wr := w3) (As := [.int (xs (i + 1)), .int (xs (i + 2))]) (rest := [.int v]) lk_L_201 mvX8_multiple S2 ⟨rfl, rfl⟩ ⟨Nat.le_of_ble_eq_true rfl, Nat.le_of_ble_eq_true rfl⟩ h2 dL_law_1565 rfl rfl (Nat.le_of_ble_eq_true rfl) (fun r2 w2 hp2 => ?_)
  obtain ⟨rfl, hg⟩ := S4 r2 w2 hp2
  show G X 1568 [some (.ref b0), some (.ref (A 0)), some (.ref (B 0)), some (.ref o), some (.int (nI i)), none, none, none] [.int v, .int v] (w1 ++ (w2 ++ w3))
  refine rh_icmp_eq_t hX dL_law_1568 (tgt := 1754) (by decide) rfl ?_
  exact hg X 1754 [some (.ref b0), some (.ref (A 0)), some (.ref (B 0)), some (.ref o), some (.int (nI i)), none, none, none] [] w3 k

set_option maxRecDepth 100000 in
set_option maxHeartbeats 4000000 in
theorem lc_preference {X : rhX} {E : rhE} {A B : Nat → Nat} {b0 L o i a b : Nat} {xs : Nat → Int32} {wc wm w3 d1 d2 : va_W} {f1 f2 : List Value} (hX : Ok X E RL cL_law room_1 8) (hR : RtL X b0 L xs a b) (hi : i + 5 ≤ L) (hL : L ≤ 2560) (h1 : wc = (A 0, .inr (7, f1)) :: d1) (h2 : wm = (B 0, .inr (8, f2)) :: d2) (S : StpC Value.int E A B wc wm yX7_preference cX7_preference 5 (some .int) (rmL 4) yX8_preference cX8_preference 5 (some .int) (rmL 4) [.int (xs (i + 1))]) (k : ∀ (C : CT) (T Tk : Nat) (Z : ZT) (u : Nat → Int32) (kp : Nat → Int32) (ik : Int32) (ps : Nat → Int32) (pm : Nat) (dd : Int32) (tx : Nat → Int32) (ty : Nat) (rw : Nat → Int64) (rm : Nat) (th : Int32) (sz : Nat) (he : Nat) (wr : Int32) (mn : Nat → Int32) (vl : Int32) (tp : Int32) (lt : Int32) (ra : Int32) (pf : Int32) (pt : Int32) (pl : Int32) (pd : Int64) (prc : Int64) (ns : Int64) (tu : Nat) (ba : Int64) (na : Int64) (ca : Nat → Int64) (bo : Nat → Int32) (tr : Nat → Int64) (tH : Int32) (asd : Nat → Int32) (pa : Nat → Int64) (tg : Nat → Int64) (sd : Int64) (sr : Int64), rl C T Tk u kp ik ps pm dd tx ty rw rm → zOk Z → G X 1754 [some (.ref b0), some (.ref (A 0)), some (.ref (B 0)), some (.ref o), some (.int (nI i)), none, none, none] [] (wC E A C Z ++ (wM E B u kp ik ps pm dd tx ty rw rm th sz he wr mn vl tp lt ra pf pt pl pd prc ns tu ba na ca bo tr tH asd pa tg sd sr ++ w3))) : G X 1573 [some (.ref b0), some (.ref (A 0)), some (.ref (B 0)), some (.ref o), some (.int (nI i)), none, none, none] [] (wc ++ (wm ++ w3)) := by
  obtain ⟨P1, P2, S1, S2, S3⟩ := S
  refine rh_aload_n hX dL_law_1573 rfl ?_
  refine rh_aload_n hX dL_law_1574 rfl ?_
  refine rh_iload hX dL_law_1575 rfl ?_
  refine rh_iconst hX dL_law_1577 ki_1 ?_
  refine rh_iadd hX dL_law_1578 ?_
  refine rq_sld hX hR (i + 1) dL_law_1579 nIa1 (by omega) (by omega) ?_
  refine rh_cL hX (wc := wc) (wr := wm ++ w3) (As := [.int (xs (i + 1))]) (rest := []) lk_L_202 mvX7_preference S1 ⟨rfl, rfl⟩ ⟨Nat.le_of_ble_eq_true rfl, Nat.le_of_ble_eq_true rfl⟩ h1 dL_law_1580 rfl rfl (Nat.le_of_ble_eq_true rfl) (fun r1 w1 hp1 => ?_)
  obtain ⟨v, rfl, S4⟩ := S3 r1 w1 hp1
  show G X 1583 [some (.ref b0), some (.ref (A 0)), some (.ref (B 0)), some (.ref o), some (.int (nI i)), none, none, none] [.int v] (w1 ++ (wm ++ w3))
  refine rh_aload_n hX dL_law_1583 rfl ?_
  refine rh_aload_n hX dL_law_1584 rfl ?_
  refine rh_iload hX dL_law_1585 rfl ?_
  refine rh_iconst hX dL_law_1587 ki_1 ?_
  refine rh_iadd hX dL_law_1588 ?_
  refine rq_sld hX hR (i + 1) dL_law_1589 nIa1 (by omega) (by omega) ?_
  refine rh_cM hX (wa := w1) (wc := wm) (wr := w3) (As := [.int (xs (i + 1))]) (rest := [.int v]) lk_L_205 mvX8_preference S2 ⟨rfl, rfl⟩ ⟨Nat.le_of_ble_eq_true rfl, Nat.le_of_ble_eq_true rfl⟩ h2 dL_law_1590 rfl rfl (Nat.le_of_ble_eq_true rfl) (fun r2 w2 hp2 => ?_)
  obtain ⟨rfl, hg⟩ := S4 r2 w2 hp2
  show G X 1593 [some (.ref b0), some (.ref (A 0)), some (.ref (B 0)), some (.ref o), some (.int (nI i)), none, none, none] [.int v, .int v] (w1 ++ (w2 ++ w3))
  refine rh_icmp_eq_t hX dL_law_1593 (tgt := 1754) (by decide) rfl ?_
  exact hg X 1754 [some (.ref b0), some (.ref (A 0)), some (.ref (B 0)), some (.ref o), some (.int (nI i)), none, none, none] [] w3 k

set_option maxRecDepth 100000 in
set_option maxHeartbeats 4000000 in
theorem lc_flips {X : rhX} {E : rhE} {A B : Nat → Nat} {b0 L o i a b : Nat} {xs : Nat → Int32} {wc wm w3 d1 d2 : va_W} {f1 f2 : List Value} (hX : Ok X E RL cL_law room_1 8) (hR : RtL X b0 L xs a b) (hi : i + 5 ≤ L) (hL : L ≤ 2560) (h1 : wc = (A 0, .inr (7, f1)) :: d1) (h2 : wm = (B 0, .inr (8, f2)) :: d2) (S : StpC Value.int E A B wc wm yX7_flips cX7_flips 4 (some .int) (rmL 4) yX8_flips cX8_flips 4 (some .int) (rmL 6) [.int (xs (i + 1)), .int (xs (i + 2))]) (k : ∀ (C : CT) (T Tk : Nat) (Z : ZT) (u : Nat → Int32) (kp : Nat → Int32) (ik : Int32) (ps : Nat → Int32) (pm : Nat) (dd : Int32) (tx : Nat → Int32) (ty : Nat) (rw : Nat → Int64) (rm : Nat) (th : Int32) (sz : Nat) (he : Nat) (wr : Int32) (mn : Nat → Int32) (vl : Int32) (tp : Int32) (lt : Int32) (ra : Int32) (pf : Int32) (pt : Int32) (pl : Int32) (pd : Int64) (prc : Int64) (ns : Int64) (tu : Nat) (ba : Int64) (na : Int64) (ca : Nat → Int64) (bo : Nat → Int32) (tr : Nat → Int64) (tH : Int32) (asd : Nat → Int32) (pa : Nat → Int64) (tg : Nat → Int64) (sd : Int64) (sr : Int64), rl C T Tk u kp ik ps pm dd tx ty rw rm → zOk Z → G X 1754 [some (.ref b0), some (.ref (A 0)), some (.ref (B 0)), some (.ref o), some (.int (nI i)), none, none, none] [] (wC E A C Z ++ (wM E B u kp ik ps pm dd tx ty rw rm th sz he wr mn vl tp lt ra pf pt pl pd prc ns tu ba na ca bo tr tH asd pa tg sd sr ++ w3))) : G X 1598 [some (.ref b0), some (.ref (A 0)), some (.ref (B 0)), some (.ref o), some (.int (nI i)), none, none, none] [] (wc ++ (wm ++ w3)) := by
  obtain ⟨P1, P2, S1, S2, S3⟩ := S
  refine rh_aload_n hX dL_law_1598 rfl ?_
  refine rh_aload_n hX dL_law_1599 rfl ?_
  refine rh_iload hX dL_law_1600 rfl ?_
  refine rh_iconst hX dL_law_1602 ki_1 ?_
  refine rh_iadd hX dL_law_1603 ?_
  refine rq_sld hX hR (i + 1) dL_law_1604 nIa1 (by omega) (by omega) ?_
  refine rh_aload_n hX dL_law_1605 rfl ?_
  refine rh_iload hX dL_law_1606 rfl ?_
  refine rh_iconst hX dL_law_1608 ki_2 ?_
  refine rh_iadd hX dL_law_1609 ?_
  refine rq_sld hX hR (i + 2) dL_law_1610 nIa2 (by omega) (by omega) ?_
  refine rh_cL hX (wc := wc) (wr := wm ++ w3) (As := [.int (xs (i + 1)), .int (xs (i + 2))]) (rest := []) lk_L_206 mvX7_flips S1 ⟨rfl, rfl⟩ ⟨Nat.le_of_ble_eq_true rfl, Nat.le_of_ble_eq_true rfl⟩ h1 dL_law_1611 rfl rfl (Nat.le_of_ble_eq_true rfl) (fun r1 w1 hp1 => ?_)
  obtain ⟨v, rfl, S4⟩ := S3 r1 w1 hp1
  show G X 1614 [some (.ref b0), some (.ref (A 0)), some (.ref (B 0)), some (.ref o), some (.int (nI i)), none, none, none] [.int v] (w1 ++ (wm ++ w3))
  refine rh_aload_n hX dL_law_1614 rfl ?_
  refine rh_aload_n hX dL_law_1615 rfl ?_
  refine rh_iload hX dL_law_1616 rfl ?_
  refine rh_iconst hX dL_law_1618 ki_1 ?_
  refine rh_iadd hX dL_law_1619 ?_
  refine rq_sld hX hR (i + 1) dL_law_1620 nIa1 (by omega) (by omega) ?_
  refine rh_aload_n hX dL_law_1621 rfl ?_
  refine rh_iload hX dL_law_1622 rfl ?_
  refine rh_iconst hX dL_law_1624 ki_2 ?_
  refine rh_iadd hX dL_law_1625 ?_
  refine rq_sld hX hR (i + 2) dL_law_1626 nIa2 (by omega) (by omega) ?_
  refine rh_cM hX (wa := w1) (wc := wm) (wr := w3) (As := [.int (xs (i + 1)), .int (xs (i + 2))]) (rest := [.int v]) lk_L_209 mvX8_flips S2 ⟨rfl, rfl⟩ ⟨Nat.le_of_ble_eq_true rfl, Nat.le_of_ble_eq_true rfl⟩ h2 dL_law_1627 rfl rfl (Nat.le_of_ble_eq_true rfl) (fun r2 w2 hp2 => ?_)
  obtain ⟨rfl, hg⟩ := S4 r2 w2 hp2
  show G X 1630 [some (.ref b0), some (.ref (A 0)), some (.ref (B 0)), some (.ref o), some (.int (nI i)), none, none, none] [.int v, .int v] (w1 ++ (w2 ++ w3))
  refine rh_icmp_eq_t hX dL_law_1630 (tgt := 1754) (by decide) rfl ?_
  exact hg X 1754 [some (.ref b0), some (.ref (A 0)), some (.ref (B 0)), some (.ref o), some (.int (nI i)), none, none, none] [] w3 k

set_option maxRecDepth 100000 in
set_option maxHeartbeats 4000000 in
theorem lc_keeps {X : rhX} {E : rhE} {A B : Nat → Nat} {b0 L o i a b : Nat} {xs : Nat → Int32} {wc wm w3 d1 d2 : va_W} {f1 f2 : List Value} (hX : Ok X E RL cL_law room_1 8) (hR : RtL X b0 L xs a b) (hi : i + 5 ≤ L) (hL : L ≤ 2560) (h1 : wc = (A 0, .inr (7, f1)) :: d1) (h2 : wm = (B 0, .inr (8, f2)) :: d2) (S : StpC Value.int E A B wc wm yX7_keeps cX7_keeps 1 (some .int) (rmL 5) yX8_keeps cX8_keeps 2 (some .int) (rmL 5) []) (k : ∀ (C : CT) (T Tk : Nat) (Z : ZT) (u : Nat → Int32) (kp : Nat → Int32) (ik : Int32) (ps : Nat → Int32) (pm : Nat) (dd : Int32) (tx : Nat → Int32) (ty : Nat) (rw : Nat → Int64) (rm : Nat) (th : Int32) (sz : Nat) (he : Nat) (wr : Int32) (mn : Nat → Int32) (vl : Int32) (tp : Int32) (lt : Int32) (ra : Int32) (pf : Int32) (pt : Int32) (pl : Int32) (pd : Int64) (prc : Int64) (ns : Int64) (tu : Nat) (ba : Int64) (na : Int64) (ca : Nat → Int64) (bo : Nat → Int32) (tr : Nat → Int64) (tH : Int32) (asd : Nat → Int32) (pa : Nat → Int64) (tg : Nat → Int64) (sd : Int64) (sr : Int64), rl C T Tk u kp ik ps pm dd tx ty rw rm → zOk Z → G X 1754 [some (.ref b0), some (.ref (A 0)), some (.ref (B 0)), some (.ref o), some (.int (nI i)), none, none, none] [] (wC E A C Z ++ (wM E B u kp ik ps pm dd tx ty rw rm th sz he wr mn vl tp lt ra pf pt pl pd prc ns tu ba na ca bo tr tH asd pa tg sd sr ++ w3))) : G X 1635 [some (.ref b0), some (.ref (A 0)), some (.ref (B 0)), some (.ref o), some (.int (nI i)), none, none, none] [] (wc ++ (wm ++ w3)) := by
  obtain ⟨P1, P2, S1, S2, S3⟩ := S
  refine rh_aload_n hX dL_law_1635 rfl ?_
  refine rh_cL hX (wc := wc) (wr := wm ++ w3) (As := []) (rest := []) lk_L_210 mvX7_keeps S1 ⟨rfl, rfl⟩ ⟨Nat.le_of_ble_eq_true rfl, Nat.le_of_ble_eq_true rfl⟩ h1 dL_law_1636 rfl rfl (Nat.le_of_ble_eq_true rfl) (fun r1 w1 hp1 => ?_)
  obtain ⟨v, rfl, S4⟩ := S3 r1 w1 hp1
  show G X 1639 [some (.ref b0), some (.ref (A 0)), some (.ref (B 0)), some (.ref o), some (.int (nI i)), none, none, none] [.int v] (w1 ++ (wm ++ w3))
  refine rh_aload_n hX dL_law_1639 rfl ?_
  refine rh_cM hX (wa := w1) (wc := wm) (wr := w3) (As := []) (rest := [.int v]) lk_L_213 mvX8_keeps S2 ⟨rfl, rfl⟩ ⟨Nat.le_of_ble_eq_true rfl, Nat.le_of_ble_eq_true rfl⟩ h2 dL_law_1640 rfl rfl (Nat.le_of_ble_eq_true rfl) (fun r2 w2 hp2 => ?_)
  obtain ⟨rfl, hg⟩ := S4 r2 w2 hp2
  show G X 1643 [some (.ref b0), some (.ref (A 0)), some (.ref (B 0)), some (.ref o), some (.int (nI i)), none, none, none] [.int v, .int v] (w1 ++ (w2 ++ w3))
  refine rh_icmp_eq_t hX dL_law_1643 (tgt := 1754) (by decide) rfl ?_
  exact hg X 1754 [some (.ref b0), some (.ref (A 0)), some (.ref (B 0)), some (.ref o), some (.int (nI i)), none, none, none] [] w3 k

set_option maxRecDepth 100000 in
set_option maxHeartbeats 4000000 in
theorem lc_back {X : rhX} {E : rhE} {A B : Nat → Nat} {b0 L o i a b : Nat} {xs : Nat → Int32} {wc wm w3 d1 d2 : va_W} {f1 f2 : List Value} (hX : Ok X E RL cL_law room_1 8) (hR : RtL X b0 L xs a b) (hi : i + 5 ≤ L) (hL : L ≤ 2560) (h1 : wc = (A 0, .inr (7, f1)) :: d1) (h2 : wm = (B 0, .inr (8, f2)) :: d2) (S : StpC Value.int E A B wc wm yX7_back cX7_back 1 (some .int) (rmL 5) yX8_back cX8_back 2 (some .int) (rmL 5) []) (k : ∀ (C : CT) (T Tk : Nat) (Z : ZT) (u : Nat → Int32) (kp : Nat → Int32) (ik : Int32) (ps : Nat → Int32) (pm : Nat) (dd : Int32) (tx : Nat → Int32) (ty : Nat) (rw : Nat → Int64) (rm : Nat) (th : Int32) (sz : Nat) (he : Nat) (wr : Int32) (mn : Nat → Int32) (vl : Int32) (tp : Int32) (lt : Int32) (ra : Int32) (pf : Int32) (pt : Int32) (pl : Int32) (pd : Int64) (prc : Int64) (ns : Int64) (tu : Nat) (ba : Int64) (na : Int64) (ca : Nat → Int64) (bo : Nat → Int32) (tr : Nat → Int64) (tH : Int32) (asd : Nat → Int32) (pa : Nat → Int64) (tg : Nat → Int64) (sd : Int64) (sr : Int64), rl C T Tk u kp ik ps pm dd tx ty rw rm → zOk Z → G X 1754 [some (.ref b0), some (.ref (A 0)), some (.ref (B 0)), some (.ref o), some (.int (nI i)), none, none, none] [] (wC E A C Z ++ (wM E B u kp ik ps pm dd tx ty rw rm th sz he wr mn vl tp lt ra pf pt pl pd prc ns tu ba na ca bo tr tH asd pa tg sd sr ++ w3))) : G X 1648 [some (.ref b0), some (.ref (A 0)), some (.ref (B 0)), some (.ref o), some (.int (nI i)), none, none, none] [] (wc ++ (wm ++ w3)) := by
  obtain ⟨P1, P2, S1, S2, S3⟩ := S
  refine rh_aload_n hX dL_law_1648 rfl ?_
  refine rh_cL hX (wc := wc) (wr := wm ++ w3) (As := []) (rest := []) lk_L_214 mvX7_back S1 ⟨rfl, rfl⟩ ⟨Nat.le_of_ble_eq_true rfl, Nat.le_of_ble_eq_true rfl⟩ h1 dL_law_1649 rfl rfl (Nat.le_of_ble_eq_true rfl) (fun r1 w1 hp1 => ?_)
  obtain ⟨v, rfl, S4⟩ := S3 r1 w1 hp1
  show G X 1652 [some (.ref b0), some (.ref (A 0)), some (.ref (B 0)), some (.ref o), some (.int (nI i)), none, none, none] [.int v] (w1 ++ (wm ++ w3))
  refine rh_aload_n hX dL_law_1652 rfl ?_
  refine rh_cM hX (wa := w1) (wc := wm) (wr := w3) (As := []) (rest := [.int v]) lk_L_217 mvX8_back S2 ⟨rfl, rfl⟩ ⟨Nat.le_of_ble_eq_true rfl, Nat.le_of_ble_eq_true rfl⟩ h2 dL_law_1653 rfl rfl (Nat.le_of_ble_eq_true rfl) (fun r2 w2 hp2 => ?_)
  obtain ⟨rfl, hg⟩ := S4 r2 w2 hp2
  show G X 1656 [some (.ref b0), some (.ref (A 0)), some (.ref (B 0)), some (.ref o), some (.int (nI i)), none, none, none] [.int v, .int v] (w1 ++ (w2 ++ w3))
  refine rh_icmp_eq_t hX dL_law_1656 (tgt := 1754) (by decide) rfl ?_
  exact hg X 1754 [some (.ref b0), some (.ref (A 0)), some (.ref (B 0)), some (.ref o), some (.int (nI i)), none, none, none] [] w3 k

set_option maxRecDepth 100000 in
set_option maxHeartbeats 4000000 in
theorem lc_undo {X : rhX} {E : rhE} {A B : Nat → Nat} {b0 L o i a b : Nat} {xs : Nat → Int32} {wc wm w3 d1 d2 : va_W} {f1 f2 : List Value} (hX : Ok X E RL cL_law room_1 8) (hR : RtL X b0 L xs a b) (hi : i + 5 ≤ L) (hL : L ≤ 2560) (h1 : wc = (A 0, .inr (7, f1)) :: d1) (h2 : wm = (B 0, .inr (8, f2)) :: d2) (S : StpC Value.int E A B wc wm yX7_undo cX7_undo 1 (some .int) (rmL 3) yX8_undo cX8_undo 1 (some .int) (rmL 1) []) (k : ∀ (C : CT) (T Tk : Nat) (Z : ZT) (u : Nat → Int32) (kp : Nat → Int32) (ik : Int32) (ps : Nat → Int32) (pm : Nat) (dd : Int32) (tx : Nat → Int32) (ty : Nat) (rw : Nat → Int64) (rm : Nat) (th : Int32) (sz : Nat) (he : Nat) (wr : Int32) (mn : Nat → Int32) (vl : Int32) (tp : Int32) (lt : Int32) (ra : Int32) (pf : Int32) (pt : Int32) (pl : Int32) (pd : Int64) (prc : Int64) (ns : Int64) (tu : Nat) (ba : Int64) (na : Int64) (ca : Nat → Int64) (bo : Nat → Int32) (tr : Nat → Int64) (tH : Int32) (asd : Nat → Int32) (pa : Nat → Int64) (tg : Nat → Int64) (sd : Int64) (sr : Int64), rl C T Tk u kp ik ps pm dd tx ty rw rm → zOk Z → G X 1754 [some (.ref b0), some (.ref (A 0)), some (.ref (B 0)), some (.ref o), some (.int (nI i)), none, none, none] [] (wC E A C Z ++ (wM E B u kp ik ps pm dd tx ty rw rm th sz he wr mn vl tp lt ra pf pt pl pd prc ns tu ba na ca bo tr tH asd pa tg sd sr ++ w3))) : G X 1661 [some (.ref b0), some (.ref (A 0)), some (.ref (B 0)), some (.ref o), some (.int (nI i)), none, none, none] [] (wc ++ (wm ++ w3)) := by
  obtain ⟨P1, P2, S1, S2, S3⟩ := S
  refine rh_aload_n hX dL_law_1661 rfl ?_
  refine rh_cL hX (wc := wc) (wr := wm ++ w3) (As := []) (rest := []) lk_L_218 mvX7_undo S1 ⟨rfl, rfl⟩ ⟨Nat.le_of_ble_eq_true rfl, Nat.le_of_ble_eq_true rfl⟩ h1 dL_law_1662 rfl rfl (Nat.le_of_ble_eq_true rfl) (fun r1 w1 hp1 => ?_)
  obtain ⟨v, rfl, S4⟩ := S3 r1 w1 hp1
  show G X 1665 [some (.ref b0), some (.ref (A 0)), some (.ref (B 0)), some (.ref o), some (.int (nI i)), none, none, none] [.int v] (w1 ++ (wm ++ w3))
  refine rh_aload_n hX dL_law_1665 rfl ?_
  refine rh_cM hX (wa := w1) (wc := wm) (wr := w3) (As := []) (rest := [.int v]) lk_L_221 mvX8_undo S2 ⟨rfl, rfl⟩ ⟨Nat.le_of_ble_eq_true rfl, Nat.le_of_ble_eq_true rfl⟩ h2 dL_law_1666 rfl rfl (Nat.le_of_ble_eq_true rfl) (fun r2 w2 hp2 => ?_)
  obtain ⟨rfl, hg⟩ := S4 r2 w2 hp2
  show G X 1669 [some (.ref b0), some (.ref (A 0)), some (.ref (B 0)), some (.ref o), some (.int (nI i)), none, none, none] [.int v, .int v] (w1 ++ (w2 ++ w3))
  refine rh_icmp_eq_t hX dL_law_1669 (tgt := 1754) (by decide) rfl ?_
  exact hg X 1754 [some (.ref b0), some (.ref (A 0)), some (.ref (B 0)), some (.ref o), some (.int (nI i)), none, none, none] [] w3 k

set_option maxRecDepth 100000 in
set_option maxHeartbeats 4000000 in
theorem lc_count {X : rhX} {E : rhE} {A B : Nat → Nat} {b0 L o i a b : Nat} {xs : Nat → Int32} {wc wm w3 d1 d2 : va_W} {f1 f2 : List Value} (hX : Ok X E RL cL_law room_1 8) (hR : RtL X b0 L xs a b) (hi : i + 5 ≤ L) (hL : L ≤ 2560) (h1 : wc = (A 0, .inr (7, f1)) :: d1) (h2 : wm = (B 0, .inr (8, f2)) :: d2) (S : StpC Value.int E A B wc wm yX7_count cX7_count 2 (some .int) (rmL 5) yX8_count cX8_count 2 (some .int) (rmL 4) [.int (xs (i + 1))]) (k : ∀ (C : CT) (T Tk : Nat) (Z : ZT) (u : Nat → Int32) (kp : Nat → Int32) (ik : Int32) (ps : Nat → Int32) (pm : Nat) (dd : Int32) (tx : Nat → Int32) (ty : Nat) (rw : Nat → Int64) (rm : Nat) (th : Int32) (sz : Nat) (he : Nat) (wr : Int32) (mn : Nat → Int32) (vl : Int32) (tp : Int32) (lt : Int32) (ra : Int32) (pf : Int32) (pt : Int32) (pl : Int32) (pd : Int64) (prc : Int64) (ns : Int64) (tu : Nat) (ba : Int64) (na : Int64) (ca : Nat → Int64) (bo : Nat → Int32) (tr : Nat → Int64) (tH : Int32) (asd : Nat → Int32) (pa : Nat → Int64) (tg : Nat → Int64) (sd : Int64) (sr : Int64), rl C T Tk u kp ik ps pm dd tx ty rw rm → zOk Z → G X 1754 [some (.ref b0), some (.ref (A 0)), some (.ref (B 0)), some (.ref o), some (.int (nI i)), none, none, none] [] (wC E A C Z ++ (wM E B u kp ik ps pm dd tx ty rw rm th sz he wr mn vl tp lt ra pf pt pl pd prc ns tu ba na ca bo tr tH asd pa tg sd sr ++ w3))) : G X 1674 [some (.ref b0), some (.ref (A 0)), some (.ref (B 0)), some (.ref o), some (.int (nI i)), none, none, none] [] (wc ++ (wm ++ w3)) := by
  obtain ⟨P1, P2, S1, S2, S3⟩ := S
  refine rh_aload_n hX dL_law_1674 rfl ?_
  refine rh_aload_n hX dL_law_1675 rfl ?_
  refine rh_iload hX dL_law_1676 rfl ?_
  refine rh_iconst hX dL_law_1678 ki_1 ?_
  refine rh_iadd hX dL_law_1679 ?_
  refine rq_sld hX hR (i + 1) dL_law_1680 nIa1 (by omega) (by omega) ?_
  refine rh_cL hX (wc := wc) (wr := wm ++ w3) (As := [.int (xs (i + 1))]) (rest := []) lk_L_222 mvX7_count S1 ⟨rfl, rfl⟩ ⟨Nat.le_of_ble_eq_true rfl, Nat.le_of_ble_eq_true rfl⟩ h1 dL_law_1681 rfl rfl (Nat.le_of_ble_eq_true rfl) (fun r1 w1 hp1 => ?_)
  obtain ⟨v, rfl, S4⟩ := S3 r1 w1 hp1
  show G X 1684 [some (.ref b0), some (.ref (A 0)), some (.ref (B 0)), some (.ref o), some (.int (nI i)), none, none, none] [.int v] (w1 ++ (wm ++ w3))
  refine rh_aload_n hX dL_law_1684 rfl ?_
  refine rh_aload_n hX dL_law_1685 rfl ?_
  refine rh_iload hX dL_law_1686 rfl ?_
  refine rh_iconst hX dL_law_1688 ki_1 ?_
  refine rh_iadd hX dL_law_1689 ?_
  refine rq_sld hX hR (i + 1) dL_law_1690 nIa1 (by omega) (by omega) ?_
  refine rh_cM hX (wa := w1) (wc := wm) (wr := w3) (As := [.int (xs (i + 1))]) (rest := [.int v]) lk_L_225 mvX8_count S2 ⟨rfl, rfl⟩ ⟨Nat.le_of_ble_eq_true rfl, Nat.le_of_ble_eq_true rfl⟩ h2 dL_law_1691 rfl rfl (Nat.le_of_ble_eq_true rfl) (fun r2 w2 hp2 => ?_)
  obtain ⟨rfl, hg⟩ := S4 r2 w2 hp2
  show G X 1694 [some (.ref b0), some (.ref (A 0)), some (.ref (B 0)), some (.ref o), some (.int (nI i)), none, none, none] [.int v, .int v] (w1 ++ (w2 ++ w3))
  refine rh_icmp_eq_t hX dL_law_1694 (tgt := 1754) (by decide) rfl ?_
  exact hg X 1754 [some (.ref b0), some (.ref (A 0)), some (.ref (B 0)), some (.ref o), some (.int (nI i)), none, none, none] [] w3 k

theorem va_up_same {α : Type} {f : Nat → α} {k : Nat} {v : α} : va_up f k v k = v := by
  unfold va_up
  simp
set_option maxRecDepth 100000 in
set_option maxHeartbeats 4000000 in
theorem lc_row {X : rhX} {E : rhE} {A B : Nat → Nat} {b0 L o i a b : Nat} {xs : Nat → Int32} {g : Nat → Int64} {C : CT} {T Tk : Nat} {Z : ZT} {u : Nat → Int32} {kp : Nat → Int32} {ik : Int32} {ps : Nat → Int32} {pm : Nat} {dd : Int32} {tx : Nat → Int32} {ty : Nat} {rw : Nat → Int64} {rm : Nat} {th : Int32} {sz : Nat} {he : Nat} {wr : Int32} {mn : Nat → Int32} {vl : Int32} {tp : Int32} {lt : Int32} {ra : Int32} {pf : Int32} {pt : Int32} {pl : Int32} {pd : Int64} {prc : Int64} {ns : Int64} {tu : Nat} {ba : Int64} {na : Int64} {ca : Nat → Int64} {bo : Nat → Int32} {tr : Nat → Int64} {tH : Int32} {asd : Nat → Int32} {pa : Nat → Int64} {tg : Nat → Int64} {sd : Int64} {sr : Int64} (h : rl C T Tk u kp ik ps pm dd tx ty rw rm) (hX : Ok X E RL cL_law room_1 8) (hR : RtL X b0 L xs a b) (hi : i + 5 ≤ L) (hL : L ≤ 2560) (ha : a + 1 ≤ 601024) (hb : b + 6 ≤ 7293034) (k : ∀ (Y : rhX), Ok Y E RL cL_law room_1 8 → RtL Y b0 L xs (a + 1) (b + 6) → ∀ (g : Nat → Int64) (th : Int32) (o5 o6 : Option Value), G Y 1754 [some (.ref b0), some (.ref (A 0)), some (.ref (B 0)), some (.ref o), some (.int (nI i)), o5, o6, none] [] (wC E A C Z ++ ((wM E B u kp ik ps pm dd tx ty rw rm th sz he wr mn vl tp lt ra pf pt pl pd prc ns tu ba na ca bo tr tH asd pa tg sd sr) ++ [(o, aL E 1 g)]))) : G X 1699 [some (.ref b0), some (.ref (A 0)), some (.ref (B 0)), some (.ref o), some (.int (nI i)), none, none, none] [] (wC E A C Z ++ ((wM E B u kp ik ps pm dd tx ty rw rm th sz he wr mn vl tp lt ra pf pt pl pd prc ns tu ba na ca bo tr tH asd pa tg sd sr) ++ [(o, aL E 1 g)])) := by
  have hn : C.2.2.2.2.2.2.2.2.2.2 ≤ 12 := by rw [h.2.2.2.2.2.2.1]; exact h.2.2.2.2.2.2.2.1
  have hrm := h.2.2.2.2.2.2.2.1
  refine rh_aload_n hX dL_law_1699 rfl ?_
  refine rh_aload_n hX dL_law_1700 rfl ?_
  refine rh_iload hX dL_law_1701 rfl ?_
  refine rh_iconst hX dL_law_1703 ki_1 ?_
  refine rh_iadd hX dL_law_1704 ?_
  refine rq_sld hX hR (i + 1) dL_law_1705 nIa1 (by omega) (by omega) ?_
  refine rh_aload_n hX dL_law_1706 rfl ?_
  refine rh_swap (w1 := wC E A C Z) (w2 := wM E B u kp ik ps pm dd tx ty rw rm th sz he wr mn vl tp lt ra pf pt pl pd prc ns tu ba na ca bo tr tH asd pa tg sd sr) (w3 := [(o, aL E 1 g)]) ?_
  refine rh_assoc (w1 := wC E A C Z) (w2 := [(o, aL E 1 g)]) (w3 := wM E B u kp ik ps pm dd tx ty rw rm th sz he wr mn vl tp lt ra pf pt pl pd prc ns tu ba na ca bo tr tH asd pa tg sd sr) ?_
  refine rq_callW hX hR (n := 3) (As := [.ref (A 0), .int (xs (i + 1)), .ref o]) (rest := []) (wc := wC E A C Z ++ [(o, aL E 1 g)]) (wr := wM E B u kp ik ps pm dd tx ty rw rm th sz he wr mn vl tp lt ra pf pt pl pd prc ns tu ba na ca bo tr tH asd pa tg sd sr) (rhT_in 1050 (by decide +kernel) rfl) (rhT_in 80 (by decide +kernel) rfl) (rhT_in 1051 (by decide +kernel) rfl) (rhT_in 1052 (by decide +kernel) rfl) (by decide +kernel) (by decide +kernel) (c_L_row X.2.1 hR.tr E A C Z (xs (i + 1)) o g hn) ⟨Nat.le_of_ble_eq_true rfl, Nat.le_of_ble_eq_true rfl⟩ dL_law_1707 rfl rfl (Nat.le_of_ble_eq_true rfl) ha hb (fun Y r w hp hY hRY => ?_)
  rw [h.2.2.2.2.2.2.1] at hp
  rcases hp with ⟨hr, rfl, rfl⟩ | ⟨hr, rfl, rfl⟩
  · have hlt : (xs (i + 1)).toNatClampNeg < rm := by
      have q := of_decide_eq_true (show decide (0 ≤ (xs (i + 1)).toInt ∧ (xs (i + 1)).toInt < rm) = true from hr)
      obtain ⟨d, e1, e2⟩ := nI_ex q.1
      rw [e1, nI_clamp (by omega)]
      omega
    have hrw := h.2.2.2.2.2.2.2.2 _ hlt
    show G Y 1710 [some (.ref b0), some (.ref (A 0)), some (.ref (B 0)), some (.ref o), some (.int (nI i)), none, none, none] [.int 0] ((wC E A C Z ++ [(o, aL E 1 (va_up g 0 (C.2.2.2.2.2.2.2.2.2.1 (xs (i + 1)).toNatClampNeg)))]) ++ (wM E B u kp ik ps pm dd tx ty rw rm th sz he wr mn vl tp lt ra pf pt pl pd prc ns tu ba na ca bo tr tH asd pa tg sd sr))
    refine rh_assoc' (w1 := wC E A C Z) (w2 := [(o, aL E 1 (va_up g 0 (C.2.2.2.2.2.2.2.2.2.1 (xs (i + 1)).toNatClampNeg)))]) (w3 := wM E B u kp ik ps pm dd tx ty rw rm th sz he wr mn vl tp lt ra pf pt pl pd prc ns tu ba na ca bo tr tH asd pa tg sd sr) ?_
    refine rh_swap (w1 := wC E A C Z) (w2 := [(o, aL E 1 (va_up g 0 (C.2.2.2.2.2.2.2.2.2.1 (xs (i + 1)).toNatClampNeg)))]) (w3 := wM E B u kp ik ps pm dd tx ty rw rm th sz he wr mn vl tp lt ra pf pt pl pd prc ns tu ba na ca bo tr tH asd pa tg sd sr) ?_
    refine rh_ist5 hY dL_law_1710 (by decide) rfl ?_
    refine rh_aload_n hY dL_law_1712 rfl ?_
    refine rh_aload_n hY dL_law_1713 rfl ?_
    refine rh_iload hY dL_law_1714 rfl ?_
    refine rh_iconst hY dL_law_1716 ki_1 ?_
    refine rh_iadd hY dL_law_1717 ?_
    refine rq_sld hY hRY (i + 1) dL_law_1718 nIa1 (by omega) (by omega) ?_
    refine rh_cM hY (wa := wC E A C Z) (wc := wM E B u kp ik ps pm dd tx ty rw rm th sz he wr mn vl tp lt ra pf pt pl pd prc ns tu ba na ca bo tr tH asd pa tg sd sr) (wr := [(o, aL E 1 (va_up g 0 (C.2.2.2.2.2.2.2.2.2.1 (xs (i + 1)).toNatClampNeg)))]) (As := [.int (xs (i + 1))]) (rest := []) lk_L_231 mvX8_row (fun l => c_X8_row l E B u kp ik ps pm dd tx ty rw rm th sz he wr mn vl tp lt ra pf pt pl pd prc ns tu ba na ca bo tr tH asd pa tg sd sr (xs (i + 1)) (by omega)) ⟨rfl, rfl⟩ ⟨Nat.le_of_ble_eq_true rfl, Nat.le_of_ble_eq_true rfl⟩ rfl dL_law_1719 rfl rfl (Nat.le_of_ble_eq_true rfl) (fun r2 w2 hp2 => ?_)
    obtain ⟨rfl, rfl⟩ := hp2
    show G Y 1722 [some (.ref b0), some (.ref (A 0)), some (.ref (B 0)), some (.ref o), some (.int (nI i)), some (.int 0), none, none] [.long (if mRowI (xs (i + 1)) rm = true then rw (xs (i + 1)).toNatClampNeg else 0)] (wC E A C Z ++ ((wM E B u kp ik ps pm dd tx ty rw rm (if mRowI (xs (i + 1)) rm = true then 0 else 1) sz he wr mn vl tp lt ra pf pt pl pd prc ns tu ba na ca bo tr tH asd pa tg sd sr) ++ [(o, aL E 1 (va_up g 0 (C.2.2.2.2.2.2.2.2.2.1 (xs (i + 1)).toNatClampNeg)))]))
    refine rh_lst6 hY dL_law_1722 (by decide) rfl ?_
    refine rh_aload_n hY dL_law_1724 rfl ?_
    refine rh_cM hY (wa := wC E A C Z) (wc := wM E B u kp ik ps pm dd tx ty rw rm (if mRowI (xs (i + 1)) rm = true then 0 else 1) sz he wr mn vl tp lt ra pf pt pl pd prc ns tu ba na ca bo tr tH asd pa tg sd sr) (wr := [(o, aL E 1 (va_up g 0 (C.2.2.2.2.2.2.2.2.2.1 (xs (i + 1)).toNatClampNeg)))]) (As := []) (rest := []) lk_L_232 mvX8_thrown (fun l => c_X8_thrown l E B u kp ik ps pm dd tx ty rw rm (if mRowI (xs (i + 1)) rm = true then 0 else 1) sz he wr mn vl tp lt ra pf pt pl pd prc ns tu ba na ca bo tr tH asd pa tg sd sr) ⟨rfl, rfl⟩ ⟨Nat.le_of_ble_eq_true rfl, Nat.le_of_ble_eq_true rfl⟩ rfl dL_law_1725 rfl rfl (Nat.le_of_ble_eq_true rfl) (fun r2 w2 hp2 => ?_)
    obtain ⟨rfl, rfl⟩ := hp2
    show G Y 1728 [some (.ref b0), some (.ref (A 0)), some (.ref (B 0)), some (.ref o), some (.int (nI i)), some (.int 0), some (.long (if mRowI (xs (i + 1)) rm = true then rw (xs (i + 1)).toNatClampNeg else 0)), none] [.int (if mRowI (xs (i + 1)) rm = true then 0 else 1)] (wC E A C Z ++ ((wM E B u kp ik ps pm dd tx ty rw rm (if mRowI (xs (i + 1)) rm = true then 0 else 1) sz he wr mn vl tp lt ra pf pt pl pd prc ns tu ba na ca bo tr tH asd pa tg sd sr) ++ [(o, aL E 1 (va_up g 0 (C.2.2.2.2.2.2.2.2.2.1 (xs (i + 1)).toNatClampNeg)))]))
    refine rh_iload hY dL_law_1728 rfl ?_
    refine rh_icmp_eq_t hY dL_law_1730 (tgt := 1735) (by decide) (by rw [if_pos hr]) ?_
    refine rh_iload hY dL_law_1735 rfl ?_
    refine rh_if_ne_f hY dL_law_1737 (tgt := 1751) (by decide) rfl ?_
    refine rh_aload_n hY dL_law_1740 rfl ?_
    refine rh_iconst hY dL_law_1741 ki_0 ?_
    refine rh_laload hY 49 0 dL_law_1742 rfl rfl (by decide) (by decide) ?_
    refine rh_lload hY dL_law_1743 rfl ?_
    refine rh_lcmp hY dL_law_1745 ?_
    refine rh_if_eq_t hY dL_law_1746 (tgt := 1751) (by decide) (by rw [if_pos hr, va_up_same, hrw]; exact lg_cmp_self) ?_
    refine rh_goto hY dL_law_1751 (tgt := 1754) (by decide) ?_
    exact k Y hY hRY _ _ _ _
  · have hr : ¬ mRowI (xs (i + 1)) rm = true := by rw [hr]; decide
    show G Y 1710 [some (.ref b0), some (.ref (A 0)), some (.ref (B 0)), some (.ref o), some (.int (nI i)), none, none, none] [.int 1] ((wC E A C Z ++ [(o, aL E 1 g)]) ++ (wM E B u kp ik ps pm dd tx ty rw rm th sz he wr mn vl tp lt ra pf pt pl pd prc ns tu ba na ca bo tr tH asd pa tg sd sr))
    refine rh_assoc' (w1 := wC E A C Z) (w2 := [(o, aL E 1 g)]) (w3 := wM E B u kp ik ps pm dd tx ty rw rm th sz he wr mn vl tp lt ra pf pt pl pd prc ns tu ba na ca bo tr tH asd pa tg sd sr) ?_
    refine rh_swap (w1 := wC E A C Z) (w2 := [(o, aL E 1 g)]) (w3 := wM E B u kp ik ps pm dd tx ty rw rm th sz he wr mn vl tp lt ra pf pt pl pd prc ns tu ba na ca bo tr tH asd pa tg sd sr) ?_
    refine rh_ist5 hY dL_law_1710 (by decide) rfl ?_
    refine rh_aload_n hY dL_law_1712 rfl ?_
    refine rh_aload_n hY dL_law_1713 rfl ?_
    refine rh_iload hY dL_law_1714 rfl ?_
    refine rh_iconst hY dL_law_1716 ki_1 ?_
    refine rh_iadd hY dL_law_1717 ?_
    refine rq_sld hY hRY (i + 1) dL_law_1718 nIa1 (by omega) (by omega) ?_
    refine rh_cM hY (wa := wC E A C Z) (wc := wM E B u kp ik ps pm dd tx ty rw rm th sz he wr mn vl tp lt ra pf pt pl pd prc ns tu ba na ca bo tr tH asd pa tg sd sr) (wr := [(o, aL E 1 g)]) (As := [.int (xs (i + 1))]) (rest := []) lk_L_231 mvX8_row (fun l => c_X8_row l E B u kp ik ps pm dd tx ty rw rm th sz he wr mn vl tp lt ra pf pt pl pd prc ns tu ba na ca bo tr tH asd pa tg sd sr (xs (i + 1)) (by omega)) ⟨rfl, rfl⟩ ⟨Nat.le_of_ble_eq_true rfl, Nat.le_of_ble_eq_true rfl⟩ rfl dL_law_1719 rfl rfl (Nat.le_of_ble_eq_true rfl) (fun r2 w2 hp2 => ?_)
    obtain ⟨rfl, rfl⟩ := hp2
    show G Y 1722 [some (.ref b0), some (.ref (A 0)), some (.ref (B 0)), some (.ref o), some (.int (nI i)), some (.int 1), none, none] [.long (if mRowI (xs (i + 1)) rm = true then rw (xs (i + 1)).toNatClampNeg else 0)] (wC E A C Z ++ ((wM E B u kp ik ps pm dd tx ty rw rm (if mRowI (xs (i + 1)) rm = true then 0 else 1) sz he wr mn vl tp lt ra pf pt pl pd prc ns tu ba na ca bo tr tH asd pa tg sd sr) ++ [(o, aL E 1 g)]))
    refine rh_lst6 hY dL_law_1722 (by decide) rfl ?_
    refine rh_aload_n hY dL_law_1724 rfl ?_
    refine rh_cM hY (wa := wC E A C Z) (wc := wM E B u kp ik ps pm dd tx ty rw rm (if mRowI (xs (i + 1)) rm = true then 0 else 1) sz he wr mn vl tp lt ra pf pt pl pd prc ns tu ba na ca bo tr tH asd pa tg sd sr) (wr := [(o, aL E 1 g)]) (As := []) (rest := []) lk_L_232 mvX8_thrown (fun l => c_X8_thrown l E B u kp ik ps pm dd tx ty rw rm (if mRowI (xs (i + 1)) rm = true then 0 else 1) sz he wr mn vl tp lt ra pf pt pl pd prc ns tu ba na ca bo tr tH asd pa tg sd sr) ⟨rfl, rfl⟩ ⟨Nat.le_of_ble_eq_true rfl, Nat.le_of_ble_eq_true rfl⟩ rfl dL_law_1725 rfl rfl (Nat.le_of_ble_eq_true rfl) (fun r2 w2 hp2 => ?_)
    obtain ⟨rfl, rfl⟩ := hp2
    show G Y 1728 [some (.ref b0), some (.ref (A 0)), some (.ref (B 0)), some (.ref o), some (.int (nI i)), some (.int 1), some (.long (if mRowI (xs (i + 1)) rm = true then rw (xs (i + 1)).toNatClampNeg else 0)), none] [.int (if mRowI (xs (i + 1)) rm = true then 0 else 1)] (wC E A C Z ++ ((wM E B u kp ik ps pm dd tx ty rw rm (if mRowI (xs (i + 1)) rm = true then 0 else 1) sz he wr mn vl tp lt ra pf pt pl pd prc ns tu ba na ca bo tr tH asd pa tg sd sr) ++ [(o, aL E 1 g)]))
    refine rh_iload hY dL_law_1728 rfl ?_
    refine rh_icmp_eq_t hY dL_law_1730 (tgt := 1735) (by decide) (by rw [if_neg hr]) ?_
    refine rh_iload hY dL_law_1735 rfl ?_
    refine rh_if_ne_t hY dL_law_1737 (tgt := 1751) (by decide) (by decide) ?_
    refine rh_goto hY dL_law_1751 (tgt := 1754) (by decide) ?_
    exact k Y hY hRY _ _ _ _