set_option maxRecDepth 100000 in
set_option maxHeartbeats 4000000 in
theorem c_X8_isToldAlready (l : Launch) (E : rhE) (B : Nat → Nat) (u : Nat → Int32) (kp : Nat → Int32) (ik : Int32) (ps : Nat → Int32) (pm : Nat) (dd : Int32) (tx : Nat → Int32) (ty : Nat) (rw : Nat → Int64) (rm : Nat) (th : Int32) (sz : Nat) (he : Nat) (wr : Int32) (mn : Nat → Int32) (vl : Int32) (tp : Int32) (lt : Int32) (ra : Int32) (pf : Int32) (pt : Int32) (pl : Int32) (pd : Int64) (prc : Int64) (ns : Int64) (tu : Nat) (ba : Int64) (na : Int64) (ca : Nat → Int64) (bo : Nat → Int32) (tr : Nat → Int64) (tH : Int32) (asd : Nat → Int32) (pa : Nat → Int64) (tg : Nat → Int64) (sd : Int64) (sr : Int64) (v : Int32) (hn : rm ≤ 32) : Ctr l E yX8_isToldAlready cX8_isToldAlready 3 (some .boolean) (rmL 0) [.ref (B 0), .int v] (wM E B u kp ik ps pm dd tx ty rw rm th sz he wr mn vl tp lt ra pf pt pl pd prc ns tu ba na ca bo tr tH asd pa tg sd sr) (One (some (.int (if cHas rw v.toInt64 rm = true then 1 else 0))) (wM E B u kp ik ps pm dd tx ty rw rm th sz he wr mn vl tp lt ra pf pt pl pd prc ns tu ba na ca bo tr tH asd pa tg sd sr)) := by
  refine Ctr.of (by decide) (Nat.le_of_ble_eq_true rfl) rfl rfl 1 ?_
  intro X hX hR
  refine rh_iconst hX dX8_isToldAlready_0 ki_0 ?_
  refine rh_istn2 hX dX8_isToldAlready_1 (by decide) rfl ?_
  refine (rh_loop (P := fun i => cHas rw v.toInt64 i = false → G X 2 [some (.ref (B 0)), some (.int v), some (.int (nI i))] [] (wM E B u kp ik ps pm dd tx ty rw rm th sz he wr mn vl tp lt ra pf pt pl pd prc ns tu ba na ca bo tr tH asd pa tg sd sr)) (0) (rm) (by omega) ?_ ?_) rfl
  · intro hH
    refine rh_iload_n hX dX8_isToldAlready_2 rfl ?_
    refine rh_aload_n hX dX8_isToldAlready_3 rfl ?_
    refine rh_get hX gl_X8_52 0 dX8_isToldAlready_4 rfl rfl ?_
    refine rh_icmp_ge_t (tgt := 30) hX dX8_isToldAlready_7 (by decide) (nI_le (Nat.le_refl rm) (by omega)) ?_
    refine rh_iconst hX dX8_isToldAlready_30 ki_0 ?_
    exact rh_zret hX hR dX8_isToldAlready_31 rfl (by simp only [List.map_cons, List.map_nil, List.cons_append, List.nil_append]) ⟨by rw [hH]; rfl, rfl⟩
  · intro i hi0 hi ih hH
    refine rh_iload_n hX dX8_isToldAlready_2 rfl ?_
    refine rh_aload_n hX dX8_isToldAlready_3 rfl ?_
    refine rh_get hX gl_X8_52 0 dX8_isToldAlready_4 rfl rfl ?_
    refine rh_icmp_ge_f (tgt := 30) hX dX8_isToldAlready_7 (by decide) (nI_ge hi (by omega)) ?_
    refine rh_aload_n hX dX8_isToldAlready_10 rfl ?_
    refine rh_get hX gl_X8_23 0 dX8_isToldAlready_11 rfl rfl ?_
    refine rh_iload_n hX dX8_isToldAlready_14 rfl ?_
    refine rh_laload hX 5 _ dX8_isToldAlready_15 rfl rfl (by omega) (by decide) ?_
    refine rh_iload_n hX dX8_isToldAlready_16 rfl ?_
    refine rh_i2l hX dX8_isToldAlready_17 ?_
    refine rh_lne (tgt := 24) hX dX8_isToldAlready_18 dX8_isToldAlready_19 (by decide) (fun h19 => ?_) (fun h19 => ?_)
    · skip
      refine rh_inc2 hX dX8_isToldAlready_24 (by decide) rfl (rn_i1 _) ?_
      refine rh_goto (tgt := 2) hX dX8_isToldAlready_27 (by decide) ?_
      exact ih (by unfold cHas; rw [hH]; simp [h19])
    · skip
      refine rh_iconst hX dX8_isToldAlready_22 ki_1 ?_
      exact rh_zret hX hR dX8_isToldAlready_23 rfl (by simp only [List.map_cons, List.map_nil, List.cons_append, List.nil_append]) ⟨by rw [if_pos (cHas_lt h19 rm hi)], rfl⟩
