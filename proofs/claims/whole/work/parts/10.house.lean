def rmL (d : Nat) : Room := { frames := d, cells := 0, slots := 0, locals := 38 * d }
abbrev aL (E : rhE) (n : Nat) (f : Nat → Int64) : va_E := .inl (E.2.1 1, n, .inr (.inl f))
abbrev aI (E : rhE) (n : Nat) (f : Nat → Int32) : va_E := .inl (E.2.1 0, n, .inl f)
/-- a house: its object, its row of numbers -/
abbrev wH (E : rhE) (o a : Nat) (f : Nat → Int64) : va_W := [(o, .inr (1, [.ref a])), (a, aL E 172 f)]
/-- sums, from s on -/
def sumF (s : Int64) (g : Nat → Int64) : Nat → Int64
  | 0 => s
  | n + 1 => sumF s g n + g n
/-- sums from 1 on -/
def sum1 (g : Nat → Int64) : Nat → Int64
  | 0 => 0
  | n + 1 => if n = 0 then 0 else sum1 g n + g n
def orF (g : Nat → Int32) : Nat → Int32
  | 0 => 0
  | n + 1 => orF g n ||| g n
def or1 (g : Nat → Int32) : Nat → Int32
  | 0 => 0
  | n + 1 => if n = 0 then 0 else or1 g n ||| g n
def cBit (x : Int64) (h : Nat) : Int32 := if x ≤ 0 then 0 else 1 <<< (nI h &&& 31)
def cQuot (a b : Int64) : Int64 := if 0 < b then a / b else 0
def cHeld (f : Nat → Int64) (h t : Nat) : Int64 := f (0 + h * 6 + t)
def cGiven (f : Nat → Int64) (h t : Nat) : Int64 := f (48 + h * 6 + t)
def cGranted (f : Nat → Int64) (h : Nat) : Int64 := f (96 + h)
def cFact (f : Nat → Int64) (t w : Nat) : Int64 := f (104 + t * 11 + w)
def cConv (f : Nat → Int64) (t : Nat) (n : Int64) : Int64 := if t = 0 then n else if n = 0 then n else cQuot (n * cFact f t 0) (cFact f t 1)
def cVotes (f : Nat → Int64) (h T : Nat) : Int64 := sumF 0 (fun c => cConv f c (cHeld f h c)) T
def cClaim (f : Nat → Int64) (h T : Nat) : Int64 := cVotes f h T + cGranted f h
def cAny (f : Nat → Int64) (h T : Nat) : Int64 := sumF (cGranted f h) (fun c => cHeld f h c) T
def cAllHeld (f : Nat → Int64) (t : Nat) : Int64 := sumF 0 (fun h => cHeld f h t) 8
def cAllConv (f : Nat → Int64) (t : Nat) : Int64 := sumF 0 (fun h => cConv f t (cHeld f h t)) 8
def cAllVotes (f : Nat → Int64) (T : Nat) : Int64 := sumF 0 (fun h => cVotes f h T) 8
def cAllGranted (f : Nat → Int64) : Int64 := sumF 0 (cGranted f) 8
def cAllGiven (f : Nat → Int64) (h T : Nat) : Int64 := sum1 (fun c => cGiven f h c) T
def cSize (f : Nat → Int64) (T : Nat) : Int64 := cAllVotes f T + cAllGranted f + f 170
def cPref (f : Nat → Int64) (t : Nat) : Int64 := cAllHeld f t * cFact f t 0 * cFact f t 3 / 100000
def cHoldersOf (f : Nat → Int64) (t : Nat) : Int32 := orF (fun h => cBit (cHeld f h t) h) 8
def cClaimants (f : Nat → Int64) (T : Nat) : Int32 := orF (fun h => cBit (cClaim f h T) h) 8
def cGrantees (f : Nat → Int64) : Int32 := orF (fun h => cBit (cGranted f h) h) 8
def cTypesWith (f : Nat → Int64) (w T : Nat) : Int32 := or1 (fun c => cBit (cFact f c w) c) T
theorem nI_z {n : Nat} (h : nI n = 0) (hn : n < 2 ^ 31) : n = 0 := by
  have a := nI_toInt hn
  rw [h, Int32.toInt_zero] at a
  omega

set_option maxRecDepth 100000 in
set_option maxHeartbeats 4000000 in
theorem c_X7_quotient (l : Launch) (E : rhE) (x y : Int64)  : Ctr l E yX7_quotient cX7_quotient 4 (some .long) (rmL 0) [.long x, .long y] [] (One (some (.long (cQuot x y))) []) := by
  refine Ctr.of (by decide) (Nat.le_of_ble_eq_true rfl) rfl rfl 0 ?_
  intro X hX hR
  refine rh_lload_n hX dX7_quotient_0 rfl ?_
  refine rh_lconst hX dX7_quotient_1 kL_0 ?_
  refine rh_lgt (tgt := 10) hX dX7_quotient_2 dX7_quotient_3 (by decide) (fun h2 => ?_) (fun h2 => ?_)
  · skip
    refine rh_lload_n hX dX7_quotient_10 rfl ?_
    refine rh_lload_n hX dX7_quotient_11 rfl ?_
    refine rh_ldiv hX dX7_quotient_12 (fun q => by rw [q] at h2; exact absurd h2 (by decide)) ?_
    exact rh_lret hX hR dX7_quotient_13 rfl ⟨by first | (rw [cQuot, if_pos h2]; done) | (rw [cQuot, if_neg h2]; done), rfl⟩
  · skip
    refine rh_lconst hX dX7_quotient_6 kL_0 ?_
    refine rh_goto (tgt := 13) hX dX7_quotient_7 (by decide) ?_
    exact rh_lret hX hR dX7_quotient_13 rfl ⟨by first | (rw [cQuot, if_pos h2]; done) | (rw [cQuot, if_neg h2]; done), rfl⟩

set_option maxRecDepth 100000 in
set_option maxHeartbeats 4000000 in
theorem c_X1_types (l : Launch) (E : rhE) (o a : Nat) (f : Nat → Int64) (T : Nat) (hT : (f 171).toInt32 = nI T) (hT6 : T ≤ 6)  : Ctr l E yX1_types cX1_types 1 (some .int) (rmL 0) [.ref o] (wH E o a f) (One (some (.int (nI T))) (wH E o a f)) := by
  refine Ctr.of (by decide) (Nat.le_of_ble_eq_true rfl) rfl rfl 0 ?_
  intro X hX hR
  refine rh_aload_n hX dX1_types_0 rfl ?_
  refine rh_get hX gl_X1_9 0 dX1_types_1 rfl rfl ?_
  refine rh_sipush hX dX1_types_4 ks_171 ?_
  refine rh_laload hX 1 _ dX1_types_7 rfl rn_c171 (by omega) (by decide) ?_
  refine rh_l2i hX dX1_types_8 ?_
  exact rh_iret hX hR dX1_types_9 rfl ⟨by rw [hT], rfl⟩

set_option maxRecDepth 100000 in
set_option maxHeartbeats 4000000 in
theorem c_X1_spare (l : Launch) (E : rhE) (o a : Nat) (f : Nat → Int64)  : Ctr l E yX1_spare cX1_spare 1 (some .long) (rmL 0) [.ref o] (wH E o a f) (One (some (.long (f 170))) (wH E o a f)) := by
  refine Ctr.of (by decide) (Nat.le_of_ble_eq_true rfl) rfl rfl 0 ?_
  intro X hX hR
  refine rh_aload_n hX dX1_spare_0 rfl ?_
  refine rh_get hX gl_X1_9 0 dX1_spare_1 rfl rfl ?_
  refine rh_sipush hX dX1_spare_4 ks_170 ?_
  refine rh_laload hX 1 _ dX1_spare_7 rfl rn_c170 (by omega) (by decide) ?_
  exact rh_lret hX hR dX1_spare_8 rfl ⟨rfl, rfl⟩

set_option maxRecDepth 100000 in
set_option maxHeartbeats 4000000 in
theorem c_X1_setSpare (l : Launch) (E : rhE) (o a : Nat) (f : Nat → Int64) (n : Int64)  : Ctr l E yX1_setSpare cX1_setSpare 3 none (rmL 0) [.ref o, .long n] (wH E o a f) (One none (wH E o a (va_up f 170 n))) := by
  refine Ctr.of (by decide) (Nat.le_of_ble_eq_true rfl) rfl rfl 0 ?_
  intro X hX hR
  refine rh_aload_n hX dX1_setSpare_0 rfl ?_
  refine rh_get hX gl_X1_9 0 dX1_setSpare_1 rfl rfl ?_
  refine rh_sipush hX dX1_setSpare_4 ks_170 ?_
  refine rh_lload_n hX dX1_setSpare_7 rfl ?_
  refine rh_lastore hX 1 _ dX1_setSpare_8 rfl rn_c170 (by omega) (by decide) rfl ?_
  dsimp only [List.set_cons_succ, List.set_cons_zero, vput]
  exact rh_vret hX hR dX1_setSpare_9 rfl ⟨rfl, rfl⟩

set_option maxRecDepth 100000 in
set_option maxHeartbeats 4000000 in
theorem c_X1_held (l : Launch) (E : rhE) (o a : Nat) (f : Nat → Int64) (h t : Nat) (hh : h < 8) (ht : t < 6) : Ctr l E yX1_held cX1_held 3 (some .long) (rmL 0) [.ref o, .int (nI h), .int (nI t)] (wH E o a f) (One (some (.long (cHeld f h t))) (wH E o a f)) := by
  refine Ctr.of (by decide) (Nat.le_of_ble_eq_true rfl) rfl rfl 0 ?_
  intro X hX hR
  refine rh_aload_n hX dX1_held_0 rfl ?_
  refine rh_get hX gl_X1_9 0 dX1_held_1 rfl rfl ?_
  refine rh_iconst hX dX1_held_4 ki_0 ?_
  refine rh_iload_n hX dX1_held_5 rfl ?_
  refine rh_bipush hX dX1_held_6 kb_6 ?_
  refine rh_imul hX dX1_held_8 ?_
  refine rh_iadd hX dX1_held_9 ?_
  refine rh_iload_n hX dX1_held_10 rfl ?_
  refine rh_iadd hX dX1_held_11 ?_
  refine rh_laload hX 1 _ dX1_held_12 rfl (rn_a (rn_a rn_c0 (rn_m rfl rn_c6)) rfl) (by omega) (by decide) ?_
  exact rh_lret hX hR dX1_held_13 rfl ⟨rfl, rfl⟩

set_option maxRecDepth 100000 in
set_option maxHeartbeats 4000000 in
theorem c_X1_addHeld (l : Launch) (E : rhE) (o a : Nat) (f : Nat → Int64) (h t : Nat) (n : Int64) (hh : h < 8) (ht : t < 6) : Ctr l E yX1_addHeld cX1_addHeld 5 none (rmL 0) [.ref o, .int (nI h), .int (nI t), .long n] (wH E o a f) (One none (wH E o a (va_up f (0 + h * 6 + t) (cHeld f h t + n)))) := by
  refine Ctr.of (by decide) (Nat.le_of_ble_eq_true rfl) rfl rfl 0 ?_
  intro X hX hR
  refine rh_aload_n hX dX1_addHeld_0 rfl ?_
  refine rh_get hX gl_X1_9 0 dX1_addHeld_1 rfl rfl ?_
  refine rh_iconst hX dX1_addHeld_4 ki_0 ?_
  refine rh_iload_n hX dX1_addHeld_5 rfl ?_
  refine rh_bipush hX dX1_addHeld_6 kb_6 ?_
  refine rh_imul hX dX1_addHeld_8 ?_
  refine rh_iadd hX dX1_addHeld_9 ?_
  refine rh_iload_n hX dX1_addHeld_10 rfl ?_
  refine rh_iadd hX dX1_addHeld_11 ?_
  refine rh_dup2 hX dX1_addHeld_12 rfl rfl ?_
  refine rh_laload hX 1 _ dX1_addHeld_13 rfl (rn_a (rn_a rn_c0 (rn_m rfl rn_c6)) rfl) (by omega) (by decide) ?_
  refine rh_lload_n hX dX1_addHeld_14 rfl ?_
  refine rh_ladd hX dX1_addHeld_15 ?_
  refine rh_lastore hX 1 _ dX1_addHeld_16 rfl (rn_a (rn_a rn_c0 (rn_m rfl rn_c6)) rfl) (by omega) (by decide) rfl ?_
  dsimp only [List.set_cons_succ, List.set_cons_zero, vput]
  exact rh_vret hX hR dX1_addHeld_17 rfl ⟨rfl, rfl⟩

set_option maxRecDepth 100000 in
set_option maxHeartbeats 4000000 in
theorem c_X1_given (l : Launch) (E : rhE) (o a : Nat) (f : Nat → Int64) (h t : Nat) (hh : h < 8) (ht : t < 6) : Ctr l E yX1_given cX1_given 3 (some .long) (rmL 0) [.ref o, .int (nI h), .int (nI t)] (wH E o a f) (One (some (.long (cGiven f h t))) (wH E o a f)) := by
  refine Ctr.of (by decide) (Nat.le_of_ble_eq_true rfl) rfl rfl 0 ?_
  intro X hX hR
  refine rh_aload_n hX dX1_given_0 rfl ?_
  refine rh_get hX gl_X1_9 0 dX1_given_1 rfl rfl ?_
  refine rh_bipush hX dX1_given_4 kb_48 ?_
  refine rh_iload_n hX dX1_given_6 rfl ?_
  refine rh_bipush hX dX1_given_7 kb_6 ?_
  refine rh_imul hX dX1_given_9 ?_
  refine rh_iadd hX dX1_given_10 ?_
  refine rh_iload_n hX dX1_given_11 rfl ?_
  refine rh_iadd hX dX1_given_12 ?_
  refine rh_laload hX 1 _ dX1_given_13 rfl (rn_a (rn_a rn_c48 (rn_m rfl rn_c6)) rfl) (by omega) (by decide) ?_
  exact rh_lret hX hR dX1_given_14 rfl ⟨rfl, rfl⟩

set_option maxRecDepth 100000 in
set_option maxHeartbeats 4000000 in
theorem c_X1_setGiven (l : Launch) (E : rhE) (o a : Nat) (f : Nat → Int64) (h t : Nat) (n : Int64) (hh : h < 8) (ht : t < 6) : Ctr l E yX1_setGiven cX1_setGiven 5 none (rmL 0) [.ref o, .int (nI h), .int (nI t), .long n] (wH E o a f) (One none (wH E o a (va_up f (48 + h * 6 + t) n))) := by
  refine Ctr.of (by decide) (Nat.le_of_ble_eq_true rfl) rfl rfl 0 ?_
  intro X hX hR
  refine rh_aload_n hX dX1_setGiven_0 rfl ?_
  refine rh_get hX gl_X1_9 0 dX1_setGiven_1 rfl rfl ?_
  refine rh_bipush hX dX1_setGiven_4 kb_48 ?_
  refine rh_iload_n hX dX1_setGiven_6 rfl ?_
  refine rh_bipush hX dX1_setGiven_7 kb_6 ?_
  refine rh_imul hX dX1_setGiven_9 ?_
  refine rh_iadd hX dX1_setGiven_10 ?_
  refine rh_iload_n hX dX1_setGiven_11 rfl ?_
  refine rh_iadd hX dX1_setGiven_12 ?_
  refine rh_lload_n hX dX1_setGiven_13 rfl ?_
  refine rh_lastore hX 1 _ dX1_setGiven_14 rfl (rn_a (rn_a rn_c48 (rn_m rfl rn_c6)) rfl) (by omega) (by decide) rfl ?_
  dsimp only [List.set_cons_succ, List.set_cons_zero, vput]
  exact rh_vret hX hR dX1_setGiven_15 rfl ⟨rfl, rfl⟩

set_option maxRecDepth 100000 in
set_option maxHeartbeats 4000000 in
theorem c_X1_granted (l : Launch) (E : rhE) (o a : Nat) (f : Nat → Int64) (h : Nat) (hh : h < 8) : Ctr l E yX1_granted cX1_granted 2 (some .long) (rmL 0) [.ref o, .int (nI h)] (wH E o a f) (One (some (.long (cGranted f h))) (wH E o a f)) := by
  refine Ctr.of (by decide) (Nat.le_of_ble_eq_true rfl) rfl rfl 0 ?_
  intro X hX hR
  refine rh_aload_n hX dX1_granted_0 rfl ?_
  refine rh_get hX gl_X1_9 0 dX1_granted_1 rfl rfl ?_
  refine rh_bipush hX dX1_granted_4 kb_96 ?_
  refine rh_iload_n hX dX1_granted_6 rfl ?_
  refine rh_iadd hX dX1_granted_7 ?_
  refine rh_laload hX 1 _ dX1_granted_8 rfl (rn_a rn_c96 rfl) (by omega) (by decide) ?_
  exact rh_lret hX hR dX1_granted_9 rfl ⟨rfl, rfl⟩

set_option maxRecDepth 100000 in
set_option maxHeartbeats 4000000 in
theorem c_X1_addGranted (l : Launch) (E : rhE) (o a : Nat) (f : Nat → Int64) (h : Nat) (n : Int64) (hh : h < 8) : Ctr l E yX1_addGranted cX1_addGranted 4 none (rmL 0) [.ref o, .int (nI h), .long n] (wH E o a f) (One none (wH E o a (va_up f (96 + h) (cGranted f h + n)))) := by
  refine Ctr.of (by decide) (Nat.le_of_ble_eq_true rfl) rfl rfl 0 ?_
  intro X hX hR
  refine rh_aload_n hX dX1_addGranted_0 rfl ?_
  refine rh_get hX gl_X1_9 0 dX1_addGranted_1 rfl rfl ?_
  refine rh_bipush hX dX1_addGranted_4 kb_96 ?_
  refine rh_iload_n hX dX1_addGranted_6 rfl ?_
  refine rh_iadd hX dX1_addGranted_7 ?_
  refine rh_dup2 hX dX1_addGranted_8 rfl rfl ?_
  refine rh_laload hX 1 _ dX1_addGranted_9 rfl (rn_a rn_c96 rfl) (by omega) (by decide) ?_
  refine rh_lload_n hX dX1_addGranted_10 rfl ?_
  refine rh_ladd hX dX1_addGranted_11 ?_
  refine rh_lastore hX 1 _ dX1_addGranted_12 rfl (rn_a rn_c96 rfl) (by omega) (by decide) rfl ?_
  dsimp only [List.set_cons_succ, List.set_cons_zero, vput]
  exact rh_vret hX hR dX1_addGranted_13 rfl ⟨rfl, rfl⟩

set_option maxRecDepth 100000 in
set_option maxHeartbeats 4000000 in
theorem c_X1_fact (l : Launch) (E : rhE) (o a : Nat) (f : Nat → Int64) (t w : Nat) (ht : t < 6) (hw : w < 11) : Ctr l E yX1_fact cX1_fact 3 (some .long) (rmL 0) [.ref o, .int (nI t), .int (nI w)] (wH E o a f) (One (some (.long (cFact f t w))) (wH E o a f)) := by
  refine Ctr.of (by decide) (Nat.le_of_ble_eq_true rfl) rfl rfl 0 ?_
  intro X hX hR
  refine rh_aload_n hX dX1_fact_0 rfl ?_
  refine rh_get hX gl_X1_9 0 dX1_fact_1 rfl rfl ?_
  refine rh_bipush hX dX1_fact_4 kb_104 ?_
  refine rh_iload_n hX dX1_fact_6 rfl ?_
  refine rh_bipush hX dX1_fact_7 kb_11 ?_
  refine rh_imul hX dX1_fact_9 ?_
  refine rh_iadd hX dX1_fact_10 ?_
  refine rh_iload_n hX dX1_fact_11 rfl ?_
  refine rh_iadd hX dX1_fact_12 ?_
  refine rh_laload hX 1 _ dX1_fact_13 rfl (rn_a (rn_a rn_c104 (rn_m rfl rn_c11)) rfl) (by omega) (by decide) ?_
  exact rh_lret hX hR dX1_fact_14 rfl ⟨rfl, rfl⟩

set_option maxRecDepth 100000 in
set_option maxHeartbeats 4000000 in
theorem c_X1_setFact (l : Launch) (E : rhE) (o a : Nat) (f : Nat → Int64) (t w : Nat) (n : Int64) (ht : t < 6) (hw : w < 11) : Ctr l E yX1_setFact cX1_setFact 5 none (rmL 0) [.ref o, .int (nI t), .int (nI w), .long n] (wH E o a f) (One none (wH E o a (va_up f (104 + t * 11 + w) n))) := by
  refine Ctr.of (by decide) (Nat.le_of_ble_eq_true rfl) rfl rfl 0 ?_
  intro X hX hR
  refine rh_aload_n hX dX1_setFact_0 rfl ?_
  refine rh_get hX gl_X1_9 0 dX1_setFact_1 rfl rfl ?_
  refine rh_bipush hX dX1_setFact_4 kb_104 ?_
  refine rh_iload_n hX dX1_setFact_6 rfl ?_
  refine rh_bipush hX dX1_setFact_7 kb_11 ?_
  refine rh_imul hX dX1_setFact_9 ?_
  refine rh_iadd hX dX1_setFact_10 ?_
  refine rh_iload_n hX dX1_setFact_11 rfl ?_
  refine rh_iadd hX dX1_setFact_12 ?_
  refine rh_lload_n hX dX1_setFact_13 rfl ?_
  refine rh_lastore hX 1 _ dX1_setFact_14 rfl (rn_a (rn_a rn_c104 (rn_m rfl rn_c11)) rfl) (by omega) (by decide) rfl ?_
  dsimp only [List.set_cons_succ, List.set_cons_zero, vput]
  exact rh_vret hX hR dX1_setFact_15 rfl ⟨rfl, rfl⟩

set_option maxRecDepth 100000 in
set_option maxHeartbeats 4000000 in
theorem c_X1_converted (l : Launch) (E : rhE) (o a : Nat) (f : Nat → Int64) (t : Nat) (n : Int64) (ht : t < 6) : Ctr l E yX1_converted cX1_converted 4 (some .long) (rmL 1) [.ref o, .int (nI t), .long n] (wH E o a f) (One (some (.long (cConv f t n))) (wH E o a f)) := by
  refine Ctr.of (by decide) (Nat.le_of_ble_eq_true rfl) rfl rfl 0 ?_
  intro X hX hR
  refine rh_iload_n hX dX1_converted_0 rfl ?_
  refine rh_if_eq (tgt := 10) hX dX1_converted_1 (by decide) (fun h1 => ?_) (fun h1 => ?_)
  · skip
    have h1 : t = 0 := nI_z h1 (by omega)
    subst h1
    refine rh_lload_n hX dX1_converted_10 rfl ?_
    exact rh_lret hX hR dX1_converted_11 rfl ⟨by first | rfl | (rw [cConv, if_neg h1, if_pos h6]), rfl⟩
  · skip
    have h1 : ¬ t = 0 := fun q => h1 (by rw [q]; rfl)
    refine rh_lload_n hX dX1_converted_4 rfl ?_
    refine rh_lconst hX dX1_converted_5 kL_0 ?_
    refine rh_lne (tgt := 12) hX dX1_converted_6 dX1_converted_7 (by decide) (fun h6 => ?_) (fun h6 => ?_)
    · skip
      refine rh_lload_n hX dX1_converted_12 rfl ?_
      refine rh_aload_n hX dX1_converted_13 rfl ?_
      refine rh_iload_n hX dX1_converted_14 rfl ?_
      refine rh_iconst hX dX1_converted_15 ki_0 ?_
      refine rh_pV hX lk_X1_25 mvX1_fact (fun l => c_X1_fact l E _ _ _ _ 0 (by omega) (by omega)) ⟨rfl, rfl⟩ ⟨Nat.le_of_ble_eq_true rfl, Nat.le_of_ble_eq_true rfl⟩ [0, 1] rfl rfl 0 rfl dX1_converted_16 rfl rfl (Nat.le_of_ble_eq_true rfl) ?_
      refine rh_lmul hX dX1_converted_19 ?_
      refine rh_aload_n hX dX1_converted_20 rfl ?_
      refine rh_iload_n hX dX1_converted_21 rfl ?_
      refine rh_iconst hX dX1_converted_22 ki_1 ?_
      refine rh_pV hX lk_X1_25 mvX1_fact (fun l => c_X1_fact l E _ _ _ _ 1 (by omega) (by omega)) ⟨rfl, rfl⟩ ⟨Nat.le_of_ble_eq_true rfl, Nat.le_of_ble_eq_true rfl⟩ [0, 1] rfl rfl 0 rfl dX1_converted_23 rfl rfl (Nat.le_of_ble_eq_true rfl) ?_
      refine rh_pS hX lk_X1_29 msX7_quotient (fun l => c_X7_quotient l E _ _) ⟨rfl, rfl⟩ ⟨Nat.le_of_ble_eq_true rfl, Nat.le_of_ble_eq_true rfl⟩ [] rfl rfl dX1_converted_26 rfl rfl (Nat.le_of_ble_eq_true rfl) ?_
      exact rh_lret hX hR dX1_converted_29 rfl ⟨by rw [cConv, if_neg h1, if_neg h6], rfl⟩
    · skip
      refine rh_lload_n hX dX1_converted_10 rfl ?_
      exact rh_lret hX hR dX1_converted_11 rfl ⟨by first | rfl | (rw [cConv, if_neg h1, if_pos h6]), rfl⟩

set_option maxRecDepth 100000 in
set_option maxHeartbeats 4000000 in
theorem c_X1_votes (l : Launch) (E : rhE) (o a : Nat) (f : Nat → Int64) (h : Nat) (T : Nat) (hT : (f 171).toInt32 = nI T) (hT6 : T ≤ 6) (hh : h < 8) : Ctr l E yX1_votes cX1_votes 5 (some .long) (rmL 2) [.ref o, .int (nI h)] (wH E o a f) (One (some (.long (cVotes f h T))) (wH E o a f)) := by
  refine Ctr.of (by decide) (Nat.le_of_ble_eq_true rfl) rfl rfl 3 ?_
  intro X hX hR
  refine rh_lconst hX dX1_votes_0 kL_0 ?_
  refine rh_lstn2 hX dX1_votes_1 (by decide) rfl ?_
  refine rh_iconst hX dX1_votes_2 ki_0 ?_
  refine rh_ist4 hX dX1_votes_3 (by decide) rfl ?_
  refine rh_loop (P := fun i => G X 5 [some (.ref o), some (.int (nI h)), some (.long (sumF 0 (fun c => cConv f c (cHeld f h c)) i)), none, some (.int (nI i))] [] (wH E o a f)) (0) (T) (by omega) ?_ ?_
  · skip
    refine rh_iload hX dX1_votes_5 rfl ?_
    refine rh_aload_n hX dX1_votes_7 rfl ?_
    refine rh_pV hX lk_X1_21 mvX1_types (fun l => c_X1_types l E _ _ _ T hT hT6) ⟨rfl, rfl⟩ ⟨Nat.le_of_ble_eq_true rfl, Nat.le_of_ble_eq_true rfl⟩ [0, 1] rfl rfl 0 rfl dX1_votes_8 rfl rfl (Nat.le_of_ble_eq_true rfl) ?_
    refine rh_icmp_ge_t (tgt := 36) hX dX1_votes_11 (by decide) (nI_le (Nat.le_refl T) (by omega)) ?_
    refine rh_lload_n hX dX1_votes_36 rfl ?_
    exact rh_lret hX hR dX1_votes_37 rfl ⟨rfl, rfl⟩
  · intro i hi0 hi ih
    refine rh_iload hX dX1_votes_5 rfl ?_
    refine rh_aload_n hX dX1_votes_7 rfl ?_
    refine rh_pV hX lk_X1_21 mvX1_types (fun l => c_X1_types l E _ _ _ T hT hT6) ⟨rfl, rfl⟩ ⟨Nat.le_of_ble_eq_true rfl, Nat.le_of_ble_eq_true rfl⟩ [0, 1] rfl rfl 0 rfl dX1_votes_8 rfl rfl (Nat.le_of_ble_eq_true rfl) ?_
    refine rh_icmp_ge_f (tgt := 36) hX dX1_votes_11 (by decide) (nI_ge hi (by omega)) ?_
    refine rh_lload_n hX dX1_votes_14 rfl ?_
    refine rh_aload_n hX dX1_votes_15 rfl ?_
    refine rh_iload hX dX1_votes_16 rfl ?_
    refine rh_aload_n hX dX1_votes_18 rfl ?_
    refine rh_iload_n hX dX1_votes_19 rfl ?_
    refine rh_iload hX dX1_votes_20 rfl ?_
    refine rh_pV hX lk_X1_33 mvX1_held (fun l => c_X1_held l E _ _ _ _ _ (by omega) (by omega)) ⟨rfl, rfl⟩ ⟨Nat.le_of_ble_eq_true rfl, Nat.le_of_ble_eq_true rfl⟩ [0, 1] rfl rfl 0 rfl dX1_votes_22 rfl rfl (Nat.le_of_ble_eq_true rfl) ?_
    refine rh_pV hX lk_X1_36 mvX1_converted (fun l => c_X1_converted l E _ _ _ _ _ (by omega)) ⟨rfl, rfl⟩ ⟨Nat.le_of_ble_eq_true rfl, Nat.le_of_ble_eq_true rfl⟩ [0, 1] rfl rfl 0 rfl dX1_votes_25 rfl rfl (Nat.le_of_ble_eq_true rfl) ?_
    refine rh_ladd hX dX1_votes_28 ?_
    refine rh_lstn2 hX dX1_votes_29 (by decide) rfl ?_
    refine rh_inc4 hX dX1_votes_30 (by decide) rfl (rn_i1 _) ?_
    refine rh_goto (tgt := 5) hX dX1_votes_33 (by decide) ?_
    exact ih

set_option maxRecDepth 100000 in
set_option maxHeartbeats 4000000 in
theorem c_X1_claim (l : Launch) (E : rhE) (o a : Nat) (f : Nat → Int64) (h : Nat) (T : Nat) (hT : (f 171).toInt32 = nI T) (hT6 : T ≤ 6) (hh : h < 8) : Ctr l E yX1_claim cX1_claim 2 (some .long) (rmL 3) [.ref o, .int (nI h)] (wH E o a f) (One (some (.long (cClaim f h T))) (wH E o a f)) := by
  refine Ctr.of (by decide) (Nat.le_of_ble_eq_true rfl) rfl rfl 0 ?_
  intro X hX hR
  refine rh_aload_n hX dX1_claim_0 rfl ?_
  refine rh_iload_n hX dX1_claim_1 rfl ?_
  refine rh_pV hX lk_X1_40 mvX1_votes (fun l => c_X1_votes l E _ _ _ _ T hT hT6 (by omega)) ⟨rfl, rfl⟩ ⟨Nat.le_of_ble_eq_true rfl, Nat.le_of_ble_eq_true rfl⟩ [0, 1] rfl rfl 0 rfl dX1_claim_2 rfl rfl (Nat.le_of_ble_eq_true rfl) ?_
  refine rh_aload_n hX dX1_claim_5 rfl ?_
  refine rh_iload_n hX dX1_claim_6 rfl ?_
  refine rh_pV hX lk_X1_44 mvX1_granted (fun l => c_X1_granted l E _ _ _ _ (by omega)) ⟨rfl, rfl⟩ ⟨Nat.le_of_ble_eq_true rfl, Nat.le_of_ble_eq_true rfl⟩ [0, 1] rfl rfl 0 rfl dX1_claim_7 rfl rfl (Nat.le_of_ble_eq_true rfl) ?_
  refine rh_ladd hX dX1_claim_10 ?_
  exact rh_lret hX hR dX1_claim_11 rfl ⟨rfl, rfl⟩

set_option maxRecDepth 100000 in
set_option maxHeartbeats 4000000 in
theorem c_X1_hasAnything (l : Launch) (E : rhE) (o a : Nat) (f : Nat → Int64) (h : Nat) (T : Nat) (hT : (f 171).toInt32 = nI T) (hT6 : T ≤ 6) (hh : h < 8) : Ctr l E yX1_hasAnything cX1_hasAnything 5 (some .boolean) (rmL 1) [.ref o, .int (nI h)] (wH E o a f) (One (some (.int (if cAny f h T ≤ 0 then 0 else 1))) (wH E o a f)) := by
  refine Ctr.of (by decide) (Nat.le_of_ble_eq_true rfl) rfl rfl 3 ?_
  intro X hX hR
  refine rh_aload_n hX dX1_hasAnything_0 rfl ?_
  refine rh_iload_n hX dX1_hasAnything_1 rfl ?_
  refine rh_pV hX lk_X1_44 mvX1_granted (fun l => c_X1_granted l E _ _ _ _ (by omega)) ⟨rfl, rfl⟩ ⟨Nat.le_of_ble_eq_true rfl, Nat.le_of_ble_eq_true rfl⟩ [0, 1] rfl rfl 0 rfl dX1_hasAnything_2 rfl rfl (Nat.le_of_ble_eq_true rfl) ?_
  refine rh_lstn2 hX dX1_hasAnything_5 (by decide) rfl ?_
  refine rh_iconst hX dX1_hasAnything_6 ki_0 ?_
  refine rh_ist4 hX dX1_hasAnything_7 (by decide) rfl ?_
  refine rh_loop (P := fun i => G X 9 [some (.ref o), some (.int (nI h)), some (.long (sumF (cGranted f h) (fun c => cHeld f h c) i)), none, some (.int (nI i))] [] (wH E o a f)) (0) (T) (by omega) ?_ ?_
  · skip
    refine rh_iload hX dX1_hasAnything_9 rfl ?_
    refine rh_aload_n hX dX1_hasAnything_11 rfl ?_
    refine rh_pV hX lk_X1_21 mvX1_types (fun l => c_X1_types l E _ _ _ T hT hT6) ⟨rfl, rfl⟩ ⟨Nat.le_of_ble_eq_true rfl, Nat.le_of_ble_eq_true rfl⟩ [0, 1] rfl rfl 0 rfl dX1_hasAnything_12 rfl rfl (Nat.le_of_ble_eq_true rfl) ?_
    refine rh_icmp_ge_t (tgt := 34) hX dX1_hasAnything_15 (by decide) (nI_le (Nat.le_refl T) (by omega)) ?_
    refine rh_lload_n hX dX1_hasAnything_34 rfl ?_
    refine rh_lconst hX dX1_hasAnything_35 kL_0 ?_
    refine rh_lle (tgt := 44) hX dX1_hasAnything_36 dX1_hasAnything_37 (by decide) (fun h36 => ?_) (fun h36 => ?_)
    · skip
      refine rh_iconst hX dX1_hasAnything_44 ki_0 ?_
      exact rh_zret hX hR dX1_hasAnything_45 rfl rfl ⟨by first | (rw [if_pos (show cAny f h T ≤ 0 from h36)]; done) | (rw [if_neg (show ¬ cAny f h T ≤ 0 from h36)]; done), rfl⟩
    · skip
      refine rh_iconst hX dX1_hasAnything_40 ki_1 ?_
      refine rh_goto (tgt := 45) hX dX1_hasAnything_41 (by decide) ?_
      exact rh_zret hX hR dX1_hasAnything_45 rfl rfl ⟨by first | (rw [if_pos (show cAny f h T ≤ 0 from h36)]; done) | (rw [if_neg (show ¬ cAny f h T ≤ 0 from h36)]; done), rfl⟩
  · intro i hi0 hi ih
    refine rh_iload hX dX1_hasAnything_9 rfl ?_
    refine rh_aload_n hX dX1_hasAnything_11 rfl ?_
    refine rh_pV hX lk_X1_21 mvX1_types (fun l => c_X1_types l E _ _ _ T hT hT6) ⟨rfl, rfl⟩ ⟨Nat.le_of_ble_eq_true rfl, Nat.le_of_ble_eq_true rfl⟩ [0, 1] rfl rfl 0 rfl dX1_hasAnything_12 rfl rfl (Nat.le_of_ble_eq_true rfl) ?_
    refine rh_icmp_ge_f (tgt := 34) hX dX1_hasAnything_15 (by decide) (nI_ge hi (by omega)) ?_
    refine rh_lload_n hX dX1_hasAnything_18 rfl ?_
    refine rh_aload_n hX dX1_hasAnything_19 rfl ?_
    refine rh_iload_n hX dX1_hasAnything_20 rfl ?_
    refine rh_iload hX dX1_hasAnything_21 rfl ?_
    refine rh_pV hX lk_X1_33 mvX1_held (fun l => c_X1_held l E _ _ _ _ _ (by omega) (by omega)) ⟨rfl, rfl⟩ ⟨Nat.le_of_ble_eq_true rfl, Nat.le_of_ble_eq_true rfl⟩ [0, 1] rfl rfl 0 rfl dX1_hasAnything_23 rfl rfl (Nat.le_of_ble_eq_true rfl) ?_
    refine rh_ladd hX dX1_hasAnything_26 ?_
    refine rh_lstn2 hX dX1_hasAnything_27 (by decide) rfl ?_
    refine rh_inc4 hX dX1_hasAnything_28 (by decide) rfl (rn_i1 _) ?_
    refine rh_goto (tgt := 9) hX dX1_hasAnything_31 (by decide) ?_
    exact ih

set_option maxRecDepth 100000 in
set_option maxHeartbeats 4000000 in
theorem c_X1_allHeld (l : Launch) (E : rhE) (o a : Nat) (f : Nat → Int64) (t : Nat) (ht : t < 6) : Ctr l E yX1_allHeld cX1_allHeld 5 (some .long) (rmL 1) [.ref o, .int (nI t)] (wH E o a f) (One (some (.long (cAllHeld f t))) (wH E o a f)) := by
  refine Ctr.of (by decide) (Nat.le_of_ble_eq_true rfl) rfl rfl 3 ?_
  intro X hX hR
  refine rh_lconst hX dX1_allHeld_0 kL_0 ?_
  refine rh_lstn2 hX dX1_allHeld_1 (by decide) rfl ?_
  refine rh_iconst hX dX1_allHeld_2 ki_0 ?_
  refine rh_ist4 hX dX1_allHeld_3 (by decide) rfl ?_
  refine rh_loop (P := fun i => G X 5 [some (.ref o), some (.int (nI t)), some (.long (sumF 0 (fun h => cHeld f h t) i)), none, some (.int (nI i))] [] (wH E o a f)) (0) (8) (by omega) ?_ ?_
  · skip
    refine rh_iload hX dX1_allHeld_5 rfl ?_
    refine rh_bipush hX dX1_allHeld_7 kb_8 ?_
    refine rh_icmp_ge_t (tgt := 28) hX dX1_allHeld_9 (by decide) (nI_le (a := 8) (b := 8) (Nat.le_refl 8) (by decide)) ?_
    refine rh_lload_n hX dX1_allHeld_28 rfl ?_
    exact rh_lret hX hR dX1_allHeld_29 rfl ⟨rfl, rfl⟩
  · intro i hi0 hi ih
    refine rh_iload hX dX1_allHeld_5 rfl ?_
    refine rh_bipush hX dX1_allHeld_7 kb_8 ?_
    refine rh_icmp_ge_f (tgt := 28) hX dX1_allHeld_9 (by decide) (nI_ge (b := 8) hi (by decide)) ?_
    refine rh_lload_n hX dX1_allHeld_12 rfl ?_
    refine rh_aload_n hX dX1_allHeld_13 rfl ?_
    refine rh_iload hX dX1_allHeld_14 rfl ?_
    refine rh_iload_n hX dX1_allHeld_16 rfl ?_
    refine rh_pV hX lk_X1_33 mvX1_held (fun l => c_X1_held l E _ _ _ _ _ (by omega) (by omega)) ⟨rfl, rfl⟩ ⟨Nat.le_of_ble_eq_true rfl, Nat.le_of_ble_eq_true rfl⟩ [0, 1] rfl rfl 0 rfl dX1_allHeld_17 rfl rfl (Nat.le_of_ble_eq_true rfl) ?_
    refine rh_ladd hX dX1_allHeld_20 ?_
    refine rh_lstn2 hX dX1_allHeld_21 (by decide) rfl ?_
    refine rh_inc4 hX dX1_allHeld_22 (by decide) rfl (rn_i1 _) ?_
    refine rh_goto (tgt := 5) hX dX1_allHeld_25 (by decide) ?_
    exact ih

set_option maxRecDepth 100000 in
set_option maxHeartbeats 4000000 in
theorem c_X1_allConverted (l : Launch) (E : rhE) (o a : Nat) (f : Nat → Int64) (t : Nat) (ht : t < 6) : Ctr l E yX1_allConverted cX1_allConverted 5 (some .long) (rmL 2) [.ref o, .int (nI t)] (wH E o a f) (One (some (.long (cAllConv f t))) (wH E o a f)) := by
  refine Ctr.of (by decide) (Nat.le_of_ble_eq_true rfl) rfl rfl 3 ?_
  intro X hX hR
  refine rh_lconst hX dX1_allConverted_0 kL_0 ?_
  refine rh_lstn2 hX dX1_allConverted_1 (by decide) rfl ?_
  refine rh_iconst hX dX1_allConverted_2 ki_0 ?_
  refine rh_ist4 hX dX1_allConverted_3 (by decide) rfl ?_
  refine rh_loop (P := fun i => G X 5 [some (.ref o), some (.int (nI t)), some (.long (sumF 0 (fun h => cConv f t (cHeld f h t)) i)), none, some (.int (nI i))] [] (wH E o a f)) (0) (8) (by omega) ?_ ?_
  · skip
    refine rh_iload hX dX1_allConverted_5 rfl ?_
    refine rh_bipush hX dX1_allConverted_7 kb_8 ?_
    refine rh_icmp_ge_t (tgt := 33) hX dX1_allConverted_9 (by decide) (nI_le (a := 8) (b := 8) (Nat.le_refl 8) (by decide)) ?_
    refine rh_lload_n hX dX1_allConverted_33 rfl ?_
    exact rh_lret hX hR dX1_allConverted_34 rfl ⟨rfl, rfl⟩
  · intro i hi0 hi ih
    refine rh_iload hX dX1_allConverted_5 rfl ?_
    refine rh_bipush hX dX1_allConverted_7 kb_8 ?_
    refine rh_icmp_ge_f (tgt := 33) hX dX1_allConverted_9 (by decide) (nI_ge (b := 8) hi (by decide)) ?_
    refine rh_lload_n hX dX1_allConverted_12 rfl ?_
    refine rh_aload_n hX dX1_allConverted_13 rfl ?_
    refine rh_iload_n hX dX1_allConverted_14 rfl ?_
    refine rh_aload_n hX dX1_allConverted_15 rfl ?_
    refine rh_iload hX dX1_allConverted_16 rfl ?_
    refine rh_iload_n hX dX1_allConverted_18 rfl ?_
    refine rh_pV hX lk_X1_33 mvX1_held (fun l => c_X1_held l E _ _ _ _ _ (by omega) (by omega)) ⟨rfl, rfl⟩ ⟨Nat.le_of_ble_eq_true rfl, Nat.le_of_ble_eq_true rfl⟩ [0, 1] rfl rfl 0 rfl dX1_allConverted_19 rfl rfl (Nat.le_of_ble_eq_true rfl) ?_
    refine rh_pV hX lk_X1_36 mvX1_converted (fun l => c_X1_converted l E _ _ _ _ _ (by omega)) ⟨rfl, rfl⟩ ⟨Nat.le_of_ble_eq_true rfl, Nat.le_of_ble_eq_true rfl⟩ [0, 1] rfl rfl 0 rfl dX1_allConverted_22 rfl rfl (Nat.le_of_ble_eq_true rfl) ?_
    refine rh_ladd hX dX1_allConverted_25 ?_
    refine rh_lstn2 hX dX1_allConverted_26 (by decide) rfl ?_
    refine rh_inc4 hX dX1_allConverted_27 (by decide) rfl (rn_i1 _) ?_
    refine rh_goto (tgt := 5) hX dX1_allConverted_30 (by decide) ?_
    exact ih

set_option maxRecDepth 100000 in
set_option maxHeartbeats 4000000 in
theorem c_X1_allGranted (l : Launch) (E : rhE) (o a : Nat) (f : Nat → Int64)  : Ctr l E yX1_allGranted cX1_allGranted 4 (some .long) (rmL 1) [.ref o] (wH E o a f) (One (some (.long (cAllGranted f))) (wH E o a f)) := by
  refine Ctr.of (by decide) (Nat.le_of_ble_eq_true rfl) rfl rfl 3 ?_
  intro X hX hR
  refine rh_lconst hX dX1_allGranted_0 kL_0 ?_
  refine rh_lstn1 hX dX1_allGranted_1 (by decide) rfl ?_
  refine rh_iconst hX dX1_allGranted_2 ki_0 ?_
  refine rh_istn3 hX dX1_allGranted_3 (by decide) rfl ?_
  refine rh_loop (P := fun i => G X 4 [some (.ref o), some (.long (sumF 0 (cGranted f) i)), none, some (.int (nI i))] [] (wH E o a f)) (0) (8) (by omega) ?_ ?_
  · skip
    refine rh_iload_n hX dX1_allGranted_4 rfl ?_
    refine rh_bipush hX dX1_allGranted_5 kb_8 ?_
    refine rh_icmp_ge_t (tgt := 24) hX dX1_allGranted_7 (by decide) (nI_le (a := 8) (b := 8) (Nat.le_refl 8) (by decide)) ?_
    refine rh_lload_n hX dX1_allGranted_24 rfl ?_
    exact rh_lret hX hR dX1_allGranted_25 rfl ⟨rfl, rfl⟩
  · intro i hi0 hi ih
    refine rh_iload_n hX dX1_allGranted_4 rfl ?_
    refine rh_bipush hX dX1_allGranted_5 kb_8 ?_
    refine rh_icmp_ge_f (tgt := 24) hX dX1_allGranted_7 (by decide) (nI_ge (b := 8) hi (by decide)) ?_
    refine rh_lload_n hX dX1_allGranted_10 rfl ?_
    refine rh_aload_n hX dX1_allGranted_11 rfl ?_
    refine rh_iload_n hX dX1_allGranted_12 rfl ?_
    refine rh_pV hX lk_X1_44 mvX1_granted (fun l => c_X1_granted l E _ _ _ _ (by omega)) ⟨rfl, rfl⟩ ⟨Nat.le_of_ble_eq_true rfl, Nat.le_of_ble_eq_true rfl⟩ [0, 1] rfl rfl 0 rfl dX1_allGranted_13 rfl rfl (Nat.le_of_ble_eq_true rfl) ?_
    refine rh_ladd hX dX1_allGranted_16 ?_
    refine rh_lstn1 hX dX1_allGranted_17 (by decide) rfl ?_
    refine rh_inc3 hX dX1_allGranted_18 (by decide) rfl (rn_i1 _) ?_
    refine rh_goto (tgt := 4) hX dX1_allGranted_21 (by decide) ?_
    exact ih

set_option maxRecDepth 100000 in
set_option maxHeartbeats 4000000 in
theorem c_X1_allGiven (l : Launch) (E : rhE) (o a : Nat) (f : Nat → Int64) (h : Nat) (T : Nat) (hT : (f 171).toInt32 = nI T) (hT6 : T ≤ 6) (hh : h < 8) (hT1 : 1 ≤ T) : Ctr l E yX1_allGiven cX1_allGiven 5 (some .long) (rmL 1) [.ref o, .int (nI h)] (wH E o a f) (One (some (.long (cAllGiven f h T))) (wH E o a f)) := by
  refine Ctr.of (by decide) (Nat.le_of_ble_eq_true rfl) rfl rfl 3 ?_
  intro X hX hR
  refine rh_lconst hX dX1_allGiven_0 kL_0 ?_
  refine rh_lstn2 hX dX1_allGiven_1 (by decide) rfl ?_
  refine rh_iconst hX dX1_allGiven_2 ki_1 ?_
  refine rh_ist4 hX dX1_allGiven_3 (by decide) rfl ?_
  refine rh_loop (P := fun i => G X 5 [some (.ref o), some (.int (nI h)), some (.long (sum1 (fun c => cGiven f h c) i)), none, some (.int (nI i))] [] (wH E o a f)) (1) (T) (by omega) ?_ ?_
  · skip
    refine rh_iload hX dX1_allGiven_5 rfl ?_
    refine rh_aload_n hX dX1_allGiven_7 rfl ?_
    refine rh_pV hX lk_X1_21 mvX1_types (fun l => c_X1_types l E _ _ _ T hT hT6) ⟨rfl, rfl⟩ ⟨Nat.le_of_ble_eq_true rfl, Nat.le_of_ble_eq_true rfl⟩ [0, 1] rfl rfl 0 rfl dX1_allGiven_8 rfl rfl (Nat.le_of_ble_eq_true rfl) ?_
    refine rh_icmp_ge_t (tgt := 30) hX dX1_allGiven_11 (by decide) (nI_le (Nat.le_refl T) (by omega)) ?_
    refine rh_lload_n hX dX1_allGiven_30 rfl ?_
    exact rh_lret hX hR dX1_allGiven_31 rfl ⟨rfl, rfl⟩
  · intro i hi0 hi ih
    refine rh_iload hX dX1_allGiven_5 rfl ?_
    refine rh_aload_n hX dX1_allGiven_7 rfl ?_
    refine rh_pV hX lk_X1_21 mvX1_types (fun l => c_X1_types l E _ _ _ T hT hT6) ⟨rfl, rfl⟩ ⟨Nat.le_of_ble_eq_true rfl, Nat.le_of_ble_eq_true rfl⟩ [0, 1] rfl rfl 0 rfl dX1_allGiven_8 rfl rfl (Nat.le_of_ble_eq_true rfl) ?_
    refine rh_icmp_ge_f (tgt := 30) hX dX1_allGiven_11 (by decide) (nI_ge hi (by omega)) ?_
    refine rh_lload_n hX dX1_allGiven_14 rfl ?_
    refine rh_aload_n hX dX1_allGiven_15 rfl ?_
    refine rh_iload_n hX dX1_allGiven_16 rfl ?_
    refine rh_iload hX dX1_allGiven_17 rfl ?_
    refine rh_pV hX lk_X1_47 mvX1_given (fun l => c_X1_given l E _ _ _ _ _ (by omega) (by omega)) ⟨rfl, rfl⟩ ⟨Nat.le_of_ble_eq_true rfl, Nat.le_of_ble_eq_true rfl⟩ [0, 1] rfl rfl 0 rfl dX1_allGiven_19 rfl rfl (Nat.le_of_ble_eq_true rfl) ?_
    refine rh_ladd hX dX1_allGiven_22 ?_
    refine rh_lstn2 hX dX1_allGiven_23 (by decide) rfl ?_
    refine rh_inc4 hX dX1_allGiven_24 (by decide) rfl (rn_i1 _) ?_
    refine rh_goto (tgt := 5) hX dX1_allGiven_27 (by decide) ?_
    rw [show sum1 (fun c => cGiven f h c) (i + 1) = sum1 (fun c => cGiven f h c) i + cGiven f h i by rw [sum1, if_neg (by omega)]] at ih; exact ih

theorem sumF_add (s : Int64) (g : Nat → Int64) : ∀ n, sumF s g n = s + sumF 0 g n
  | 0 => by rw [sumF, sumF, Int64.add_zero]
  | n + 1 => by rw [sumF, sumF, sumF_add s g n, Int64.add_assoc]

set_option maxRecDepth 100000 in
set_option maxHeartbeats 4000000 in
theorem c_X1_allVotes (l : Launch) (E : rhE) (o a : Nat) (f : Nat → Int64) (T : Nat) (hT : (f 171).toInt32 = nI T) (hT6 : T ≤ 6)  : Ctr l E yX1_allVotes cX1_allVotes 5 (some .long) (rmL 2) [.ref o] (wH E o a f) (One (some (.long (cAllVotes f T))) (wH E o a f)) := by
  refine Ctr.of (by decide) (Nat.le_of_ble_eq_true rfl) rfl rfl 4 ?_
  intro X hX hR
  refine rh_lconst hX dX1_allVotes_0 kL_0 ?_
  refine rh_lstn1 hX dX1_allVotes_1 (by decide) rfl ?_
  refine rh_iconst hX dX1_allVotes_2 ki_0 ?_
  refine rh_istn3 hX dX1_allVotes_3 (by decide) rfl ?_
  refine rh_loop (P := fun i => G X 4 [some (.ref o), some (.long (sumF 0 (fun h => cVotes f h T) i)), none, some (.int (nI i)), none] [] (wH E o a f)) (0) (8) (by omega) ?_ ?_
  · skip
    refine rh_iload_n hX dX1_allVotes_4 rfl ?_
    refine rh_bipush hX dX1_allVotes_5 kb_8 ?_
    refine rh_icmp_ge_t (tgt := 50) hX dX1_allVotes_7 (by decide) (nI_le (a := 8) (b := 8) (Nat.le_refl 8) (by decide)) ?_
    refine rh_lload_n hX dX1_allVotes_50 rfl ?_
    exact rh_lret hX hR dX1_allVotes_51 rfl ⟨rfl, rfl⟩
  · intro i hi0 hi ih
    refine rh_iload_n hX dX1_allVotes_4 rfl ?_
    refine rh_bipush hX dX1_allVotes_5 kb_8 ?_
    refine rh_icmp_ge_f (tgt := 50) hX dX1_allVotes_7 (by decide) (nI_ge (b := 8) hi (by decide)) ?_
    refine rh_iconst hX dX1_allVotes_10 ki_0 ?_
    refine rh_ist4 hX dX1_allVotes_11 (by decide) rfl ?_
    refine rh_loop (P := fun j => G X 13 [some (.ref o), some (.long (sumF (sumF 0 (fun h => cVotes f h T) i) (fun c => cConv f c (cHeld f i c)) j)), none, some (.int (nI i)), some (.int (nI j))] [] (wH E o a f)) (0) (T) (by omega) ?_ ?_
    · skip
      refine rh_iload hX dX1_allVotes_13 rfl ?_
      refine rh_aload_n hX dX1_allVotes_15 rfl ?_
      refine rh_pV hX lk_X1_21 mvX1_types (fun l => c_X1_types l E _ _ _ T hT hT6) ⟨rfl, rfl⟩ ⟨Nat.le_of_ble_eq_true rfl, Nat.le_of_ble_eq_true rfl⟩ [0, 1] rfl rfl 0 rfl dX1_allVotes_16 rfl rfl (Nat.le_of_ble_eq_true rfl) ?_
      refine rh_icmp_ge_t (tgt := 44) hX dX1_allVotes_19 (by decide) (nI_le (Nat.le_refl T) (by omega)) ?_
      refine rh_inc3 hX dX1_allVotes_44 (by decide) rfl (rn_i1 _) ?_
      refine rh_goto (tgt := 4) hX dX1_allVotes_47 (by decide) ?_
      rw [sumF_add]
      exact rh_wk (by exact ⟨rfl, rfl, rfl, trivial⟩) ih
    · intro j hj0 hj ihj
      refine rh_iload hX dX1_allVotes_13 rfl ?_
      refine rh_aload_n hX dX1_allVotes_15 rfl ?_
      refine rh_pV hX lk_X1_21 mvX1_types (fun l => c_X1_types l E _ _ _ T hT hT6) ⟨rfl, rfl⟩ ⟨Nat.le_of_ble_eq_true rfl, Nat.le_of_ble_eq_true rfl⟩ [0, 1] rfl rfl 0 rfl dX1_allVotes_16 rfl rfl (Nat.le_of_ble_eq_true rfl) ?_
      refine rh_icmp_ge_f (tgt := 44) hX dX1_allVotes_19 (by decide) (nI_ge hj (by omega)) ?_
      refine rh_lload_n hX dX1_allVotes_22 rfl ?_
      refine rh_aload_n hX dX1_allVotes_23 rfl ?_
      refine rh_iload hX dX1_allVotes_24 rfl ?_
      refine rh_aload_n hX dX1_allVotes_26 rfl ?_
      refine rh_iload_n hX dX1_allVotes_27 rfl ?_
      refine rh_iload hX dX1_allVotes_28 rfl ?_
      refine rh_pV hX lk_X1_33 mvX1_held (fun l => c_X1_held l E _ _ _ _ _ (by omega) (by omega)) ⟨rfl, rfl⟩ ⟨Nat.le_of_ble_eq_true rfl, Nat.le_of_ble_eq_true rfl⟩ [0, 1] rfl rfl 0 rfl dX1_allVotes_30 rfl rfl (Nat.le_of_ble_eq_true rfl) ?_
      refine rh_pV hX lk_X1_36 mvX1_converted (fun l => c_X1_converted l E _ _ _ _ _ (by omega)) ⟨rfl, rfl⟩ ⟨Nat.le_of_ble_eq_true rfl, Nat.le_of_ble_eq_true rfl⟩ [0, 1] rfl rfl 0 rfl dX1_allVotes_33 rfl rfl (Nat.le_of_ble_eq_true rfl) ?_
      refine rh_ladd hX dX1_allVotes_36 ?_
      refine rh_lstn1 hX dX1_allVotes_37 (by decide) rfl ?_
      refine rh_inc4 hX dX1_allVotes_38 (by decide) rfl (rn_i1 _) ?_
      refine rh_goto (tgt := 13) hX dX1_allVotes_41 (by decide) ?_
      exact ihj

set_option maxRecDepth 100000 in
set_option maxHeartbeats 4000000 in
theorem c_X1_size (l : Launch) (E : rhE) (o a : Nat) (f : Nat → Int64) (T : Nat) (hT : (f 171).toInt32 = nI T) (hT6 : T ≤ 6)  : Ctr l E yX1_size cX1_size 1 (some .long) (rmL 3) [.ref o] (wH E o a f) (One (some (.long (cSize f T))) (wH E o a f)) := by
  refine Ctr.of (by decide) (Nat.le_of_ble_eq_true rfl) rfl rfl 0 ?_
  intro X hX hR
  refine rh_aload_n hX dX1_size_0 rfl ?_
  refine rh_pV hX lk_X1_50 mvX1_allVotes (fun l => c_X1_allVotes l E _ _ _ T hT hT6) ⟨rfl, rfl⟩ ⟨Nat.le_of_ble_eq_true rfl, Nat.le_of_ble_eq_true rfl⟩ [0, 1] rfl rfl 0 rfl dX1_size_1 rfl rfl (Nat.le_of_ble_eq_true rfl) ?_
  refine rh_aload_n hX dX1_size_4 rfl ?_
  refine rh_pV hX lk_X1_54 mvX1_allGranted (fun l => c_X1_allGranted l E _ _ _) ⟨rfl, rfl⟩ ⟨Nat.le_of_ble_eq_true rfl, Nat.le_of_ble_eq_true rfl⟩ [0, 1] rfl rfl 0 rfl dX1_size_5 rfl rfl (Nat.le_of_ble_eq_true rfl) ?_
  refine rh_ladd hX dX1_size_8 ?_
  refine rh_aload_n hX dX1_size_9 rfl ?_
  refine rh_pV hX lk_X1_57 mvX1_spare (fun l => c_X1_spare l E _ _ _) ⟨rfl, rfl⟩ ⟨Nat.le_of_ble_eq_true rfl, Nat.le_of_ble_eq_true rfl⟩ [0, 1] rfl rfl 0 rfl dX1_size_10 rfl rfl (Nat.le_of_ble_eq_true rfl) ?_
  refine rh_ladd hX dX1_size_13 ?_
  exact rh_lret hX hR dX1_size_14 rfl ⟨rfl, rfl⟩

set_option maxRecDepth 100000 in
set_option maxHeartbeats 4000000 in
theorem c_X1_preferred (l : Launch) (E : rhE) (o a : Nat) (f : Nat → Int64) (t : Nat) (ht : t < 6) : Ctr l E yX1_preferred cX1_preferred 2 (some .long) (rmL 2) [.ref o, .int (nI t)] (wH E o a f) (One (some (.long (cPref f t))) (wH E o a f)) := by
  refine Ctr.of (by decide) (Nat.le_of_ble_eq_true rfl) rfl rfl 0 ?_
  intro X hX hR
  refine rh_aload_n hX dX1_preferred_0 rfl ?_
  refine rh_iload_n hX dX1_preferred_1 rfl ?_
  refine rh_pV hX lk_X1_60 mvX1_allHeld (fun l => c_X1_allHeld l E _ _ _ _ (by omega)) ⟨rfl, rfl⟩ ⟨Nat.le_of_ble_eq_true rfl, Nat.le_of_ble_eq_true rfl⟩ [0, 1] rfl rfl 0 rfl dX1_preferred_2 rfl rfl (Nat.le_of_ble_eq_true rfl) ?_
  refine rh_aload_n hX dX1_preferred_5 rfl ?_
  refine rh_iload_n hX dX1_preferred_6 rfl ?_
  refine rh_iconst hX dX1_preferred_7 ki_0 ?_
  refine rh_pV hX lk_X1_25 mvX1_fact (fun l => c_X1_fact l E _ _ _ _ 0 (by omega) (by omega)) ⟨rfl, rfl⟩ ⟨Nat.le_of_ble_eq_true rfl, Nat.le_of_ble_eq_true rfl⟩ [0, 1] rfl rfl 0 rfl dX1_preferred_8 rfl rfl (Nat.le_of_ble_eq_true rfl) ?_
  refine rh_lmul hX dX1_preferred_11 ?_
  refine rh_aload_n hX dX1_preferred_12 rfl ?_
  refine rh_iload_n hX dX1_preferred_13 rfl ?_
  refine rh_iconst hX dX1_preferred_14 ki_3 ?_
  refine rh_pV hX lk_X1_25 mvX1_fact (fun l => c_X1_fact l E _ _ _ _ 3 (by omega) (by omega)) ⟨rfl, rfl⟩ ⟨Nat.le_of_ble_eq_true rfl, Nat.le_of_ble_eq_true rfl⟩ [0, 1] rfl rfl 0 rfl dX1_preferred_15 rfl rfl (Nat.le_of_ble_eq_true rfl) ?_
  refine rh_lmul hX dX1_preferred_18 ?_
  refine rh_ldc2 hX dX1_preferred_19 kl_X1_63 ?_
  refine rh_ldiv hX dX1_preferred_22 (by decide) ?_
  exact rh_lret hX hR dX1_preferred_23 rfl ⟨rfl, rfl⟩

set_option maxRecDepth 100000 in
set_option maxHeartbeats 4000000 in
theorem c_X1_holdersOf (l : Launch) (E : rhE) (o a : Nat) (f : Nat → Int64) (t : Nat) (ht : t < 6) : Ctr l E yX1_holdersOf cX1_holdersOf 4 (some .int) (rmL 1) [.ref o, .int (nI t)] (wH E o a f) (One (some (.int (cHoldersOf f t))) (wH E o a f)) := by
  refine Ctr.of (by decide) (Nat.le_of_ble_eq_true rfl) rfl rfl 2 ?_
  intro X hX hR
  refine rh_iconst hX dX1_holdersOf_0 ki_0 ?_
  refine rh_istn2 hX dX1_holdersOf_1 (by decide) rfl ?_
  refine rh_iconst hX dX1_holdersOf_2 ki_0 ?_
  refine rh_istn3 hX dX1_holdersOf_3 (by decide) rfl ?_
  refine rh_loop (P := fun i => G X 4 [some (.ref o), some (.int (nI t)), some (.int (orF (fun h => cBit (cHeld f h t) h) i)), some (.int (nI i))] [] (wH E o a f)) (0) (8) (by omega) ?_ ?_
  · skip
    refine rh_iload_n hX dX1_holdersOf_4 rfl ?_
    refine rh_bipush hX dX1_holdersOf_5 kb_8 ?_
    refine rh_icmp_ge_t (tgt := 37) hX dX1_holdersOf_7 (by decide) (nI_le (a := 8) (b := 8) (Nat.le_refl 8) (by decide)) ?_
    refine rh_iload_n hX dX1_holdersOf_37 rfl ?_
    exact rh_iret hX hR dX1_holdersOf_38 rfl ⟨rfl, rfl⟩
  · intro i hi0 hi ih
    refine rh_iload_n hX dX1_holdersOf_4 rfl ?_
    refine rh_bipush hX dX1_holdersOf_5 kb_8 ?_
    refine rh_icmp_ge_f (tgt := 37) hX dX1_holdersOf_7 (by decide) (nI_ge (b := 8) hi (by decide)) ?_
    refine rh_iload_n hX dX1_holdersOf_10 rfl ?_
    refine rh_aload_n hX dX1_holdersOf_11 rfl ?_
    refine rh_iload_n hX dX1_holdersOf_12 rfl ?_
    refine rh_iload_n hX dX1_holdersOf_13 rfl ?_
    refine rh_pV hX lk_X1_33 mvX1_held (fun l => c_X1_held l E _ _ _ _ _ (by omega) (by omega)) ⟨rfl, rfl⟩ ⟨Nat.le_of_ble_eq_true rfl, Nat.le_of_ble_eq_true rfl⟩ [0, 1] rfl rfl 0 rfl dX1_holdersOf_14 rfl rfl (Nat.le_of_ble_eq_true rfl) ?_
    refine rh_lconst hX dX1_holdersOf_17 kL_0 ?_
    refine rh_lle (tgt := 28) hX dX1_holdersOf_18 dX1_holdersOf_19 (by decide) (fun h18 => ?_) (fun h18 => ?_)
    · skip
      refine rh_iconst hX dX1_holdersOf_28 ki_0 ?_
      refine rh_ior hX dX1_holdersOf_29 ?_
      refine rh_istn2 hX dX1_holdersOf_30 (by decide) rfl ?_
      refine rh_inc3 hX dX1_holdersOf_31 (by decide) rfl (rn_i1 _) ?_
      refine rh_goto (tgt := 4) hX dX1_holdersOf_34 (by decide) ?_
      first | (rw [show orF (fun h => cBit (cHeld f h t) h) (i + 1) = orF (fun h => cBit (cHeld f h t) h) i ||| 0 by simp only [orF, cBit, if_pos h18]] at ih; exact ih) | (rw [show orF (fun h => cBit (cHeld f h t) h) (i + 1) = orF (fun h => cBit (cHeld f h t) h) i ||| (1 <<< (nI i &&& 31)) by simp only [orF, cBit, if_neg h18]] at ih; exact ih)
    · skip
      refine rh_iconst hX dX1_holdersOf_22 ki_1 ?_
      refine rh_iload_n hX dX1_holdersOf_23 rfl ?_
      refine rh_ishl hX dX1_holdersOf_24 ?_
      refine rh_goto (tgt := 29) hX dX1_holdersOf_25 (by decide) ?_
      refine rh_ior hX dX1_holdersOf_29 ?_
      refine rh_istn2 hX dX1_holdersOf_30 (by decide) rfl ?_
      refine rh_inc3 hX dX1_holdersOf_31 (by decide) rfl (rn_i1 _) ?_
      refine rh_goto (tgt := 4) hX dX1_holdersOf_34 (by decide) ?_
      first | (rw [show orF (fun h => cBit (cHeld f h t) h) (i + 1) = orF (fun h => cBit (cHeld f h t) h) i ||| 0 by simp only [orF, cBit, if_pos h18]] at ih; exact ih) | (rw [show orF (fun h => cBit (cHeld f h t) h) (i + 1) = orF (fun h => cBit (cHeld f h t) h) i ||| (1 <<< (nI i &&& 31)) by simp only [orF, cBit, if_neg h18]] at ih; exact ih)

set_option maxRecDepth 100000 in
set_option maxHeartbeats 4000000 in
theorem c_X1_claimants (l : Launch) (E : rhE) (o a : Nat) (f : Nat → Int64) (T : Nat) (hT : (f 171).toInt32 = nI T) (hT6 : T ≤ 6)  : Ctr l E yX1_claimants cX1_claimants 3 (some .int) (rmL 4) [.ref o] (wH E o a f) (One (some (.int (cClaimants f T))) (wH E o a f)) := by
  refine Ctr.of (by decide) (Nat.le_of_ble_eq_true rfl) rfl rfl 2 ?_
  intro X hX hR
  refine rh_iconst hX dX1_claimants_0 ki_0 ?_
  refine rh_istn1 hX dX1_claimants_1 (by decide) rfl ?_
  refine rh_iconst hX dX1_claimants_2 ki_0 ?_
  refine rh_istn2 hX dX1_claimants_3 (by decide) rfl ?_
  refine rh_loop (P := fun i => G X 4 [some (.ref o), some (.int (orF (fun h => cBit (cClaim f h T) h) i)), some (.int (nI i))] [] (wH E o a f)) (0) (8) (by omega) ?_ ?_
  · skip
    refine rh_iload_n hX dX1_claimants_4 rfl ?_
    refine rh_bipush hX dX1_claimants_5 kb_8 ?_
    refine rh_icmp_ge_t (tgt := 36) hX dX1_claimants_7 (by decide) (nI_le (a := 8) (b := 8) (Nat.le_refl 8) (by decide)) ?_
    refine rh_iload_n hX dX1_claimants_36 rfl ?_
    exact rh_iret hX hR dX1_claimants_37 rfl ⟨rfl, rfl⟩
  · intro i hi0 hi ih
    refine rh_iload_n hX dX1_claimants_4 rfl ?_
    refine rh_bipush hX dX1_claimants_5 kb_8 ?_
    refine rh_icmp_ge_f (tgt := 36) hX dX1_claimants_7 (by decide) (nI_ge (b := 8) hi (by decide)) ?_
    refine rh_iload_n hX dX1_claimants_10 rfl ?_
    refine rh_aload_n hX dX1_claimants_11 rfl ?_
    refine rh_iload_n hX dX1_claimants_12 rfl ?_
    refine rh_pV hX lk_X1_65 mvX1_claim (fun l => c_X1_claim l E _ _ _ _ T hT hT6 (by omega)) ⟨rfl, rfl⟩ ⟨Nat.le_of_ble_eq_true rfl, Nat.le_of_ble_eq_true rfl⟩ [0, 1] rfl rfl 0 rfl dX1_claimants_13 rfl rfl (Nat.le_of_ble_eq_true rfl) ?_
    refine rh_lconst hX dX1_claimants_16 kL_0 ?_
    refine rh_lle (tgt := 27) hX dX1_claimants_17 dX1_claimants_18 (by decide) (fun h17 => ?_) (fun h17 => ?_)
    · skip
      refine rh_iconst hX dX1_claimants_27 ki_0 ?_
      refine rh_ior hX dX1_claimants_28 ?_
      refine rh_istn1 hX dX1_claimants_29 (by decide) rfl ?_
      refine rh_inc2 hX dX1_claimants_30 (by decide) rfl (rn_i1 _) ?_
      refine rh_goto (tgt := 4) hX dX1_claimants_33 (by decide) ?_
      first | (rw [show orF (fun h => cBit (cClaim f h T) h) (i + 1) = orF (fun h => cBit (cClaim f h T) h) i ||| 0 by simp only [orF, cBit, if_pos h17]] at ih; exact ih) | (rw [show orF (fun h => cBit (cClaim f h T) h) (i + 1) = orF (fun h => cBit (cClaim f h T) h) i ||| (1 <<< (nI i &&& 31)) by simp only [orF, cBit, if_neg h17]] at ih; exact ih)
    · skip
      refine rh_iconst hX dX1_claimants_21 ki_1 ?_
      refine rh_iload_n hX dX1_claimants_22 rfl ?_
      refine rh_ishl hX dX1_claimants_23 ?_
      refine rh_goto (tgt := 28) hX dX1_claimants_24 (by decide) ?_
      refine rh_ior hX dX1_claimants_28 ?_
      refine rh_istn1 hX dX1_claimants_29 (by decide) rfl ?_
      refine rh_inc2 hX dX1_claimants_30 (by decide) rfl (rn_i1 _) ?_
      refine rh_goto (tgt := 4) hX dX1_claimants_33 (by decide) ?_
      first | (rw [show orF (fun h => cBit (cClaim f h T) h) (i + 1) = orF (fun h => cBit (cClaim f h T) h) i ||| 0 by simp only [orF, cBit, if_pos h17]] at ih; exact ih) | (rw [show orF (fun h => cBit (cClaim f h T) h) (i + 1) = orF (fun h => cBit (cClaim f h T) h) i ||| (1 <<< (nI i &&& 31)) by simp only [orF, cBit, if_neg h17]] at ih; exact ih)

set_option maxRecDepth 100000 in
set_option maxHeartbeats 4000000 in
theorem c_X1_grantees (l : Launch) (E : rhE) (o a : Nat) (f : Nat → Int64)  : Ctr l E yX1_grantees cX1_grantees 3 (some .int) (rmL 1) [.ref o] (wH E o a f) (One (some (.int (cGrantees f))) (wH E o a f)) := by
  refine Ctr.of (by decide) (Nat.le_of_ble_eq_true rfl) rfl rfl 2 ?_
  intro X hX hR
  refine rh_iconst hX dX1_grantees_0 ki_0 ?_
  refine rh_istn1 hX dX1_grantees_1 (by decide) rfl ?_
  refine rh_iconst hX dX1_grantees_2 ki_0 ?_
  refine rh_istn2 hX dX1_grantees_3 (by decide) rfl ?_
  refine rh_loop (P := fun i => G X 4 [some (.ref o), some (.int (orF (fun h => cBit (cGranted f h) h) i)), some (.int (nI i))] [] (wH E o a f)) (0) (8) (by omega) ?_ ?_
  · skip
    refine rh_iload_n hX dX1_grantees_4 rfl ?_
    refine rh_bipush hX dX1_grantees_5 kb_8 ?_
    refine rh_icmp_ge_t (tgt := 36) hX dX1_grantees_7 (by decide) (nI_le (a := 8) (b := 8) (Nat.le_refl 8) (by decide)) ?_
    refine rh_iload_n hX dX1_grantees_36 rfl ?_
    exact rh_iret hX hR dX1_grantees_37 rfl ⟨rfl, rfl⟩
  · intro i hi0 hi ih
    refine rh_iload_n hX dX1_grantees_4 rfl ?_
    refine rh_bipush hX dX1_grantees_5 kb_8 ?_
    refine rh_icmp_ge_f (tgt := 36) hX dX1_grantees_7 (by decide) (nI_ge (b := 8) hi (by decide)) ?_
    refine rh_iload_n hX dX1_grantees_10 rfl ?_
    refine rh_aload_n hX dX1_grantees_11 rfl ?_
    refine rh_iload_n hX dX1_grantees_12 rfl ?_
    refine rh_pV hX lk_X1_44 mvX1_granted (fun l => c_X1_granted l E _ _ _ _ (by omega)) ⟨rfl, rfl⟩ ⟨Nat.le_of_ble_eq_true rfl, Nat.le_of_ble_eq_true rfl⟩ [0, 1] rfl rfl 0 rfl dX1_grantees_13 rfl rfl (Nat.le_of_ble_eq_true rfl) ?_
    refine rh_lconst hX dX1_grantees_16 kL_0 ?_
    refine rh_lle (tgt := 27) hX dX1_grantees_17 dX1_grantees_18 (by decide) (fun h17 => ?_) (fun h17 => ?_)
    · skip
      refine rh_iconst hX dX1_grantees_27 ki_0 ?_
      refine rh_ior hX dX1_grantees_28 ?_
      refine rh_istn1 hX dX1_grantees_29 (by decide) rfl ?_
      refine rh_inc2 hX dX1_grantees_30 (by decide) rfl (rn_i1 _) ?_
      refine rh_goto (tgt := 4) hX dX1_grantees_33 (by decide) ?_
      first | (rw [show orF (fun h => cBit (cGranted f h) h) (i + 1) = orF (fun h => cBit (cGranted f h) h) i ||| 0 by simp only [orF, cBit, if_pos h17]] at ih; exact ih) | (rw [show orF (fun h => cBit (cGranted f h) h) (i + 1) = orF (fun h => cBit (cGranted f h) h) i ||| (1 <<< (nI i &&& 31)) by simp only [orF, cBit, if_neg h17]] at ih; exact ih)
    · skip
      refine rh_iconst hX dX1_grantees_21 ki_1 ?_
      refine rh_iload_n hX dX1_grantees_22 rfl ?_
      refine rh_ishl hX dX1_grantees_23 ?_
      refine rh_goto (tgt := 28) hX dX1_grantees_24 (by decide) ?_
      refine rh_ior hX dX1_grantees_28 ?_
      refine rh_istn1 hX dX1_grantees_29 (by decide) rfl ?_
      refine rh_inc2 hX dX1_grantees_30 (by decide) rfl (rn_i1 _) ?_
      refine rh_goto (tgt := 4) hX dX1_grantees_33 (by decide) ?_
      first | (rw [show orF (fun h => cBit (cGranted f h) h) (i + 1) = orF (fun h => cBit (cGranted f h) h) i ||| 0 by simp only [orF, cBit, if_pos h17]] at ih; exact ih) | (rw [show orF (fun h => cBit (cGranted f h) h) (i + 1) = orF (fun h => cBit (cGranted f h) h) i ||| (1 <<< (nI i &&& 31)) by simp only [orF, cBit, if_neg h17]] at ih; exact ih)

set_option maxRecDepth 100000 in
set_option maxHeartbeats 4000000 in
theorem c_X1_typesWith (l : Launch) (E : rhE) (o a : Nat) (f : Nat → Int64) (w : Nat) (T : Nat) (hT : (f 171).toInt32 = nI T) (hT6 : T ≤ 6) (hw : w < 11) (hT1 : 1 ≤ T) : Ctr l E yX1_typesWith cX1_typesWith 4 (some .int) (rmL 1) [.ref o, .int (nI w)] (wH E o a f) (One (some (.int (cTypesWith f w T))) (wH E o a f)) := by
  refine Ctr.of (by decide) (Nat.le_of_ble_eq_true rfl) rfl rfl 2 ?_
  intro X hX hR
  refine rh_iconst hX dX1_typesWith_0 ki_0 ?_
  refine rh_istn2 hX dX1_typesWith_1 (by decide) rfl ?_
  refine rh_iconst hX dX1_typesWith_2 ki_1 ?_
  refine rh_istn3 hX dX1_typesWith_3 (by decide) rfl ?_
  refine rh_loop (P := fun i => G X 4 [some (.ref o), some (.int (nI w)), some (.int (or1 (fun c => cBit (cFact f c w) c) i)), some (.int (nI i))] [] (wH E o a f)) (1) (T) (by omega) ?_ ?_
  · skip
    refine rh_iload_n hX dX1_typesWith_4 rfl ?_
    refine rh_aload_n hX dX1_typesWith_5 rfl ?_
    refine rh_pV hX lk_X1_21 mvX1_types (fun l => c_X1_types l E _ _ _ T hT hT6) ⟨rfl, rfl⟩ ⟨Nat.le_of_ble_eq_true rfl, Nat.le_of_ble_eq_true rfl⟩ [0, 1] rfl rfl 0 rfl dX1_typesWith_6 rfl rfl (Nat.le_of_ble_eq_true rfl) ?_
    refine rh_icmp_ge_t (tgt := 39) hX dX1_typesWith_9 (by decide) (nI_le (Nat.le_refl T) (by omega)) ?_
    refine rh_iload_n hX dX1_typesWith_39 rfl ?_
    exact rh_iret hX hR dX1_typesWith_40 rfl ⟨rfl, rfl⟩
  · intro i hi0 hi ih
    refine rh_iload_n hX dX1_typesWith_4 rfl ?_
    refine rh_aload_n hX dX1_typesWith_5 rfl ?_
    refine rh_pV hX lk_X1_21 mvX1_types (fun l => c_X1_types l E _ _ _ T hT hT6) ⟨rfl, rfl⟩ ⟨Nat.le_of_ble_eq_true rfl, Nat.le_of_ble_eq_true rfl⟩ [0, 1] rfl rfl 0 rfl dX1_typesWith_6 rfl rfl (Nat.le_of_ble_eq_true rfl) ?_
    refine rh_icmp_ge_f (tgt := 39) hX dX1_typesWith_9 (by decide) (nI_ge hi (by omega)) ?_
    refine rh_iload_n hX dX1_typesWith_12 rfl ?_
    refine rh_aload_n hX dX1_typesWith_13 rfl ?_
    refine rh_iload_n hX dX1_typesWith_14 rfl ?_
    refine rh_iload_n hX dX1_typesWith_15 rfl ?_
    refine rh_pV hX lk_X1_25 mvX1_fact (fun l => c_X1_fact l E _ _ _ _ _ (by omega) (by omega)) ⟨rfl, rfl⟩ ⟨Nat.le_of_ble_eq_true rfl, Nat.le_of_ble_eq_true rfl⟩ [0, 1] rfl rfl 0 rfl dX1_typesWith_16 rfl rfl (Nat.le_of_ble_eq_true rfl) ?_
    refine rh_lconst hX dX1_typesWith_19 kL_0 ?_
    refine rh_lle (tgt := 30) hX dX1_typesWith_20 dX1_typesWith_21 (by decide) (fun h20 => ?_) (fun h20 => ?_)
    · skip
      refine rh_iconst hX dX1_typesWith_30 ki_0 ?_
      refine rh_ior hX dX1_typesWith_31 ?_
      refine rh_istn2 hX dX1_typesWith_32 (by decide) rfl ?_
      refine rh_inc3 hX dX1_typesWith_33 (by decide) rfl (rn_i1 _) ?_
      refine rh_goto (tgt := 4) hX dX1_typesWith_36 (by decide) ?_
      first | (rw [show or1 (fun c => cBit (cFact f c w) c) (i + 1) = or1 (fun c => cBit (cFact f c w) c) i ||| 0 by simp only [or1, cBit, if_pos h20, if_neg (show ¬ i = 0 by omega)]] at ih; exact ih) | (rw [show or1 (fun c => cBit (cFact f c w) c) (i + 1) = or1 (fun c => cBit (cFact f c w) c) i ||| (1 <<< (nI i &&& 31)) by simp only [or1, cBit, if_neg h20, if_neg (show ¬ i = 0 by omega)]] at ih; exact ih)
    · skip
      refine rh_iconst hX dX1_typesWith_24 ki_1 ?_
      refine rh_iload_n hX dX1_typesWith_25 rfl ?_
      refine rh_ishl hX dX1_typesWith_26 ?_
      refine rh_goto (tgt := 31) hX dX1_typesWith_27 (by decide) ?_
      refine rh_ior hX dX1_typesWith_31 ?_
      refine rh_istn2 hX dX1_typesWith_32 (by decide) rfl ?_
      refine rh_inc3 hX dX1_typesWith_33 (by decide) rfl (rn_i1 _) ?_
      refine rh_goto (tgt := 4) hX dX1_typesWith_36 (by decide) ?_
      first | (rw [show or1 (fun c => cBit (cFact f c w) c) (i + 1) = or1 (fun c => cBit (cFact f c w) c) i ||| 0 by simp only [or1, cBit, if_pos h20, if_neg (show ¬ i = 0 by omega)]] at ih; exact ih) | (rw [show or1 (fun c => cBit (cFact f c w) c) (i + 1) = or1 (fun c => cBit (cFact f c w) c) i ||| (1 <<< (nI i &&& 31)) by simp only [or1, cBit, if_neg h20, if_neg (show ¬ i = 0 by omega)]] at ih; exact ih)
