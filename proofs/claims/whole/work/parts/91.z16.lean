theorem by_255 (i : Nat) : (255#32).getLsbD i = decide (i < 8) := by
  by_cases h : i < 8
  · rw [decide_eq_true h]
    have : ∀ j : Fin 8, (255#32).getLsbD j.val = true := by decide
    exact this ⟨i, h⟩
  · rw [decide_eq_false h]
    by_cases q : i < 32
    · have : ∀ j : Fin 32, 8 ≤ j.val → (255#32).getLsbD j.val = false := by decide
      exact this ⟨i, q⟩ (Nat.le_of_not_lt h)
    · exact BitVec.getLsbD_of_ge _ _ (by omega)
theorem by_and (x : Int32) (i : Nat) : (x &&& 255).toBitVec.getLsbD i = (x.toBitVec.getLsbD i && decide (i < 8)) := by
  rw [Int32.toBitVec_and, BitVec.getLsbD_and, show (255 : Int32).toBitVec = 255#32 from rfl, by_255]
theorem by_ext {x y : Int32} (h : ∀ i, i < 8 → x.toBitVec.getLsbD i = y.toBitVec.getLsbD i) : x &&& 255 = y &&& 255 := by
  apply Int32.toBitVec_inj.mp
  apply BitVec.eq_of_getLsbD_eq
  intro i hi
  rw [by_and, by_and]
  by_cases q : i < 8
  · rw [h i q]
  · rw [decide_eq_false q, Bool.and_false, Bool.and_false]
theorem by_8 (x : Int32) : x.toInt8.toInt32 &&& 255 = x &&& 255 := by
  apply by_ext
  intro i hi
  rw [Int8.toBitVec_toInt32, BitVec.getLsbD_signExtend, if_pos hi, decide_eq_true (show i < 32 by omega), Bool.true_and]
  rw [Int32.toBitVec_toInt8, BitVec.getLsbD_signExtend, if_pos (show i < 32 by omega), decide_eq_true hi, Bool.true_and]
theorem by_sh (v : Int32) (n : Nat) (hn : n ≤ 24) (y : Int32) (hy : ((y &&& 31).toBitVec.smod 32#32).toNat = n) (s : Int32) (hs : ((s.toUInt32 &&& Int32.toUInt32 31).toBitVec % 32#32).toNat = n) : (v.toUInt32 >>> (s.toUInt32 &&& Int32.toUInt32 31)).toInt32 &&& 255 = (v >>> (y &&& 31)) &&& 255 := by
  apply by_ext
  intro i hi
  have e1 : (v >>> (y &&& 31)).toBitVec = v.toBitVec.sshiftRight n := by rw [Int32.toBitVec_shiftRight]; exact congrArg (v.toBitVec.sshiftRight ·) hy
  have e2 : ((v.toUInt32 >>> (s.toUInt32 &&& Int32.toUInt32 31)).toInt32).toBitVec = v.toBitVec >>> n := by
    show (v.toUInt32 >>> (s.toUInt32 &&& Int32.toUInt32 31)).toBitVec = _
    rw [UInt32.toBitVec_shiftRight]
    show v.toBitVec >>> ((s.toUInt32 &&& Int32.toUInt32 31).toBitVec % 32#32) = _
    rw [BitVec.ushiftRight_eq', hs]
  rw [e1, e2, BitVec.getLsbD_ushiftRight, BitVec.getLsbD_sshiftRight, if_pos (by omega), decide_eq_false (by omega)]
  rfl
theorem by_k : ∀ k : Fin 256, vp_nar .char ((nI k.val).toUInt32 % 65536).toInt32 = nI k.val := by decide +kernel
theorem by_c (x : Int32) : vp_nar .char ((x &&& 255).toUInt32 % 65536).toInt32 = x &&& 255 := by
  have h : ∃ k : Fin 256, x &&& 255 = nI k.val := by
    refine ⟨⟨(x &&& 255).toBitVec.toNat, ?_⟩, ?_⟩
    · rw [Int32.toBitVec_and, BitVec.toNat_and]
      exact Nat.lt_of_le_of_lt Nat.and_le_right (by decide)
    · apply Int32.toBitVec_inj.mp
      show _ = BitVec.ofNat 32 _
      rw [BitVec.ofNat_toNat, BitVec.setWidth_eq]
  obtain ⟨k, hk⟩ := h
  rw [hk]
  exact by_k k
theorem by_m (v y : Int32) : mByte v y &&& 255 = (v >>> (y &&& 31)) &&& 255 := by
  unfold mByte
  rw [vp_nar_byte, by_8, by_8]
theorem by_t (v : Int32) (n : Nat) (hn : n ≤ 24) (y : Int32) (hy : ((y &&& 31).toBitVec.smod 32#32).toNat = n) (s : Int32) (hs : ((s.toUInt32 &&& Int32.toUInt32 31).toBitVec % 32#32).toNat = n) : tByte v s = mByte v y &&& 255 := by
  unfold tByte
  rw [by_c, by_m]
  exact by_sh v n hn y hy s hs
theorem sC_up (tx : Nat → Int32) (n : Nat) (x : Int32) : sC (va_up tx n x) = va_up (sC tx) n (x &&& 255) := by
  funext p
  unfold sC va_up
  by_cases e : p = n
  · rw [if_pos e, if_pos e]
  · rw [if_neg e, if_neg e]
theorem sC_add (tx : Nat → Int32) (n : Nat) (v : Int32) : sC (mAdd tx n v) = tAdd (sC tx) n v := by
  unfold mAdd tAdd
  rw [sC_up, sC_up, sC_up, sC_up, by_t v 24 (by decide) (8 * 3) (by decide) 24 (by decide), by_t v 16 (by decide) (8 * 2) (by decide) 16 (by decide), by_t v 8 (by decide) (8 * 1) (by decide) 8 (by decide), by_t v 0 (by decide) (8 * 0) (by decide) 0 (by decide)]
theorem mByte_z (v y : Int32) : -128 ≤ (mByte v y).toInt ∧ (mByte v y).toInt ≤ 127 := by
  unfold mByte
  rw [vp_nar_byte]
  generalize (v >>> (y &&& 31)).toInt8.toInt32.toInt8 = b
  rw [Int8.toInt_toInt32]
  exact ⟨Int8.minValue_le_toInt b, Int8.toInt_le b⟩
theorem byteOk_add {tx : Nat → Int32} {n : Nat} (h : byteOk tx n) (v : Int32) : byteOk (mAdd tx n v) (n + 4) := by
  intro p hp
  unfold mAdd va_up
  by_cases e3 : p = n + 1 + 1 + 1
  · rw [if_pos e3]; exact mByte_z _ _
  · rw [if_neg e3]
    by_cases e2 : p = n + 1 + 1
    · rw [if_pos e2]; exact mByte_z _ _
    · rw [if_neg e2]
      by_cases e1 : p = n + 1
      · rw [if_pos e1]; exact mByte_z _ _
      · rw [if_neg e1]
        by_cases e0 : p = n
        · rw [if_pos e0]; exact mByte_z _ _
        · rw [if_neg e0]; exact h p (by omega)
