theorem sBit_lsb (x : Int32) {c : Nat} (hc : c < 8) : sBit x c = 1 ↔ x.toBitVec.getLsbD c = true := by
  have e : ∀ (y : BitVec 32), (y &&& 1#32 = 1#32) ↔ y.getLsbD 0 = true := by
    intro y
    constructor
    · intro h
      have := congrArg (fun z => BitVec.getLsbD z 0) h
      simpa using this
    · intro h
      apply BitVec.eq_of_getLsbD_eq
      intro i hi
      by_cases q : i = 0
      · subst q; simp [h]
      · simp [q]
  unfold sBit
  rw [← Int32.toBitVec_inj]
  rw [Int32.toBitVec_and]
  show _ &&& 1#32 = 1#32 ↔ _
  rw [e, Int32.toBitVec_shiftRight]
  match c, hc with
  | 0, _ => simp [nI, BitVec.getElem_sshiftRight]
  | 1, _ => simp [nI, BitVec.getElem_sshiftRight]
  | 2, _ => simp [nI, BitVec.getElem_sshiftRight]
  | 3, _ => simp [nI, BitVec.getElem_sshiftRight]
  | 4, _ => simp [nI, BitVec.getElem_sshiftRight]
  | 5, _ => simp [nI, BitVec.getElem_sshiftRight]
  | 6, _ => simp [nI, BitVec.getElem_sshiftRight]
  | 7, _ => simp [nI, BitVec.getElem_sshiftRight]
theorem sOne_lsb : ∀ (t : Fin 8) (c : Fin 8), (sOne t.1).toBitVec.getLsbD c.1 = decide (c.1 = t.1) := by decide
theorem sBit_or (x : Int32) {t c : Nat} (ht : t < 8) (hc : c < 8) : sBit (x ||| sOne t) c = 1 ↔ (sBit x c = 1 ∨ c = t) := by
  rw [sBit_lsb _ hc, sBit_lsb _ hc, Int32.toBitVec_or, BitVec.getLsbD_or, sOne_lsb ⟨t, ht⟩ ⟨c, hc⟩]
  simp
