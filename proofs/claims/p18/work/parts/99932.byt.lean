/-! ===== both objects: a byte of a word (own text) ===== -/
theorem h_byb (x : BitVec 32) (s i : Nat) (hs : s + i < 32) : (x.sshiftRight s).getLsbD i = (x >>> s).getLsbD i := by
  rw [BitVec.getLsbD_sshiftRight, BitVec.getLsbD_ushiftRight]
  rw [if_pos hs]
  have : ¬ 32 ≤ i := by omega
  simp [this]
theorem h_byc (x : BitVec 32) (s : Nat) (hs : s ≤ 24) : (x >>> s) &&& 255#32 = (x.sshiftRight s) &&& 255#32 := by
  apply BitVec.eq_of_getLsbD_eq
  intro i hi
  rw [BitVec.getLsbD_and, BitVec.getLsbD_and]
  by_cases h8 : i < 8
  · rw [h_byb x s i (by omega)]
  · have : (255#32).getLsbD i = false := by
      have h : ∀ k : Fin 32, ¬ k.val < 8 → (255#32).getLsbD k.val = false := by decide
      exact h ⟨i, hi⟩ h8
    rw [this, Bool.and_false, Bool.and_false]
theorem h_byte (w : Int32) {j : Nat} (hj : j < 4) : c_byte w j = m_byte w j := by
  unfold c_byte m_byte
  apply Int32.toBitVec_inj.mp
  have e : ∀ s : Nat, s ≤ 24 → (w.toBitVec >>> s) &&& 255#32 = (w.toBitVec.sshiftRight s) &&& 255#32 := fun s hs => h_byc _ _ hs
  match j, hj with
  | 0, _ => exact e 0 (by omega)
  | 1, _ => exact e 8 (by omega)
  | 2, _ => exact e 16 (by omega)
  | 3, _ => exact e 24 (by omega)
