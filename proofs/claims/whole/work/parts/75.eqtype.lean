-- BYTES OF A LONG
theorem msk64 (j : Nat) : (255#64).getLsbD j = decide (j < 8) := by
  by_cases h : j < 8
  · have : ∀ j, j < 8 → (255#64).getLsbD j = true := by decide
    rw [this j h, decide_eq_true h]
  · rw [decide_eq_false h]
    by_cases h2 : j < 64
    · have : ∀ j, j < 64 → ¬ j < 8 → (255#64).getLsbD j = false := by decide
      exact this j h2 h
    · exact BitVec.getLsbD_of_ge _ _ (by omega)
theorem msk32 (j : Nat) : (255#32).getLsbD j = decide (j < 8) := by
  by_cases h : j < 8
  · have : ∀ j, j < 8 → (255#32).getLsbD j = true := by decide
    rw [this j h, decide_eq_true h]
  · rw [decide_eq_false h]
    by_cases h2 : j < 32
    · have : ∀ j, j < 32 → ¬ j < 8 → (255#32).getLsbD j = false := by decide
      exact this j h2 h
    · exact BitVec.getLsbD_of_ge _ _ (by omega)
theorem sh_eq (x : BitVec 64) (s : Nat) (hs : s ≤ 56) : (x >>> s).setWidth 32 &&& 255#32 = ((x.sshiftRight s) &&& 255#64).setWidth 32 := by
  apply BitVec.eq_of_getLsbD_eq
  intro j hj
  rw [BitVec.getLsbD_and, BitVec.getLsbD_setWidth, BitVec.getLsbD_setWidth, BitVec.getLsbD_and, BitVec.getLsbD_ushiftRight, BitVec.getLsbD_sshiftRight, msk32, msk64]
  by_cases h : j < 8
  · have h1 : ¬ 64 ≤ j := by omega
    have h2 : s + j < 64 := by omega
    simp [h, h1, h2, hj]
  · simp [h]
theorem amK : ∀ i, i < 8 → (((nI (8 * i)).toInt64.toUInt64 &&& Int64.toUInt64 63).toBitVec % 64).toNat = 8 * i := by decide +kernel
theorem amB : ∀ i, i < 8 → (((nI (8 * i)).toInt64 &&& 63).toBitVec.smod 64).toNat = 8 * i := by decide +kernel
theorem ty_eq (v : Int64) {i : Nat} (hi : i < 8) : tyK v i = tyB v i := by
  apply Int32.toBitVec_inj.mp
  have h1 : (tyK v i).toBitVec = (v.toBitVec >>> (((nI (8 * i)).toInt64.toUInt64 &&& Int64.toUInt64 63).toBitVec % 64).toNat).signExtend 32 &&& 255#32 := rfl
  have h2 : (tyB v i).toBitVec = ((v.toBitVec.sshiftRight (((nI (8 * i)).toInt64 &&& 63).toBitVec.smod 64).toNat) &&& 255#64).signExtend 32 := rfl
  rw [h1, h2, amK i hi, amB i hi, BitVec.signExtend_eq_setWidth_of_le _ (by omega), BitVec.signExtend_eq_setWidth_of_le _ (by omega)]
  exact sh_eq _ _ (by omega)
theorem tyE_eq {BT : Nat → Int32} {v : Int64} {n cn : Nat} (hc : cn ≤ 8) : ∀ k, k ≤ cn → tyD BT v n cn k = tyE BT v n cn k
  | 0, _ => rfl
  | k + 1, hk => by rw [tyD, tyE, tyE_eq hc k (by omega), ty_eq v (show cn - 1 - k < 8 by omega)]
theorem tyK_n (v : Int64) (i : Nat) : ∃ u : Nat, u < 256 ∧ tyK v i = nI u := by
  rw [tyK]
  generalize ((v.toUInt64 >>> ((nI (8 * i)).toInt64.toUInt64 &&& Int64.toUInt64 63)).toInt64).toInt32 = x
  have h : (x &&& 255).toBitVec = x.toBitVec &&& 255#32 := rfl
  have hlt : (x.toBitVec &&& 255#32).toNat < 256 := by
    rw [BitVec.toNat_and]
    exact Nat.lt_of_le_of_lt Nat.and_le_right (by decide)
  refine ⟨(x.toBitVec &&& 255#32).toNat, hlt, ?_⟩
  apply Int32.toBitVec_inj.mp
  rw [h]
  show _ = BitVec.ofNat 32 _
  rw [BitVec.ofNat_toNat, BitVec.setWidth_eq]
theorem tyE_B {BT : Nat → Int32} {v : Int64} {n cn : Nat} (h : okB BT) : ∀ k, okB (tyE BT v n cn k)
  | 0 => h
  | k + 1 => fun i => by
    rw [tyE]
    by_cases e : i = n + k
    · rw [e, pk_us]
      exact tyK_n v _
    · rw [pk_un e]
      exact tyE_B h k i
