theorem am_u : ∀ k, k < 64 → (((nI k).toInt64.toUInt64 &&& Int64.toUInt64 63).toBitVec % 64).toNat = k := by decide +kernel
theorem am_s : ∀ k, k < 64 → (((nI k).toInt64 &&& 63).toBitVec.smod 64).toNat = k := by decide +kernel
theorem b255_32 : ∀ i, i < 32 → (255 : Int32).toBitVec.getLsbD i = decide (i < 8) := by decide +kernel
theorem b255_64 : ∀ i, i < 64 → (255 : Int64).toBitVec.getLsbD i = decide (i < 8) := by decide +kernel
/-- a sign of the word -/
def byt (x : Int64) (k : Nat) : Nat := x.toBitVec.toNat / 2 ^ k % 256
theorem byt_lt (x : Int64) (k : Nat) : byt x k < 256 := Nat.mod_lt _ (by omega)
theorem byt_tb (x : Int64) (k i : Nat) : (byt x k).testBit i = (decide (i < 8) && x.toBitVec.getLsbD (k + i)) := by
  unfold byt
  rw [show (256 : Nat) = 2 ^ 8 from rfl, Nat.testBit_mod_two_pow, Nat.testBit_div_two_pow, Nat.add_comm i k]
  rfl
theorem byt_c (x : Int64) {k : Nat} (hk : k < 64) : (x.toUInt64 >>> ((nI k).toInt64.toUInt64 &&& Int64.toUInt64 63)).toInt64.toInt32 &&& 255 = nI (byt x k) := by
  apply Int32.toBitVec_inj.1
  apply BitVec.eq_of_getLsbD_eq
  intro i hi
  rw [Int32.toBitVec_and, BitVec.getLsbD_and, b255_32 i hi, nI_bit hi, byt_tb]
  show ((x.toUInt64 >>> ((nI k).toInt64.toUInt64 &&& Int64.toUInt64 63)).toBitVec.signExtend 32).getLsbD i && _ = _
  rw [BitVec.getLsbD_signExtend, decide_eq_true hi, if_pos (by omega), Bool.true_and, UInt64.toBitVec_shiftRight]
  show (x.toBitVec >>> (((nI k).toInt64.toUInt64 &&& Int64.toUInt64 63).toBitVec % 64).toNat).getLsbD i && _ = _
  rw [am_u k hk, BitVec.getLsbD_ushiftRight, Bool.and_comm]
theorem byt_m (x : Int64) {k : Nat} (hk : k ≤ 56) : x >>> ((nI k).toInt64 &&& 63) &&& 255 = lN (byt x k) := by
  apply Int64.toBitVec_inj.1
  apply BitVec.eq_of_getLsbD_eq
  intro i hi
  rw [Int64.toBitVec_and, BitVec.getLsbD_and, b255_64 i hi, Int64.toBitVec_shiftRight]
  show (x.toBitVec.sshiftRight (((nI k).toInt64 &&& 63).toBitVec.smod 64).toNat).getLsbD i && _ = (BitVec.ofNat 64 (byt x k)).getLsbD i
  rw [am_s k (by omega), BitVec.getLsbD_sshiftRight, BitVec.getLsbD_ofNat, byt_tb, decide_eq_true hi, Bool.true_and]
  by_cases h8 : i < 8
  · rw [decide_eq_true h8, if_pos (by omega), decide_eq_false (show ¬ 64 ≤ i by omega)]
    simp
  · rw [decide_eq_false h8, Bool.and_false, Bool.false_and]
theorem setI_I {σ : St} {c k i : Nat} {v w : Int32} : setI (setI σ c k i v) c k i w = setI σ c k i w := by
  unfold setI
  have : up3 (up3 σ.1 c k i v) c k i w = up3 σ.1 c k i w := by
    funext a b d
    unfold up3
    by_cases h : a = c ∧ b = k ∧ d = i
    · rw [if_pos h, if_pos h]
    · rw [if_neg h, if_neg h, if_neg h]
  show (up3 (up3 σ.1 c k i v) c k i w, _) = _
  rw [this]
theorem setA_I {σ : St} {c k i c' k' i' : Nat} {v : Int32} {f : Nat → Int32} : setA (setI σ c k i v) c' k' i' f = setI (setA σ c' k' i' f) c k i v := rfl
theorem gI_I {σ : St} {c k i : Nat} {v : Int32} : gI (setI σ c k i v) c k i = v := if_pos ⟨rfl, rfl, rfl⟩
