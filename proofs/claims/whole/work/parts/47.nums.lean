theorem nI_ex {a : Int32} {n : Nat} (h : 0 ≤ a.toInt ∧ a.toInt < (n : Int)) : ∃ x, x < n ∧ a = nI x ∧ a.toNatClampNeg = x := by
  have h2 := ixI h.1
  refine ⟨a.toNatClampNeg, by omega, Int32.toInt_inj.mp ?_, rfl⟩
  rw [nI_toInt]
  · omega
  · have := Int32.toInt_lt a
    omega
theorem lN8 : (8 : Int32) = nI 8 := rfl
theorem lN6 : (6 : Int32) = nI 6 := rfl
theorem lN20 : (20 : Int32) = nI 20 := rfl
theorem lN30 : (30 : Int32) = nI 30 := rfl
theorem lN80 : (80 : Int32) = nI 80 := rfl
theorem lN128 : (128 : Int32) = nI 128 := rfl
theorem lN4000 : (4000 : Int32) = nI 4000 := rfl
theorem lN1 : (1 : Int32) = nI 1 := rfl
theorem byteId {x : Int32} (h : 0 ≤ x.toInt ∧ x.toInt < 128) : x.toInt8.toInt32 = x := by
  apply Int32.toInt_inj.mp
  rw [Int8.toInt_toInt32, Int32.toInt_toInt8, Int.bmod_eq_of_le] <;> omega
