theorem lgc_lt {x y : Int64} : (lg_cmp x y < 0) = (x.toInt < y.toInt) := by
  rw [← Int64.lt_iff_toInt_lt]
  unfold lg_cmp
  by_cases h1 : y < x
  · have h3 : ¬ x < y := fun z => Int64.lt_irrefl (Int64.lt_trans h1 z)
    simp [h1, h3]
  · by_cases h2 : x = y
    · subst h2; simp [Int64.lt_irrefl]
    · have h3 : x < y := Int64.lt_of_le_of_ne (Int64.not_lt.mp h1) h2
      simp [h1, h2, h3]
theorem lgc_gt {x y : Int64} : (0 < lg_cmp x y) = (y.toInt < x.toInt) := by
  rw [← Int64.lt_iff_toInt_lt]
  unfold lg_cmp
  by_cases h1 : y < x
  · simp [h1]
  · by_cases h2 : x = y
    · subst h2; simp [Int64.lt_irrefl]
    · simp [h1, h2]
theorem ltI (a b : Int32) : (a < b) = (a.toInt < b.toInt) := propext Int32.lt_iff_toInt_lt
theorem leI (a b : Int32) : (a ≤ b) = (a.toInt ≤ b.toInt) := propext Int32.le_iff_toInt_le
theorem t0 : (0 : Int32).toInt = 0 := rfl
theorem c_isIn {d : Nat} {Q : Option AV → St → Prop} {σ : St} {a b : Int32} : Rn d Q (108, 0, [some (vI a), some (vI b)], [], σ) = if (0 ≤ a.toInt ∧ a.toInt < b.toInt) then Q (some (vI 1)) σ else Q (some (vI 0)) σ := by
  simp +decide only [e108_0, e108_1, e108_4, e108_5, e108_6, e108_9, e108_10, e108_13, e108_14, true_and, and_true, or_true, true_or, if_true, if_false, not_true_eq_false, not_false_eq_true, ne_eq, and_self, ltI, leI, t0]
  by_cases h1 : a.toInt < 0
  · rw [if_pos h1, if_neg (by omega)]
  · rw [if_neg h1]
    by_cases h2 : b.toInt ≤ a.toInt
    · rw [if_pos h2, if_neg (by omega)]
    · rw [if_neg h2, if_pos (by omega)]
theorem m_in {d : Nat} {Q : Option AV → St → Prop} {σ : St} {v lo hi : Int64} : Rn d Q (129, 0, [some (vL v), none, some (vL lo), none, some (vL hi), none], [], σ) = if (lo.toInt ≤ v.toInt ∧ v.toInt ≤ hi.toInt) then Q (some (vI 1)) σ else Q (some (vI 0)) σ := by
  simp +decide only [e129_0, e129_1, e129_2, e129_3, e129_6, e129_7, e129_9, e129_10, e129_13, e129_14, e129_17, e129_18, true_and, and_true, or_true, true_or, if_true, if_false, not_true_eq_false, not_false_eq_true, ne_eq, and_self, lgc_lt, lgc_gt]
  by_cases h1 : v.toInt < lo.toInt
  · rw [if_pos h1, if_neg (by omega)]
  · rw [if_neg h1]
    by_cases h2 : hi.toInt < v.toInt
    · rw [if_pos h2, if_neg (by omega)]
    · rw [if_neg h2, if_pos (by omega)]
