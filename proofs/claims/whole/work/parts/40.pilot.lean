theorem lgc_lt {x y : Int64} : (lg_cmp x y < 0) = (x < y) := by
  unfold lg_cmp
  by_cases h1 : y < x
  · have h3 : ¬ x < y := fun z => Int64.lt_irrefl (Int64.lt_trans h1 z)
    simp [h1, h3]
  · by_cases h2 : x = y
    · subst h2; simp [Int64.lt_irrefl]
    · have h3 : x < y := Int64.lt_of_le_of_ne (Int64.not_lt.mp h1) h2
      simp [h1, h2, h3]
theorem lgc_gt {x y : Int64} : (0 < lg_cmp x y) = (y < x) := by
  unfold lg_cmp
  by_cases h1 : y < x
  · simp [h1]
  · by_cases h2 : x = y
    · subst h2; simp [Int64.lt_irrefl]
    · simp [h1, h2]
theorem c_isIn {d : Nat} {Q : Option AV → St → Prop} {σ : St} {a b : Int32} : Rn d Q (108, 0, [some (vI a), some (vI b)], [], σ) = if (0 ≤ a.toInt ∧ a.toInt < b.toInt) then Q (some (vI 1)) σ else Q (some (vI 0)) σ := by
  simp +decide only [e108_0, e108_1, e108_4, e108_5, e108_6, e108_9, e108_10, e108_13, e108_14, true_and, and_true, or_true, true_or, if_true, if_false, not_true_eq_false, not_false_eq_true, ne_eq, and_self]
  rw [Int32.lt_iff_toInt_lt, Int32.le_iff_toInt_le, show (0 : Int32).toInt = 0 from rfl]
  by_cases h1 : a.toInt < 0
  · rw [if_pos h1, if_neg (by omega)]
  · rw [if_neg h1]
    by_cases h2 : b.toInt ≤ a.toInt
    · rw [if_pos h2, if_neg (by omega)]
    · rw [if_neg h2, if_pos (by omega)]
theorem m_in {d : Nat} {Q : Option AV → St → Prop} {σ : St} {v lo hi : Int64} : Rn d Q (129, 0, [some (vL v), none, some (vL lo), none, some (vL hi), none], [], σ) = if (lo.toInt ≤ v.toInt ∧ v.toInt ≤ hi.toInt) then Q (some (vI 1)) σ else Q (some (vI 0)) σ := by
  simp +decide only [e129_0, e129_1, e129_2, e129_3, e129_6, e129_7, e129_9, e129_10, e129_13, e129_14, e129_17, e129_18, true_and, and_true, or_true, true_or, if_true, if_false, not_true_eq_false, not_false_eq_true, ne_eq, and_self, lgc_lt, lgc_gt]
  rw [Int64.lt_iff_toInt_lt, Int64.lt_iff_toInt_lt]
  by_cases h1 : v.toInt < lo.toInt
  · rw [if_pos h1, if_neg (by omega)]
  · rw [if_neg h1]
    by_cases h2 : hi.toInt < v.toInt
    · rw [if_pos h2, if_neg (by omega)]
    · rw [if_neg h2, if_pos (by omega)]
theorem tI_20 : (20 : Int32).toInt = 20 := by decide
theorem c_limit {d : Nat} {Q : Option AV → St → Prop} {σ : St} {a : Int32} (h : gN σ 11 = 1) : Rn (d + 1) Q (97, 0, [some (vR (some (11, 0, 0))), some (vI a), none], [], σ) = if (0 ≤ a.toInt ∧ a.toInt < 20) then Q (some (vI (gI σ 11 15 0))) (setI σ 11 15 0 a) else Q (some (vI (-1))) σ := by
  simp +decide only [e97_0, e97_1, e97_3, e97_6, e97_9, e97_10, e97_11, e97_12, e97_15, e97_16, e97_17, e97_18, e97_21, e97_22, true_and, and_true, or_true, true_or, if_true, if_false, not_true_eq_false, not_false_eq_true, ne_eq, and_self, Option.toList_some, Option.toList_none, List.cons_append, List.nil_append, catS_0, catS_I, catS_L, catS_R, Option.map_some, Option.map_none, c_isIn, tI_20, h]
