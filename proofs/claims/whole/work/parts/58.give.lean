theorem cntT_ch {kd tt kd' tt' : Nat → Int32} {u x : Nat} (h : ∀ j, j ≠ x → kd' j = kd j ∧ tt' j = tt j) : ∀ n, (n ≤ x → cntT kd' tt' u n = cntT kd tt u n) ∧ (x < n → cntT kd' tt' u n + (if kd x = 1 ∧ tt x = nI u then 1 else 0) = cntT kd tt u n + (if kd' x = 1 ∧ tt' x = nI u then 1 else 0))
  | 0 => ⟨fun _ => rfl, fun h => absurd h (by omega)⟩
  | n + 1 => by
    obtain ⟨i1, i2⟩ := cntT_ch (u := u) h n
    show (n + 1 ≤ x → cntT kd' tt' u n + (if kd' n = 1 ∧ tt' n = nI u then 1 else 0) = cntT kd tt u n + (if kd n = 1 ∧ tt n = nI u then 1 else 0)) ∧ (x < n + 1 → (cntT kd' tt' u n + (if kd' n = 1 ∧ tt' n = nI u then 1 else 0)) + _ = (cntT kd tt u n + (if kd n = 1 ∧ tt n = nI u then 1 else 0)) + _)
    constructor
    · intro hn
      obtain ⟨q1, q2⟩ := h n (by omega)
      rw [q1, q2, i1 (by omega)]
    · intro hn
      by_cases hx : n = x
      · subst hx
        rw [i1 (by omega)]
        omega
      · obtain ⟨q1, q2⟩ := h n hx
        have := i2 (by omega)
        rw [q1, q2]
        omega
section GIV
variable {d : Nat} {Q : Option AV → St → Prop} {σ : St} {x y : Nat} {b c : Int32}
theorem c_mayMark (hx : x < gN σ 8) (hy : y < gN σ 9) : Rn d Q (60, 0, [some (vR (some (9, 0, y))), some (vR (some (8, 0, x)))], [], σ) = if ((gI σ 9 0 y >>> ((gI σ 8 1 x / 10) &&& 31)) &&& 1 = 1 ∧ (gI σ 9 2 y >>> (gI σ 8 0 x &&& 31)) &&& 1 = 0) then Q (some (vI 1)) σ else Q (some (vI 0)) σ := by
  by_cases h1 : (gI σ 9 0 y >>> ((gI σ 8 1 x / 10) &&& 31)) &&& 1 = 1
  · by_cases h2 : (gI σ 9 2 y >>> (gI σ 8 0 x &&& 31)) &&& 1 = 0
    · simp +decide only [e60_0, e60_1, e60_4, e60_5, e60_8, e60_10, e60_11, e60_12, e60_13, e60_14, e60_15, e60_18, e60_19, e60_22, e60_23, e60_26, e60_27, e60_28, e60_29, e60_32, e60_33, e60_36, e60_37, true_and, and_true, or_true, true_or, if_true, if_false, not_true_eq_false, not_false_eq_true, ne_eq, and_self, Option.toList_some, Option.toList_none, List.cons_append, List.nil_append, catS_0, catS_I, catS_L, catS_R, Option.map_some, Option.map_none, hx, hy, h1, h2]
    · simp +decide only [e60_0, e60_1, e60_4, e60_5, e60_8, e60_10, e60_11, e60_12, e60_13, e60_14, e60_15, e60_18, e60_19, e60_22, e60_23, e60_26, e60_27, e60_28, e60_29, e60_32, e60_33, e60_36, e60_37, true_and, and_true, or_true, true_or, if_true, if_false, not_true_eq_false, not_false_eq_true, ne_eq, and_self, Option.toList_some, Option.toList_none, List.cons_append, List.nil_append, catS_0, catS_I, catS_L, catS_R, Option.map_some, Option.map_none, hx, hy, h1, h2]
  · simp +decide only [e60_0, e60_1, e60_4, e60_5, e60_8, e60_10, e60_11, e60_12, e60_13, e60_14, e60_15, e60_18, e60_19, e60_22, e60_23, e60_26, e60_27, e60_28, e60_29, e60_32, e60_33, e60_36, e60_37, true_and, and_true, or_true, true_or, if_true, if_false, not_true_eq_false, not_false_eq_true, ne_eq, and_self, Option.toList_some, Option.toList_none, List.cons_append, List.nil_append, catS_0, catS_I, catS_L, catS_R, Option.map_some, Option.map_none, hx, hy, h1, false_and]
theorem m_suits (a1 : SH σ) (hx : x < 80) (hy : y < 6) : Rn d Q (173, 0, [some (vR (some (12, 0, 0))), some (vI (nI x)), some (vI (nI y))], [], σ) = if ((gA σ 12 55 0 y >>> ((gA σ 12 41 0 x / 10) &&& 31)) &&& 1 = 1 ∧ (gA σ 12 57 0 y >>> (gA σ 12 40 0 x &&& 31)) &&& 1 = 0) then Q (some (vI 1)) σ else Q (some (vI 0)) σ := by
  have e3 : (nI x).toInt = (x : Int) := nI_toInt (by omega)
  have e4 : (nI x).toNatClampNeg = x := nI_clamp (by omega)
  have f3 : (nI y).toInt = (y : Int) := nI_toInt (by omega)
  have f4 : (nI y).toNatClampNeg = y := nI_clamp (by omega)
  have g1 : (0 : Int) ≤ (x : Int) := by omega
  have g2 : (x : Int) < ((80 : Nat) : Int) := by omega
  have g3 : (0 : Int) ≤ (y : Int) := by omega
  have g4 : (y : Int) < ((6 : Nat) : Int) := by omega
  by_cases h1 : (gA σ 12 55 0 y >>> ((gA σ 12 41 0 x / 10) &&& 31)) &&& 1 = 1
  · by_cases h2 : (gA σ 12 57 0 y >>> (gA σ 12 40 0 x &&& 31)) &&& 1 = 0
    · simp +decide only [e173_0, e173_1, e173_4, e173_5, e173_6, e173_7, e173_10, e173_11, e173_12, e173_14, e173_15, e173_16, e173_17, e173_18, e173_19, e173_22, e173_23, e173_26, e173_27, e173_28, e173_29, e173_32, e173_33, e173_34, e173_35, e173_36, e173_37, e173_40, e173_41, e173_44, e173_45, true_and, and_true, or_true, true_or, if_true, if_false, not_true_eq_false, not_false_eq_true, ne_eq, and_self, Option.toList_some, Option.toList_none, List.cons_append, List.nil_append, catS_0, catS_I, catS_L, catS_R, Option.map_some, Option.map_none, Option.some.injEq, Sum.inl.injEq, exists_eq_left', exists_eq', e3, e4, f3, f4, g1, g2, g3, g4, h1, h2, N12 a1, L12_55 a1, L12_41 a1, L12_57 a1, L12_40 a1]
    · simp +decide only [e173_0, e173_1, e173_4, e173_5, e173_6, e173_7, e173_10, e173_11, e173_12, e173_14, e173_15, e173_16, e173_17, e173_18, e173_19, e173_22, e173_23, e173_26, e173_27, e173_28, e173_29, e173_32, e173_33, e173_34, e173_35, e173_36, e173_37, e173_40, e173_41, e173_44, e173_45, true_and, and_true, or_true, true_or, if_true, if_false, not_true_eq_false, not_false_eq_true, ne_eq, and_self, Option.toList_some, Option.toList_none, List.cons_append, List.nil_append, catS_0, catS_I, catS_L, catS_R, Option.map_some, Option.map_none, Option.some.injEq, Sum.inl.injEq, exists_eq_left', exists_eq', e3, e4, f3, f4, g1, g2, g3, g4, h1, h2, N12 a1, L12_55 a1, L12_41 a1, L12_57 a1, L12_40 a1]
  · simp +decide only [e173_0, e173_1, e173_4, e173_5, e173_6, e173_7, e173_10, e173_11, e173_12, e173_14, e173_15, e173_16, e173_17, e173_18, e173_19, e173_22, e173_23, e173_26, e173_27, e173_28, e173_29, e173_32, e173_33, e173_34, e173_35, e173_36, e173_37, e173_40, e173_41, e173_44, e173_45, true_and, and_true, or_true, true_or, if_true, if_false, not_true_eq_false, not_false_eq_true, ne_eq, and_self, Option.toList_some, Option.toList_none, List.cons_append, List.nil_append, catS_0, catS_I, catS_L, catS_R, Option.map_some, Option.map_none, Option.some.injEq, Sum.inl.injEq, exists_eq_left', exists_eq', e3, e4, f3, f4, g1, g2, g3, g4, h1, false_and, N12 a1, L12_55 a1, L12_41 a1]
theorem c_isOpenBy (hx : x < gN σ 8) : Rn d Q (56, 0, [some (vR (some (8, 0, x))), some (vI b)], [], σ) = if (gI σ 8 5 x = 1 ∧ gI σ 8 8 x = -4 ∧ (gI σ 8 7 x).toInt ≤ b.toInt) then Q (some (vI 1)) σ else Q (some (vI 0)) σ := by
  by_cases h1 : gI σ 8 5 x = 1
  · by_cases h2 : gI σ 8 8 x = -4
    · by_cases h3 : (gI σ 8 7 x).toInt ≤ b.toInt
      · have h3' : ¬ b.toInt < (gI σ 8 7 x).toInt := by omega
        simp +decide only [e56_0, e56_1, e56_4, e56_5, e56_8, e56_9, e56_12, e56_14, e56_17, e56_18, e56_21, e56_22, e56_25, e56_26, e56_29, e56_30, true_and, and_true, or_true, true_or, if_true, if_false, not_true_eq_false, not_false_eq_true, ne_eq, and_self, Option.toList_some, Option.toList_none, List.cons_append, List.nil_append, catS_0, catS_I, catS_L, catS_R, Option.map_some, Option.map_none, ltI, leI, hx, h1, h2, h3, h3']
      · have h3' : b.toInt < (gI σ 8 7 x).toInt := by omega
        simp +decide only [e56_0, e56_1, e56_4, e56_5, e56_8, e56_9, e56_12, e56_14, e56_17, e56_18, e56_21, e56_22, e56_25, e56_26, e56_29, e56_30, true_and, and_true, or_true, true_or, if_true, if_false, not_true_eq_false, not_false_eq_true, ne_eq, and_self, Option.toList_some, Option.toList_none, List.cons_append, List.nil_append, catS_0, catS_I, catS_L, catS_R, Option.map_some, Option.map_none, ltI, leI, hx, h1, h2, h3, h3']
    · simp +decide only [e56_0, e56_1, e56_4, e56_5, e56_8, e56_9, e56_12, e56_14, e56_17, e56_18, e56_21, e56_22, e56_25, e56_26, e56_29, e56_30, true_and, and_true, or_true, true_or, if_true, if_false, not_true_eq_false, not_false_eq_true, ne_eq, and_self, Option.toList_some, Option.toList_none, List.cons_append, List.nil_append, catS_0, catS_I, catS_L, catS_R, Option.map_some, Option.map_none, hx, h1, h2, false_and]
  · simp +decide only [e56_0, e56_1, e56_4, e56_5, e56_8, e56_9, e56_12, e56_14, e56_17, e56_18, e56_21, e56_22, e56_25, e56_26, e56_29, e56_30, true_and, and_true, or_true, true_or, if_true, if_false, not_true_eq_false, not_false_eq_true, ne_eq, and_self, Option.toList_some, Option.toList_none, List.cons_append, List.nil_append, catS_0, catS_I, catS_L, catS_R, Option.map_some, Option.map_none, hx, h1, false_and]
theorem c_isGivenBy (hx : x < gN σ 8) : Rn d Q (57, 0, [some (vR (some (8, 0, x))), some (vI b)], [], σ) = if (gI σ 8 5 x = 1 ∧ ¬ gI σ 8 8 x = -4 ∧ (gI σ 8 9 x).toInt ≤ b.toInt) then Q (some (vI 1)) σ else Q (some (vI 0)) σ := by
  by_cases h1 : gI σ 8 5 x = 1
  · by_cases h2 : gI σ 8 8 x = -4
    · simp +decide only [e57_0, e57_1, e57_4, e57_5, e57_8, e57_9, e57_12, e57_14, e57_17, e57_18, e57_21, e57_22, e57_25, e57_26, e57_29, e57_30, true_and, and_true, or_true, true_or, if_true, if_false, not_true_eq_false, not_false_eq_true, ne_eq, and_self, Option.toList_some, Option.toList_none, List.cons_append, List.nil_append, catS_0, catS_I, catS_L, catS_R, Option.map_some, Option.map_none, hx, h1, h2, false_and]
    · by_cases h3 : (gI σ 8 9 x).toInt ≤ b.toInt
      · have h3' : ¬ b.toInt < (gI σ 8 9 x).toInt := by omega
        simp +decide only [e57_0, e57_1, e57_4, e57_5, e57_8, e57_9, e57_12, e57_14, e57_17, e57_18, e57_21, e57_22, e57_25, e57_26, e57_29, e57_30, true_and, and_true, or_true, true_or, if_true, if_false, not_true_eq_false, not_false_eq_true, ne_eq, and_self, Option.toList_some, Option.toList_none, List.cons_append, List.nil_append, catS_0, catS_I, catS_L, catS_R, Option.map_some, Option.map_none, ltI, leI, hx, h1, h2, h3, h3']
      · have h3' : b.toInt < (gI σ 8 9 x).toInt := by omega
        simp +decide only [e57_0, e57_1, e57_4, e57_5, e57_8, e57_9, e57_12, e57_14, e57_17, e57_18, e57_21, e57_22, e57_25, e57_26, e57_29, e57_30, true_and, and_true, or_true, true_or, if_true, if_false, not_true_eq_false, not_false_eq_true, ne_eq, and_self, Option.toList_some, Option.toList_none, List.cons_append, List.nil_append, catS_0, catS_I, catS_L, catS_R, Option.map_some, Option.map_none, ltI, leI, hx, h1, h2, h3, h3']
  · simp +decide only [e57_0, e57_1, e57_4, e57_5, e57_8, e57_9, e57_12, e57_14, e57_17, e57_18, e57_21, e57_22, e57_25, e57_26, e57_29, e57_30, true_and, and_true, or_true, true_or, if_true, if_false, not_true_eq_false, not_false_eq_true, ne_eq, and_self, Option.toList_some, Option.toList_none, List.cons_append, List.nil_append, catS_0, catS_I, catS_L, catS_R, Option.map_some, Option.map_none, hx, h1, false_and]
theorem m_isGiven (a1 : SH σ) (hx : x < 80) : Rn d Q (176, 0, [some (vR (some (12, 0, 0))), some (vI (nI x)), some (vI b)], [], σ) = if (gA σ 12 39 0 x = 1 ∧ ¬ gA σ 12 46 0 x = -4 ∧ (gA σ 12 47 0 x).toInt ≤ b.toInt) then Q (some (vI 1)) σ else Q (some (vI 0)) σ := by
  have e3 : (nI x).toInt = (x : Int) := nI_toInt (by omega)
  have e4 : (nI x).toNatClampNeg = x := nI_clamp (by omega)
  have g1 : (0 : Int) ≤ (x : Int) := by omega
  have g2 : (x : Int) < ((80 : Nat) : Int) := by omega
  by_cases h1 : gA σ 12 39 0 x = 1
  · by_cases h2 : gA σ 12 46 0 x = -4
    · simp +decide only [e176_0, e176_1, e176_4, e176_5, e176_6, e176_7, e176_10, e176_11, e176_14, e176_15, e176_16, e176_18, e176_21, e176_22, e176_25, e176_26, e176_27, e176_28, e176_31, e176_32, e176_35, e176_36, true_and, and_true, or_true, true_or, if_true, if_false, not_true_eq_false, not_false_eq_true, ne_eq, and_self, Option.toList_some, Option.toList_none, List.cons_append, List.nil_append, catS_0, catS_I, catS_L, catS_R, Option.map_some, Option.map_none, Option.some.injEq, Sum.inl.injEq, exists_eq_left', exists_eq', e3, e4, g1, g2, h1, h2, false_and, N12 a1, L12_39 a1, L12_46 a1]
    · by_cases h3 : (gA σ 12 47 0 x).toInt ≤ b.toInt
      · have h3' : ¬ b.toInt < (gA σ 12 47 0 x).toInt := by omega
        simp +decide only [e176_0, e176_1, e176_4, e176_5, e176_6, e176_7, e176_10, e176_11, e176_14, e176_15, e176_16, e176_18, e176_21, e176_22, e176_25, e176_26, e176_27, e176_28, e176_31, e176_32, e176_35, e176_36, true_and, and_true, or_true, true_or, if_true, if_false, not_true_eq_false, not_false_eq_true, ne_eq, and_self, Option.toList_some, Option.toList_none, List.cons_append, List.nil_append, catS_0, catS_I, catS_L, catS_R, Option.map_some, Option.map_none, Option.some.injEq, Sum.inl.injEq, exists_eq_left', exists_eq', ltI, leI, e3, e4, g1, g2, h1, h2, h3, h3', N12 a1, L12_39 a1, L12_46 a1, L12_47 a1]
      · have h3' : b.toInt < (gA σ 12 47 0 x).toInt := by omega
        simp +decide only [e176_0, e176_1, e176_4, e176_5, e176_6, e176_7, e176_10, e176_11, e176_14, e176_15, e176_16, e176_18, e176_21, e176_22, e176_25, e176_26, e176_27, e176_28, e176_31, e176_32, e176_35, e176_36, true_and, and_true, or_true, true_or, if_true, if_false, not_true_eq_false, not_false_eq_true, ne_eq, and_self, Option.toList_some, Option.toList_none, List.cons_append, List.nil_append, catS_0, catS_I, catS_L, catS_R, Option.map_some, Option.map_none, Option.some.injEq, Sum.inl.injEq, exists_eq_left', exists_eq', ltI, leI, e3, e4, g1, g2, h1, h2, h3, h3', N12 a1, L12_39 a1, L12_46 a1, L12_47 a1]
  · simp +decide only [e176_0, e176_1, e176_4, e176_5, e176_6, e176_7, e176_10, e176_11, e176_14, e176_15, e176_16, e176_18, e176_21, e176_22, e176_25, e176_26, e176_27, e176_28, e176_31, e176_32, e176_35, e176_36, true_and, and_true, or_true, true_or, if_true, if_false, not_true_eq_false, not_false_eq_true, ne_eq, and_self, Option.toList_some, Option.toList_none, List.cons_append, List.nil_append, catS_0, catS_I, catS_L, catS_R, Option.map_some, Option.map_none, Option.some.injEq, Sum.inl.injEq, exists_eq_left', exists_eq', e3, e4, g1, g2, h1, false_and, N12 a1, L12_39 a1]
end GIV
