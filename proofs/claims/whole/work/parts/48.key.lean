theorem T_key {h0 n d : Nat} {σ : St} {a b c : Int32} (h : Inv h0 n σ) : PR h0 n (d + 1) 94 [some (vR (some (11, 0, 0))), some (vI a), some (vI b), some (vI c), none] 197 [some (vR (some (12, 0, 0))), some (vI a), some (vI b), some (vI c), none] σ := by
  have hI := h.up
  obtain ⟨a1, a2, a3, a4, a5, a6, a7, a8, a9, a10, a11, a12, a13⟩ := h
  unfold PR
  by_cases hA : 0 ≤ a.toInt ∧ a.toInt < 40
  · have hA' : a.toInt ≤ 39 := by omega
    by_cases hB : 0 ≤ b.toInt ∧ b.toInt < 20
    · have hB' : b.toInt ≤ 19 := by omega
      by_cases hC : 0 ≤ c.toInt ∧ c.toInt < 5
      · have hC' : c.toInt ≤ 4 := by omega
        obtain ⟨x, hx, rfl, -⟩ := nI_ex (n := 40) hA
        obtain ⟨y, hy, rfl, -⟩ := nI_ex (n := 20) hB
        have e1 : nI x * 20 + nI y = nI (20 * x + y) := by rw [lN20, pk_mul, nI_add, Nat.mul_comm]
        have e2 : 20 * nI x + nI y = nI (20 * x + y) := by rw [lN20, pk_mul, nI_add]
        have hz : 20 * x + y < 800 := by omega
        have e3 : (nI (20 * x + y)).toInt = ((20 * x + y : Nat) : Int) := nI_toInt (by omega)
        have e4 : (nI (20 * x + y)).toNatClampNeg = 20 * x + y := nI_clamp (by omega)
        have e5 : (0 : Int) ≤ ((20 * x + y : Nat) : Int) ∧ ((20 * x + y : Nat) : Int) < ((800 : Nat) : Int) := by omega
        simp +decide only [e94_0, e94_1, e94_3, e94_6, e94_9, e94_10, e94_12, e94_15, e94_18, e94_19, e94_20, e94_23, e94_26, e94_27, e94_28, e94_29, e94_32, e94_33, e94_35, e94_36, e94_37, e94_38, e94_39, e94_41, e94_42, e94_45, e94_46, e94_48, e94_49, e94_50, e94_51, e94_52, e94_53, e94_54, e94_56, e197_0, e197_1, e197_2, e197_3, e197_6, e197_9, e197_12, e197_13, e197_14, e197_15, e197_18, e197_21, e197_24, e197_25, e197_26, e197_27, e197_30, e197_33, e197_36, e197_37, e197_38, e197_39, e197_42, e197_44, e197_45, e197_46, e197_47, e197_48, e197_49, e197_51, e197_52, e197_55, e197_57, e197_58, e197_59, e197_60, e197_61, e197_62, e197_63, e197_65, true_and, and_true, or_true, true_or, if_true, if_false, not_true_eq_false, not_false_eq_true, ne_eq, and_self, Option.toList_some, Option.toList_none, List.cons_append, List.nil_append, catS_0, catS_I, catS_L, catS_R, Option.map_some, Option.map_none, c_isIn, m_in, tI_40, tI_20, tI_5, tL_0, tL_39, tL_19, tL_4, wide_toInt, N11 a1, N12 a1, L11_14 a1, L12_68 a1, hA, hB, hC, hA', hB', hC', e1, e2, e3, e4, e5, Option.some.injEq, Sum.inl.injEq, exists_eq_left', exists_eq', LA, NA, AA, byteId ⟨hC.1, Int.lt_trans hC.2 (by decide)⟩]
        refine ⟨(a3.2.2 _ hz).1.symm, a1, ?_⟩
        simp +decide only [II, AI, IA, NA, RA, QA, HA, SA, AA, true_and, and_true, or_true, true_or, if_true, if_false, not_true_eq_false, not_false_eq_true, ne_eq, and_self]
        refine ⟨a2, ⟨a3.1, a3.2.1, fun j hj => ?_⟩, a4.up, a5, a6, a7, a8, a9, a10.up, a11, a12, a13.up⟩
        unfold upd
        by_cases hjz : j = 20 * x + y
        · rw [if_pos hjz, if_pos hjz]; exact ⟨rfl, hC⟩
        · rw [if_neg hjz, if_neg hjz]; exact a3.2.2 j hj
      · have hC' : ¬ (0 ≤ c.toInt ∧ c.toInt ≤ 4) := by omega
        simp +decide only [e94_0, e94_1, e94_3, e94_6, e94_9, e94_10, e94_12, e94_15, e94_18, e94_19, e94_20, e94_23, e94_26, e94_27, e94_28, e94_29, e94_32, e94_33, e94_35, e94_36, e94_37, e94_38, e94_39, e94_41, e94_42, e94_45, e94_46, e94_48, e94_49, e94_50, e94_51, e94_52, e94_53, e94_54, e94_56, e197_0, e197_1, e197_2, e197_3, e197_6, e197_9, e197_12, e197_13, e197_14, e197_15, e197_18, e197_21, e197_24, e197_25, e197_26, e197_27, e197_30, e197_33, e197_36, e197_37, e197_38, e197_39, e197_42, e197_44, e197_45, e197_46, e197_47, e197_48, e197_49, e197_51, e197_52, e197_55, e197_57, e197_58, e197_59, e197_60, e197_61, e197_62, e197_63, e197_65, true_and, and_true, or_true, true_or, if_true, if_false, not_true_eq_false, not_false_eq_true, ne_eq, and_self, Option.toList_some, Option.toList_none, List.cons_append, List.nil_append, catS_0, catS_I, catS_L, catS_R, Option.map_some, Option.map_none, c_isIn, m_in, tI_40, tI_20, tI_5, tL_0, tL_39, tL_19, tL_4, wide_toInt, hA, hB, hC, hA', hB', hC', Option.some.injEq, Sum.inl.injEq, exists_eq_left', exists_eq', hI]
    · have hB' : ¬ (0 ≤ b.toInt ∧ b.toInt ≤ 19) := by omega
      simp +decide only [e94_0, e94_1, e94_3, e94_6, e94_9, e94_10, e94_12, e94_15, e94_18, e94_19, e94_20, e94_23, e94_26, e94_27, e94_28, e94_29, e94_32, e94_33, e94_35, e94_36, e94_37, e94_38, e94_39, e94_41, e94_42, e94_45, e94_46, e94_48, e94_49, e94_50, e94_51, e94_52, e94_53, e94_54, e94_56, e197_0, e197_1, e197_2, e197_3, e197_6, e197_9, e197_12, e197_13, e197_14, e197_15, e197_18, e197_21, e197_24, e197_25, e197_26, e197_27, e197_30, e197_33, e197_36, e197_37, e197_38, e197_39, e197_42, e197_44, e197_45, e197_46, e197_47, e197_48, e197_49, e197_51, e197_52, e197_55, e197_57, e197_58, e197_59, e197_60, e197_61, e197_62, e197_63, e197_65, true_and, and_true, or_true, true_or, if_true, if_false, not_true_eq_false, not_false_eq_true, ne_eq, and_self, Option.toList_some, Option.toList_none, List.cons_append, List.nil_append, catS_0, catS_I, catS_L, catS_R, Option.map_some, Option.map_none, c_isIn, m_in, tI_40, tI_20, tI_5, tL_0, tL_39, tL_19, tL_4, wide_toInt, hA, hB, hA', hB', Option.some.injEq, Sum.inl.injEq, exists_eq_left', exists_eq', hI]
  · have hA' : ¬ (0 ≤ a.toInt ∧ a.toInt ≤ 39) := by omega
    simp +decide only [e94_0, e94_1, e94_3, e94_6, e94_9, e94_10, e94_12, e94_15, e94_18, e94_19, e94_20, e94_23, e94_26, e94_27, e94_28, e94_29, e94_32, e94_33, e94_35, e94_36, e94_37, e94_38, e94_39, e94_41, e94_42, e94_45, e94_46, e94_48, e94_49, e94_50, e94_51, e94_52, e94_53, e94_54, e94_56, e197_0, e197_1, e197_2, e197_3, e197_6, e197_9, e197_12, e197_13, e197_14, e197_15, e197_18, e197_21, e197_24, e197_25, e197_26, e197_27, e197_30, e197_33, e197_36, e197_37, e197_38, e197_39, e197_42, e197_44, e197_45, e197_46, e197_47, e197_48, e197_49, e197_51, e197_52, e197_55, e197_57, e197_58, e197_59, e197_60, e197_61, e197_62, e197_63, e197_65, true_and, and_true, or_true, true_or, if_true, if_false, not_true_eq_false, not_false_eq_true, ne_eq, and_self, Option.toList_some, Option.toList_none, List.cons_append, List.nil_append, catS_0, catS_I, catS_L, catS_R, Option.map_some, Option.map_none, c_isIn, m_in, tI_40, tI_20, tI_5, tL_0, tL_39, tL_19, tL_4, wide_toInt, hA, hA', Option.some.injEq, Sum.inl.injEq, exists_eq_left', exists_eq', hI]
