theorem lk_neg {kd wh na rw ke : Nat → Int32} {x y : Nat} {l : Int32} (hl : 0 ≤ l.toInt) (h : ¬ (((kd x = 1 ∨ kd x = 2 ∨ kd x = 3) ∧ (kd y = 1 ∨ kd y = 2 ∨ kd y = 3)) ∧ (na x = na y ∧ ¬ wh x = wh y))) : (lk kd wh na rw ke x y).toInt ≤ l.toInt := by
  unfold lk
  split
  · split
    · rename_i h1 h2
      exact absurd ⟨h1, h2⟩ h
    · exact Int.le_trans (by decide) hl
  · exact Int.le_trans (by decide) hl
section DBT
variable {d h0 n : Nat} {Q : Option AV → St → Prop} {σ : St} {x y : Nat}
theorem c_isDoubted (h : Inv h0 n σ) (hx : x < gN σ 8) (hy : y < gN σ 8) : Rn (d + 1) Q (128, 0, [some (vR (some (11, 0, 0))), some (vR (some (8, 0, x))), some (vR (some (8, 0, y)))], [], σ) = if (lk (gA σ 12 39 0) (gA σ 12 40 0) (gA σ 12 41 0) (gA σ 12 53 0) (gA σ 12 68 0) x y).toInt ≤ (gI σ 12 69 0).toInt then Q (some (vI 0)) σ else Q (some (vI 1)) σ := by
  have cl := fun {d : Nat} {Q : Option AV → St → Prop} => c_likeness (d := d) (Q := Q) h hx hy
  have ca := fun {d : Nat} {Q : Option AV → St → Prop} => c_isAnswer (d := d) (Q := Q) hx
  have cb := fun {d : Nat} {Q : Option AV → St → Prop} => c_isAnswer (d := d) (Q := Q) hy
  have cc := fun {d : Nat} {Q : Option AV → St → Prop} => c_comp (d := d) (Q := Q) hx hy
  obtain ⟨a1, a2, a3, a4, a5, a6, a7, a8, a9, a10, a11, a12, a13⟩ := h
  obtain ⟨u1, u2, u3, u4, u5⟩ := a9
  obtain ⟨-, w1, -, w2, w2r, -, -, w5, -, -, -, -, -, -, -, -, -, -, -, -, -, -, w15⟩ := u4 x hx
  obtain ⟨-, v1, -, v2, v2r, -, -, v5, -, -, -, -, -, -, -, -, -, -, -, -, -, -, v15⟩ := u4 y hy
  by_cases hK : gA σ 12 39 0 x = 1 ∨ gA σ 12 39 0 x = 2 ∨ gA σ 12 39 0 x = 3
  · by_cases hK2 : gA σ 12 39 0 y = 1 ∨ gA σ 12 39 0 y = 2 ∨ gA σ 12 39 0 y = 3
    · by_cases hC : gA σ 12 41 0 x = gA σ 12 41 0 y ∧ ¬ gA σ 12 40 0 x = gA σ 12 40 0 y
      · have e : lk (gA σ 12 39 0) (gA σ 12 40 0) (gA σ 12 41 0) (gA σ 12 53 0) (gA σ 12 68 0) x y = nI (likN (fun j => gA σ 12 53 0 (20 * x + j)) (fun j => gA σ 12 53 0 (20 * y + j)) (fun j => gA σ 12 68 0 (20 * (gA σ 12 41 0 x).toNatClampNeg + j)) 20) := by
          unfold lk
          rw [if_pos ⟨hK, hK2⟩, if_pos hC]
        rw [e]
        simp +decide only [e128_0, e128_1, e128_4, e128_7, e128_8, e128_11, e128_14, e128_15, e128_16, e128_19, e128_22, e128_23, e128_24, e128_25, e128_28, e128_29, e128_32, e128_35, e128_36, e128_39, e128_40, true_and, and_true, or_true, true_or, if_true, if_false, not_true_eq_false, not_false_eq_true, ne_eq, and_self, Option.toList_some, Option.toList_none, List.cons_append, List.nil_append, catS_0, catS_I, catS_L, catS_R, Option.map_some, Option.map_none, Option.some.injEq, Sum.inl.injEq, exists_eq_left', exists_eq', ca, cb, cc, cl, w5, v5, w2, v2, w1, v1, hK, hK2, hC, hx, hy, N11 a1, a3.1, leI]
      · rw [if_pos (lk_neg a3.2.1.1 (fun z => hC z.2))]
        simp +decide only [e128_0, e128_1, e128_4, e128_7, e128_8, e128_11, e128_14, e128_15, e128_16, e128_19, e128_22, e128_23, e128_24, e128_25, e128_28, e128_29, e128_32, e128_35, e128_36, e128_39, e128_40, true_and, and_true, or_true, true_or, if_true, if_false, not_true_eq_false, not_false_eq_true, ne_eq, and_self, Option.toList_some, Option.toList_none, List.cons_append, List.nil_append, catS_0, catS_I, catS_L, catS_R, Option.map_some, Option.map_none, Option.some.injEq, Sum.inl.injEq, exists_eq_left', exists_eq', ca, cb, cc, w5, v5, w2, v2, w1, v1, hK, hK2, hC, hx, hy, N11 a1]
    · rw [if_pos (lk_neg a3.2.1.1 (fun z => hK2 z.1.2))]
      simp +decide only [e128_0, e128_1, e128_4, e128_7, e128_8, e128_11, e128_14, e128_15, e128_16, e128_19, e128_22, e128_23, e128_24, e128_25, e128_28, e128_29, e128_32, e128_35, e128_36, e128_39, e128_40, true_and, and_true, or_true, true_or, if_true, if_false, not_true_eq_false, not_false_eq_true, ne_eq, and_self, Option.toList_some, Option.toList_none, List.cons_append, List.nil_append, catS_0, catS_I, catS_L, catS_R, Option.map_some, Option.map_none, Option.some.injEq, Sum.inl.injEq, exists_eq_left', exists_eq', ca, cb, w5, v5, hK, hK2, hx, hy, N11 a1]
  · rw [if_pos (lk_neg a3.2.1.1 (fun z => hK z.1.1))]
    simp +decide only [e128_0, e128_1, e128_4, e128_7, e128_8, e128_11, e128_14, e128_15, e128_16, e128_19, e128_22, e128_23, e128_24, e128_25, e128_28, e128_29, e128_32, e128_35, e128_36, e128_39, e128_40, true_and, and_true, or_true, true_or, if_true, if_false, not_true_eq_false, not_false_eq_true, ne_eq, and_self, Option.toList_some, Option.toList_none, List.cons_append, List.nil_append, catS_0, catS_I, catS_L, catS_R, Option.map_some, Option.map_none, Option.some.injEq, Sum.inl.injEq, exists_eq_left', exists_eq', ca, w5, hK, hx, N11 a1]
/-- one row of the pairs: both find the same, or both go on -/
theorem db_in (h : Inv h0 n σ) {I a : Nat} (ha : a < gN σ 8) (hI : I < 2 ^ 31) : ∀ m b k, b + m = gN σ 8 → k ≤ I → ∃ s : Sum Int32 Nat,
    (∀ d Q, Rn (d + 2) Q (98, 23, [some (vR (some (11, 0, 0))), some (vI (nI I)), some (vI (nI k)), some (vI (nI a)), some (vI (nI b))], [], σ) = Sum.elim (fun v => Q (some (vI v)) σ) (fun k' => Rn (d + 2) Q (98, 77, [some (vR (some (11, 0, 0))), some (vI (nI I)), some (vI (nI k')), some (vI (nI a)), some (vI (nI (gN σ 8)))], [], σ)) s) ∧
    (∀ d Q, Rn (d + 2) Q (202, 23, [some (vR (some (12, 0, 0))), some (vI (nI I)), some (vI (nI (I - k))), some (vI (nI a)), some (vI (nI b))], [], σ) = Sum.elim (fun v => Q (some (vI v)) σ) (fun k' => Rn (d + 2) Q (202, 67, [some (vR (some (12, 0, 0))), some (vI (nI I)), some (vI (nI (I - k'))), some (vI (nI a)), some (vI (nI (gN σ 8)))], [], σ)) s) ∧ ∀ k', s = Sum.inr k' → k' ≤ I := by
  have h' := h
  obtain ⟨a1, a2, a3, a4, a5, a6, a7, a8, a9, a10, a11, a12, a13⟩ := h
  obtain ⟨u1, u2, u3, u4, u5⟩ := a9
  intro m
  induction m with
  | zero =>
    intro b k hb hk
    have e0 : b = gN σ 8 := by omega
    have e1 : nI (gN σ 8) ≤ nI b := nI_le (by omega) (by omega)
    refine ⟨Sum.inr k, fun d Q => ?_, fun d Q => ?_, fun k' hk' => by cases hk'; exact hk⟩
    · rw [e98_23]
      simp +decide only [e98_25, e98_26, e98_29, true_and, and_true, or_true, true_or, if_true, if_false, not_true_eq_false, not_false_eq_true, ne_eq, and_self, Option.toList_some, Option.toList_none, List.cons_append, List.nil_append, catS_0, catS_I, catS_L, catS_R, Option.map_some, Option.map_none, e1, u2, N11 a1, Sum.elim_inr]
      rw [e0]
    · rw [e202_23]
      simp +decide only [e202_25, e202_26, e202_29, true_and, and_true, or_true, true_or, if_true, if_false, not_true_eq_false, not_false_eq_true, ne_eq, and_self, Option.toList_some, Option.toList_none, List.cons_append, List.nil_append, catS_0, catS_I, catS_L, catS_R, Option.map_some, Option.map_none, e1, u3, N12 a1, Sum.elim_inr]
      rw [e0]
  | succ m ih =>
    intro b k hb hk
    have hb' : b < gN σ 8 := by omega
    have e1 : ¬ nI (gN σ 8) ≤ nI b := nI_ge (by omega) (by omega)
    have e2 : (nI a).toInt = (a : Int) := nI_toInt (by omega)
    have e3 : (0 : Int) ≤ (a : Int) := by omega
    have e4 : (a : Int) < ((80 : Nat) : Int) := by omega
    have e5 : (nI a).toNatClampNeg = a := nI_clamp (by omega)
    have f2 : (nI b).toInt = (b : Int) := nI_toInt (by omega)
    have f3 : (0 : Int) ≤ (b : Int) := by omega
    have f4 : (b : Int) < ((80 : Nat) : Int) := by omega
    have f5 : (nI b).toNatClampNeg = b := nI_clamp (by omega)
    have q1 := (u4 a ha).1
    have q2 := (u4 b hb').1
    have cd := fun {d : Nat} {Q : Option AV → St → Prop} => c_isDoubted (d := d) (Q := Q) h' ha hb'
    have ml := fun {d : Nat} {Q : Option AV → St → Prop} => m_likeOf (d := d) (Q := Q) a1 (show a < 80 by omega) (show b < 80 by omega) (u4 a ha).2.2.2.2.1
    by_cases hL : (lk (gA σ 12 39 0) (gA σ 12 40 0) (gA σ 12 41 0) (gA σ 12 53 0) (gA σ 12 68 0) a b).toInt ≤ (gI σ 12 69 0).toInt
    · obtain ⟨s, s1, s2, s3⟩ := ih (b + 1) k (by omega) hk
      refine ⟨s, fun d Q => ?_, fun d Q => ?_, s3⟩
      · rw [← s1, ← nI_1, e98_23]
        simp +decide only [e98_0, e98_1, e98_4, e98_5, e98_6, e98_7, e98_8, e98_9, e98_11, e98_12, e98_15, e98_18, e98_19, e98_20, e98_21, e98_25, e98_26, e98_29, e98_32, e98_33, e98_34, e98_37, e98_38, e98_39, e98_40, e98_43, e98_45, e98_46, e98_49, e98_52, e98_55, e98_56, e98_57, e98_60, e98_61, e98_63, e98_64, e98_66, e98_67, e98_68, e98_71, e98_74, e98_80, e98_83, e98_85, true_and, and_true, or_true, true_or, if_true, if_false, not_true_eq_false, not_false_eq_true, ne_eq, and_self, Option.toList_some, Option.toList_none, List.cons_append, List.nil_append, catS_0, catS_I, catS_L, catS_R, Option.map_some, Option.map_none, Option.some.injEq, Sum.inl.injEq, exists_eq_left', exists_eq', e1, e2, e3, e4, e5, f2, f3, f4, f5, u2, q1, q2, cd, hL, N11 a1, L11_10 a1]
      · rw [← s2, ← nI_1, e202_23]
        simp +decide only [e202_0, e202_1, e202_4, e202_5, e202_6, e202_7, e202_8, e202_9, e202_11, e202_12, e202_15, e202_18, e202_19, e202_20, e202_21, e202_25, e202_26, e202_29, e202_32, e202_33, e202_34, e202_36, e202_39, e202_40, e202_43, e202_46, e202_47, e202_50, e202_52, e202_53, e202_54, e202_56, e202_57, e202_58, e202_61, e202_64, e202_70, e202_73, e202_75, true_and, and_true, or_true, true_or, if_true, if_false, not_true_eq_false, not_false_eq_true, ne_eq, and_self, Option.toList_some, Option.toList_none, List.cons_append, List.nil_append, catS_0, catS_I, catS_L, catS_R, Option.map_some, Option.map_none, Option.some.injEq, Sum.inl.injEq, exists_eq_left', exists_eq', e1, u3, ml, hL, leI, N12 a1]
    · by_cases hk2 : k = I
      · refine ⟨Sum.inl (nI (80 * a + b)), fun d Q => ?_, fun d Q => ?_, fun k' hk' => by cases hk'⟩
        · have g1 : nI a * 80 + nI b = nI (80 * a + b) := by rw [lN80, pk_mul, nI_add, Nat.mul_comm]
          rw [e98_23, hk2]
          simp +decide only [e98_0, e98_1, e98_4, e98_5, e98_6, e98_7, e98_8, e98_9, e98_11, e98_12, e98_15, e98_18, e98_19, e98_20, e98_21, e98_25, e98_26, e98_29, e98_32, e98_33, e98_34, e98_37, e98_38, e98_39, e98_40, e98_43, e98_45, e98_46, e98_49, e98_52, e98_55, e98_56, e98_57, e98_60, e98_61, e98_63, e98_64, e98_66, e98_67, e98_68, e98_71, e98_74, e98_80, e98_83, e98_85, true_and, and_true, or_true, true_or, if_true, if_false, not_true_eq_false, not_false_eq_true, ne_eq, and_self, Option.toList_some, Option.toList_none, List.cons_append, List.nil_append, catS_0, catS_I, catS_L, catS_R, Option.map_some, Option.map_none, Option.some.injEq, Sum.inl.injEq, exists_eq_left', exists_eq', e1, e2, e3, e4, e5, f2, f3, f4, f5, u2, q1, q2, cd, hL, g1, N11 a1, L11_10 a1, Sum.elim_inl]
        · have g1 : 80 * nI a + nI b = nI (80 * a + b) := by rw [lN80, pk_mul, nI_add]
          rw [e202_23, hk2, Nat.sub_self, nI_0]
          simp +decide only [e202_0, e202_1, e202_4, e202_5, e202_6, e202_7, e202_8, e202_9, e202_11, e202_12, e202_15, e202_18, e202_19, e202_20, e202_21, e202_25, e202_26, e202_29, e202_32, e202_33, e202_34, e202_36, e202_39, e202_40, e202_43, e202_46, e202_47, e202_50, e202_52, e202_53, e202_54, e202_56, e202_57, e202_58, e202_61, e202_64, e202_70, e202_73, e202_75, true_and, and_true, or_true, true_or, if_true, if_false, not_true_eq_false, not_false_eq_true, ne_eq, and_self, Option.toList_some, Option.toList_none, List.cons_append, List.nil_append, catS_0, catS_I, catS_L, catS_R, Option.map_some, Option.map_none, Option.some.injEq, Sum.inl.injEq, exists_eq_left', exists_eq', e1, u3, ml, hL, g1, leI, N12 a1, Sum.elim_inl]
      · obtain ⟨s, s1, s2, s3⟩ := ih (b + 1) (k + 1) (by omega) (by omega)
        refine ⟨s, fun d Q => ?_, fun d Q => ?_, s3⟩
        · have g1 : ¬ nI k = nI I := fun z => hk2 ((nI_eq (by omega) hI).mp z)
          rw [← s1, ← nI_1, ← nI_1, e98_23]
          simp +decide only [e98_0, e98_1, e98_4, e98_5, e98_6, e98_7, e98_8, e98_9, e98_11, e98_12, e98_15, e98_18, e98_19, e98_20, e98_21, e98_25, e98_26, e98_29, e98_32, e98_33, e98_34, e98_37, e98_38, e98_39, e98_40, e98_43, e98_45, e98_46, e98_49, e98_52, e98_55, e98_56, e98_57, e98_60, e98_61, e98_63, e98_64, e98_66, e98_67, e98_68, e98_71, e98_74, e98_80, e98_83, e98_85, true_and, and_true, or_true, true_or, if_true, if_false, not_true_eq_false, not_false_eq_true, ne_eq, and_self, Option.toList_some, Option.toList_none, List.cons_append, List.nil_append, catS_0, catS_I, catS_L, catS_R, Option.map_some, Option.map_none, Option.some.injEq, Sum.inl.injEq, exists_eq_left', exists_eq', e1, e2, e3, e4, e5, f2, f3, f4, f5, u2, q1, q2, cd, hL, g1, N11 a1, L11_10 a1]
        · have g1 : ¬ nI (I - k) = 0 := nI_ne0 (by omega) (by omega)
          have g2 : nI (I - k) + (-1) = nI (I - (k + 1)) := by
            rw [show I - k = (I - (k + 1)) + 1 by omega]
            exact pk_m1 _
          rw [← s2, ← nI_1, e202_23]
          simp +decide only [e202_0, e202_1, e202_4, e202_5, e202_6, e202_7, e202_8, e202_9, e202_11, e202_12, e202_15, e202_18, e202_19, e202_20, e202_21, e202_25, e202_26, e202_29, e202_32, e202_33, e202_34, e202_36, e202_39, e202_40, e202_43, e202_46, e202_47, e202_50, e202_52, e202_53, e202_54, e202_56, e202_57, e202_58, e202_61, e202_64, e202_70, e202_73, e202_75, true_and, and_true, or_true, true_or, if_true, if_false, not_true_eq_false, not_false_eq_true, ne_eq, and_self, Option.toList_some, Option.toList_none, List.cons_append, List.nil_append, catS_0, catS_I, catS_L, catS_R, Option.map_some, Option.map_none, Option.some.injEq, Sum.inl.injEq, exists_eq_left', exists_eq', e1, u3, ml, hL, g1, g2, leI, N12 a1]
theorem db_out (h : Inv h0 n σ) {I : Nat} (hI : I < 2 ^ 31) : ∀ m a k l, a + m = gN σ 8 → k ≤ I → ∃ v : Int32,
    (∀ d Q, Rn (d + 2) Q (98, 10, [some (vR (some (11, 0, 0))), some (vI (nI I)), some (vI (nI k)), some (vI (nI a)), l], [], σ) = Q (some (vI v)) σ) ∧
    (∀ d Q, Rn (d + 2) Q (202, 10, [some (vR (some (12, 0, 0))), some (vI (nI I)), some (vI (nI (I - k))), some (vI (nI a)), l], [], σ) = Q (some (vI v)) σ) := by
  have h' := h
  obtain ⟨a1, a2, a3, a4, a5, a6, a7, a8, a9, a10, a11, a12, a13⟩ := h
  obtain ⟨u1, u2, u3, u4, u5⟩ := a9
  intro m
  induction m with
  | zero =>
    intro a k l ha hk
    have e1 : nI (gN σ 8) ≤ nI a := nI_le (by omega) (by omega)
    refine ⟨-4, fun d Q => ?_, fun d Q => ?_⟩
    · rw [e98_10]
      simp +decide only [e98_0, e98_1, e98_4, e98_5, e98_6, e98_7, e98_8, e98_9, e98_11, e98_12, e98_15, e98_18, e98_19, e98_20, e98_21, e98_25, e98_26, e98_29, e98_32, e98_33, e98_34, e98_37, e98_38, e98_39, e98_40, e98_43, e98_45, e98_46, e98_49, e98_52, e98_55, e98_56, e98_57, e98_60, e98_61, e98_63, e98_64, e98_66, e98_67, e98_68, e98_71, e98_74, e98_77, e98_80, e98_83, e98_85, true_and, and_true, or_true, true_or, if_true, if_false, not_true_eq_false, not_false_eq_true, ne_eq, and_self, Option.toList_some, Option.toList_none, List.cons_append, List.nil_append, catS_0, catS_I, catS_L, catS_R, Option.map_some, Option.map_none, e1, u2, N11 a1]
    · rw [e202_10]
      simp +decide only [e202_0, e202_1, e202_4, e202_5, e202_6, e202_7, e202_8, e202_9, e202_11, e202_12, e202_15, e202_18, e202_19, e202_20, e202_21, e202_25, e202_26, e202_29, e202_32, e202_33, e202_34, e202_36, e202_39, e202_40, e202_43, e202_46, e202_47, e202_50, e202_52, e202_53, e202_54, e202_56, e202_57, e202_58, e202_61, e202_64, e202_67, e202_70, e202_73, e202_75, true_and, and_true, or_true, true_or, if_true, if_false, not_true_eq_false, not_false_eq_true, ne_eq, and_self, Option.toList_some, Option.toList_none, List.cons_append, List.nil_append, catS_0, catS_I, catS_L, catS_R, Option.map_some, Option.map_none, e1, u3, N12 a1]
  | succ m ih =>
    intro a k l ha hk
    have e1 : ¬ nI (gN σ 8) ≤ nI a := nI_ge (by omega) (by omega)
    obtain ⟨s, s1, s2, s3⟩ := db_in h' (I := I) (a := a) (by omega) hI m (a + 1) k (by omega) hk
    cases s with
    | inl v =>
      refine ⟨v, fun d Q => ?_, fun d Q => ?_⟩
      · rw [e98_10]
        simp only [Sum.elim_inl] at s1
        simp +decide only [e98_0, e98_1, e98_4, e98_5, e98_6, e98_7, e98_8, e98_9, e98_11, e98_12, e98_15, e98_18, e98_19, e98_20, e98_21, e98_25, e98_26, e98_29, e98_32, e98_33, e98_34, e98_37, e98_38, e98_39, e98_40, e98_43, e98_45, e98_46, e98_49, e98_52, e98_55, e98_56, e98_57, e98_60, e98_61, e98_63, e98_64, e98_66, e98_67, e98_68, e98_71, e98_74, e98_80, e98_83, e98_85, true_and, and_true, or_true, true_or, if_true, if_false, not_true_eq_false, not_false_eq_true, ne_eq, and_self, Option.toList_some, Option.toList_none, List.cons_append, List.nil_append, catS_0, catS_I, catS_L, catS_R, Option.map_some, Option.map_none, e1, u2, N11 a1, nI_1, s1]
      · rw [e202_10]
        simp only [Sum.elim_inl] at s2
        simp +decide only [e202_0, e202_1, e202_4, e202_5, e202_6, e202_7, e202_8, e202_9, e202_11, e202_12, e202_15, e202_18, e202_19, e202_20, e202_21, e202_25, e202_26, e202_29, e202_32, e202_33, e202_34, e202_36, e202_39, e202_40, e202_43, e202_46, e202_47, e202_50, e202_52, e202_53, e202_54, e202_56, e202_57, e202_58, e202_61, e202_64, e202_70, e202_73, e202_75, true_and, and_true, or_true, true_or, if_true, if_false, not_true_eq_false, not_false_eq_true, ne_eq, and_self, Option.toList_some, Option.toList_none, List.cons_append, List.nil_append, catS_0, catS_I, catS_L, catS_R, Option.map_some, Option.map_none, e1, u3, N12 a1, nI_1, s2]
    | inr k' =>
      obtain ⟨v, v1, v2⟩ := ih (a + 1) k' (some (vI (nI (gN σ 8)))) (by omega) (s3 k' rfl)
      refine ⟨v, fun d Q => ?_, fun d Q => ?_⟩
      · rw [e98_10]
        simp only [Sum.elim_inr] at s1
        simp +decide only [e98_0, e98_1, e98_4, e98_5, e98_6, e98_7, e98_8, e98_9, e98_11, e98_12, e98_15, e98_18, e98_19, e98_20, e98_21, e98_25, e98_26, e98_29, e98_32, e98_33, e98_34, e98_37, e98_38, e98_39, e98_40, e98_43, e98_45, e98_46, e98_49, e98_52, e98_55, e98_56, e98_57, e98_60, e98_61, e98_63, e98_64, e98_66, e98_67, e98_68, e98_71, e98_74, e98_80, e98_83, e98_85, true_and, and_true, or_true, true_or, if_true, if_false, not_true_eq_false, not_false_eq_true, ne_eq, and_self, Option.toList_some, Option.toList_none, List.cons_append, List.nil_append, catS_0, catS_I, catS_L, catS_R, Option.map_some, Option.map_none, e1, u2, N11 a1, nI_1, s1]
        simp +decide only [e98_77, e98_80, nI_1, v1]
      · rw [e202_10]
        simp only [Sum.elim_inr] at s2
        simp +decide only [e202_0, e202_1, e202_4, e202_5, e202_6, e202_7, e202_8, e202_9, e202_11, e202_12, e202_15, e202_18, e202_19, e202_20, e202_21, e202_25, e202_26, e202_29, e202_32, e202_33, e202_34, e202_36, e202_39, e202_40, e202_43, e202_46, e202_47, e202_50, e202_52, e202_53, e202_54, e202_56, e202_57, e202_58, e202_61, e202_64, e202_70, e202_73, e202_75, true_and, and_true, or_true, true_or, if_true, if_false, not_true_eq_false, not_false_eq_true, ne_eq, and_self, Option.toList_some, Option.toList_none, List.cons_append, List.nil_append, catS_0, catS_I, catS_L, catS_R, Option.map_some, Option.map_none, e1, u3, N12 a1, nI_1, s2]
        simp +decide only [e202_67, e202_70, nI_1, v2]
end DBT
theorem T_doubted {h0 n d : Nat} {σ : St} {a : Int32} (h : Inv h0 n σ) : PR h0 n (d + 2) 98 [some (vR (some (11, 0, 0))), some (vI a), none, none, none] 202 [some (vR (some (12, 0, 0))), some (vI a), none, none, none] σ := by
  have hI := h.up
  unfold PR
  by_cases hA : 0 ≤ a.toInt
  · obtain ⟨I, i1, rfl, -⟩ := nI_ex (a := a) (n := 2 ^ 31) ⟨hA, Int32.toInt_lt a⟩
    obtain ⟨v, v1, v2⟩ := db_out h i1 (gN σ 8) 0 0 none (by omega) (by omega)
    rw [nI_0] at v1 v2
    simp +decide only [e98_0, e98_1, e98_4, e98_5, e98_6, e98_7, e98_8, e98_9, e98_11, e98_12, e98_15, e98_18, e98_19, e98_20, e98_21, e98_25, e98_26, e98_29, e98_32, e98_33, e98_34, e98_37, e98_38, e98_39, e98_40, e98_43, e98_45, e98_46, e98_49, e98_52, e98_55, e98_56, e98_57, e98_60, e98_61, e98_63, e98_64, e98_66, e98_67, e98_68, e98_71, e98_74, e98_77, e98_80, e98_83, e98_85, true_and, and_true, or_true, true_or, if_true, if_false, not_true_eq_false, not_false_eq_true, ne_eq, and_self, Option.toList_some, Option.toList_none, List.cons_append, List.nil_append, catS_0, catS_I, catS_L, catS_R, Option.map_some, Option.map_none, ltI, leI, tI_m1000, tI_m20, tI_m14, tI_m13, tI_m12, tI_m11, tI_m4, tI_m3, tI_m2, tI_m1, tI_0, tI_1, tI_2, tI_3, tI_4, tI_5, tI_6, tI_7, tI_8, tI_9, tI_10, tI_11, tI_12, tI_14, tI_15, tI_16, tI_19, tI_20, tI_21, tI_30, tI_31, tI_32, tI_40, tI_60, tI_61, tI_80, tI_90, tI_97, tI_100, tI_101, tI_119, tI_120, tI_121, tI_126, tI_128, tI_255, tI_256, tI_500, tI_512, tI_600, tI_999, tI_1000, tI_3999, tI_4000, tI_4095, tI_4096, tI_99999, tI_100000, tL_0, tL_1, tL_2, tL_3, tL_4, tL_5, tL_7, tL_8, tL_9, tL_15, tL_19, tL_20, tL_32, tL_39, tL_48, tL_57, tL_60, tL_97, tL_100, tL_104, tL_126, tL_255, tL_3999, tL_4095, tL_99999, hA, v1]
    rw [Nat.sub_zero] at v2
    simp +decide only [e202_0, e202_1, e202_4, e202_5, e202_6, e202_7, e202_8, e202_9, e202_11, e202_12, e202_15, e202_18, e202_19, e202_20, e202_21, e202_25, e202_26, e202_29, e202_32, e202_33, e202_34, e202_36, e202_39, e202_40, e202_43, e202_46, e202_47, e202_50, e202_52, e202_53, e202_54, e202_56, e202_57, e202_58, e202_61, e202_64, e202_67, e202_70, e202_73, e202_75, true_and, and_true, or_true, true_or, if_true, if_false, not_true_eq_false, not_false_eq_true, ne_eq, and_self, Option.toList_some, Option.toList_none, List.cons_append, List.nil_append, catS_0, catS_I, catS_L, catS_R, Option.map_some, Option.map_none, Option.some.injEq, Sum.inl.injEq, exists_eq_left', exists_eq', ltI, leI, tI_m1000, tI_m20, tI_m14, tI_m13, tI_m12, tI_m11, tI_m4, tI_m3, tI_m2, tI_m1, tI_0, tI_1, tI_2, tI_3, tI_4, tI_5, tI_6, tI_7, tI_8, tI_9, tI_10, tI_11, tI_12, tI_14, tI_15, tI_16, tI_19, tI_20, tI_21, tI_30, tI_31, tI_32, tI_40, tI_60, tI_61, tI_80, tI_90, tI_97, tI_100, tI_101, tI_119, tI_120, tI_121, tI_126, tI_128, tI_255, tI_256, tI_500, tI_512, tI_600, tI_999, tI_1000, tI_3999, tI_4000, tI_4095, tI_4096, tI_99999, tI_100000, tL_0, tL_1, tL_2, tL_3, tL_4, tL_5, tL_7, tL_8, tL_9, tL_15, tL_19, tL_20, tL_32, tL_39, tL_48, tL_57, tL_60, tL_97, tL_100, tL_104, tL_126, tL_255, tL_3999, tL_4095, tL_99999, hA, v2, hI]
  · have hA2 : a.toInt < 0 := by omega
    simp +decide only [e98_0, e98_1, e98_4, e98_5, e98_6, e98_7, e98_8, e98_9, e98_11, e98_12, e98_15, e98_18, e98_19, e98_20, e98_21, e98_25, e98_26, e98_29, e98_32, e98_33, e98_34, e98_37, e98_38, e98_39, e98_40, e98_43, e98_45, e98_46, e98_49, e98_52, e98_55, e98_56, e98_57, e98_60, e98_61, e98_63, e98_64, e98_66, e98_67, e98_68, e98_71, e98_74, e98_77, e98_80, e98_83, e98_85, true_and, and_true, or_true, true_or, if_true, if_false, not_true_eq_false, not_false_eq_true, ne_eq, and_self, Option.toList_some, Option.toList_none, List.cons_append, List.nil_append, catS_0, catS_I, catS_L, catS_R, Option.map_some, Option.map_none, ltI, leI, tI_m1000, tI_m20, tI_m14, tI_m13, tI_m12, tI_m11, tI_m4, tI_m3, tI_m2, tI_m1, tI_0, tI_1, tI_2, tI_3, tI_4, tI_5, tI_6, tI_7, tI_8, tI_9, tI_10, tI_11, tI_12, tI_14, tI_15, tI_16, tI_19, tI_20, tI_21, tI_30, tI_31, tI_32, tI_40, tI_60, tI_61, tI_80, tI_90, tI_97, tI_100, tI_101, tI_119, tI_120, tI_121, tI_126, tI_128, tI_255, tI_256, tI_500, tI_512, tI_600, tI_999, tI_1000, tI_3999, tI_4000, tI_4095, tI_4096, tI_99999, tI_100000, tL_0, tL_1, tL_2, tL_3, tL_4, tL_5, tL_7, tL_8, tL_9, tL_15, tL_19, tL_20, tL_32, tL_39, tL_48, tL_57, tL_60, tL_97, tL_100, tL_104, tL_126, tL_255, tL_3999, tL_4095, tL_99999, hA, hA2]
    simp +decide only [e202_0, e202_1, e202_4, e202_5, e202_6, e202_7, e202_8, e202_9, e202_11, e202_12, e202_15, e202_18, e202_19, e202_20, e202_21, e202_25, e202_26, e202_29, e202_32, e202_33, e202_34, e202_36, e202_39, e202_40, e202_43, e202_46, e202_47, e202_50, e202_52, e202_53, e202_54, e202_56, e202_57, e202_58, e202_61, e202_64, e202_67, e202_70, e202_73, e202_75, true_and, and_true, or_true, true_or, if_true, if_false, not_true_eq_false, not_false_eq_true, ne_eq, and_self, Option.toList_some, Option.toList_none, List.cons_append, List.nil_append, catS_0, catS_I, catS_L, catS_R, Option.map_some, Option.map_none, Option.some.injEq, Sum.inl.injEq, exists_eq_left', exists_eq', ltI, leI, tI_m1000, tI_m20, tI_m14, tI_m13, tI_m12, tI_m11, tI_m4, tI_m3, tI_m2, tI_m1, tI_0, tI_1, tI_2, tI_3, tI_4, tI_5, tI_6, tI_7, tI_8, tI_9, tI_10, tI_11, tI_12, tI_14, tI_15, tI_16, tI_19, tI_20, tI_21, tI_30, tI_31, tI_32, tI_40, tI_60, tI_61, tI_80, tI_90, tI_97, tI_100, tI_101, tI_119, tI_120, tI_121, tI_126, tI_128, tI_255, tI_256, tI_500, tI_512, tI_600, tI_999, tI_1000, tI_3999, tI_4000, tI_4095, tI_4096, tI_99999, tI_100000, tL_0, tL_1, tL_2, tL_3, tL_4, tL_5, tL_7, tL_8, tL_9, tL_15, tL_19, tL_20, tL_32, tL_39, tL_48, tL_57, tL_60, tL_97, tL_100, tL_104, tL_126, tL_255, tL_3999, tL_4095, tL_99999, hA, hA2, hI]
