/-- how many of the first n choices are alike and not the key's -/
def likN (ra rb kk : Nat → Int32) : Nat → Nat
  | 0 => 0
  | n + 1 => likN ra rb kk n + if ra n = rb n ∧ ¬ ra n = kk n then 1 else 0
theorem likN_y {ra rb kk : Nat → Int32} {n : Nat} (h : ra n = rb n ∧ ¬ ra n = kk n) : likN ra rb kk (n + 1) = likN ra rb kk n + 1 := by
  show likN ra rb kk n + (if ra n = rb n ∧ ¬ ra n = kk n then 1 else 0) = _
  rw [if_pos h]
theorem likN_n {ra rb kk : Nat → Int32} {n : Nat} (h : ¬ (ra n = rb n ∧ ¬ ra n = kk n)) : likN ra rb kk (n + 1) = likN ra rb kk n := by
  show likN ra rb kk n + (if ra n = rb n ∧ ¬ ra n = kk n then 1 else 0) = _
  rw [if_neg h]; rfl
theorem likN_le {ra rb kk : Nat → Int32} : ∀ n, likN ra rb kk n ≤ n := by
  intro n
  induction n with
  | zero => exact Nat.le_refl _
  | succ n ih =>
    show likN ra rb kk n + (if ra n = rb n ∧ ¬ ra n = kk n then 1 else 0) ≤ n + 1
    split <;> omega
section LIK
variable {d : Nat} {Q : Option AV → St → Prop} {σ : St} {x y w : Nat} {ra rb kk : Nat → Int32}
theorem c_lik_l (a1 : SH σ) (hx : x < gN σ 8) (hy : y < gN σ 8) (hw : w < 40) (hN : gI σ 8 1 x = nI w) (h1 : ∀ j, j < 20 → gA σ 8 4 x j = ra j ∧ gA σ 8 4 y j = rb j ∧ gA σ 11 14 0 (20 * w + j) = kk j) : ∀ n m, m + n = 20 → Rn d Q (127, 5, [some (vR (some (11, 0, 0))), some (vR (some (8, 0, x))), some (vR (some (8, 0, y))), some (vI (nI (likN ra rb kk m))), some (vI (nI m))], [], σ) = Q (some (vI (nI (likN ra rb kk 20)))) σ := by
  intro n
  induction n with
  | zero =>
    intro m hm
    have e1 : (20 : Int32) ≤ nI m := nI_le (a := 20) (by omega) (by omega)
    rw [e127_5]
    simp +decide only [e127_0, e127_1, e127_2, e127_3, e127_7, e127_9, e127_12, e127_13, e127_16, e127_18, e127_19, e127_20, e127_23, e127_25, e127_26, e127_29, e127_30, e127_33, e127_35, e127_36, e127_37, e127_40, e127_41, e127_44, e127_46, e127_47, e127_49, e127_50, e127_51, e127_54, e127_57, e127_60, e127_63, e127_64, true_and, and_true, or_true, true_or, if_true, if_false, not_true_eq_false, not_false_eq_true, ne_eq, and_self, Option.toList_some, Option.toList_none, List.cons_append, List.nil_append, catS_0, catS_I, catS_L, catS_R, Option.map_some, Option.map_none, e1]
    rw [show m = 20 by omega]
  | succ n ih =>
    intro m hm
    have e1 : ¬ (20 : Int32) ≤ nI m := nI_ge (b := 20) (by omega) (by omega)
    have e2 : (nI m).toInt = (m : Int) := nI_toInt (by omega)
    have e3 : (0 : Int) ≤ (m : Int) := by omega
    have e4 : (m : Int) < ((20 : Nat) : Int) := by omega
    have e5 : (nI m).toNatClampNeg = m := nI_clamp (by omega)
    have g2 : nI w * 20 + nI m = nI (20 * w + m) := by rw [lN20, pk_mul, nI_add, Nat.mul_comm]
    have g3 : (nI (20 * w + m)).toInt = ((20 * w + m : Nat) : Int) := nI_toInt (by omega)
    have g4 : (nI (20 * w + m)).toNatClampNeg = 20 * w + m := nI_clamp (by omega)
    have g5 : (0 : Int) ≤ ((20 * w + m : Nat) : Int) ∧ ((20 * w + m : Nat) : Int) < ((800 : Nat) : Int) := by omega
    obtain ⟨k1, k2, k3⟩ := h1 m (by omega)
    have t1 := ih (m + 1) (by omega)
    rw [← nI_1] at t1
    rw [e127_5]
    by_cases hv : ra m = rb m
    · by_cases hv2 : ra m = kk m
      · rw [likN_n (fun z => z.2 hv2)] at t1
        have hv3 : rb m = kk m := hv ▸ hv2
        simp +decide only [e127_0, e127_1, e127_2, e127_3, e127_7, e127_9, e127_12, e127_13, e127_16, e127_18, e127_19, e127_20, e127_23, e127_25, e127_26, e127_29, e127_30, e127_33, e127_35, e127_36, e127_37, e127_40, e127_41, e127_44, e127_46, e127_47, e127_49, e127_50, e127_51, e127_54, e127_57, e127_60, e127_63, e127_64, true_and, and_true, or_true, true_or, if_true, if_false, not_true_eq_false, not_false_eq_true, ne_eq, and_self, Option.toList_some, Option.toList_none, List.cons_append, List.nil_append, catS_0, catS_I, catS_L, catS_R, Option.map_some, Option.map_none, Option.some.injEq, Sum.inl.injEq, exists_eq_left', exists_eq', e1, e2, e3, e4, e5, g2, g3, g4, g5, hx, hy, hN, k1, k2, k3, hv, hv3, N11 a1, L11_14 a1, L8_4 a1 hx, L8_4 a1 hy]
        exact t1
      · rw [likN_y ⟨hv, hv2⟩, ← nI_1] at t1
        have hv3 : ¬ rb m = kk m := hv ▸ hv2
        simp +decide only [e127_0, e127_1, e127_2, e127_3, e127_7, e127_9, e127_12, e127_13, e127_16, e127_18, e127_19, e127_20, e127_23, e127_25, e127_26, e127_29, e127_30, e127_33, e127_35, e127_36, e127_37, e127_40, e127_41, e127_44, e127_46, e127_47, e127_49, e127_50, e127_51, e127_54, e127_57, e127_60, e127_63, e127_64, true_and, and_true, or_true, true_or, if_true, if_false, not_true_eq_false, not_false_eq_true, ne_eq, and_self, Option.toList_some, Option.toList_none, List.cons_append, List.nil_append, catS_0, catS_I, catS_L, catS_R, Option.map_some, Option.map_none, Option.some.injEq, Sum.inl.injEq, exists_eq_left', exists_eq', e1, e2, e3, e4, e5, g2, g3, g4, g5, hx, hy, hN, k1, k2, k3, hv, hv3, N11 a1, L11_14 a1, L8_4 a1 hx, L8_4 a1 hy]
        exact t1
    · rw [likN_n (fun z => hv z.1)] at t1
      simp +decide only [e127_0, e127_1, e127_2, e127_3, e127_7, e127_9, e127_12, e127_13, e127_16, e127_18, e127_19, e127_20, e127_23, e127_25, e127_26, e127_29, e127_30, e127_33, e127_35, e127_36, e127_37, e127_40, e127_41, e127_44, e127_46, e127_47, e127_49, e127_50, e127_51, e127_54, e127_57, e127_60, e127_63, e127_64, true_and, and_true, or_true, true_or, if_true, if_false, not_true_eq_false, not_false_eq_true, ne_eq, and_self, Option.toList_some, Option.toList_none, List.cons_append, List.nil_append, catS_0, catS_I, catS_L, catS_R, Option.map_some, Option.map_none, Option.some.injEq, Sum.inl.injEq, exists_eq_left', exists_eq', e1, e2, e3, e4, e5, g2, g3, g4, g5, hx, hy, hN, k1, k2, k3, hv, N11 a1, L11_14 a1, L8_4 a1 hx, L8_4 a1 hy]
      exact t1
theorem m_lik_l (a1 : SH σ) (hx : x < 80) (hy : y < 80) (hw : w < 40) (hN : gA σ 12 41 0 x = nI w) (h1 : ∀ j, j < 20 → gA σ 12 53 0 (20 * x + j) = ra j ∧ gA σ 12 53 0 (20 * y + j) = rb j ∧ gA σ 12 68 0 (20 * w + j) = kk j) : ∀ n m l, m + n = 20 → Rn d Q (199, 57, [some (vR (some (12, 0, 0))), some (vI (nI x)), some (vI (nI y)), some (vI (nI (likN ra rb kk m))), some (vI (nI m)), l], [], σ) = Q (some (vI (nI (likN ra rb kk 20)))) σ := by
  intro n
  induction n with
  | zero =>
    intro m l hm
    have e1 : (20 : Int32) ≤ nI m := nI_le (a := 20) (by omega) (by omega)
    rw [e199_57]
    simp +decide only [e199_0, e199_1, e199_2, e199_5, e199_8, e199_9, e199_10, e199_13, e199_16, e199_18, e199_19, e199_20, e199_23, e199_24, e199_25, e199_26, e199_29, e199_30, e199_31, e199_34, e199_35, e199_38, e199_39, e199_40, e199_41, e199_44, e199_45, e199_46, e199_49, e199_51, e199_52, e199_53, e199_54, e199_55, e199_59, e199_61, e199_64, e199_65, e199_68, e199_70, e199_71, e199_72, e199_74, e199_75, e199_76, e199_78, e199_79, e199_81, e199_82, e199_85, e199_87, e199_88, e199_89, e199_91, e199_92, e199_93, e199_96, e199_98, e199_99, e199_102, e199_104, e199_105, e199_108, e199_109, e199_110, e199_111, e199_113, e199_114, e199_115, e199_118, e199_119, e199_122, e199_123, e199_124, e199_125, e199_128, e199_131, e199_132, true_and, and_true, or_true, true_or, if_true, if_false, not_true_eq_false, not_false_eq_true, ne_eq, and_self, Option.toList_some, Option.toList_none, List.cons_append, List.nil_append, catS_0, catS_I, catS_L, catS_R, Option.map_some, Option.map_none, e1]
    rw [show m = 20 by omega]
  | succ n ih =>
    intro m l hm
    have e1 : ¬ (20 : Int32) ≤ nI m := nI_ge (b := 20) (by omega) (by omega)
    have e2 : (nI x).toInt = (x : Int) := nI_toInt (by omega)
    have e3 : (0 : Int) ≤ (x : Int) := by omega
    have e4 : (x : Int) < ((80 : Nat) : Int) := by omega
    have e5 : (nI x).toNatClampNeg = x := nI_clamp (by omega)
    have g2 : 20 * nI w + nI m = nI (20 * w + m) := by rw [lN20, pk_mul, nI_add]
    have g3 : (nI (20 * w + m)).toInt = ((20 * w + m : Nat) : Int) := nI_toInt (by omega)
    have g4 : (nI (20 * w + m)).toNatClampNeg = 20 * w + m := nI_clamp (by omega)
    have g5 : (0 : Int) ≤ ((20 * w + m : Nat) : Int) ∧ ((20 * w + m : Nat) : Int) < ((800 : Nat) : Int) := by omega
    have x2 : 20 * nI x + nI m = nI (20 * x + m) := by rw [lN20, pk_mul, nI_add]
    have x3 : (nI (20 * x + m)).toInt = ((20 * x + m : Nat) : Int) := nI_toInt (by omega)
    have x4 : (nI (20 * x + m)).toNatClampNeg = 20 * x + m := nI_clamp (by omega)
    have x5 : (0 : Int) ≤ ((20 * x + m : Nat) : Int) ∧ ((20 * x + m : Nat) : Int) < ((1600 : Nat) : Int) := by omega
    have y2 : 20 * nI y + nI m = nI (20 * y + m) := by rw [lN20, pk_mul, nI_add]
    have y3 : (nI (20 * y + m)).toInt = ((20 * y + m : Nat) : Int) := nI_toInt (by omega)
    have y4 : (nI (20 * y + m)).toNatClampNeg = 20 * y + m := nI_clamp (by omega)
    have y5 : (0 : Int) ≤ ((20 * y + m : Nat) : Int) ∧ ((20 * y + m : Nat) : Int) < ((1600 : Nat) : Int) := by omega
    obtain ⟨k1, k2, k3⟩ := h1 m (by omega)
    have t1 := ih (m + 1) (some (vI (ra m))) (by omega)
    rw [← nI_1] at t1
    rw [e199_57]
    by_cases hv : ra m = rb m
    · by_cases hv2 : ra m = kk m
      · rw [likN_n (fun z => z.2 hv2)] at t1
        rw [hv] at t1
        have hv3 : rb m = kk m := hv ▸ hv2
        simp +decide only [e199_0, e199_1, e199_2, e199_5, e199_8, e199_9, e199_10, e199_13, e199_16, e199_18, e199_19, e199_20, e199_23, e199_24, e199_25, e199_26, e199_29, e199_30, e199_31, e199_34, e199_35, e199_38, e199_39, e199_40, e199_41, e199_44, e199_45, e199_46, e199_49, e199_51, e199_52, e199_53, e199_54, e199_55, e199_59, e199_61, e199_64, e199_65, e199_68, e199_70, e199_71, e199_72, e199_74, e199_75, e199_76, e199_78, e199_79, e199_81, e199_82, e199_85, e199_87, e199_88, e199_89, e199_91, e199_92, e199_93, e199_96, e199_98, e199_99, e199_102, e199_104, e199_105, e199_108, e199_109, e199_110, e199_111, e199_113, e199_114, e199_115, e199_118, e199_119, e199_122, e199_123, e199_124, e199_125, e199_128, e199_131, e199_132, true_and, and_true, or_true, true_or, if_true, if_false, not_true_eq_false, not_false_eq_true, ne_eq, and_self, Option.toList_some, Option.toList_none, List.cons_append, List.nil_append, catS_0, catS_I, catS_L, catS_R, Option.map_some, Option.map_none, Option.some.injEq, Sum.inl.injEq, exists_eq_left', exists_eq', e1, e2, e3, e4, e5, g2, g3, g4, g5, x2, x3, x4, x5, y2, y3, y4, y5, hN, k1, k2, k3, hv, hv3, N12 a1, L12_53 a1, L12_68 a1, L12_41 a1, Int32.add_zero]
        rw [← hv3]; exact t1
      · rw [likN_y ⟨hv, hv2⟩, ← nI_1] at t1
        rw [hv] at t1
        have hv3 : ¬ rb m = kk m := hv ▸ hv2
        simp +decide only [e199_0, e199_1, e199_2, e199_5, e199_8, e199_9, e199_10, e199_13, e199_16, e199_18, e199_19, e199_20, e199_23, e199_24, e199_25, e199_26, e199_29, e199_30, e199_31, e199_34, e199_35, e199_38, e199_39, e199_40, e199_41, e199_44, e199_45, e199_46, e199_49, e199_51, e199_52, e199_53, e199_54, e199_55, e199_59, e199_61, e199_64, e199_65, e199_68, e199_70, e199_71, e199_72, e199_74, e199_75, e199_76, e199_78, e199_79, e199_81, e199_82, e199_85, e199_87, e199_88, e199_89, e199_91, e199_92, e199_93, e199_96, e199_98, e199_99, e199_102, e199_104, e199_105, e199_108, e199_109, e199_110, e199_111, e199_113, e199_114, e199_115, e199_118, e199_119, e199_122, e199_123, e199_124, e199_125, e199_128, e199_131, e199_132, true_and, and_true, or_true, true_or, if_true, if_false, not_true_eq_false, not_false_eq_true, ne_eq, and_self, Option.toList_some, Option.toList_none, List.cons_append, List.nil_append, catS_0, catS_I, catS_L, catS_R, Option.map_some, Option.map_none, Option.some.injEq, Sum.inl.injEq, exists_eq_left', exists_eq', e1, e2, e3, e4, e5, g2, g3, g4, g5, x2, x3, x4, x5, y2, y3, y4, y5, hN, k1, k2, k3, hv, hv3, N12 a1, L12_53 a1, L12_68 a1, L12_41 a1]
        exact t1
    · rw [likN_n (fun z => hv z.1)] at t1
      simp +decide only [e199_0, e199_1, e199_2, e199_5, e199_8, e199_9, e199_10, e199_13, e199_16, e199_18, e199_19, e199_20, e199_23, e199_24, e199_25, e199_26, e199_29, e199_30, e199_31, e199_34, e199_35, e199_38, e199_39, e199_40, e199_41, e199_44, e199_45, e199_46, e199_49, e199_51, e199_52, e199_53, e199_54, e199_55, e199_59, e199_61, e199_64, e199_65, e199_68, e199_70, e199_71, e199_72, e199_74, e199_75, e199_76, e199_78, e199_79, e199_81, e199_82, e199_85, e199_87, e199_88, e199_89, e199_91, e199_92, e199_93, e199_96, e199_98, e199_99, e199_102, e199_104, e199_105, e199_108, e199_109, e199_110, e199_111, e199_113, e199_114, e199_115, e199_118, e199_119, e199_122, e199_123, e199_124, e199_125, e199_128, e199_131, e199_132, true_and, and_true, or_true, true_or, if_true, if_false, not_true_eq_false, not_false_eq_true, ne_eq, and_self, Option.toList_some, Option.toList_none, List.cons_append, List.nil_append, catS_0, catS_I, catS_L, catS_R, Option.map_some, Option.map_none, Option.some.injEq, Sum.inl.injEq, exists_eq_left', exists_eq', e1, e2, e3, e4, e5, g2, g3, g4, g5, x2, x3, x4, x5, y2, y3, y4, y5, hN, k1, k2, k3, hv, N12 a1, L12_53 a1, L12_68 a1, L12_41 a1, Int32.add_zero]
      exact t1
/-- how alike two things are, by the reference's columns -/
def lk (kd wh na rw ke : Nat → Int32) (x y : Nat) : Int32 := if (kd x = 1 ∨ kd x = 2 ∨ kd x = 3) ∧ (kd y = 1 ∨ kd y = 2 ∨ kd y = 3) then (if na x = na y ∧ ¬ wh x = wh y then nI (likN (fun j => rw (20 * x + j)) (fun j => rw (20 * y + j)) (fun j => ke (20 * (na x).toNatClampNeg + j)) 20) else -2) else -12
theorem m_likeOf (a1 : SH σ) (hx : x < 80) (hy : y < 80) (hN : 0 ≤ (gA σ 12 41 0 x).toInt ∧ (gA σ 12 41 0 x).toInt < 40) : Rn (d + 1) Q (199, 0, [some (vR (some (12, 0, 0))), some (vI (nI x)), some (vI (nI y)), none, none, none], [], σ) = Q (some (vI (lk (gA σ 12 39 0) (gA σ 12 40 0) (gA σ 12 41 0) (gA σ 12 53 0) (gA σ 12 68 0) x y))) σ := by
  have e2 : (nI x).toInt = (x : Int) := nI_toInt (by omega)
  have e3 : (0 : Int) ≤ (x : Int) := by omega
  have e4 : (x : Int) < ((80 : Nat) : Int) := by omega
  have e5 : (nI x).toNatClampNeg = x := nI_clamp (by omega)
  have f2 : (nI y).toInt = (y : Int) := nI_toInt (by omega)
  have f3 : (0 : Int) ≤ (y : Int) := by omega
  have f4 : (y : Int) < ((80 : Nat) : Int) := by omega
  have f5 : (nI y).toNatClampNeg = y := nI_clamp (by omega)
  have m1 := fun {d : Nat} {Q : Option AV → St → Prop} => m_isAnswer (d := d) (Q := Q) a1 hx
  have m2 := fun {d : Nat} {Q : Option AV → St → Prop} => m_isAnswer (d := d) (Q := Q) a1 hy
  obtain ⟨w, hw, hw2, hw3⟩ := nI_ex (n := 40) hN
  have ml := fun {d : Nat} {Q : Option AV → St → Prop} {l : Option AV} => m_lik_l (d := d) (Q := Q) (ra := fun j => gA σ 12 53 0 (20 * x + j)) (rb := fun j => gA σ 12 53 0 (20 * y + j)) (kk := fun j => gA σ 12 68 0 (20 * w + j)) a1 hx hy hw hw2 (fun j hj => ⟨rfl, rfl, rfl⟩) 20 0 l rfl
  have z0 : nI (likN (fun j => gA σ 12 53 0 (20 * x + j)) (fun j => gA σ 12 53 0 (20 * y + j)) (fun j => gA σ 12 68 0 (20 * w + j)) 0) = 0 := rfl
  simp only [z0, nI_0] at ml
  unfold lk
  by_cases h1 : gA σ 12 39 0 x = 1 ∨ gA σ 12 39 0 x = 2 ∨ gA σ 12 39 0 x = 3
  · by_cases h2 : gA σ 12 39 0 y = 1 ∨ gA σ 12 39 0 y = 2 ∨ gA σ 12 39 0 y = 3
    · rw [if_pos ⟨h1, h2⟩, hw3]
      by_cases h3 : gA σ 12 41 0 x = gA σ 12 41 0 y
      · by_cases h4 : gA σ 12 40 0 x = gA σ 12 40 0 y
        · rw [if_neg (fun z => z.2 h4)]
          simp +decide only [e199_0, e199_1, e199_2, e199_5, e199_8, e199_9, e199_10, e199_13, e199_16, e199_18, e199_19, e199_20, e199_23, e199_24, e199_25, e199_26, e199_29, e199_30, e199_31, e199_34, e199_35, e199_38, e199_39, e199_40, e199_41, e199_44, e199_45, e199_46, e199_49, e199_51, e199_52, e199_53, e199_54, e199_55, e199_59, e199_61, e199_64, e199_65, e199_68, e199_70, e199_71, e199_72, e199_74, e199_75, e199_76, e199_78, e199_79, e199_81, e199_82, e199_85, e199_87, e199_88, e199_89, e199_91, e199_92, e199_93, e199_96, e199_98, e199_99, e199_102, e199_104, e199_105, e199_108, e199_109, e199_110, e199_111, e199_113, e199_114, e199_115, e199_118, e199_119, e199_122, e199_123, e199_124, e199_125, e199_128, e199_131, e199_132, true_and, and_true, or_true, true_or, if_true, if_false, not_true_eq_false, not_false_eq_true, ne_eq, and_self, Option.toList_some, Option.toList_none, List.cons_append, List.nil_append, catS_0, catS_I, catS_L, catS_R, Option.map_some, Option.map_none, Option.some.injEq, Sum.inl.injEq, exists_eq_left', exists_eq', m1, m2, h1, h2, e2, e3, e4, e5, f2, f3, f4, f5, h3, h4, N12 a1, L12_41 a1, L12_40 a1]
        · rw [if_pos ⟨h3, h4⟩]
          simp +decide only [e199_0, e199_1, e199_2, e199_5, e199_8, e199_9, e199_10, e199_13, e199_16, e199_18, e199_19, e199_20, e199_23, e199_24, e199_25, e199_26, e199_29, e199_30, e199_31, e199_34, e199_35, e199_38, e199_39, e199_40, e199_41, e199_44, e199_45, e199_46, e199_49, e199_51, e199_52, e199_53, e199_54, e199_55, e199_59, e199_61, e199_64, e199_65, e199_68, e199_70, e199_71, e199_72, e199_74, e199_75, e199_76, e199_78, e199_79, e199_81, e199_82, e199_85, e199_87, e199_88, e199_89, e199_91, e199_92, e199_93, e199_96, e199_98, e199_99, e199_102, e199_104, e199_105, e199_108, e199_109, e199_110, e199_111, e199_113, e199_114, e199_115, e199_118, e199_119, e199_122, e199_123, e199_124, e199_125, e199_128, e199_131, e199_132, true_and, and_true, or_true, true_or, if_true, if_false, not_true_eq_false, not_false_eq_true, ne_eq, and_self, Option.toList_some, Option.toList_none, List.cons_append, List.nil_append, catS_0, catS_I, catS_L, catS_R, Option.map_some, Option.map_none, Option.some.injEq, Sum.inl.injEq, exists_eq_left', exists_eq', m1, m2, h1, h2, e2, e3, e4, e5, f2, f3, f4, f5, h3, h4, N12 a1, L12_41 a1, L12_40 a1, ml]
      · rw [if_neg (fun z => h3 z.1)]
        simp +decide only [e199_0, e199_1, e199_2, e199_5, e199_8, e199_9, e199_10, e199_13, e199_16, e199_18, e199_19, e199_20, e199_23, e199_24, e199_25, e199_26, e199_29, e199_30, e199_31, e199_34, e199_35, e199_38, e199_39, e199_40, e199_41, e199_44, e199_45, e199_46, e199_49, e199_51, e199_52, e199_53, e199_54, e199_55, e199_59, e199_61, e199_64, e199_65, e199_68, e199_70, e199_71, e199_72, e199_74, e199_75, e199_76, e199_78, e199_79, e199_81, e199_82, e199_85, e199_87, e199_88, e199_89, e199_91, e199_92, e199_93, e199_96, e199_98, e199_99, e199_102, e199_104, e199_105, e199_108, e199_109, e199_110, e199_111, e199_113, e199_114, e199_115, e199_118, e199_119, e199_122, e199_123, e199_124, e199_125, e199_128, e199_131, e199_132, true_and, and_true, or_true, true_or, if_true, if_false, not_true_eq_false, not_false_eq_true, ne_eq, and_self, Option.toList_some, Option.toList_none, List.cons_append, List.nil_append, catS_0, catS_I, catS_L, catS_R, Option.map_some, Option.map_none, Option.some.injEq, Sum.inl.injEq, exists_eq_left', exists_eq', m1, m2, h1, h2, e2, e3, e4, e5, f2, f3, f4, f5, h3, N12 a1, L12_41 a1]
    · rw [if_neg (fun z => h2 z.2)]
      simp +decide only [e199_0, e199_1, e199_2, e199_5, e199_8, e199_9, e199_10, e199_13, e199_16, e199_18, e199_19, e199_20, e199_23, e199_24, e199_25, e199_26, e199_29, e199_30, e199_31, e199_34, e199_35, e199_38, e199_39, e199_40, e199_41, e199_44, e199_45, e199_46, e199_49, e199_51, e199_52, e199_53, e199_54, e199_55, e199_59, e199_61, e199_64, e199_65, e199_68, e199_70, e199_71, e199_72, e199_74, e199_75, e199_76, e199_78, e199_79, e199_81, e199_82, e199_85, e199_87, e199_88, e199_89, e199_91, e199_92, e199_93, e199_96, e199_98, e199_99, e199_102, e199_104, e199_105, e199_108, e199_109, e199_110, e199_111, e199_113, e199_114, e199_115, e199_118, e199_119, e199_122, e199_123, e199_124, e199_125, e199_128, e199_131, e199_132, true_and, and_true, or_true, true_or, if_true, if_false, not_true_eq_false, not_false_eq_true, ne_eq, and_self, Option.toList_some, Option.toList_none, List.cons_append, List.nil_append, catS_0, catS_I, catS_L, catS_R, Option.map_some, Option.map_none, Option.some.injEq, Sum.inl.injEq, exists_eq_left', exists_eq', m1, m2, h1, h2, N12 a1]
  · rw [if_neg (fun z => h1 z.1)]
    simp +decide only [e199_0, e199_1, e199_2, e199_5, e199_8, e199_9, e199_10, e199_13, e199_16, e199_18, e199_19, e199_20, e199_23, e199_24, e199_25, e199_26, e199_29, e199_30, e199_31, e199_34, e199_35, e199_38, e199_39, e199_40, e199_41, e199_44, e199_45, e199_46, e199_49, e199_51, e199_52, e199_53, e199_54, e199_55, e199_59, e199_61, e199_64, e199_65, e199_68, e199_70, e199_71, e199_72, e199_74, e199_75, e199_76, e199_78, e199_79, e199_81, e199_82, e199_85, e199_87, e199_88, e199_89, e199_91, e199_92, e199_93, e199_96, e199_98, e199_99, e199_102, e199_104, e199_105, e199_108, e199_109, e199_110, e199_111, e199_113, e199_114, e199_115, e199_118, e199_119, e199_122, e199_123, e199_124, e199_125, e199_128, e199_131, e199_132, true_and, and_true, or_true, true_or, if_true, if_false, not_true_eq_false, not_false_eq_true, ne_eq, and_self, Option.toList_some, Option.toList_none, List.cons_append, List.nil_append, catS_0, catS_I, catS_L, catS_R, Option.map_some, Option.map_none, Option.some.injEq, Sum.inl.injEq, exists_eq_left', exists_eq', m1, h1, N12 a1]
end LIK
section LIK2
variable {d h0 n : Nat} {Q : Option AV → St → Prop} {σ : St} {x y : Nat}
theorem c_comp (hx : x < gN σ 8) (hy : y < gN σ 8) : Rn d Q (126, 0, [some (vR (some (8, 0, x))), some (vR (some (8, 0, y)))], [], σ) = if gI σ 8 1 x = gI σ 8 1 y ∧ ¬ gI σ 8 0 x = gI σ 8 0 y then Q (some (vI 1)) σ else Q (some (vI 0)) σ := by
  by_cases h1 : gI σ 8 1 x = gI σ 8 1 y
  · by_cases h2 : gI σ 8 0 x = gI σ 8 0 y
    · simp +decide only [e126_0, e126_1, e126_4, e126_5, e126_8, e126_11, e126_12, e126_15, e126_16, e126_19, e126_22, e126_23, e126_26, e126_27, true_and, and_true, or_true, true_or, if_true, if_false, not_true_eq_false, not_false_eq_true, ne_eq, and_self, Option.toList_some, Option.toList_none, List.cons_append, List.nil_append, catS_0, catS_I, catS_L, catS_R, Option.map_some, Option.map_none, hx, hy, h1, h2]
    · simp +decide only [e126_0, e126_1, e126_4, e126_5, e126_8, e126_11, e126_12, e126_15, e126_16, e126_19, e126_22, e126_23, e126_26, e126_27, true_and, and_true, or_true, true_or, if_true, if_false, not_true_eq_false, not_false_eq_true, ne_eq, and_self, Option.toList_some, Option.toList_none, List.cons_append, List.nil_append, catS_0, catS_I, catS_L, catS_R, Option.map_some, Option.map_none, hx, hy, h1, h2]
  · simp +decide only [e126_0, e126_1, e126_4, e126_5, e126_8, e126_11, e126_12, e126_15, e126_16, e126_19, e126_22, e126_23, e126_26, e126_27, true_and, and_true, or_true, true_or, if_true, if_false, not_true_eq_false, not_false_eq_true, ne_eq, and_self, Option.toList_some, Option.toList_none, List.cons_append, List.nil_append, catS_0, catS_I, catS_L, catS_R, Option.map_some, Option.map_none, hx, hy, h1, false_and]
theorem c_likeness (h : Inv h0 n σ) (hx : x < gN σ 8) (hy : y < gN σ 8) : Rn d Q (127, 0, [some (vR (some (11, 0, 0))), some (vR (some (8, 0, x))), some (vR (some (8, 0, y))), none, none], [], σ) = Q (some (vI (nI (likN (fun j => gA σ 12 53 0 (20 * x + j)) (fun j => gA σ 12 53 0 (20 * y + j)) (fun j => gA σ 12 68 0 (20 * (gA σ 12 41 0 x).toNatClampNeg + j)) 20)))) σ := by
  obtain ⟨a1, a2, a3, a4, a5, a6, a7, a8, a9, a10, a11, a12, a13⟩ := h
  obtain ⟨u1, u2, u3, u4, u5⟩ := a9
  obtain ⟨-, -, -, w2, w2r, -, -, -, -, -, -, -, -, -, -, -, -, -, -, -, -, -, w15⟩ := u4 x hx
  obtain ⟨-, -, -, -, -, -, -, -, -, -, -, -, -, -, -, -, -, -, -, -, -, -, v15⟩ := u4 y hy
  obtain ⟨w, hw, hw2, hw3⟩ := nI_ex (n := 40) w2r
  have cl := fun {d : Nat} {Q : Option AV → St → Prop} => c_lik_l (d := d) (Q := Q) (ra := fun j => gA σ 12 53 0 (20 * x + j)) (rb := fun j => gA σ 12 53 0 (20 * y + j)) (kk := fun j => gA σ 12 68 0 (20 * w + j)) a1 hx hy hw (w2.trans hw2) (fun j hj => ⟨(w15 j hj).1, (v15 j hj).1, (a3.2.2 (20 * w + j) (by omega)).1⟩) 20 0 rfl
  have z0 : nI (likN (fun j => gA σ 12 53 0 (20 * x + j)) (fun j => gA σ 12 53 0 (20 * y + j)) (fun j => gA σ 12 68 0 (20 * w + j)) 0) = 0 := rfl
  simp only [z0, nI_0] at cl
  rw [hw3]
  simp +decide only [e127_0, e127_1, e127_2, e127_3, e127_7, e127_9, e127_12, e127_13, e127_16, e127_18, e127_19, e127_20, e127_23, e127_25, e127_26, e127_29, e127_30, e127_33, e127_35, e127_36, e127_37, e127_40, e127_41, e127_44, e127_46, e127_47, e127_49, e127_50, e127_51, e127_54, e127_57, e127_60, e127_63, e127_64, cl]
end LIK2
theorem T_like {h0 n d : Nat} {σ : St} {a b : Int32} (h : Inv h0 n σ) : PR h0 n (d + 3) 96 [some (vR (some (11, 0, 0))), some (vI a), some (vI b), none, none] 200 [some (vR (some (12, 0, 0))), some (vI a), some (vI b)] σ := by
  have hI := h.up
  have h' := h
  obtain ⟨a1, a2, a3, a4, a5, a6, a7, a8, a9, a10, a11, a12, a13⟩ := h
  obtain ⟨u1, u2, u3, u4, u5⟩ := a9
  have ct := fun {d : Nat} {Q : Option AV → St → Prop} {a : Int32} => c_thingAt (d := d) (Q := Q) (a := a) a1 u2 u1 (fun p hp => (u4 p hp).1)
  have mt := fun {d : Nat} {Q : Option AV → St → Prop} {a : Int32} => m_isThing (d := d) (Q := Q) (a := a) a1 u3 (by omega)
  unfold PR
  by_cases hA : 0 ≤ a.toInt ∧ a.toInt < (gN σ 8 : Int)
  · obtain ⟨x, hx, rfl, e4⟩ := nI_ex hA
    have e3 : (nI x).toInt = (x : Int) := nI_toInt (by omega)
    have hx0 : (0 : Int) ≤ (x : Int) := by omega
    have hx1 : (x : Int) < (gN σ 8 : Int) := by omega
    by_cases hB : 0 ≤ b.toInt ∧ b.toInt < (gN σ 8 : Int)
    · obtain ⟨y, hy, rfl, f4⟩ := nI_ex hB
      have f3 : (nI y).toInt = (y : Int) := nI_toInt (by omega)
      have hy0 : (0 : Int) ≤ (y : Int) := by omega
      have hy1 : (y : Int) < (gN σ 8 : Int) := by omega
      obtain ⟨-, w1, -, w2, w2r, -, -, w5, -, -, -, -, -, -, -, -, -, -, -, -, -, -, w15⟩ := u4 x hx
      obtain ⟨-, v1, -, v2, v2r, -, -, v5, -, -, -, -, -, -, -, -, -, -, -, -, -, -, v15⟩ := u4 y hy
      by_cases hE : nI x = nI y
      · have hE2 : (x : Int) = (y : Int) := by rw [← e3, ← f3, hE]
        simp +decide only [e96_0, e96_1, e96_2, e96_5, e96_6, e96_7, e96_8, e96_11, e96_13, e96_14N, e96_14S, e96_17, e96_19N, e96_19S, e96_22, e96_23, e96_24, e96_27, e96_28, e96_29, e96_30, e96_33, e96_36, e96_38, e96_41, e96_44, e96_46, e96_47, e96_48, e96_50, e96_53, e96_56, e96_57, e96_58, e96_60, e96_63, e96_66, e96_68, true_and, and_true, or_true, true_or, if_true, if_false, not_true_eq_false, not_false_eq_true, ne_eq, and_self, Option.toList_some, Option.toList_none, List.cons_append, List.nil_append, catS_0, catS_I, catS_L, catS_R, Option.map_some, Option.map_none, Option.some.injEq, Sum.inl.injEq, exists_eq_left', exists_eq', ct, hE, f3, f4, hy0, hy1, N11 a1]
        simp +decide only [e200_0, e200_1, e200_2, e200_5, e200_8, e200_9, e200_10, e200_13, e200_16, e200_17, e200_18, e200_21, e200_22, e200_23, e200_24, e200_27, e200_30, e200_31, true_and, and_true, or_true, true_or, if_true, if_false, not_true_eq_false, not_false_eq_true, ne_eq, and_self, Option.toList_some, Option.toList_none, List.cons_append, List.nil_append, catS_0, catS_I, catS_L, catS_R, Option.map_some, Option.map_none, Option.some.injEq, Sum.inl.injEq, exists_eq_left', exists_eq', mt, hE, f3, f4, hy0, hy1, N12 a1, hI]
      · have ca := fun {d : Nat} {Q : Option AV → St → Prop} => c_isAnswer (d := d) (Q := Q) hx
        have cb := fun {d : Nat} {Q : Option AV → St → Prop} => c_isAnswer (d := d) (Q := Q) hy
        have cc := fun {d : Nat} {Q : Option AV → St → Prop} => c_comp (d := d) (Q := Q) hx hy
        have cl := fun {d : Nat} {Q : Option AV → St → Prop} => c_likeness (d := d) (Q := Q) h' hx hy
        have ml := fun {d : Nat} {Q : Option AV → St → Prop} => m_likeOf (d := d) (Q := Q) a1 (show x < 80 by omega) (show y < 80 by omega) w2r
        have fin : ∀ v, v = lk (gA σ 12 39 0) (gA σ 12 40 0) (gA σ 12 41 0) (gA σ 12 53 0) (gA σ 12 68 0) x y → Rn (d + 3) (fun r' σ2 => r' = some (vI v) ∧ Inv h0 (n + 1) σ2) (200, 0, [some (vR (some (12, 0, 0))), some (vI (nI x)), some (vI (nI y))], [], σ) := by
          intro v hv
          simp +decide only [e200_0, e200_1, e200_2, e200_5, e200_8, e200_9, e200_10, e200_13, e200_16, e200_17, e200_18, e200_21, e200_22, e200_23, e200_24, e200_27, e200_30, e200_31, true_and, and_true, or_true, true_or, if_true, if_false, not_true_eq_false, not_false_eq_true, ne_eq, and_self, Option.toList_some, Option.toList_none, List.cons_append, List.nil_append, catS_0, catS_I, catS_L, catS_R, Option.map_some, Option.map_none, Option.some.injEq, Sum.inl.injEq, exists_eq_left', exists_eq', mt, ml, hE, e3, e4, hx0, hx1, f3, f4, hy0, hy1, N12 a1, hI]
          rw [hv]
        unfold lk at fin
        by_cases hK : gA σ 12 39 0 x = 1 ∨ gA σ 12 39 0 x = 2 ∨ gA σ 12 39 0 x = 3
        · by_cases hK2 : gA σ 12 39 0 y = 1 ∨ gA σ 12 39 0 y = 2 ∨ gA σ 12 39 0 y = 3
          · rw [if_pos ⟨hK, hK2⟩] at fin
            by_cases hC : gA σ 12 41 0 x = gA σ 12 41 0 y ∧ ¬ gA σ 12 40 0 x = gA σ 12 40 0 y
            · rw [if_pos hC] at fin
              simp +decide only [e96_0, e96_1, e96_2, e96_5, e96_6, e96_7, e96_8, e96_11, e96_13, e96_14N, e96_14S, e96_17, e96_19N, e96_19S, e96_22, e96_23, e96_24, e96_27, e96_28, e96_29, e96_30, e96_33, e96_36, e96_38, e96_41, e96_44, e96_46, e96_47, e96_48, e96_50, e96_53, e96_56, e96_57, e96_58, e96_60, e96_63, e96_66, e96_68, true_and, and_true, or_true, true_or, if_true, if_false, not_true_eq_false, not_false_eq_true, ne_eq, and_self, Option.toList_some, Option.toList_none, List.cons_append, List.nil_append, catS_0, catS_I, catS_L, catS_R, Option.map_some, Option.map_none, Option.some.injEq, Sum.inl.injEq, exists_eq_left', exists_eq', ct, ca, cb, cc, cl, w5, v5, w2, v2, w1, v1, hK, hK2, hC, hE, hx, hy, e3, e4, hx0, hx1, f3, f4, hy0, hy1, N11 a1]
              exact fin _ (by rw [hC.1])
            · rw [if_neg hC] at fin
              simp +decide only [e96_0, e96_1, e96_2, e96_5, e96_6, e96_7, e96_8, e96_11, e96_13, e96_14N, e96_14S, e96_17, e96_19N, e96_19S, e96_22, e96_23, e96_24, e96_27, e96_28, e96_29, e96_30, e96_33, e96_36, e96_38, e96_41, e96_44, e96_46, e96_47, e96_48, e96_50, e96_53, e96_56, e96_57, e96_58, e96_60, e96_63, e96_66, e96_68, true_and, and_true, or_true, true_or, if_true, if_false, not_true_eq_false, not_false_eq_true, ne_eq, and_self, Option.toList_some, Option.toList_none, List.cons_append, List.nil_append, catS_0, catS_I, catS_L, catS_R, Option.map_some, Option.map_none, Option.some.injEq, Sum.inl.injEq, exists_eq_left', exists_eq', ct, ca, cb, cc, cl, w5, v5, w2, v2, w1, v1, hK, hK2, hC, hE, hx, hy, e3, e4, hx0, hx1, f3, f4, hy0, hy1, N11 a1]
              exact fin _ rfl
          · rw [if_neg (fun z => hK2 z.2)] at fin
            simp +decide only [e96_0, e96_1, e96_2, e96_5, e96_6, e96_7, e96_8, e96_11, e96_13, e96_14N, e96_14S, e96_17, e96_19N, e96_19S, e96_22, e96_23, e96_24, e96_27, e96_28, e96_29, e96_30, e96_33, e96_36, e96_38, e96_41, e96_44, e96_46, e96_47, e96_48, e96_50, e96_53, e96_56, e96_57, e96_58, e96_60, e96_63, e96_66, e96_68, true_and, and_true, or_true, true_or, if_true, if_false, not_true_eq_false, not_false_eq_true, ne_eq, and_self, Option.toList_some, Option.toList_none, List.cons_append, List.nil_append, catS_0, catS_I, catS_L, catS_R, Option.map_some, Option.map_none, Option.some.injEq, Sum.inl.injEq, exists_eq_left', exists_eq', ct, ca, cb, w5, v5, hK, hK2, hE, hx, hy, e3, e4, hx0, hx1, f3, f4, hy0, hy1, N11 a1]
            exact fin _ rfl
        · rw [if_neg (fun z => hK z.1)] at fin
          simp +decide only [e96_0, e96_1, e96_2, e96_5, e96_6, e96_7, e96_8, e96_11, e96_13, e96_14N, e96_14S, e96_17, e96_19N, e96_19S, e96_22, e96_23, e96_24, e96_27, e96_28, e96_29, e96_30, e96_33, e96_36, e96_38, e96_41, e96_44, e96_46, e96_47, e96_48, e96_50, e96_53, e96_56, e96_57, e96_58, e96_60, e96_63, e96_66, e96_68, true_and, and_true, or_true, true_or, if_true, if_false, not_true_eq_false, not_false_eq_true, ne_eq, and_self, Option.toList_some, Option.toList_none, List.cons_append, List.nil_append, catS_0, catS_I, catS_L, catS_R, Option.map_some, Option.map_none, Option.some.injEq, Sum.inl.injEq, exists_eq_left', exists_eq', ct, ca, cb, w5, v5, hK, hE, hx, hy, e3, e4, hx0, hx1, f3, f4, hy0, hy1, N11 a1]
          exact fin _ rfl
    · simp +decide only [e96_0, e96_1, e96_2, e96_5, e96_6, e96_7, e96_8, e96_11, e96_13, e96_14N, e96_14S, e96_17, e96_19N, e96_19S, e96_22, e96_23, e96_24, e96_27, e96_28, e96_29, e96_30, e96_33, e96_36, e96_38, e96_41, e96_44, e96_46, e96_47, e96_48, e96_50, e96_53, e96_56, e96_57, e96_58, e96_60, e96_63, e96_66, e96_68, true_and, and_true, or_true, true_or, if_true, if_false, not_true_eq_false, not_false_eq_true, ne_eq, and_self, Option.toList_some, Option.toList_none, List.cons_append, List.nil_append, catS_0, catS_I, catS_L, catS_R, Option.map_some, Option.map_none, Option.some.injEq, Sum.inl.injEq, exists_eq_left', exists_eq', ct, hB, e3, e4, hx0, hx1, N11 a1]
      simp +decide only [e200_0, e200_1, e200_2, e200_5, e200_8, e200_9, e200_10, e200_13, e200_16, e200_17, e200_18, e200_21, e200_22, e200_23, e200_24, e200_27, e200_30, e200_31, true_and, and_true, or_true, true_or, if_true, if_false, not_true_eq_false, not_false_eq_true, ne_eq, and_self, Option.toList_some, Option.toList_none, List.cons_append, List.nil_append, catS_0, catS_I, catS_L, catS_R, Option.map_some, Option.map_none, Option.some.injEq, Sum.inl.injEq, exists_eq_left', exists_eq', mt, hB, e3, e4, hx0, hx1, N12 a1, hI]
  · by_cases hB : 0 ≤ b.toInt ∧ b.toInt < (gN σ 8 : Int)
    · simp +decide only [e96_0, e96_1, e96_2, e96_5, e96_6, e96_7, e96_8, e96_11, e96_13, e96_14N, e96_14S, e96_17, e96_19N, e96_19S, e96_22, e96_23, e96_24, e96_27, e96_28, e96_29, e96_30, e96_33, e96_36, e96_38, e96_41, e96_44, e96_46, e96_47, e96_48, e96_50, e96_53, e96_56, e96_57, e96_58, e96_60, e96_63, e96_66, e96_68, true_and, and_true, or_true, true_or, if_true, if_false, not_true_eq_false, not_false_eq_true, ne_eq, and_self, Option.toList_some, Option.toList_none, List.cons_append, List.nil_append, catS_0, catS_I, catS_L, catS_R, Option.map_some, Option.map_none, Option.some.injEq, Sum.inl.injEq, exists_eq_left', exists_eq', ct, hA, hB, N11 a1]
      simp +decide only [e200_0, e200_1, e200_2, e200_5, e200_8, e200_9, e200_10, e200_13, e200_16, e200_17, e200_18, e200_21, e200_22, e200_23, e200_24, e200_27, e200_30, e200_31, true_and, and_true, or_true, true_or, if_true, if_false, not_true_eq_false, not_false_eq_true, ne_eq, and_self, Option.toList_some, Option.toList_none, List.cons_append, List.nil_append, catS_0, catS_I, catS_L, catS_R, Option.map_some, Option.map_none, Option.some.injEq, Sum.inl.injEq, exists_eq_left', exists_eq', mt, hA, N12 a1, hI]
    · simp +decide only [e96_0, e96_1, e96_2, e96_5, e96_6, e96_7, e96_8, e96_11, e96_13, e96_14N, e96_14S, e96_17, e96_19N, e96_19S, e96_22, e96_23, e96_24, e96_27, e96_28, e96_29, e96_30, e96_33, e96_36, e96_38, e96_41, e96_44, e96_46, e96_47, e96_48, e96_50, e96_53, e96_56, e96_57, e96_58, e96_60, e96_63, e96_66, e96_68, true_and, and_true, or_true, true_or, if_true, if_false, not_true_eq_false, not_false_eq_true, ne_eq, and_self, Option.toList_some, Option.toList_none, List.cons_append, List.nil_append, catS_0, catS_I, catS_L, catS_R, Option.map_some, Option.map_none, Option.some.injEq, Sum.inl.injEq, exists_eq_left', exists_eq', ct, hA, hB, N11 a1]
      simp +decide only [e200_0, e200_1, e200_2, e200_5, e200_8, e200_9, e200_10, e200_13, e200_16, e200_17, e200_18, e200_21, e200_22, e200_23, e200_24, e200_27, e200_30, e200_31, true_and, and_true, or_true, true_or, if_true, if_false, not_true_eq_false, not_false_eq_true, ne_eq, and_self, Option.toList_some, Option.toList_none, List.cons_append, List.nil_append, catS_0, catS_I, catS_L, catS_R, Option.map_some, Option.map_none, Option.some.injEq, Sum.inl.injEq, exists_eq_left', exists_eq', mt, hA, N12 a1, hI]
