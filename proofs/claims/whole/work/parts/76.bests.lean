/-- the most marks for a name among the first t things, as of a day -/
def bN (kd wh na md ma : Nat → Int32) (p w : Int32) (D : Int) : Nat → Int32
  | 0 => -1
  | t + 1 => if kd t = 2 ∧ wh t = p ∧ na t = w ∧ (md t).toInt ≤ D then (if (ma t).toInt ≤ (bN kd wh na md ma p w D t).toInt then bN kd wh na md ma p w D t else ma t) else bN kd wh na md ma p w D t
theorem bN_n {kd wh na md ma : Nat → Int32} {p w : Int32} {D : Int} {t : Nat} (h : ¬ (kd t = 2 ∧ wh t = p ∧ na t = w ∧ (md t).toInt ≤ D)) : bN kd wh na md ma p w D (t + 1) = bN kd wh na md ma p w D t := by
  show (if kd t = 2 ∧ wh t = p ∧ na t = w ∧ (md t).toInt ≤ D then _ else _) = _
  rw [if_neg h]
theorem bN_y {kd wh na md ma : Nat → Int32} {p w : Int32} {D : Int} {t : Nat} (h : kd t = 2 ∧ wh t = p ∧ na t = w ∧ (md t).toInt ≤ D) : bN kd wh na md ma p w D (t + 1) = if (ma t).toInt ≤ (bN kd wh na md ma p w D t).toInt then bN kd wh na md ma p w D t else ma t := by
  show (if kd t = 2 ∧ wh t = p ∧ na t = w ∧ (md t).toInt ≤ D then _ else _) = _
  rw [if_pos h]
theorem bN_ge {kd wh na md ma : Nat → Int32} {p w : Int32} {D : Int} : ∀ t, (∀ j, j < t → 0 ≤ (ma j).toInt ∧ (ma j).toInt ≤ 100) → -1 ≤ (bN kd wh na md ma p w D t).toInt ∧ (bN kd wh na md ma p w D t).toInt ≤ 100 := by
  intro t
  induction t with
  | zero => intro _; exact (by decide : -1 ≤ (-1 : Int32).toInt ∧ (-1 : Int32).toInt ≤ 100)
  | succ t ih =>
    intro h
    have h1 := ih (fun j hj => h j (by omega))
    have h2 := h t (by omega)
    by_cases hc : kd t = 2 ∧ wh t = p ∧ na t = w ∧ (md t).toInt ≤ D
    · rw [bN_y hc]
      split <;> omega
    · rw [bN_n hc]; exact h1
section BST
variable {d : Nat} {Q : Option AV → St → Prop} {σ : St} {p w D : Int32} {kd wh na md ma : Nat → Int32}
theorem c_best_l (a1 : SH σ) (hn : gN σ 8 ≤ 80) (hc : gI σ 11 11 0 = nI (gN σ 8)) (hk : ∀ t, t < gN σ 8 → gQ σ 11 10 0 t = some t ∧ gI σ 8 5 t = kd t ∧ gI σ 8 0 t = wh t ∧ gI σ 8 1 t = na t ∧ gI σ 8 12 t = md t ∧ gI σ 8 11 t = ma t) : ∀ n m l, m + n = gN σ 8 → Rn d Q (119, 6, [some (vR (some (11, 0, 0))), some (vI p), some (vI w), some (vI D), some (vI (bN kd wh na md ma p w D.toInt m)), some (vI (nI m)), l], [], σ) = Q (some (vI (bN kd wh na md ma p w D.toInt (gN σ 8)))) σ := by
  intro n
  induction n with
  | zero =>
    intro m l hm
    have e1 : nI (gN σ 8) ≤ nI m := nI_le (by omega) (by omega)
    rw [e119_6]
    simp +decide only [e119_0, e119_1, e119_3, e119_4, e119_8, e119_9, e119_12, e119_15, e119_16, e119_19, e119_21, e119_22, e119_24, e119_26, e119_29, e119_30, e119_33, e119_35, e119_38, e119_39, e119_42, e119_44, e119_47, e119_48, e119_51, e119_53, e119_56, e119_57, e119_60, e119_62, e119_64, e119_67, e119_70, e119_72, e119_75, e119_78, e119_80, true_and, and_true, or_true, true_or, if_true, if_false, not_true_eq_false, not_false_eq_true, ne_eq, and_self, Option.toList_some, Option.toList_none, List.cons_append, List.nil_append, catS_0, catS_I, catS_L, catS_R, Option.map_some, Option.map_none, e1, hc, N11 a1]
    rw [show m = gN σ 8 by omega]
  | succ n ih =>
    intro m l hm
    have e1 : ¬ nI (gN σ 8) ≤ nI m := nI_ge (by omega) (by omega)
    have e2 : (nI m).toInt = (m : Int) := nI_toInt (by omega)
    have e3 : (0 : Int) ≤ (m : Int) := by omega
    have e4 : (m : Int) < ((80 : Nat) : Int) := by omega
    have e5 : (nI m).toNatClampNeg = m := nI_clamp (by omega)
    have e6 : m < gN σ 8 := by omega
    obtain ⟨k0, k1, k2, k3, k4, k5⟩ := hk m e6
    have t1 := ih (m + 1) (some (vR (some (8, 0, m)))) (by omega)
    rw [← nI_1 m] at t1
    rw [e119_6]
    by_cases h1 : kd m = 2
    · by_cases h2 : wh m = p
      · by_cases h3 : na m = w
        · by_cases h4 : D.toInt < (md m).toInt
          · rw [bN_n (fun z => by have := z.2.2.2; omega)] at t1
            simp +decide only [e119_0, e119_1, e119_3, e119_4, e119_8, e119_9, e119_12, e119_15, e119_16, e119_19, e119_21, e119_22, e119_24, e119_26, e119_29, e119_30, e119_33, e119_35, e119_38, e119_39, e119_42, e119_44, e119_47, e119_48, e119_51, e119_53, e119_56, e119_57, e119_60, e119_62, e119_64, e119_67, e119_70, e119_72, e119_75, e119_78, e119_80, true_and, and_true, or_true, true_or, if_true, if_false, not_true_eq_false, not_false_eq_true, ne_eq, and_self, Option.toList_some, Option.toList_none, List.cons_append, List.nil_append, catS_0, catS_I, catS_L, catS_R, Option.map_some, Option.map_none, Option.some.injEq, Sum.inl.injEq, exists_eq_left', exists_eq', ltI, e1, e2, e3, e4, e5, e6, hc, k0, k1, k2, k3, k4, k5, h1, h2, h3, h4, N11 a1, L11_10 a1]
            exact t1
          · rw [bN_y ⟨h1, h2, h3, by omega⟩] at t1
            simp +decide only [e119_0, e119_1, e119_3, e119_4, e119_8, e119_9, e119_12, e119_15, e119_16, e119_19, e119_21, e119_22, e119_24, e119_26, e119_29, e119_30, e119_33, e119_35, e119_38, e119_39, e119_42, e119_44, e119_47, e119_48, e119_51, e119_53, e119_56, e119_57, e119_60, e119_62, e119_64, e119_67, e119_70, e119_72, e119_75, e119_78, e119_80, true_and, and_true, or_true, true_or, if_true, if_false, not_true_eq_false, not_false_eq_true, ne_eq, and_self, Option.toList_some, Option.toList_none, List.cons_append, List.nil_append, catS_0, catS_I, catS_L, catS_R, Option.map_some, Option.map_none, Option.some.injEq, Sum.inl.injEq, exists_eq_left', exists_eq', ltI, e1, e2, e3, e4, e5, e6, hc, k0, k1, k2, k3, k4, k5, h1, h2, h3, h4, N11 a1, L11_10 a1]
            by_cases h5 : (ma m).toInt ≤ (bN kd wh na md ma p w D.toInt m).toInt
            · rw [if_pos h5] at t1
              rw [if_neg (show ¬ (bN kd wh na md ma p w D.toInt m).toInt < (ma m).toInt by omega)]
              exact t1
            · rw [if_neg h5] at t1
              rw [if_pos (show (bN kd wh na md ma p w D.toInt m).toInt < (ma m).toInt by omega)]
              exact t1
        · rw [bN_n (fun z => h3 z.2.2.1)] at t1
          simp +decide only [e119_0, e119_1, e119_3, e119_4, e119_8, e119_9, e119_12, e119_15, e119_16, e119_19, e119_21, e119_22, e119_24, e119_26, e119_29, e119_30, e119_33, e119_35, e119_38, e119_39, e119_42, e119_44, e119_47, e119_48, e119_51, e119_53, e119_56, e119_57, e119_60, e119_62, e119_64, e119_67, e119_70, e119_72, e119_75, e119_78, e119_80, true_and, and_true, or_true, true_or, if_true, if_false, not_true_eq_false, not_false_eq_true, ne_eq, and_self, Option.toList_some, Option.toList_none, List.cons_append, List.nil_append, catS_0, catS_I, catS_L, catS_R, Option.map_some, Option.map_none, Option.some.injEq, Sum.inl.injEq, exists_eq_left', exists_eq', e1, e2, e3, e4, e5, e6, hc, k0, k1, k2, k3, h1, h2, h3, N11 a1, L11_10 a1]
          exact t1
      · rw [bN_n (fun z => h2 z.2.1)] at t1
        simp +decide only [e119_0, e119_1, e119_3, e119_4, e119_8, e119_9, e119_12, e119_15, e119_16, e119_19, e119_21, e119_22, e119_24, e119_26, e119_29, e119_30, e119_33, e119_35, e119_38, e119_39, e119_42, e119_44, e119_47, e119_48, e119_51, e119_53, e119_56, e119_57, e119_60, e119_62, e119_64, e119_67, e119_70, e119_72, e119_75, e119_78, e119_80, true_and, and_true, or_true, true_or, if_true, if_false, not_true_eq_false, not_false_eq_true, ne_eq, and_self, Option.toList_some, Option.toList_none, List.cons_append, List.nil_append, catS_0, catS_I, catS_L, catS_R, Option.map_some, Option.map_none, Option.some.injEq, Sum.inl.injEq, exists_eq_left', exists_eq', e1, e2, e3, e4, e5, e6, hc, k0, k1, k2, h1, h2, N11 a1, L11_10 a1]
        exact t1
    · rw [bN_n (fun z => h1 z.1)] at t1
      simp +decide only [e119_0, e119_1, e119_3, e119_4, e119_8, e119_9, e119_12, e119_15, e119_16, e119_19, e119_21, e119_22, e119_24, e119_26, e119_29, e119_30, e119_33, e119_35, e119_38, e119_39, e119_42, e119_44, e119_47, e119_48, e119_51, e119_53, e119_56, e119_57, e119_60, e119_62, e119_64, e119_67, e119_70, e119_72, e119_75, e119_78, e119_80, true_and, and_true, or_true, true_or, if_true, if_false, not_true_eq_false, not_false_eq_true, ne_eq, and_self, Option.toList_some, Option.toList_none, List.cons_append, List.nil_append, catS_0, catS_I, catS_L, catS_R, Option.map_some, Option.map_none, Option.some.injEq, Sum.inl.injEq, exists_eq_left', exists_eq', e1, e2, e3, e4, e5, e6, hc, k0, k1, h1, N11 a1, L11_10 a1]
      exact t1
theorem c_best (a1 : SH σ) (hn : gN σ 8 ≤ 80) (hc : gI σ 11 11 0 = nI (gN σ 8)) (hk : ∀ t, t < gN σ 8 → gQ σ 11 10 0 t = some t ∧ gI σ 8 5 t = kd t ∧ gI σ 8 0 t = wh t ∧ gI σ 8 1 t = na t ∧ gI σ 8 12 t = md t ∧ gI σ 8 11 t = ma t) : Rn d Q (119, 0, [some (vR (some (11, 0, 0))), some (vI p), some (vI w), some (vI D), none, none, none], [], σ) = Q (some (vI (bN kd wh na md ma p w D.toInt (gN σ 8)))) σ := by
  have cl := fun {l : Option AV} => c_best_l (d := d) (Q := Q) (p := p) (w := w) (D := D) (kd := kd) (wh := wh) (na := na) (md := md) (ma := ma) a1 hn hc hk (gN σ 8) 0 l (by omega)
  have z0 : bN kd wh na md ma p w D.toInt 0 = -1 := rfl
  simp only [z0, nI_0] at cl
  simp +decide only [e119_0, e119_1, e119_3, e119_4, e119_8, e119_9, e119_12, e119_15, e119_16, e119_19, e119_21, e119_22, e119_24, e119_26, e119_29, e119_30, e119_33, e119_35, e119_38, e119_39, e119_42, e119_44, e119_47, e119_48, e119_51, e119_53, e119_56, e119_57, e119_60, e119_62, e119_64, e119_67, e119_70, e119_72, e119_75, e119_78, e119_80, cl]
theorem m_find_1 {f : Nat → Int32} {l1 l2 l : Option AV} (a1 : SH σ) : ∀ n m, m + n = 40 → Rn d Q (158, 2, [some (vR (some (12, 0, 0))), l1, l2, some (vI (nI m)), l], [], setA σ 12 31 0 (ff (-1) f m)) = Rn d Q (158, 21, [some (vR (some (12, 0, 0))), l1, l2, some (vI (nI 40)), l], [], setA σ 12 31 0 (ff (-1) f 40)) := by
  intro n
  induction n with
  | zero =>
    intro m hm
    have e1 : (40 : Int32) ≤ nI m := nI_le (a := 40) (by omega) (by omega)
    rw [e158_2]
    simp +decide only [e158_3, e158_5, true_and, and_true, or_true, true_or, if_true, if_false, not_true_eq_false, not_false_eq_true, ne_eq, and_self, Option.toList_some, Option.toList_none, List.cons_append, List.nil_append, catS_0, catS_I, catS_L, catS_R, Option.map_some, Option.map_none, e1]
    rw [show m = 40 by omega]
  | succ n ih =>
    intro m hm
    have e1 : ¬ (40 : Int32) ≤ nI m := nI_ge (b := 40) (by omega) (by omega)
    have e2 : (nI m).toInt = (m : Int) := nI_toInt (by omega)
    have e3 : (0 : Int) ≤ (m : Int) := by omega
    have e4 : (m : Int) < ((40 : Nat) : Int) := by omega
    have e5 : (nI m).toNatClampNeg = m := nI_clamp (by omega)
    have t1 := ih (m + 1) (by omega)
    rw [← nI_1 m] at t1
    rw [e158_2]
    simp +decide only [e158_0, e158_1, e158_3, e158_5, e158_8, e158_9, e158_12, e158_13, e158_14, e158_15, e158_18, e158_22, e158_24, e158_25, e158_28, e158_31, e158_32, e158_35, e158_36, e158_37, e158_38, e158_41, e158_42, e158_45, e158_46, e158_47, e158_48, e158_51, e158_52, e158_55, e158_56, e158_57, e158_58, e158_61, e158_62, e158_65, e158_66, e158_67, e158_69, e158_70, e158_73, e158_75, e158_76, e158_79, e158_80, e158_81, e158_82, e158_85, e158_87, e158_88, e158_91, e158_92, e158_95, e158_96, e158_97, e158_100, e158_101, e158_104, e158_106, e158_107, e158_108, e158_111, e158_114, true_and, and_true, or_true, true_or, if_true, if_false, not_true_eq_false, not_false_eq_true, ne_eq, and_self, Option.toList_some, Option.toList_none, List.cons_append, List.nil_append, catS_0, catS_I, catS_L, catS_R, Option.map_some, Option.map_none, Option.some.injEq, Sum.inl.injEq, exists_eq_left', exists_eq', e1, e2, e3, e4, e5, NA, LA, N12 a1, L12_31 a1, gA_A, setA_A, ff_s]
    exact t1
theorem m_find_2 {N : Nat} (a1 : SH σ) (hN : N ≤ 80) (hc : gI σ 12 38 0 = nI N) (hna : ∀ t, t < N → 0 ≤ (gA σ 12 41 0 t).toInt ∧ (gA σ 12 41 0 t).toInt < 40) : ∀ n m g l, m + n = N → (∀ w, w < 40 → g w = bN (gA σ 12 39 0) (gA σ 12 40 0) (gA σ 12 41 0) (gA σ 12 50 0) (gA σ 12 49 0) p (nI w) D.toInt m) → ∃ g' : Nat → Int32, (∀ w, w < 40 → g' w = bN (gA σ 12 39 0) (gA σ 12 40 0) (gA σ 12 41 0) (gA σ 12 50 0) (gA σ 12 49 0) p (nI w) D.toInt N) ∧ ∀ d Q, Rn d Q (158, 23, [some (vR (some (12, 0, 0))), some (vI p), some (vI D), some (vI (nI m)), l], [], setA σ 12 31 0 g) = Q none (setA σ 12 31 0 g') := by
  intro n
  induction n with
  | zero =>
    intro m g l hm hg
    have e1 : nI N ≤ nI m := nI_le (by omega) (by omega)
    refine ⟨g, fun w hw => by rw [hg w hw, show m = N by omega], fun d Q => ?_⟩
    rw [e158_23]
    simp +decide only [e158_0, e158_1, e158_3, e158_5, e158_8, e158_9, e158_12, e158_13, e158_14, e158_15, e158_18, e158_22, e158_24, e158_25, e158_28, e158_31, e158_32, e158_35, e158_36, e158_37, e158_38, e158_41, e158_42, e158_45, e158_46, e158_47, e158_48, e158_51, e158_52, e158_55, e158_56, e158_57, e158_58, e158_61, e158_62, e158_65, e158_66, e158_67, e158_69, e158_70, e158_73, e158_75, e158_76, e158_79, e158_80, e158_81, e158_82, e158_85, e158_87, e158_88, e158_91, e158_92, e158_95, e158_96, e158_97, e158_100, e158_101, e158_104, e158_106, e158_107, e158_108, e158_111, e158_114, true_and, and_true, or_true, true_or, if_true, if_false, not_true_eq_false, not_false_eq_true, ne_eq, and_self, Option.toList_some, Option.toList_none, List.cons_append, List.nil_append, catS_0, catS_I, catS_L, catS_R, Option.map_some, Option.map_none, IA, NA, hc, e1, N12 a1]
  | succ n ih =>
    intro m g l hm hg
    have e1 : ¬ nI N ≤ nI m := nI_ge (by omega) (by omega)
    have e2 : (nI m).toInt = (m : Int) := nI_toInt (by omega)
    have e3 : (0 : Int) ≤ (m : Int) := by omega
    have e4 : (m : Int) < ((80 : Nat) : Int) := by omega
    have e5 : (nI m).toNatClampNeg = m := nI_clamp (by omega)
    by_cases hC : gA σ 12 39 0 m = 2 ∧ gA σ 12 40 0 m = p ∧ (gA σ 12 50 0 m).toInt ≤ D.toInt
    · obtain ⟨h1, h2, h4⟩ := hC
      have h4' : ¬ D.toInt < (gA σ 12 50 0 m).toInt := by omega
      obtain ⟨w0, hw0, hw1, hw2⟩ := nI_ex (n := 40) (hna m (by omega))
      have f2 : (nI w0).toInt = (w0 : Int) := nI_toInt (by omega)
      have f3 : (0 : Int) ≤ (w0 : Int) := by omega
      have f4 : (w0 : Int) < ((40 : Nat) : Int) := by omega
      have f5 : (nI w0).toNatClampNeg = w0 := nI_clamp (by omega)
      obtain ⟨g', q1, q2⟩ := ih (m + 1) (upd g w0 (if (gA σ 12 49 0 m).toInt ≤ (g w0).toInt then g w0 else gA σ 12 49 0 m)) (some (vI (nI w0))) (by omega) (fun w hw => by
        by_cases hww : w = w0
        · subst hww
          rw [updS0, hg w hw, bN_y ⟨h1, h2, hw1, h4⟩]
        · rw [pk_un hww, hg w hw, bN_n (fun z => hww ((nI_eq (by omega) (by omega)).mp (z.2.2.1.symm.trans hw1)))])
      refine ⟨g', q1, fun d Q => ?_⟩
      rw [← q2 d Q, ← nI_1 m, e158_23]
      by_cases h5 : (gA σ 12 49 0 m).toInt ≤ (g w0).toInt
      · simp +decide only [e158_0, e158_1, e158_3, e158_5, e158_8, e158_9, e158_12, e158_13, e158_14, e158_15, e158_18, e158_22, e158_24, e158_25, e158_28, e158_31, e158_32, e158_35, e158_36, e158_37, e158_38, e158_41, e158_42, e158_45, e158_46, e158_47, e158_48, e158_51, e158_52, e158_55, e158_56, e158_57, e158_58, e158_61, e158_62, e158_65, e158_66, e158_67, e158_69, e158_70, e158_73, e158_75, e158_76, e158_79, e158_80, e158_81, e158_82, e158_85, e158_87, e158_88, e158_91, e158_92, e158_95, e158_96, e158_97, e158_100, e158_101, e158_104, e158_106, e158_107, e158_108, e158_111, e158_114, true_and, and_true, or_true, true_or, if_true, if_false, not_true_eq_false, not_false_eq_true, ne_eq, and_self, Option.toList_some, Option.toList_none, List.cons_append, List.nil_append, catS_0, catS_I, catS_L, catS_R, Option.map_some, Option.map_none, Option.some.injEq, Sum.inl.injEq, exists_eq_left', exists_eq', ltI, leI, II, AA, RR, QQ, IA, IR, IQ, AI, AR, AQ, RI, RA, RQ, QI, QA, QR, LI, LA, LR, LQ, NI, NA, NR, NQ, HI, HA, HR, HQ, SI, SA, SR, SQ, hc, e1, e2, e3, e4, e5, h1, h2, h4', hw1, f2, f3, f4, f5, h5, N12 a1, L12_39 a1, L12_40 a1, L12_50 a1, L12_41 a1, L12_49 a1, L12_31 a1, gA_A, setA_A]
      · simp +decide only [e158_0, e158_1, e158_3, e158_5, e158_8, e158_9, e158_12, e158_13, e158_14, e158_15, e158_18, e158_22, e158_24, e158_25, e158_28, e158_31, e158_32, e158_35, e158_36, e158_37, e158_38, e158_41, e158_42, e158_45, e158_46, e158_47, e158_48, e158_51, e158_52, e158_55, e158_56, e158_57, e158_58, e158_61, e158_62, e158_65, e158_66, e158_67, e158_69, e158_70, e158_73, e158_75, e158_76, e158_79, e158_80, e158_81, e158_82, e158_85, e158_87, e158_88, e158_91, e158_92, e158_95, e158_96, e158_97, e158_100, e158_101, e158_104, e158_106, e158_107, e158_108, e158_111, e158_114, true_and, and_true, or_true, true_or, if_true, if_false, not_true_eq_false, not_false_eq_true, ne_eq, and_self, Option.toList_some, Option.toList_none, List.cons_append, List.nil_append, catS_0, catS_I, catS_L, catS_R, Option.map_some, Option.map_none, Option.some.injEq, Sum.inl.injEq, exists_eq_left', exists_eq', ltI, leI, II, AA, RR, QQ, IA, IR, IQ, AI, AR, AQ, RI, RA, RQ, QI, QA, QR, LI, LA, LR, LQ, NI, NA, NR, NQ, HI, HA, HR, HQ, SI, SA, SR, SQ, hc, e1, e2, e3, e4, e5, h1, h2, h4', hw1, f2, f3, f4, f5, h5, N12 a1, L12_39 a1, L12_40 a1, L12_50 a1, L12_41 a1, L12_49 a1, L12_31 a1, gA_A, setA_A]
    · obtain ⟨g', q1, q2⟩ := ih (m + 1) g l (by omega) (fun w hw => by rw [hg w hw, bN_n (fun z => hC ⟨z.1, z.2.1, z.2.2.2⟩)])
      refine ⟨g', q1, fun d Q => ?_⟩
      rw [← q2 d Q, ← nI_1 m, e158_23]
      by_cases h1 : gA σ 12 39 0 m = 2
      · by_cases h2 : gA σ 12 40 0 m = p
        · have h4 : D.toInt < (gA σ 12 50 0 m).toInt := Int.not_le.mp (fun z => hC ⟨h1, h2, z⟩)
          simp +decide only [e158_0, e158_1, e158_3, e158_5, e158_8, e158_9, e158_12, e158_13, e158_14, e158_15, e158_18, e158_22, e158_24, e158_25, e158_28, e158_31, e158_32, e158_35, e158_36, e158_37, e158_38, e158_41, e158_42, e158_45, e158_46, e158_47, e158_48, e158_51, e158_52, e158_55, e158_56, e158_57, e158_58, e158_61, e158_62, e158_65, e158_66, e158_67, e158_69, e158_70, e158_73, e158_75, e158_76, e158_79, e158_80, e158_81, e158_82, e158_85, e158_87, e158_88, e158_91, e158_92, e158_95, e158_96, e158_97, e158_100, e158_101, e158_104, e158_106, e158_107, e158_108, e158_111, e158_114, true_and, and_true, or_true, true_or, if_true, if_false, not_true_eq_false, not_false_eq_true, ne_eq, and_self, Option.toList_some, Option.toList_none, List.cons_append, List.nil_append, catS_0, catS_I, catS_L, catS_R, Option.map_some, Option.map_none, Option.some.injEq, Sum.inl.injEq, exists_eq_left', exists_eq', ltI, leI, II, AA, RR, QQ, IA, IR, IQ, AI, AR, AQ, RI, RA, RQ, QI, QA, QR, LI, LA, LR, LQ, NI, NA, NR, NQ, HI, HA, HR, HQ, SI, SA, SR, SQ, hc, e1, e2, e3, e4, e5, h1, h2, h4, N12 a1, L12_39 a1, L12_40 a1, L12_50 a1]
        · simp +decide only [e158_0, e158_1, e158_3, e158_5, e158_8, e158_9, e158_12, e158_13, e158_14, e158_15, e158_18, e158_22, e158_24, e158_25, e158_28, e158_31, e158_32, e158_35, e158_36, e158_37, e158_38, e158_41, e158_42, e158_45, e158_46, e158_47, e158_48, e158_51, e158_52, e158_55, e158_56, e158_57, e158_58, e158_61, e158_62, e158_65, e158_66, e158_67, e158_69, e158_70, e158_73, e158_75, e158_76, e158_79, e158_80, e158_81, e158_82, e158_85, e158_87, e158_88, e158_91, e158_92, e158_95, e158_96, e158_97, e158_100, e158_101, e158_104, e158_106, e158_107, e158_108, e158_111, e158_114, true_and, and_true, or_true, true_or, if_true, if_false, not_true_eq_false, not_false_eq_true, ne_eq, and_self, Option.toList_some, Option.toList_none, List.cons_append, List.nil_append, catS_0, catS_I, catS_L, catS_R, Option.map_some, Option.map_none, Option.some.injEq, Sum.inl.injEq, exists_eq_left', exists_eq', ltI, leI, II, AA, RR, QQ, IA, IR, IQ, AI, AR, AQ, RI, RA, RQ, QI, QA, QR, LI, LA, LR, LQ, NI, NA, NR, NQ, HI, HA, HR, HQ, SI, SA, SR, SQ, hc, e1, e2, e3, e4, e5, h1, h2, N12 a1, L12_39 a1, L12_40 a1]
      · simp +decide only [e158_0, e158_1, e158_3, e158_5, e158_8, e158_9, e158_12, e158_13, e158_14, e158_15, e158_18, e158_22, e158_24, e158_25, e158_28, e158_31, e158_32, e158_35, e158_36, e158_37, e158_38, e158_41, e158_42, e158_45, e158_46, e158_47, e158_48, e158_51, e158_52, e158_55, e158_56, e158_57, e158_58, e158_61, e158_62, e158_65, e158_66, e158_67, e158_69, e158_70, e158_73, e158_75, e158_76, e158_79, e158_80, e158_81, e158_82, e158_85, e158_87, e158_88, e158_91, e158_92, e158_95, e158_96, e158_97, e158_100, e158_101, e158_104, e158_106, e158_107, e158_108, e158_111, e158_114, true_and, and_true, or_true, true_or, if_true, if_false, not_true_eq_false, not_false_eq_true, ne_eq, and_self, Option.toList_some, Option.toList_none, List.cons_append, List.nil_append, catS_0, catS_I, catS_L, catS_R, Option.map_some, Option.map_none, Option.some.injEq, Sum.inl.injEq, exists_eq_left', exists_eq', ltI, leI, II, AA, RR, QQ, IA, IR, IQ, AI, AR, AQ, RI, RA, RQ, QI, QA, QR, LI, LA, LR, LQ, NI, NA, NR, NQ, HI, HA, HR, HQ, SI, SA, SR, SQ, hc, e1, e2, e3, e4, e5, h1, N12 a1, L12_39 a1]
theorem m_find {N : Nat} (p D : Int32) (a1 : SH σ) (hN : N ≤ 80) (hc : gI σ 12 38 0 = nI N) (hna : ∀ t, t < N → 0 ≤ (gA σ 12 41 0 t).toInt ∧ (gA σ 12 41 0 t).toInt < 40) : ∃ g' : Nat → Int32, (∀ w, w < 40 → g' w = bN (gA σ 12 39 0) (gA σ 12 40 0) (gA σ 12 41 0) (gA σ 12 50 0) (gA σ 12 49 0) p (nI w) D.toInt N) ∧ ∀ d Q, Rn d Q (158, 0, [some (vR (some (12, 0, 0))), some (vI p), some (vI D), none, none], [], σ) = Q none (setA σ 12 31 0 g') := by
  obtain ⟨g', q1, q2⟩ := m_find_2 (p := p) (D := D) a1 hN hc hna N 0 (ff (-1) (gA σ 12 31 0) 40) none (by omega) (fun w hw => by
    show (if w < 40 then (-1 : Int32) else _) = -1
    rw [if_pos hw])
  refine ⟨g', q1, fun d Q => ?_⟩
  have t1 := m_find_1 (d := d) (Q := Q) (f := gA σ 12 31 0) (l1 := some (vI p)) (l2 := some (vI D)) (l := none) a1 40 0 (by omega)
  rw [ff_0, setA_self, nI_0] at t1
  rw [nI_0] at q2
  simp +decide only [e158_0, e158_1, t1, e158_21, e158_22, q2]
theorem m_bestOf {g : Nat → Int32} {e l w : Nat} (a1 : SH σ) (he : e < 24) (hl : l < 8) (hw : w < 40) (hn : gA σ 12 18 0 (8 * e + l) = nI w) (hg : gA σ 12 31 0 = g) : Rn d Q (159, 0, [some (vR (some (12, 0, 0))), some (vI (nI e)), some (vI (nI l))], [], σ) = Q (some (vI (g w))) σ := by
  have g2 : 8 * nI e + nI l = nI (8 * e + l) := by rw [lN8, pk_mul, nI_add]
  have g3 : (nI (8 * e + l)).toInt = ((8 * e + l : Nat) : Int) := nI_toInt (by omega)
  have g4 : (nI (8 * e + l)).toNatClampNeg = 8 * e + l := nI_clamp (by omega)
  have g5 : (0 : Int) ≤ ((8 * e + l : Nat) : Int) ∧ ((8 * e + l : Nat) : Int) < ((192 : Nat) : Int) := by omega
  have f2 : (nI w).toInt = (w : Int) := nI_toInt (by omega)
  have f3 : (0 : Int) ≤ (w : Int) := by omega
  have f4 : (w : Int) < ((40 : Nat) : Int) := by omega
  have f5 : (nI w).toNatClampNeg = w := nI_clamp (by omega)
  simp +decide only [e159_0, e159_1, e159_4, e159_5, e159_8, e159_10, e159_11, e159_12, e159_13, e159_14, e159_15, e159_16, true_and, and_true, or_true, true_or, if_true, if_false, not_true_eq_false, not_false_eq_true, ne_eq, and_self, Option.toList_some, Option.toList_none, List.cons_append, List.nil_append, catS_0, catS_I, catS_L, catS_R, Option.map_some, Option.map_none, Option.some.injEq, Sum.inl.injEq, exists_eq_left', exists_eq', g2, g3, g4, g5, hn, f2, f3, f4, f5, hg, N12 a1, L12_18 a1, L12_31 a1]
end BST
theorem T_best {h0 n d : Nat} {σ : St} {a b c : Int32} (h : Inv h0 n σ) : PR h0 n (d + 3) 73 [some (vR (some (11, 0, 0))), some (vI a), some (vI b), some (vI c), none, none] 163 [some (vR (some (12, 0, 0))), some (vI a), some (vI b), some (vI c), none] σ := by
  have hI := h.up
  obtain ⟨a1, a2, a3, a4, a5, a6, a7, a8, a9, a10, a11, a12, a13⟩ := h
  have a12' := a12
  have a9' := a9
  have a8' := a8
  obtain ⟨u1, u2, u3, u4⟩ := a8
  obtain ⟨⟨z, z1, z2, z3⟩, z4⟩ := a12
  obtain ⟨t1, t2, t3, t4, t5⟩ := a9
  have ct := fun {d : Nat} {Q : Option AV → St → Prop} {a : Int32} => c_pupAt (d := d) (Q := Q) (a := a) a1 u2 u1 (fun p hp => (u4 p hp).1)
  have mt := fun {d : Nat} {Q : Option AV → St → Prop} {a : Int32} => m_isPupil (d := d) (Q := Q) (a := a) a1 u3 (by omega)
  unfold PR
  by_cases hA : 0 ≤ a.toInt ∧ a.toInt < (gN σ 4 : Int)
  · obtain ⟨x, hx, rfl, e4⟩ := nI_ex hA
    have e3 : (nI x).toInt = (x : Int) := nI_toInt (by omega)
    have hx0 : (0 : Int) ≤ (x : Int) := by omega
    have hx1 : (x : Int) < (gN σ 4 : Int) := by omega
    have hx3 : (x : Int) < ((12 : Nat) : Int) := by omega
    obtain ⟨-, w1, -, w2, -, w3, w4, X, Y, hX, hY, w5, w6, w7, w8, w9⟩ := u4 x hx
    obtain ⟨i, i1, i2, i3⟩ := z3 X Y hX hY w8
    obtain ⟨r1, r2, bb, r3, r4, r5, r6⟩ := i3
    have hi0 : i < gN σ 0 := by omega
    have hR : gR σ 4 4 x = some i := w9.trans i2
    have c_t := fun {d : Nat} {Q : Option AV → St → Prop} => c_tells (d := d) (Q := Q) (a := b) hi0 r3 r4
    have m_t := fun {d : Nat} {Q : Option AV → St → Prop} => m_hasL (d := d) (Q := Q) (a := b) a1 (show 6 * X + Y < 24 by omega) r3 r5
    by_cases hB : (0 ≤ b.toInt ∧ b.toInt < 8) ∧ bb.testBit b.toNatClampNeg = true
    · simp only [if_pos hB] at c_t m_t
      by_cases hC : 0 ≤ c.toInt ∧ c.toInt < 4000
      · have hC' : c.toInt ≤ 3999 := by omega
        obtain ⟨l, hl, rfl, l4⟩ := nI_ex (n := 8) hB.1
        obtain ⟨q1, q2, q3, q4, s, e, s1, s2, s3, s4, s5, s6, s7, s8⟩ := r6 l hl (by rw [← l4]; exact hB.2)
        have l2 : (nI l).toInt = (l : Int) := nI_toInt (by omega)
        have l3 : (0 : Int) ≤ (l : Int) := by omega
        have l3' : (l : Int) < ((8 : Nat) : Int) := by omega
        obtain ⟨w, hw, hw1, hw2⟩ := nI_ex (n := 40) q2
        have cb := fun {d : Nat} {Q : Option AV → St → Prop} => c_best (d := d) (Q := Q) (p := nI x) (w := nI w) (D := c) (kd := gA σ 12 39 0) (wh := gA σ 12 40 0) (na := gA σ 12 41 0) (md := gA σ 12 50 0) (ma := gA σ 12 49 0) a1 t1 t2 (fun t ht => by
          obtain ⟨y0, y1, -, y2, -, -, -, y5, -, -, -, -, -, -, -, -, y11, -, y12, -, -, -, -⟩ := t4 t ht
          exact ⟨y0, y5, y1, y2, y12, y11⟩)
        obtain ⟨g', g1, g2⟩ := m_find (nI x) c a1 t1 t3 (fun t ht => (t4 t ht).2.2.2.2.1)
        have mb := fun {d : Nat} {Q : Option AV → St → Prop} => m_bestOf (d := d) (Q := Q) (σ := setA σ 12 31 0 g') (g := g') (e := 6 * X + Y) (l := l) (w := w) a1 (by omega) hl hw (by simp +decide only [II, AA, RR, QQ, IA, IR, IQ, AI, AR, AQ, RI, RA, RQ, QI, QA, QR, LI, LA, LR, LQ, NI, NA, NR, NQ, HI, HA, HR, HQ, SI, SA, SR, SQ, true_and, and_true, or_true, true_or, if_true, if_false, not_true_eq_false, not_false_eq_true, ne_eq, and_self]; exact hw1) gA_A
        rw [g1 w hw] at mb
        have fin : Inv h0 (n + 1) (setA σ 12 31 0 g') := by
          refine ⟨a1, ?_⟩
          simp +decide only [II, AA, RR, QQ, IA, IR, IQ, AI, AR, AQ, RI, RA, RQ, QI, QA, QR, LI, LA, LR, LQ, NI, NA, NR, NQ, HI, HA, HR, HQ, SI, SA, SR, SQ, true_and, and_true, or_true, true_or, if_true, if_false, not_true_eq_false, not_false_eq_true, ne_eq, and_self]
          exact ⟨a2, a3, a4.up, a5, a6, a7, a8', a9', a10.up, a11, a12', a13.up⟩
        by_cases hN : 0 ≤ (bN (gA σ 12 39 0) (gA σ 12 40 0) (gA σ 12 41 0) (gA σ 12 50 0) (gA σ 12 49 0) (nI x) (nI w) c.toInt (gN σ 8)).toInt
        · simp +decide only [e73_0, e73_1, e73_2, e73_5, e73_7, e73_9N, e73_9S, e73_12, e73_14, e73_17, e73_18, e73_21, e73_24, e73_25, e73_28, e73_31, e73_32, e73_33, e73_34, e73_35, e73_37, e73_40, e73_43, e73_44, e73_45, e73_46, e73_49, e73_51, e73_53, e73_56, e73_58, e73_61, e73_63, true_and, and_true, or_true, true_or, if_true, if_false, not_true_eq_false, not_false_eq_true, ne_eq, and_self, Option.toList_some, Option.toList_none, List.cons_append, List.nil_append, catS_0, catS_I, catS_L, catS_R, Option.map_some, Option.map_none, c_isIn, m_in, wide_toInt, c_isDay, m_isDay, m_isCourse, c_areParts, tI_m1000, tI_m20, tI_m14, tI_m13, tI_m12, tI_m11, tI_m4, tI_m3, tI_m2, tI_m1, tI_0, tI_1, tI_2, tI_3, tI_4, tI_5, tI_6, tI_7, tI_8, tI_9, tI_10, tI_11, tI_12, tI_14, tI_15, tI_16, tI_19, tI_20, tI_21, tI_30, tI_31, tI_32, tI_40, tI_60, tI_61, tI_80, tI_90, tI_97, tI_100, tI_101, tI_119, tI_120, tI_121, tI_126, tI_128, tI_255, tI_256, tI_500, tI_512, tI_600, tI_999, tI_1000, tI_3999, tI_4000, tI_4095, tI_4096, tI_99999, tI_100000, tL_0, tL_1, tL_2, tL_3, tL_4, tL_5, tL_7, tL_8, tL_9, tL_15, tL_19, tL_20, tL_32, tL_39, tL_48, tL_57, tL_60, tL_97, tL_100, tL_104, tL_126, tL_255, tL_3999, tL_4095, tL_99999, Option.some.injEq, Sum.inl.injEq, exists_eq_left', exists_eq', leI, ct, c_t, cb, hR, hN, q1, hw1, e3, e4, hx0, hx1, hx, hC, l2, l3, l3', l4, hi0, N11 a1, L0_2 a1 hi0]
          simp +decide only [e163_0, e163_1, e163_2, e163_5, e163_8, e163_9, e163_12, e163_15, e163_16, e163_17, e163_20, e163_21, e163_22, e163_23, e163_26, e163_29, e163_30, e163_31, e163_32, e163_33, e163_34, e163_37, e163_38, e163_39, e163_42, e163_43, e163_44, e163_45, e163_48, e163_50, e163_52, e163_55, e163_57, e163_60, e163_62, true_and, and_true, or_true, true_or, if_true, if_false, not_true_eq_false, not_false_eq_true, ne_eq, and_self, Option.toList_some, Option.toList_none, List.cons_append, List.nil_append, catS_0, catS_I, catS_L, catS_R, Option.map_some, Option.map_none, c_isIn, m_in, wide_toInt, c_isDay, m_isDay, m_isCourse, c_areParts, tI_m1000, tI_m20, tI_m14, tI_m13, tI_m12, tI_m11, tI_m4, tI_m3, tI_m2, tI_m1, tI_0, tI_1, tI_2, tI_3, tI_4, tI_5, tI_6, tI_7, tI_8, tI_9, tI_10, tI_11, tI_12, tI_14, tI_15, tI_16, tI_19, tI_20, tI_21, tI_30, tI_31, tI_32, tI_40, tI_60, tI_61, tI_80, tI_90, tI_97, tI_100, tI_101, tI_119, tI_120, tI_121, tI_126, tI_128, tI_255, tI_256, tI_500, tI_512, tI_600, tI_999, tI_1000, tI_3999, tI_4000, tI_4095, tI_4096, tI_99999, tI_100000, tL_0, tL_1, tL_2, tL_3, tL_4, tL_5, tL_7, tL_8, tL_9, tL_15, tL_19, tL_20, tL_32, tL_39, tL_48, tL_57, tL_60, tL_97, tL_100, tL_104, tL_126, tL_255, tL_3999, tL_4095, tL_99999, Option.some.injEq, Sum.inl.injEq, exists_eq_left', exists_eq', leI, mt, m_t, g2, mb, w7, hN, e3, e4, hx0, hx1, hx3, hC, hC', N12 a1, L12_25 a1, II, AA, RR, QQ, IA, IR, IQ, AI, AR, AQ, RI, RA, RQ, QI, QA, QR, LI, LA, LR, LQ, NI, NA, NR, NQ, HI, HA, HR, HQ, SI, SA, SR, SQ, fin]
        · simp +decide only [e73_0, e73_1, e73_2, e73_5, e73_7, e73_9N, e73_9S, e73_12, e73_14, e73_17, e73_18, e73_21, e73_24, e73_25, e73_28, e73_31, e73_32, e73_33, e73_34, e73_35, e73_37, e73_40, e73_43, e73_44, e73_45, e73_46, e73_49, e73_51, e73_53, e73_56, e73_58, e73_61, e73_63, true_and, and_true, or_true, true_or, if_true, if_false, not_true_eq_false, not_false_eq_true, ne_eq, and_self, Option.toList_some, Option.toList_none, List.cons_append, List.nil_append, catS_0, catS_I, catS_L, catS_R, Option.map_some, Option.map_none, c_isIn, m_in, wide_toInt, c_isDay, m_isDay, m_isCourse, c_areParts, tI_m1000, tI_m20, tI_m14, tI_m13, tI_m12, tI_m11, tI_m4, tI_m3, tI_m2, tI_m1, tI_0, tI_1, tI_2, tI_3, tI_4, tI_5, tI_6, tI_7, tI_8, tI_9, tI_10, tI_11, tI_12, tI_14, tI_15, tI_16, tI_19, tI_20, tI_21, tI_30, tI_31, tI_32, tI_40, tI_60, tI_61, tI_80, tI_90, tI_97, tI_100, tI_101, tI_119, tI_120, tI_121, tI_126, tI_128, tI_255, tI_256, tI_500, tI_512, tI_600, tI_999, tI_1000, tI_3999, tI_4000, tI_4095, tI_4096, tI_99999, tI_100000, tL_0, tL_1, tL_2, tL_3, tL_4, tL_5, tL_7, tL_8, tL_9, tL_15, tL_19, tL_20, tL_32, tL_39, tL_48, tL_57, tL_60, tL_97, tL_100, tL_104, tL_126, tL_255, tL_3999, tL_4095, tL_99999, Option.some.injEq, Sum.inl.injEq, exists_eq_left', exists_eq', leI, ct, c_t, cb, hR, hN, q1, hw1, e3, e4, hx0, hx1, hx, hC, l2, l3, l3', l4, hi0, N11 a1, L0_2 a1 hi0]
          simp +decide only [e163_0, e163_1, e163_2, e163_5, e163_8, e163_9, e163_12, e163_15, e163_16, e163_17, e163_20, e163_21, e163_22, e163_23, e163_26, e163_29, e163_30, e163_31, e163_32, e163_33, e163_34, e163_37, e163_38, e163_39, e163_42, e163_43, e163_44, e163_45, e163_48, e163_50, e163_52, e163_55, e163_57, e163_60, e163_62, true_and, and_true, or_true, true_or, if_true, if_false, not_true_eq_false, not_false_eq_true, ne_eq, and_self, Option.toList_some, Option.toList_none, List.cons_append, List.nil_append, catS_0, catS_I, catS_L, catS_R, Option.map_some, Option.map_none, c_isIn, m_in, wide_toInt, c_isDay, m_isDay, m_isCourse, c_areParts, tI_m1000, tI_m20, tI_m14, tI_m13, tI_m12, tI_m11, tI_m4, tI_m3, tI_m2, tI_m1, tI_0, tI_1, tI_2, tI_3, tI_4, tI_5, tI_6, tI_7, tI_8, tI_9, tI_10, tI_11, tI_12, tI_14, tI_15, tI_16, tI_19, tI_20, tI_21, tI_30, tI_31, tI_32, tI_40, tI_60, tI_61, tI_80, tI_90, tI_97, tI_100, tI_101, tI_119, tI_120, tI_121, tI_126, tI_128, tI_255, tI_256, tI_500, tI_512, tI_600, tI_999, tI_1000, tI_3999, tI_4000, tI_4095, tI_4096, tI_99999, tI_100000, tL_0, tL_1, tL_2, tL_3, tL_4, tL_5, tL_7, tL_8, tL_9, tL_15, tL_19, tL_20, tL_32, tL_39, tL_48, tL_57, tL_60, tL_97, tL_100, tL_104, tL_126, tL_255, tL_3999, tL_4095, tL_99999, Option.some.injEq, Sum.inl.injEq, exists_eq_left', exists_eq', leI, mt, m_t, g2, mb, w7, hN, e3, e4, hx0, hx1, hx3, hC, hC', N12 a1, L12_25 a1, II, AA, RR, QQ, IA, IR, IQ, AI, AR, AQ, RI, RA, RQ, QI, QA, QR, LI, LA, LR, LQ, NI, NA, NR, NQ, HI, HA, HR, HQ, SI, SA, SR, SQ, fin]
      · have hC' : ¬ (0 ≤ c.toInt ∧ c.toInt ≤ 3999) := by omega
        simp +decide only [e73_0, e73_1, e73_2, e73_5, e73_7, e73_9N, e73_9S, e73_12, e73_14, e73_17, e73_18, e73_21, e73_24, e73_25, e73_28, e73_31, e73_32, e73_33, e73_34, e73_35, e73_37, e73_40, e73_43, e73_44, e73_45, e73_46, e73_49, e73_51, e73_53, e73_56, e73_58, e73_61, e73_63, true_and, and_true, or_true, true_or, if_true, if_false, not_true_eq_false, not_false_eq_true, ne_eq, and_self, Option.toList_some, Option.toList_none, List.cons_append, List.nil_append, catS_0, catS_I, catS_L, catS_R, Option.map_some, Option.map_none, c_isIn, m_in, wide_toInt, c_isDay, m_isDay, m_isCourse, c_areParts, tI_m1000, tI_m20, tI_m14, tI_m13, tI_m12, tI_m11, tI_m4, tI_m3, tI_m2, tI_m1, tI_0, tI_1, tI_2, tI_3, tI_4, tI_5, tI_6, tI_7, tI_8, tI_9, tI_10, tI_11, tI_12, tI_14, tI_15, tI_16, tI_19, tI_20, tI_21, tI_30, tI_31, tI_32, tI_40, tI_60, tI_61, tI_80, tI_90, tI_97, tI_100, tI_101, tI_119, tI_120, tI_121, tI_126, tI_128, tI_255, tI_256, tI_500, tI_512, tI_600, tI_999, tI_1000, tI_3999, tI_4000, tI_4095, tI_4096, tI_99999, tI_100000, tL_0, tL_1, tL_2, tL_3, tL_4, tL_5, tL_7, tL_8, tL_9, tL_15, tL_19, tL_20, tL_32, tL_39, tL_48, tL_57, tL_60, tL_97, tL_100, tL_104, tL_126, tL_255, tL_3999, tL_4095, tL_99999, Option.some.injEq, Sum.inl.injEq, exists_eq_left', exists_eq', ct, c_t, hR, e3, e4, hx0, hx1, hx, hC, hi0, N11 a1]
        simp +decide only [e163_0, e163_1, e163_2, e163_5, e163_8, e163_9, e163_12, e163_15, e163_16, e163_17, e163_20, e163_21, e163_22, e163_23, e163_26, e163_29, e163_30, e163_31, e163_32, e163_33, e163_34, e163_37, e163_38, e163_39, e163_42, e163_43, e163_44, e163_45, e163_48, e163_50, e163_52, e163_55, e163_57, e163_60, e163_62, true_and, and_true, or_true, true_or, if_true, if_false, not_true_eq_false, not_false_eq_true, ne_eq, and_self, Option.toList_some, Option.toList_none, List.cons_append, List.nil_append, catS_0, catS_I, catS_L, catS_R, Option.map_some, Option.map_none, c_isIn, m_in, wide_toInt, c_isDay, m_isDay, m_isCourse, c_areParts, tI_m1000, tI_m20, tI_m14, tI_m13, tI_m12, tI_m11, tI_m4, tI_m3, tI_m2, tI_m1, tI_0, tI_1, tI_2, tI_3, tI_4, tI_5, tI_6, tI_7, tI_8, tI_9, tI_10, tI_11, tI_12, tI_14, tI_15, tI_16, tI_19, tI_20, tI_21, tI_30, tI_31, tI_32, tI_40, tI_60, tI_61, tI_80, tI_90, tI_97, tI_100, tI_101, tI_119, tI_120, tI_121, tI_126, tI_128, tI_255, tI_256, tI_500, tI_512, tI_600, tI_999, tI_1000, tI_3999, tI_4000, tI_4095, tI_4096, tI_99999, tI_100000, tL_0, tL_1, tL_2, tL_3, tL_4, tL_5, tL_7, tL_8, tL_9, tL_15, tL_19, tL_20, tL_32, tL_39, tL_48, tL_57, tL_60, tL_97, tL_100, tL_104, tL_126, tL_255, tL_3999, tL_4095, tL_99999, Option.some.injEq, Sum.inl.injEq, exists_eq_left', exists_eq', mt, e3, e4, hx0, hx1, hx3, hC', N12 a1, hI]
    · simp only [if_neg hB] at c_t m_t
      by_cases hC' : 0 ≤ c.toInt ∧ c.toInt ≤ 3999
      · simp +decide only [e73_0, e73_1, e73_2, e73_5, e73_7, e73_9N, e73_9S, e73_12, e73_14, e73_17, e73_18, e73_21, e73_24, e73_25, e73_28, e73_31, e73_32, e73_33, e73_34, e73_35, e73_37, e73_40, e73_43, e73_44, e73_45, e73_46, e73_49, e73_51, e73_53, e73_56, e73_58, e73_61, e73_63, true_and, and_true, or_true, true_or, if_true, if_false, not_true_eq_false, not_false_eq_true, ne_eq, and_self, Option.toList_some, Option.toList_none, List.cons_append, List.nil_append, catS_0, catS_I, catS_L, catS_R, Option.map_some, Option.map_none, c_isIn, m_in, wide_toInt, c_isDay, m_isDay, m_isCourse, c_areParts, tI_m1000, tI_m20, tI_m14, tI_m13, tI_m12, tI_m11, tI_m4, tI_m3, tI_m2, tI_m1, tI_0, tI_1, tI_2, tI_3, tI_4, tI_5, tI_6, tI_7, tI_8, tI_9, tI_10, tI_11, tI_12, tI_14, tI_15, tI_16, tI_19, tI_20, tI_21, tI_30, tI_31, tI_32, tI_40, tI_60, tI_61, tI_80, tI_90, tI_97, tI_100, tI_101, tI_119, tI_120, tI_121, tI_126, tI_128, tI_255, tI_256, tI_500, tI_512, tI_600, tI_999, tI_1000, tI_3999, tI_4000, tI_4095, tI_4096, tI_99999, tI_100000, tL_0, tL_1, tL_2, tL_3, tL_4, tL_5, tL_7, tL_8, tL_9, tL_15, tL_19, tL_20, tL_32, tL_39, tL_48, tL_57, tL_60, tL_97, tL_100, tL_104, tL_126, tL_255, tL_3999, tL_4095, tL_99999, Option.some.injEq, Sum.inl.injEq, exists_eq_left', exists_eq', ct, c_t, hR, e3, e4, hx0, hx1, hx, hi0, N11 a1]
        simp +decide only [e163_0, e163_1, e163_2, e163_5, e163_8, e163_9, e163_12, e163_15, e163_16, e163_17, e163_20, e163_21, e163_22, e163_23, e163_26, e163_29, e163_30, e163_31, e163_32, e163_33, e163_34, e163_37, e163_38, e163_39, e163_42, e163_43, e163_44, e163_45, e163_48, e163_50, e163_52, e163_55, e163_57, e163_60, e163_62, true_and, and_true, or_true, true_or, if_true, if_false, not_true_eq_false, not_false_eq_true, ne_eq, and_self, Option.toList_some, Option.toList_none, List.cons_append, List.nil_append, catS_0, catS_I, catS_L, catS_R, Option.map_some, Option.map_none, c_isIn, m_in, wide_toInt, c_isDay, m_isDay, m_isCourse, c_areParts, tI_m1000, tI_m20, tI_m14, tI_m13, tI_m12, tI_m11, tI_m4, tI_m3, tI_m2, tI_m1, tI_0, tI_1, tI_2, tI_3, tI_4, tI_5, tI_6, tI_7, tI_8, tI_9, tI_10, tI_11, tI_12, tI_14, tI_15, tI_16, tI_19, tI_20, tI_21, tI_30, tI_31, tI_32, tI_40, tI_60, tI_61, tI_80, tI_90, tI_97, tI_100, tI_101, tI_119, tI_120, tI_121, tI_126, tI_128, tI_255, tI_256, tI_500, tI_512, tI_600, tI_999, tI_1000, tI_3999, tI_4000, tI_4095, tI_4096, tI_99999, tI_100000, tL_0, tL_1, tL_2, tL_3, tL_4, tL_5, tL_7, tL_8, tL_9, tL_15, tL_19, tL_20, tL_32, tL_39, tL_48, tL_57, tL_60, tL_97, tL_100, tL_104, tL_126, tL_255, tL_3999, tL_4095, tL_99999, Option.some.injEq, Sum.inl.injEq, exists_eq_left', exists_eq', mt, m_t, w7, e3, e4, hx0, hx1, hx3, hC', N12 a1, L12_25 a1, hI]
      · simp +decide only [e73_0, e73_1, e73_2, e73_5, e73_7, e73_9N, e73_9S, e73_12, e73_14, e73_17, e73_18, e73_21, e73_24, e73_25, e73_28, e73_31, e73_32, e73_33, e73_34, e73_35, e73_37, e73_40, e73_43, e73_44, e73_45, e73_46, e73_49, e73_51, e73_53, e73_56, e73_58, e73_61, e73_63, true_and, and_true, or_true, true_or, if_true, if_false, not_true_eq_false, not_false_eq_true, ne_eq, and_self, Option.toList_some, Option.toList_none, List.cons_append, List.nil_append, catS_0, catS_I, catS_L, catS_R, Option.map_some, Option.map_none, c_isIn, m_in, wide_toInt, c_isDay, m_isDay, m_isCourse, c_areParts, tI_m1000, tI_m20, tI_m14, tI_m13, tI_m12, tI_m11, tI_m4, tI_m3, tI_m2, tI_m1, tI_0, tI_1, tI_2, tI_3, tI_4, tI_5, tI_6, tI_7, tI_8, tI_9, tI_10, tI_11, tI_12, tI_14, tI_15, tI_16, tI_19, tI_20, tI_21, tI_30, tI_31, tI_32, tI_40, tI_60, tI_61, tI_80, tI_90, tI_97, tI_100, tI_101, tI_119, tI_120, tI_121, tI_126, tI_128, tI_255, tI_256, tI_500, tI_512, tI_600, tI_999, tI_1000, tI_3999, tI_4000, tI_4095, tI_4096, tI_99999, tI_100000, tL_0, tL_1, tL_2, tL_3, tL_4, tL_5, tL_7, tL_8, tL_9, tL_15, tL_19, tL_20, tL_32, tL_39, tL_48, tL_57, tL_60, tL_97, tL_100, tL_104, tL_126, tL_255, tL_3999, tL_4095, tL_99999, Option.some.injEq, Sum.inl.injEq, exists_eq_left', exists_eq', ct, c_t, hR, e3, e4, hx0, hx1, hx, hi0, N11 a1]
        simp +decide only [e163_0, e163_1, e163_2, e163_5, e163_8, e163_9, e163_12, e163_15, e163_16, e163_17, e163_20, e163_21, e163_22, e163_23, e163_26, e163_29, e163_30, e163_31, e163_32, e163_33, e163_34, e163_37, e163_38, e163_39, e163_42, e163_43, e163_44, e163_45, e163_48, e163_50, e163_52, e163_55, e163_57, e163_60, e163_62, true_and, and_true, or_true, true_or, if_true, if_false, not_true_eq_false, not_false_eq_true, ne_eq, and_self, Option.toList_some, Option.toList_none, List.cons_append, List.nil_append, catS_0, catS_I, catS_L, catS_R, Option.map_some, Option.map_none, c_isIn, m_in, wide_toInt, c_isDay, m_isDay, m_isCourse, c_areParts, tI_m1000, tI_m20, tI_m14, tI_m13, tI_m12, tI_m11, tI_m4, tI_m3, tI_m2, tI_m1, tI_0, tI_1, tI_2, tI_3, tI_4, tI_5, tI_6, tI_7, tI_8, tI_9, tI_10, tI_11, tI_12, tI_14, tI_15, tI_16, tI_19, tI_20, tI_21, tI_30, tI_31, tI_32, tI_40, tI_60, tI_61, tI_80, tI_90, tI_97, tI_100, tI_101, tI_119, tI_120, tI_121, tI_126, tI_128, tI_255, tI_256, tI_500, tI_512, tI_600, tI_999, tI_1000, tI_3999, tI_4000, tI_4095, tI_4096, tI_99999, tI_100000, tL_0, tL_1, tL_2, tL_3, tL_4, tL_5, tL_7, tL_8, tL_9, tL_15, tL_19, tL_20, tL_32, tL_39, tL_48, tL_57, tL_60, tL_97, tL_100, tL_104, tL_126, tL_255, tL_3999, tL_4095, tL_99999, Option.some.injEq, Sum.inl.injEq, exists_eq_left', exists_eq', mt, e3, e4, hx0, hx1, hx3, hC', N12 a1, hI]
  · simp +decide only [e73_0, e73_1, e73_2, e73_5, e73_7, e73_9N, e73_9S, e73_12, e73_14, e73_17, e73_18, e73_21, e73_24, e73_25, e73_28, e73_31, e73_32, e73_33, e73_34, e73_35, e73_37, e73_40, e73_43, e73_44, e73_45, e73_46, e73_49, e73_51, e73_53, e73_56, e73_58, e73_61, e73_63, true_and, and_true, or_true, true_or, if_true, if_false, not_true_eq_false, not_false_eq_true, ne_eq, and_self, Option.toList_some, Option.toList_none, List.cons_append, List.nil_append, catS_0, catS_I, catS_L, catS_R, Option.map_some, Option.map_none, Option.some.injEq, Sum.inl.injEq, exists_eq_left', exists_eq', ct, hA, N11 a1]
    simp +decide only [e163_0, e163_1, e163_2, e163_5, e163_8, e163_9, e163_12, e163_15, e163_16, e163_17, e163_20, e163_21, e163_22, e163_23, e163_26, e163_29, e163_30, e163_31, e163_32, e163_33, e163_34, e163_37, e163_38, e163_39, e163_42, e163_43, e163_44, e163_45, e163_48, e163_50, e163_52, e163_55, e163_57, e163_60, e163_62, true_and, and_true, or_true, true_or, if_true, if_false, not_true_eq_false, not_false_eq_true, ne_eq, and_self, Option.toList_some, Option.toList_none, List.cons_append, List.nil_append, catS_0, catS_I, catS_L, catS_R, Option.map_some, Option.map_none, Option.some.injEq, Sum.inl.injEq, exists_eq_left', exists_eq', mt, hA, N12 a1, hI]
