theorem bn_t : bn true = 1 := rfl
theorem bn_f : bn false = 0 := rfl
theorem enc_b {st : List Bool} (h : st.length ≤ 20) : enc st < 2 ^ 21 :=
  Nat.lt_of_lt_of_le (enc_lt st) (Nat.pow_le_pow_right (by omega) (by omega))
theorem enc_and {st : List Bool} (h : st.length ≤ 20) : nI (enc st) &&& 1 = bz (hv st) := by
  match st, h with
  | [], _ => rfl
  | b :: r, h =>
    have h1 := enc_b h
    have h1 : 2 * enc r + bn b < 2 ^ 21 := h1
    show nI (2 * enc r + bn b) &&& 1 = bz b
    rw [k_and1 (bn_le b) (by omega), nI_bn]
section HOL2
variable {d : Nat} {Q : Option AV → St → Prop} {σ : St} {i l C K b s e : Nat} {B ps mw : Nat → Int32} {D : Nat → Nat}
theorem c_holds_l (a1 : SH σ) (hi : i < gN σ 0) (hl : l < 8) (hk : fk C K = (1, 1)) (hL : gL σ C K 0 = some 8) (hN : 0 < gN σ C) (he : e ≤ 120) (hend : gA σ 0 6 i l = nI e) (hD0 : D s = 0) (hD : ∀ k, s ≤ k → k < e → D (k + 1) ≤ 20 ∧ ((∃ on m : Nat, on < 8 ∧ m ≤ 101 ∧ b.testBit on = true ∧ gA σ 0 7 i k = nI (8 * m + on) ∧ mw k = nI (8 * m + on) ∧ D (k + 1) = D k + 1) ∨ (gA σ 0 7 i k = -1 ∧ mw k = -2 ∧ 1 ≤ D k ∧ D (k + 1) = D k) ∨ (gA σ 0 7 i k = -2 ∧ mw k = -3 ∧ 2 ≤ D k ∧ D (k + 1) + 1 = D k) ∨ (gA σ 0 7 i k = -3 ∧ mw k = -4 ∧ 2 ≤ D k ∧ D (k + 1) + 1 = D k))) (hB : ∀ on, on < 8 → b.testBit on = true → gA σ C K 0 on = B on ∧ gA σ 0 3 i on = ps on) : ∀ n m l5, s + m + n = e → D (s + m) ≤ 20 → Rn (d + 2) Q (10, 10, [some (vR (some (0, 0, i))), some (vI (nI l)), some (vR (some (C, K + 1, 0))), some (vI (nI (enc (stk B ps mw s m)))), some (vI (nI (s + m))), l5], [], σ) = Q (some (vI (bz (hv (stk B ps mw s (e - s)))))) σ := by
  have l2 : (nI l).toInt = (l : Int) := nI_toInt (by omega)
  have l3 : (0 : Int) ≤ (l : Int) := by omega
  have l4 : (l : Int) < ((8 : Nat) : Int) := by omega
  have l5 : (nI l).toNatClampNeg = l := nI_clamp (by omega)
  intro n
  induction n with
  | zero =>
    intro m v5 hm hd
    have hlen := stk_len (B := B) (ps := ps) hD0 hD m (by omega)
    have e1 : nI e ≤ nI (s + m) := nI_le (by omega) (by omega)
    have ea := enc_and (st := stk B ps mw s m) (by omega)
    rw [show e - s = m by omega, e10_10]
    cases hh : hv (stk B ps mw s m) with
    | true =>
      rw [hh, bz_t] at ea
      simp +decide only [e10_0, e10_1, e10_2, e10_3, e10_6, e10_7, e10_8, e10_12, e10_13, e10_16, e10_17, e10_18, e10_21, e10_22, e10_23, e10_24, e10_26, e10_27, e10_30, e10_32, e10_33, e10_60, e10_61, e10_62, e10_63, e10_64, e10_67, e10_69, e10_70, e10_73, e10_74, e10_75, e10_76, e10_79, e10_80, e10_81, e10_82, e10_84, e10_85, e10_86, e10_89, e10_90, e10_91, e10_92, e10_94, e10_95, e10_96, e10_99, e10_100, e10_101, e10_102, e10_103, e10_104, e10_107, e10_109, e10_110, e10_111, e10_114, e10_117, e10_118, e10_121, e10_122, e10_123, e10_124, e10_127, e10_130, e10_131, e10_132, e10_133, e10_134, e10_137, e10_138, e10_141, e10_142, true_and, and_true, or_true, true_or, if_true, if_false, not_true_eq_false, not_false_eq_true, ne_eq, and_self, Option.toList_some, Option.toList_none, List.cons_append, List.nil_append, catS_0, catS_I, catS_L, catS_R, Option.map_some, Option.map_none, Option.some.injEq, Sum.inl.injEq, exists_eq_left', exists_eq', hi, l2, l3, l4, l5, hend, e1, ea, bz_t, L0_6 a1 hi]
    | false =>
      rw [hh, bz_f] at ea
      simp +decide only [e10_0, e10_1, e10_2, e10_3, e10_6, e10_7, e10_8, e10_12, e10_13, e10_16, e10_17, e10_18, e10_21, e10_22, e10_23, e10_24, e10_26, e10_27, e10_30, e10_32, e10_33, e10_60, e10_61, e10_62, e10_63, e10_64, e10_67, e10_69, e10_70, e10_73, e10_74, e10_75, e10_76, e10_79, e10_80, e10_81, e10_82, e10_84, e10_85, e10_86, e10_89, e10_90, e10_91, e10_92, e10_94, e10_95, e10_96, e10_99, e10_100, e10_101, e10_102, e10_103, e10_104, e10_107, e10_109, e10_110, e10_111, e10_114, e10_117, e10_118, e10_121, e10_122, e10_123, e10_124, e10_127, e10_130, e10_131, e10_132, e10_133, e10_134, e10_137, e10_138, e10_141, e10_142, true_and, and_true, or_true, true_or, if_true, if_false, not_true_eq_false, not_false_eq_true, ne_eq, and_self, Option.toList_some, Option.toList_none, List.cons_append, List.nil_append, catS_0, catS_I, catS_L, catS_R, Option.map_some, Option.map_none, Option.some.injEq, Sum.inl.injEq, exists_eq_left', exists_eq', hi, l2, l3, l4, l5, hend, e1, ea, bz_f, L0_6 a1 hi]
  | succ n ih =>
    intro m v5 hm hd
    have hlen := stk_len (B := B) (ps := ps) hD0 hD m (by omega)
    have e1 : ¬ nI e ≤ nI (s + m) := nI_ge (by omega) (by omega)
    have ea := enc_and (st := stk B ps mw s m) (by omega)
    have eb := enc_b (st := stk B ps mw s m) (by omega)
    have g3 : (nI (s + m)).toInt = ((s + m : Nat) : Int) := nI_toInt (by omega)
    have g4 : (nI (s + m)).toNatClampNeg = s + m := nI_clamp (by omega)
    have g5 : (0 : Int) ≤ ((s + m : Nat) : Int) ∧ ((s + m : Nat) : Int) < ((120 : Nat) : Int) := by omega
    obtain ⟨hd2, hop⟩ := hD (s + m) (by omega) (by omega)
    have t := ih (m + 1) (some (vI (bz (hv (stk B ps mw s m))))) (by omega) hd2
    rw [show s + (m + 1) = s + m + 1 by omega, ← nI_1] at t
    have hs1 : stk B ps mw s (m + 1) = stp B ps (mw (s + m)) (stk B ps mw s m) := rfl
    rw [hs1] at t
    rw [← t, e10_10]
    rcases hop with ⟨on, q, d1, d2, d6, d7, d3, -⟩ | ⟨d7, d3, d4, -⟩ | ⟨d7, d3, d4, -⟩ | ⟨d7, d3, d4, -⟩
    · obtain ⟨n2, n3, n4, n1⟩ := nI_q d1 d2
      have cc := fun {d : Nat} {Q : Option AV → St → Prop} => c_claim (d := d) (Q := Q) (B := B) (ps := ps) (q := q) a1 hi d1 d2 hk hL hN (hB on d1 d6).1 (hB on d1 d6).2
      have s1 : nI (enc (stk B ps mw s m)) <<< (1 &&& 31) = nI (2 * enc (stk B ps mw s m) + 0) := k_shl1 (by omega)
      have s2 : nI (2 * enc (stk B ps mw s m) + 0) ||| 1 = nI (2 * enc (stk B ps mw s m) + 1) := k_or1 (c := 1) (by omega) (by omega)
      have s3 : nI (2 * enc (stk B ps mw s m) + 0) ||| 0 = nI (2 * enc (stk B ps mw s m) + 0) := Int32.or_zero
      rw [d3, stp_c d1 d2]
      show _ = Rn (d + 2) Q (10, 10, [_, _, _, some (vI (nI (2 * enc (stk B ps mw s m) + bn (clz B ps q on)))), _, _], [], σ)
      cases hc : clz B ps q on with
      | true =>
        rw [bn_t]
        rw [hc] at cc
        simp +decide only [e10_0, e10_1, e10_2, e10_3, e10_6, e10_7, e10_8, e10_12, e10_13, e10_16, e10_17, e10_18, e10_21, e10_22, e10_23, e10_24, e10_26, e10_27, e10_30, e10_32, e10_33, e10_60, e10_61, e10_62, e10_63, e10_64, e10_67, e10_69, e10_70, e10_73, e10_74, e10_75, e10_76, e10_79, e10_80, e10_81, e10_82, e10_84, e10_85, e10_86, e10_89, e10_90, e10_91, e10_92, e10_94, e10_95, e10_96, e10_99, e10_100, e10_101, e10_102, e10_103, e10_104, e10_107, e10_109, e10_110, e10_111, e10_114, e10_117, e10_118, e10_121, e10_122, e10_123, e10_124, e10_127, e10_130, e10_131, e10_132, e10_133, e10_134, e10_137, e10_138, e10_141, e10_142, true_and, and_true, or_true, true_or, if_true, if_false, not_true_eq_false, not_false_eq_true, ne_eq, and_self, Option.toList_some, Option.toList_none, List.cons_append, List.nil_append, catS_0, catS_I, catS_L, catS_R, Option.map_some, Option.map_none, Option.some.injEq, Sum.inl.injEq, exists_eq_left', exists_eq', hi, l2, l3, l4, l5, hend, e1, ea, g3, g4, g5, d7, n1, n2, n3, cc, bz_t, s1, s2, L0_6 a1 hi, L0_7 a1 hi]
      | false =>
        rw [bn_f]
        rw [hc] at cc
        simp +decide only [e10_0, e10_1, e10_2, e10_3, e10_6, e10_7, e10_8, e10_12, e10_13, e10_16, e10_17, e10_18, e10_21, e10_22, e10_23, e10_24, e10_26, e10_27, e10_30, e10_32, e10_33, e10_60, e10_61, e10_62, e10_63, e10_64, e10_67, e10_69, e10_70, e10_73, e10_74, e10_75, e10_76, e10_79, e10_80, e10_81, e10_82, e10_84, e10_85, e10_86, e10_89, e10_90, e10_91, e10_92, e10_94, e10_95, e10_96, e10_99, e10_100, e10_101, e10_102, e10_103, e10_104, e10_107, e10_109, e10_110, e10_111, e10_114, e10_117, e10_118, e10_121, e10_122, e10_123, e10_124, e10_127, e10_130, e10_131, e10_132, e10_133, e10_134, e10_137, e10_138, e10_141, e10_142, true_and, and_true, or_true, true_or, if_true, if_false, not_true_eq_false, not_false_eq_true, ne_eq, and_self, Option.toList_some, Option.toList_none, List.cons_append, List.nil_append, catS_0, catS_I, catS_L, catS_R, Option.map_some, Option.map_none, Option.some.injEq, Sum.inl.injEq, exists_eq_left', exists_eq', hi, l2, l3, l4, l5, hend, e1, ea, g3, g4, g5, d7, n1, n2, n3, cc, bz_f, s1, s3, L0_6 a1 hi, L0_7 a1 hi]
    · rw [d3]
      revert ea eb hlen
      match stk B ps mw s m with
      | [] => intro hlen; exact absurd hlen (by show ¬ 0 = _; omega)
      | c :: r =>
        intro _ ea eb
        rw [stp_t]
        have eb : 2 * enc r + bn c < 2 ^ 21 := eb
        have x1 : nI (2 * enc r + bn c) ^^^ 1 = nI (2 * enc r + bn (!c)) := by
          rw [k_xor1 (bn_le c)]
          cases c <;> rfl
        have ea : nI (2 * enc r + bn c) &&& 1 = bz (hv (c :: r)) := ea
        show Rn (d + 2) Q (10, 12, [_, _, _, some (vI (nI (2 * enc r + bn c))), _, _], _, σ) = Rn (d + 2) Q (10, 10, [_, _, _, some (vI (nI (2 * enc r + bn (!c)))), _, _], [], σ)
        simp +decide only [e10_0, e10_1, e10_2, e10_3, e10_6, e10_7, e10_8, e10_12, e10_13, e10_16, e10_17, e10_18, e10_21, e10_22, e10_23, e10_24, e10_26, e10_27, e10_30, e10_32, e10_33, e10_60, e10_61, e10_62, e10_63, e10_64, e10_67, e10_69, e10_70, e10_73, e10_74, e10_75, e10_76, e10_79, e10_80, e10_81, e10_82, e10_84, e10_85, e10_86, e10_89, e10_90, e10_91, e10_92, e10_94, e10_95, e10_96, e10_99, e10_100, e10_101, e10_102, e10_103, e10_104, e10_107, e10_109, e10_110, e10_111, e10_114, e10_117, e10_118, e10_121, e10_122, e10_123, e10_124, e10_127, e10_130, e10_131, e10_132, e10_133, e10_134, e10_137, e10_138, e10_141, e10_142, true_and, and_true, or_true, true_or, if_true, if_false, not_true_eq_false, not_false_eq_true, ne_eq, and_self, Option.toList_some, Option.toList_none, List.cons_append, List.nil_append, catS_0, catS_I, catS_L, catS_R, Option.map_some, Option.map_none, Option.some.injEq, Sum.inl.injEq, exists_eq_left', exists_eq', hi, l2, l3, l4, l5, hend, e1, ea, g3, g4, g5, d7, x1, L0_6 a1 hi, L0_7 a1 hi]
    · rw [d3]
      revert ea eb hlen
      match stk B ps mw s m with
      | [] => intro hlen; exact absurd hlen (by show ¬ 0 = _; omega)
      | [c] => intro hlen; exact absurd hlen (by show ¬ 1 = _; omega)
      | c :: c' :: r =>
        intro _ ea eb
        rw [stp_b]
        have eb : 2 * (2 * enc r + bn c') + bn c < 2 ^ 21 := eb
        have x1 : nI (2 * (2 * enc r + bn c') + bn c) >>> (1 &&& 31) = nI (2 * enc r + bn c') := k_shr1 (bn_le c) (by omega)
        have x2 : nI (2 * enc r + bn c') &&& (-2) = nI (2 * enc r) := k_andm2 (bn_le c')
        have ea : nI (2 * (2 * enc r + bn c') + bn c) &&& 1 = bz c := ea
        show Rn (d + 2) Q (10, 12, [_, _, _, some (vI (nI (2 * (2 * enc r + bn c') + bn c))), _, _], _, σ) = Rn (d + 2) Q (10, 10, [_, _, _, some (vI (nI (2 * enc r + bn (c' && c)))), _, some (vI (bz c))], [], σ)
        cases c with
        | true =>
          rw [Bool.and_true]
          simp +decide only [e10_0, e10_1, e10_2, e10_3, e10_6, e10_7, e10_8, e10_12, e10_13, e10_16, e10_17, e10_18, e10_21, e10_22, e10_23, e10_24, e10_26, e10_27, e10_30, e10_32, e10_33, e10_60, e10_61, e10_62, e10_63, e10_64, e10_67, e10_69, e10_70, e10_73, e10_74, e10_75, e10_76, e10_79, e10_80, e10_81, e10_82, e10_84, e10_85, e10_86, e10_89, e10_90, e10_91, e10_92, e10_94, e10_95, e10_96, e10_99, e10_100, e10_101, e10_102, e10_103, e10_104, e10_107, e10_109, e10_110, e10_111, e10_114, e10_117, e10_118, e10_121, e10_122, e10_123, e10_124, e10_127, e10_130, e10_131, e10_132, e10_133, e10_134, e10_137, e10_138, e10_141, e10_142, true_and, and_true, or_true, true_or, if_true, if_false, not_true_eq_false, not_false_eq_true, ne_eq, and_self, Option.toList_some, Option.toList_none, List.cons_append, List.nil_append, catS_0, catS_I, catS_L, catS_R, Option.map_some, Option.map_none, Option.some.injEq, Sum.inl.injEq, exists_eq_left', exists_eq', hi, l2, l3, l4, l5, hend, e1, ea, g3, g4, g5, d7, x1, bz_t, L0_6 a1 hi, L0_7 a1 hi]
        | false =>
          rw [Bool.and_false]
          have z : 2 * enc r + bn false = 2 * enc r := rfl
          rw [z]
          simp +decide only [e10_0, e10_1, e10_2, e10_3, e10_6, e10_7, e10_8, e10_12, e10_13, e10_16, e10_17, e10_18, e10_21, e10_22, e10_23, e10_24, e10_26, e10_27, e10_30, e10_32, e10_33, e10_60, e10_61, e10_62, e10_63, e10_64, e10_67, e10_69, e10_70, e10_73, e10_74, e10_75, e10_76, e10_79, e10_80, e10_81, e10_82, e10_84, e10_85, e10_86, e10_89, e10_90, e10_91, e10_92, e10_94, e10_95, e10_96, e10_99, e10_100, e10_101, e10_102, e10_103, e10_104, e10_107, e10_109, e10_110, e10_111, e10_114, e10_117, e10_118, e10_121, e10_122, e10_123, e10_124, e10_127, e10_130, e10_131, e10_132, e10_133, e10_134, e10_137, e10_138, e10_141, e10_142, true_and, and_true, or_true, true_or, if_true, if_false, not_true_eq_false, not_false_eq_true, ne_eq, and_self, Option.toList_some, Option.toList_none, List.cons_append, List.nil_append, catS_0, catS_I, catS_L, catS_R, Option.map_some, Option.map_none, Option.some.injEq, Sum.inl.injEq, exists_eq_left', exists_eq', hi, l2, l3, l4, l5, hend, e1, ea, g3, g4, g5, d7, x1, x2, bz_f, L0_6 a1 hi, L0_7 a1 hi]
    · rw [d3]
      revert ea eb hlen
      match stk B ps mw s m with
      | [] => intro hlen; exact absurd hlen (by show ¬ 0 = _; omega)
      | [c] => intro hlen; exact absurd hlen (by show ¬ 1 = _; omega)
      | c :: c' :: r =>
        intro _ ea eb
        rw [stp_e]
        have eb : 2 * (2 * enc r + bn c') + bn c < 2 ^ 21 := eb
        have x1 : nI (2 * (2 * enc r + bn c') + bn c) >>> (1 &&& 31) = nI (2 * enc r + bn c') := k_shr1 (bn_le c) (by omega)
        have x2 : nI (2 * enc r + bn c') ||| bz c = nI (2 * enc r + bn (c' || c)) := by
          rw [← nI_bn c, k_or1 (bn_le c') (bn_le c)]
          cases c <;> cases c' <;> rfl
        have ea : nI (2 * (2 * enc r + bn c') + bn c) &&& 1 = bz c := ea
        show Rn (d + 2) Q (10, 12, [_, _, _, some (vI (nI (2 * (2 * enc r + bn c') + bn c))), _, _], _, σ) = Rn (d + 2) Q (10, 10, [_, _, _, some (vI (nI (2 * enc r + bn (c' || c)))), _, some (vI (bz c))], [], σ)
        simp +decide only [e10_0, e10_1, e10_2, e10_3, e10_6, e10_7, e10_8, e10_12, e10_13, e10_16, e10_17, e10_18, e10_21, e10_22, e10_23, e10_24, e10_26, e10_27, e10_30, e10_32, e10_33, e10_60, e10_61, e10_62, e10_63, e10_64, e10_67, e10_69, e10_70, e10_73, e10_74, e10_75, e10_76, e10_79, e10_80, e10_81, e10_82, e10_84, e10_85, e10_86, e10_89, e10_90, e10_91, e10_92, e10_94, e10_95, e10_96, e10_99, e10_100, e10_101, e10_102, e10_103, e10_104, e10_107, e10_109, e10_110, e10_111, e10_114, e10_117, e10_118, e10_121, e10_122, e10_123, e10_124, e10_127, e10_130, e10_131, e10_132, e10_133, e10_134, e10_137, e10_138, e10_141, e10_142, true_and, and_true, or_true, true_or, if_true, if_false, not_true_eq_false, not_false_eq_true, ne_eq, and_self, Option.toList_some, Option.toList_none, List.cons_append, List.nil_append, catS_0, catS_I, catS_L, catS_R, Option.map_some, Option.map_none, Option.some.injEq, Sum.inl.injEq, exists_eq_left', exists_eq', hi, l2, l3, l4, l5, hend, e1, ea, g3, g4, g5, d7, x1, x2, L0_6 a1 hi, L0_7 a1 hi]
theorem c_holds (a1 : SH σ) (hi : i < gN σ 0) (hl : l < 8) (hk : fk C K = (1, 1)) (hL : gL σ C K 0 = some 8) (hN : 0 < gN σ C) (hse : s ≤ e) (he : e ≤ 120) (hst : gA σ 0 5 i l = nI s) (hend : gA σ 0 6 i l = nI e) (hW : CW b (gA σ 0 7 i) mw s e) (hB : ∀ on, on < 8 → b.testBit on = true → gA σ C K 0 on = B on ∧ gA σ 0 3 i on = ps on) : Rn (d + 2) Q (10, 0, [some (vR (some (0, 0, i))), some (vI (nI l)), some (vR (some (C, K + 1, 0))), none, none, none], [], σ) = Q (some (vI (bz (hv (stk B ps mw s (e - s)))))) σ := by
  obtain ⟨D, d0, d1, d2⟩ := hW
  have l2 : (nI l).toInt = (l : Int) := nI_toInt (by omega)
  have l3 : (0 : Int) ≤ (l : Int) := by omega
  have l4 : (l : Int) < ((8 : Nat) : Int) := by omega
  have l5 : (nI l).toNatClampNeg = l := nI_clamp (by omega)
  have t := c_holds_l (d := d) (Q := Q) (l := l) a1 hi hl hk hL hN he hend d0 d2 hB (e - s) 0 none (by omega) (by rw [Nat.add_zero, d0]; omega)
  rw [Nat.add_zero] at t
  have t' : Rn (d + 2) Q (10, 10, [some (vR (some (0, 0, i))), some (vI (nI l)), some (vR (some (C, K + 1, 0))), some (vI 1), some (vI (nI s)), none], [], σ) = _ := t
  simp +decide only [e10_0, e10_1, e10_2, e10_3, e10_6, e10_7, e10_8, e10_12, e10_13, e10_16, e10_17, e10_18, e10_21, e10_22, e10_23, e10_24, e10_26, e10_27, e10_30, e10_32, e10_33, e10_60, e10_61, e10_62, e10_63, e10_64, e10_67, e10_69, e10_70, e10_73, e10_74, e10_75, e10_76, e10_79, e10_80, e10_81, e10_82, e10_84, e10_85, e10_86, e10_89, e10_90, e10_91, e10_92, e10_94, e10_95, e10_96, e10_99, e10_100, e10_101, e10_102, e10_103, e10_104, e10_107, e10_109, e10_110, e10_111, e10_114, e10_117, e10_118, e10_121, e10_122, e10_123, e10_124, e10_127, e10_130, e10_131, e10_132, e10_133, e10_134, e10_137, e10_138, e10_141, e10_142, true_and, and_true, or_true, true_or, if_true, if_false, not_true_eq_false, not_false_eq_true, ne_eq, and_self, Option.toList_some, Option.toList_none, List.cons_append, List.nil_append, catS_0, catS_I, catS_L, catS_R, Option.map_some, Option.map_none, Option.some.injEq, Sum.inl.injEq, exists_eq_left', exists_eq', hi, l2, l3, l4, l5, hst, L0_5 a1 hi, t']
end HOL2
