/-- the latest of the first y editions that is in force -/
def fo (f : Nat → Int32) (D : Int) : Nat → Option Nat
  | 0 => none
  | k + 1 => if (f k).toInt ≤ D then some k else fo f D k
theorem fo_y {f : Nat → Int32} {D : Int} {k : Nat} (h : (f k).toInt ≤ D) : fo f D (k + 1) = some k := by
  show (if (f k).toInt ≤ D then some k else fo f D k) = _
  rw [if_pos h]
theorem fo_n {f : Nat → Int32} {D : Int} {k : Nat} (h : ¬ (f k).toInt ≤ D) : fo f D (k + 1) = fo f D k := by
  show (if (f k).toInt ≤ D then some k else fo f D k) = _
  rw [if_neg h]
theorem fo_lt {f : Nat → Int32} {D : Int} {k : Nat} : ∀ y, fo f D y = some k → k < y := by
  intro y
  induction y with
  | zero => intro h; cases h
  | succ y ih =>
    intro h
    by_cases hd : (f y).toInt ≤ D
    · rw [fo_y hd] at h; cases h; omega
    · rw [fo_n hd] at h; have := ih h; omega
section FOR
variable {d : Nat} {Q : Option AV → St → Prop} {σ : St} {b : Int32} {x Y : Nat}
theorem c_force_l (a1 : SH σ) (hx : x < 4) (hY : Y ≤ 6) (hq : ∀ k, k < Y → ∃ i, i < gN σ 0 ∧ gQ σ 11 1 0 (6 * x + k) = some i ∧ gI σ 0 0 i = gA σ 12 16 0 (6 * x + k)) : ∀ (y : Nat) (v : Int32), v.toInt = (y : Int) - 1 → y ≤ Y → Rn d Q (118, 9, [some (vR (some (11, 0, 0))), some (vI (nI x)), some (vI b), some (vI v)], [], σ) = Q (some (vI ((fo (fun k => gA σ 12 16 0 (6 * x + k)) b.toInt y).elim (-4) nI))) σ := by
  intro y
  induction y with
  | zero =>
    intro v hv hy
    have e1 : v.toInt < 0 := by omega
    rw [e118_9]
    simp +decide only [e118_0, e118_1, e118_4, e118_5, e118_6, e118_7, e118_8, e118_10, e118_13, e118_14, e118_17, e118_18, e118_20, e118_21, e118_22, e118_23, e118_24, e118_27, e118_28, e118_31, e118_32, e118_33, e118_36, e118_39, e118_41, true_and, and_true, or_true, true_or, if_true, if_false, not_true_eq_false, not_false_eq_true, ne_eq, and_self, Option.toList_some, Option.toList_none, List.cons_append, List.nil_append, catS_0, catS_I, catS_L, catS_R, Option.map_some, Option.map_none, ltI, tI_m1000, tI_m20, tI_m14, tI_m13, tI_m12, tI_m11, tI_m4, tI_m3, tI_m2, tI_m1, tI_0, tI_1, tI_2, tI_3, tI_4, tI_5, tI_6, tI_7, tI_8, tI_9, tI_10, tI_11, tI_12, tI_14, tI_15, tI_16, tI_19, tI_20, tI_21, tI_30, tI_31, tI_32, tI_40, tI_60, tI_61, tI_80, tI_90, tI_97, tI_100, tI_101, tI_119, tI_120, tI_121, tI_126, tI_128, tI_255, tI_256, tI_500, tI_512, tI_600, tI_999, tI_1000, tI_3999, tI_4000, tI_4095, tI_4096, tI_99999, tI_100000, tL_0, tL_1, tL_2, tL_3, tL_4, tL_5, tL_7, tL_8, tL_9, tL_15, tL_19, tL_20, tL_32, tL_39, tL_48, tL_57, tL_60, tL_97, tL_100, tL_104, tL_126, tL_255, tL_3999, tL_4095, tL_99999, e1]
    rfl
  | succ y ih =>
    intro v hv hy
    have hvn : v = nI y := by
      apply Int32.toInt_inj.mp
      rw [nI_toInt (by omega)]
      omega
    subst hvn
    obtain ⟨i, i1, i2, i3⟩ := hq y (by omega)
    have y2 : (nI y).toInt = (y : Int) := nI_toInt (by omega)
    have y3 : ¬ (y : Int) < 0 := by omega
    have g2 : nI x * 6 + nI y = nI (6 * x + y) := by rw [lN6, pk_mul, nI_add, Nat.mul_comm]
    have g3 : (nI (6 * x + y)).toInt = ((6 * x + y : Nat) : Int) := nI_toInt (by omega)
    have g4 : (nI (6 * x + y)).toNatClampNeg = 6 * x + y := nI_clamp (by omega)
    have g5 : (0 : Int) ≤ ((6 * x + y : Nat) : Int) ∧ ((6 * x + y : Nat) : Int) < ((24 : Nat) : Int) := by omega
    rw [e118_9]
    by_cases hd : b.toInt < (gA σ 12 16 0 (6 * x + y)).toInt
    · rw [fo_n (by show ¬ (gA σ 12 16 0 (6 * x + y)).toInt ≤ b.toInt; omega)]
      simp +decide only [e118_0, e118_1, e118_4, e118_5, e118_6, e118_7, e118_8, e118_10, e118_13, e118_14, e118_17, e118_18, e118_20, e118_21, e118_22, e118_23, e118_24, e118_27, e118_28, e118_31, e118_32, e118_33, e118_36, e118_39, e118_41, true_and, and_true, or_true, true_or, if_true, if_false, not_true_eq_false, not_false_eq_true, ne_eq, and_self, Option.toList_some, Option.toList_none, List.cons_append, List.nil_append, catS_0, catS_I, catS_L, catS_R, Option.map_some, Option.map_none, Option.some.injEq, Sum.inl.injEq, exists_eq_left', exists_eq', ltI, tI_m1000, tI_m20, tI_m14, tI_m13, tI_m12, tI_m11, tI_m4, tI_m3, tI_m2, tI_m1, tI_0, tI_1, tI_2, tI_3, tI_4, tI_5, tI_6, tI_7, tI_8, tI_9, tI_10, tI_11, tI_12, tI_14, tI_15, tI_16, tI_19, tI_20, tI_21, tI_30, tI_31, tI_32, tI_40, tI_60, tI_61, tI_80, tI_90, tI_97, tI_100, tI_101, tI_119, tI_120, tI_121, tI_126, tI_128, tI_255, tI_256, tI_500, tI_512, tI_600, tI_999, tI_1000, tI_3999, tI_4000, tI_4095, tI_4096, tI_99999, tI_100000, tL_0, tL_1, tL_2, tL_3, tL_4, tL_5, tL_7, tL_8, tL_9, tL_15, tL_19, tL_20, tL_32, tL_39, tL_48, tL_57, tL_60, tL_97, tL_100, tL_104, tL_126, tL_255, tL_3999, tL_4095, tL_99999, y2, y3, g2, g3, g4, g5, i1, i2, i3, hd, N11 a1, L11_1 a1]
      refine ih _ ?_ (by omega)
      cases y with
      | zero => decide
      | succ y => rw [pk_m1, nI_toInt (by omega)]; omega
    · rw [fo_y (by show (gA σ 12 16 0 (6 * x + y)).toInt ≤ b.toInt; omega)]
      simp +decide only [e118_0, e118_1, e118_4, e118_5, e118_6, e118_7, e118_8, e118_10, e118_13, e118_14, e118_17, e118_18, e118_20, e118_21, e118_22, e118_23, e118_24, e118_27, e118_28, e118_31, e118_32, e118_33, e118_36, e118_39, e118_41, true_and, and_true, or_true, true_or, if_true, if_false, not_true_eq_false, not_false_eq_true, ne_eq, and_self, Option.toList_some, Option.toList_none, List.cons_append, List.nil_append, catS_0, catS_I, catS_L, catS_R, Option.map_some, Option.map_none, Option.some.injEq, Sum.inl.injEq, exists_eq_left', exists_eq', ltI, tI_m1000, tI_m20, tI_m14, tI_m13, tI_m12, tI_m11, tI_m4, tI_m3, tI_m2, tI_m1, tI_0, tI_1, tI_2, tI_3, tI_4, tI_5, tI_6, tI_7, tI_8, tI_9, tI_10, tI_11, tI_12, tI_14, tI_15, tI_16, tI_19, tI_20, tI_21, tI_30, tI_31, tI_32, tI_40, tI_60, tI_61, tI_80, tI_90, tI_97, tI_100, tI_101, tI_119, tI_120, tI_121, tI_126, tI_128, tI_255, tI_256, tI_500, tI_512, tI_600, tI_999, tI_1000, tI_3999, tI_4000, tI_4095, tI_4096, tI_99999, tI_100000, tL_0, tL_1, tL_2, tL_3, tL_4, tL_5, tL_7, tL_8, tL_9, tL_15, tL_19, tL_20, tL_32, tL_39, tL_48, tL_57, tL_60, tL_97, tL_100, tL_104, tL_126, tL_255, tL_3999, tL_4095, tL_99999, y2, y3, g2, g3, g4, g5, i1, i2, i3, hd, N11 a1, L11_1 a1]
      rfl
theorem c_force (a1 : SH σ) (hx : x < 4) (hY : Y ≤ 6) (hc : gA σ 11 2 0 x = nI Y) (hq : ∀ k, k < Y → ∃ i, i < gN σ 0 ∧ gQ σ 11 1 0 (6 * x + k) = some i ∧ gI σ 0 0 i = gA σ 12 16 0 (6 * x + k)) : Rn d Q (118, 0, [some (vR (some (11, 0, 0))), some (vI (nI x)), some (vI b), none], [], σ) = Q (some (vI ((fo (fun k => gA σ 12 16 0 (6 * x + k)) b.toInt Y).elim (-4) nI))) σ := by
  have x2 : (nI x).toInt = (x : Int) := nI_toInt (by omega)
  have x3 : (0 : Int) ≤ (x : Int) := by omega
  have x4 : (x : Int) < ((4 : Nat) : Int) := by omega
  have x5 : (nI x).toNatClampNeg = x := nI_clamp (by omega)
  have t := c_force_l (d := d) (Q := Q) (b := b) a1 hx hY hq Y (nI Y - 1) (nI_m1 (by omega)) (by omega)
  simp +decide only [e118_0, e118_1, e118_4, e118_5, e118_6, e118_7, e118_8, e118_10, e118_13, e118_14, e118_17, e118_18, e118_20, e118_21, e118_22, e118_23, e118_24, e118_27, e118_28, e118_31, e118_32, e118_33, e118_36, e118_39, e118_41, true_and, and_true, or_true, true_or, if_true, if_false, not_true_eq_false, not_false_eq_true, ne_eq, and_self, Option.toList_some, Option.toList_none, List.cons_append, List.nil_append, catS_0, catS_I, catS_L, catS_R, Option.map_some, Option.map_none, Option.some.injEq, Sum.inl.injEq, exists_eq_left', exists_eq', x2, x3, x4, x5, hc, N11 a1, L11_2 a1, t]
theorem m_force_l (a1 : SH σ) (hx : x < 4) (hY : Y ≤ 6) (hc : gA σ 12 15 0 x = nI Y) : ∀ n m, m + n = Y → Rn d Q (152, 5, [some (vR (some (12, 0, 0))), some (vI (nI x)), some (vI b), some (vI ((fo (fun k => gA σ 12 16 0 (6 * x + k)) b.toInt m).elim (-1) (fun k => nI (6 * x + k)))), some (vI (nI m))], [], σ) = Q (some (vI ((fo (fun k => gA σ 12 16 0 (6 * x + k)) b.toInt Y).elim (-1) (fun k => nI (6 * x + k))))) σ := by
  have x2 : (nI x).toInt = (x : Int) := nI_toInt (by omega)
  have x3 : (0 : Int) ≤ (x : Int) := by omega
  have x4 : (x : Int) < ((4 : Nat) : Int) := by omega
  have x5 : (nI x).toNatClampNeg = x := nI_clamp (by omega)
  intro n
  induction n with
  | zero =>
    intro m hm
    have e1 : nI Y ≤ nI m := nI_le (by omega) (by omega)
    rw [e152_5]
    simp +decide only [e152_0, e152_1, e152_2, e152_3, e152_7, e152_8, e152_11, e152_12, e152_13, e152_16, e152_17, e152_20, e152_22, e152_23, e152_24, e152_26, e152_27, e152_28, e152_29, e152_32, e152_34, e152_35, e152_36, e152_38, e152_39, e152_42, e152_43, e152_44, e152_47, e152_50, e152_51, true_and, and_true, or_true, true_or, if_true, if_false, not_true_eq_false, not_false_eq_true, ne_eq, and_self, Option.toList_some, Option.toList_none, List.cons_append, List.nil_append, catS_0, catS_I, catS_L, catS_R, Option.map_some, Option.map_none, Option.some.injEq, Sum.inl.injEq, exists_eq_left', exists_eq', x2, x3, x4, x5, hc, e1, N12 a1, L12_15 a1]
    rw [show m = Y by omega]
  | succ n ih =>
    intro m hm
    have e1 : ¬ nI Y ≤ nI m := nI_ge (by omega) (by omega)
    have g2 : 6 * nI x + nI m = nI (6 * x + m) := by rw [lN6, pk_mul, nI_add]
    have g3 : (nI (6 * x + m)).toInt = ((6 * x + m : Nat) : Int) := nI_toInt (by omega)
    have g4 : (nI (6 * x + m)).toNatClampNeg = 6 * x + m := nI_clamp (by omega)
    have g5 : (0 : Int) ≤ ((6 * x + m : Nat) : Int) ∧ ((6 * x + m : Nat) : Int) < ((24 : Nat) : Int) := by omega
    have t := ih (m + 1) (by omega)
    rw [← nI_1] at t
    rw [← t, e152_5]
    by_cases hd : b.toInt < (gA σ 12 16 0 (6 * x + m)).toInt
    · rw [fo_n (by show ¬ (gA σ 12 16 0 (6 * x + m)).toInt ≤ b.toInt; omega)]
      simp +decide only [e152_0, e152_1, e152_2, e152_3, e152_7, e152_8, e152_11, e152_12, e152_13, e152_16, e152_17, e152_20, e152_22, e152_23, e152_24, e152_26, e152_27, e152_28, e152_29, e152_32, e152_34, e152_35, e152_36, e152_38, e152_39, e152_42, e152_43, e152_44, e152_47, e152_50, e152_51, true_and, and_true, or_true, true_or, if_true, if_false, not_true_eq_false, not_false_eq_true, ne_eq, and_self, Option.toList_some, Option.toList_none, List.cons_append, List.nil_append, catS_0, catS_I, catS_L, catS_R, Option.map_some, Option.map_none, Option.some.injEq, Sum.inl.injEq, exists_eq_left', exists_eq', ltI, x2, x3, x4, x5, hc, e1, g2, g3, g4, g5, hd, N12 a1, L12_15 a1, L12_16 a1]
    · rw [fo_y (by show (gA σ 12 16 0 (6 * x + m)).toInt ≤ b.toInt; omega)]
      simp +decide only [e152_0, e152_1, e152_2, e152_3, e152_7, e152_8, e152_11, e152_12, e152_13, e152_16, e152_17, e152_20, e152_22, e152_23, e152_24, e152_26, e152_27, e152_28, e152_29, e152_32, e152_34, e152_35, e152_36, e152_38, e152_39, e152_42, e152_43, e152_44, e152_47, e152_50, e152_51, true_and, and_true, or_true, true_or, if_true, if_false, not_true_eq_false, not_false_eq_true, ne_eq, and_self, Option.toList_some, Option.toList_none, List.cons_append, List.nil_append, catS_0, catS_I, catS_L, catS_R, Option.map_some, Option.map_none, Option.some.injEq, Sum.inl.injEq, exists_eq_left', exists_eq', ltI, x2, x3, x4, x5, hc, e1, g2, g3, g4, g5, hd, N12 a1, L12_15 a1, L12_16 a1, Option.elim_some]
theorem m_force (a1 : SH σ) (hx : x < 4) (hY : Y ≤ 6) (hc : gA σ 12 15 0 x = nI Y) : Rn d Q (152, 0, [some (vR (some (12, 0, 0))), some (vI (nI x)), some (vI b), none, none], [], σ) = Q (some (vI ((fo (fun k => gA σ 12 16 0 (6 * x + k)) b.toInt Y).elim (-1) (fun k => nI (6 * x + k))))) σ := by
  have t := m_force_l (d := d) (Q := Q) (b := b) a1 hx hY hc Y 0 (by omega)
  rw [nI_0] at t
  have t' : Rn d Q (152, 5, [some (vR (some (12, 0, 0))), some (vI (nI x)), some (vI b), some (vI (-1)), some (vI 0)], [], σ) = _ := t
  simp +decide only [e152_0, e152_1, e152_2, e152_3, e152_7, e152_8, e152_11, e152_12, e152_13, e152_16, e152_17, e152_20, e152_22, e152_23, e152_24, e152_26, e152_27, e152_28, e152_29, e152_32, e152_34, e152_35, e152_36, e152_38, e152_39, e152_42, e152_43, e152_44, e152_47, e152_50, e152_51, t']
end FOR
theorem noA4 {k : Nat} (h : isA 4 k) : False := by
  rcases h with h | h
  · have h2 := fk_k (by decide) h
    have : k < 7 := h2
    match k, this, h with
    | 0, _, h => cases h
    | 1, _, h => cases h
    | 2, _, h => cases h
    | 3, _, h => cases h
    | 4, _, h => cases h
    | 5, _, h => cases h
    | 6, _, h => cases h
  · have h2 := fk_k (by decide) h
    have : k < 7 := h2
    match k, this, h with
    | 0, _, h => cases h
    | 1, _, h => cases h
    | 2, _, h => cases h
    | 3, _, h => cases h
    | 4, _, h => cases h
    | 5, _, h => cases h
    | 6, _, h => cases h
theorem SH_pupil {σ : St} {f : Nat → Option Nat} (h : SH σ) : SH (setQ (newO σ 4) 11 6 0 f) := by
  obtain ⟨h1, h2, h3, h4, h5⟩ := h
  refine ⟨h1, fun c k i hc hi ha => ?_, h3, h4, h5⟩
  by_cases h9 : c = 4
  · subst h9; exact (noA4 ha).elim
  · have hi2 : i < if c = 4 then gN σ 4 + 1 else gN σ c := hi
    rw [if_neg h9] at hi2
    have := h2 c k i hc hi2 ha
    rw [LQ, LO', if_neg h9]
    exact this
theorem T_pupil {h0 n d : Nat} {σ : St} {a b c : Int32} (h : Inv h0 n σ) : PR h0 n (d + 3) 70 [some (vR (some (11, 0, 0))), some (vI a), some (vI b), some (vI c), none, none] 153 [some (vR (some (12, 0, 0))), some (vI a), some (vI b), some (vI c), none] σ := by
  have hI := h.up
  obtain ⟨a1, a2, a3, a4, a5, a6, a7, a8, a9, a10, a11, a12, a13⟩ := h
  have a12' := a12
  obtain ⟨⟨z, z1, z2, z3⟩, z4⟩ := a12
  unfold PR
  by_cases hA : 0 ≤ a.toInt ∧ a.toInt < 6
  · have hA' : a.toInt ≤ 5 := by omega
    by_cases hB : 0 ≤ b.toInt ∧ b.toInt < 4
    · by_cases hC : 0 ≤ c.toInt ∧ c.toInt < 4000
      · have hC' : c.toInt ≤ 3999 := by omega
        obtain ⟨x, hx, rfl, e4⟩ := nI_ex (n := 4) hB
        have x2 : (nI x).toInt = (x : Int) := nI_toInt (by omega)
        have x3 : (0 : Int) ≤ (x : Int) := by omega
        have x4 : (x : Int) < 4 := by omega
        have x4' : (x : Int) ≤ 3 := by omega
        obtain ⟨Y, hY, hY2⟩ := (z4 x hx).2
        have hYi : (gA σ 12 15 0 x).toInt = (Y : Int) := by rw [hY2]; exact nI_toInt (by omega)
        have cf := fun {d : Nat} {Q : Option AV → St → Prop} => c_force (d := d) (Q := Q) (b := c) a1 hx hY ((z4 x hx).1.trans hY2) (fun k hk => by
          obtain ⟨i, i1, i2, i3⟩ := z3 x k hx (by omega) (by omega)
          exact ⟨i, by omega, i2, i3.1⟩)
        have mf := fun {d : Nat} {Q : Option AV → St → Prop} => m_force (d := d) (Q := Q) (b := c) a1 hx hY hY2
        cases hf : fo (fun k => gA σ 12 16 0 (6 * x + k)) c.toInt Y with
        | none =>
          have ce := fun {d : Nat} {Q : Option AV → St → Prop} => c_ed_n (d := d) (Q := Q) (a := nI x) (c := -4) a1 (fun co hco => (z4 co hco).1) (fun z => absurd z.2.1 (by decide))
          simp only [hf, Option.elim_none] at cf mf
          simp +decide only [e70_0, e70_1, e70_3, e70_6, e70_9, e70_10, e70_11, e70_14, e70_17, e70_18, e70_21, e70_24, e70_25, e70_26, e70_27, e70_28, e70_29, e70_32, e70_34, e70_35, e70_36, e70_38, e70_41, e70_43, e70_45N, e70_45S, e70_48, e70_50, e70_51, e70_52, e70_55, e70_57, e70_60, e70_62, e70_63, e70_64, e70_67, e70_68, e70_71, e70_74, e70_75, e70_76, e70_77, e70_78, e70_80, e70_82, e70_85, e70_86, e70_87, e70_88, e70_91, e70_92, e70_93, e70_96, e70_97, e70_100, e70_101, e70_102, true_and, and_true, or_true, true_or, if_true, if_false, not_true_eq_false, not_false_eq_true, ne_eq, and_self, Option.toList_some, Option.toList_none, List.cons_append, List.nil_append, catS_0, catS_I, catS_L, catS_R, Option.map_some, Option.map_none, c_isIn, m_in, wide_toInt, c_isDay, m_isDay, m_isCourse, c_areParts, tI_m1000, tI_m20, tI_m14, tI_m13, tI_m12, tI_m11, tI_m4, tI_m3, tI_m2, tI_m1, tI_0, tI_1, tI_2, tI_3, tI_4, tI_5, tI_6, tI_7, tI_8, tI_9, tI_10, tI_11, tI_12, tI_14, tI_15, tI_16, tI_19, tI_20, tI_21, tI_30, tI_31, tI_32, tI_40, tI_60, tI_61, tI_80, tI_90, tI_97, tI_100, tI_101, tI_119, tI_120, tI_121, tI_126, tI_128, tI_255, tI_256, tI_500, tI_512, tI_600, tI_999, tI_1000, tI_3999, tI_4000, tI_4095, tI_4096, tI_99999, tI_100000, tL_0, tL_1, tL_2, tL_3, tL_4, tL_5, tL_7, tL_8, tL_9, tL_15, tL_19, tL_20, tL_32, tL_39, tL_48, tL_57, tL_60, tL_97, tL_100, tL_104, tL_126, tL_255, tL_3999, tL_4095, tL_99999, Option.some.injEq, Sum.inl.injEq, exists_eq_left', exists_eq', cf, ce, hA, x2, x3, x4, hC, N11 a1]
          simp +decide only [e153_0, e153_1, e153_2, e153_3, e153_6, e153_9, e153_12, e153_13, e153_16, e153_19, e153_20, e153_23, e153_26, e153_27, e153_28, e153_29, e153_30, e153_31, e153_34, e153_36, e153_38, e153_41, e153_43, e153_44, e153_45, e153_48, e153_50, e153_53, e153_55, e153_56, e153_57, e153_60, e153_61, e153_64, e153_65, e153_66, e153_67, e153_70, e153_71, e153_74, e153_76, e153_77, e153_78, e153_81, e153_82, e153_85, e153_86, e153_87, e153_88, e153_91, e153_92, e153_95, e153_96, e153_97, e153_98, e153_101, e153_102, e153_105, e153_107, e153_108, e153_109, e153_110, e153_113, e153_114, e153_115, e153_118, e153_119, e153_122, e153_123, e153_124, true_and, and_true, or_true, true_or, if_true, if_false, not_true_eq_false, not_false_eq_true, ne_eq, and_self, Option.toList_some, Option.toList_none, List.cons_append, List.nil_append, catS_0, catS_I, catS_L, catS_R, Option.map_some, Option.map_none, c_isIn, m_in, wide_toInt, c_isDay, m_isDay, m_isCourse, c_areParts, tI_m1000, tI_m20, tI_m14, tI_m13, tI_m12, tI_m11, tI_m4, tI_m3, tI_m2, tI_m1, tI_0, tI_1, tI_2, tI_3, tI_4, tI_5, tI_6, tI_7, tI_8, tI_9, tI_10, tI_11, tI_12, tI_14, tI_15, tI_16, tI_19, tI_20, tI_21, tI_30, tI_31, tI_32, tI_40, tI_60, tI_61, tI_80, tI_90, tI_97, tI_100, tI_101, tI_119, tI_120, tI_121, tI_126, tI_128, tI_255, tI_256, tI_500, tI_512, tI_600, tI_999, tI_1000, tI_3999, tI_4000, tI_4095, tI_4096, tI_99999, tI_100000, tL_0, tL_1, tL_2, tL_3, tL_4, tL_5, tL_7, tL_8, tL_9, tL_15, tL_19, tL_20, tL_32, tL_39, tL_48, tL_57, tL_60, tL_97, tL_100, tL_104, tL_126, tL_255, tL_3999, tL_4095, tL_99999, Option.some.injEq, Sum.inl.injEq, exists_eq_left', exists_eq', mf, hA, hA', x2, x3, x4', hC, hC', N12 a1, hI]
        | some y =>
          have hy := fo_lt Y hf
          obtain ⟨i, i1, i2, i3⟩ := z3 x y hx (by omega) (by omega)
          have ce := fun {d : Nat} {Q : Option AV → St → Prop} => c_ed_y (d := d) (Q := Q) a1 hx (show y < 6 by omega) (z4 x hx).1 (by omega) i2
          simp only [hf, Option.elim_some] at cf mf
          have k1 : 0 ≤ nI (6 * x + y) := nI_pos' (by omega)
          obtain ⟨u1, u2, u3, u4⟩ := a8
          have e3 : (nI (gN σ 4)).toInt = (gN σ 4 : Int) := nI_toInt (by omega)
          have e5 : (nI (gN σ 4)).toNatClampNeg = gN σ 4 := nI_clamp (by omega)
          by_cases h6 : gN σ 4 = 12
          · have f2 : ¬ (gN σ 4 : Int) < 12 := by omega
            have f3 : nI (gN σ 4) = 12 := by rw [h6]; rfl
            simp +decide only [e70_0, e70_1, e70_3, e70_6, e70_9, e70_10, e70_11, e70_14, e70_17, e70_18, e70_21, e70_24, e70_25, e70_26, e70_27, e70_28, e70_29, e70_32, e70_34, e70_35, e70_36, e70_38, e70_41, e70_43, e70_45N, e70_45S, e70_48, e70_50, e70_51, e70_52, e70_55, e70_57, e70_60, e70_62, e70_63, e70_64, e70_67, e70_68, e70_71, e70_74, e70_75, e70_76, e70_77, e70_78, e70_80, e70_82, e70_85, e70_86, e70_87, e70_88, e70_91, e70_92, e70_93, e70_96, e70_97, e70_100, e70_101, e70_102, true_and, and_true, or_true, true_or, if_true, if_false, not_true_eq_false, not_false_eq_true, ne_eq, and_self, Option.toList_some, Option.toList_none, List.cons_append, List.nil_append, catS_0, catS_I, catS_L, catS_R, Option.map_some, Option.map_none, c_isIn, m_in, wide_toInt, c_isDay, m_isDay, m_isCourse, c_areParts, tI_m1000, tI_m20, tI_m14, tI_m13, tI_m12, tI_m11, tI_m4, tI_m3, tI_m2, tI_m1, tI_0, tI_1, tI_2, tI_3, tI_4, tI_5, tI_6, tI_7, tI_8, tI_9, tI_10, tI_11, tI_12, tI_14, tI_15, tI_16, tI_19, tI_20, tI_21, tI_30, tI_31, tI_32, tI_40, tI_60, tI_61, tI_80, tI_90, tI_97, tI_100, tI_101, tI_119, tI_120, tI_121, tI_126, tI_128, tI_255, tI_256, tI_500, tI_512, tI_600, tI_999, tI_1000, tI_3999, tI_4000, tI_4095, tI_4096, tI_99999, tI_100000, tL_0, tL_1, tL_2, tL_3, tL_4, tL_5, tL_7, tL_8, tL_9, tL_15, tL_19, tL_20, tL_32, tL_39, tL_48, tL_57, tL_60, tL_97, tL_100, tL_104, tL_126, tL_255, tL_3999, tL_4095, tL_99999, Option.some.injEq, Sum.inl.injEq, exists_eq_left', exists_eq', ltI, cf, ce, hA, x2, x3, x4, hC, N11 a1, u2, e3, f2]
            simp +decide only [e153_0, e153_1, e153_2, e153_3, e153_6, e153_9, e153_12, e153_13, e153_16, e153_19, e153_20, e153_23, e153_26, e153_27, e153_28, e153_29, e153_30, e153_31, e153_34, e153_36, e153_38, e153_41, e153_43, e153_44, e153_45, e153_48, e153_50, e153_53, e153_55, e153_56, e153_57, e153_60, e153_61, e153_64, e153_65, e153_66, e153_67, e153_70, e153_71, e153_74, e153_76, e153_77, e153_78, e153_81, e153_82, e153_85, e153_86, e153_87, e153_88, e153_91, e153_92, e153_95, e153_96, e153_97, e153_98, e153_101, e153_102, e153_105, e153_107, e153_108, e153_109, e153_110, e153_113, e153_114, e153_115, e153_118, e153_119, e153_122, e153_123, e153_124, true_and, and_true, or_true, true_or, if_true, if_false, not_true_eq_false, not_false_eq_true, ne_eq, and_self, Option.toList_some, Option.toList_none, List.cons_append, List.nil_append, catS_0, catS_I, catS_L, catS_R, Option.map_some, Option.map_none, c_isIn, m_in, wide_toInt, c_isDay, m_isDay, m_isCourse, c_areParts, tI_m1000, tI_m20, tI_m14, tI_m13, tI_m12, tI_m11, tI_m4, tI_m3, tI_m2, tI_m1, tI_0, tI_1, tI_2, tI_3, tI_4, tI_5, tI_6, tI_7, tI_8, tI_9, tI_10, tI_11, tI_12, tI_14, tI_15, tI_16, tI_19, tI_20, tI_21, tI_30, tI_31, tI_32, tI_40, tI_60, tI_61, tI_80, tI_90, tI_97, tI_100, tI_101, tI_119, tI_120, tI_121, tI_126, tI_128, tI_255, tI_256, tI_500, tI_512, tI_600, tI_999, tI_1000, tI_3999, tI_4000, tI_4095, tI_4096, tI_99999, tI_100000, tL_0, tL_1, tL_2, tL_3, tL_4, tL_5, tL_7, tL_8, tL_9, tL_15, tL_19, tL_20, tL_32, tL_39, tL_48, tL_57, tL_60, tL_97, tL_100, tL_104, tL_126, tL_255, tL_3999, tL_4095, tL_99999, Option.some.injEq, Sum.inl.injEq, exists_eq_left', exists_eq', mf, k1, hA, hA', x2, x3, x4', hC, hC', N12 a1, u3, f3, hI]
          · have f2 : (gN σ 4 : Int) < ((12 : Nat) : Int) := by omega
            have f2' : (gN σ 4 : Int) < 12 := by omega
            have f3 : ¬ nI (gN σ 4) = 12 := fun z => h6 ((nI_eq (b := 12) (by omega) (by decide)).mp z)
            have f4 : (0 : Int) ≤ (gN σ 4 : Int) := by omega
            have f5 : gN σ 4 < gN σ 4 + 1 := by omega
            have f6 : nI (gN σ 4) + 1 - 1 = nI (gN σ 4) := by rw [Int32.add_sub_cancel]
            have a1' : SH (setQ (newO σ 4) 11 6 0 (va_up (gQ σ 11 6 0) (gN σ 4) (some (gN σ 4)))) := SH_pupil a1
            have mf2 := fun {d : Nat} {Q : Option AV → St → Prop} {τ : St} (h1 : SH τ) (h2 : gA τ 12 15 0 = gA σ 12 15 0) (h3 : gA τ 12 16 0 = gA σ 12 16 0) => m_force (d := d) (Q := Q) (σ := τ) (b := c) h1 hx hY (by rw [h2]; exact hY2)
            simp +decide only [e70_0, e70_1, e70_3, e70_6, e70_9, e70_10, e70_11, e70_14, e70_17, e70_18, e70_21, e70_24, e70_25, e70_26, e70_27, e70_28, e70_29, e70_32, e70_34, e70_35, e70_36, e70_38, e70_41, e70_43, e70_45N, e70_45S, e70_48, e70_50, e70_51, e70_52, e70_55, e70_57, e70_60, e70_62, e70_63, e70_64, e70_67, e70_68, e70_71, e70_74, e70_75, e70_76, e70_77, e70_78, e70_80, e70_82, e70_85, e70_86, e70_87, e70_88, e70_91, e70_92, e70_93, e70_96, e70_97, e70_100, e70_101, e70_102, e23_0, e23_1, e23_4, e23_5, e23_6, e23_9, e23_10, e23_12, e23_15, e23_16, e23_17, e23_20, e23_21, e23_22, e23_25, e23_26, e23_27, e23_30, e23_31, e23_33, e23_36, e23_37, e23_39, e23_42, true_and, and_true, or_true, true_or, if_true, if_false, not_true_eq_false, not_false_eq_true, ne_eq, and_self, Option.toList_some, Option.toList_none, List.cons_append, List.nil_append, catS_0, catS_I, catS_L, catS_R, Option.map_some, Option.map_none, c_isIn, m_in, wide_toInt, c_isDay, m_isDay, m_isCourse, c_areParts, tI_m1000, tI_m20, tI_m14, tI_m13, tI_m12, tI_m11, tI_m4, tI_m3, tI_m2, tI_m1, tI_0, tI_1, tI_2, tI_3, tI_4, tI_5, tI_6, tI_7, tI_8, tI_9, tI_10, tI_11, tI_12, tI_14, tI_15, tI_16, tI_19, tI_20, tI_21, tI_30, tI_31, tI_32, tI_40, tI_60, tI_61, tI_80, tI_90, tI_97, tI_100, tI_101, tI_119, tI_120, tI_121, tI_126, tI_128, tI_255, tI_256, tI_500, tI_512, tI_600, tI_999, tI_1000, tI_3999, tI_4000, tI_4095, tI_4096, tI_99999, tI_100000, tL_0, tL_1, tL_2, tL_3, tL_4, tL_5, tL_7, tL_8, tL_9, tL_15, tL_19, tL_20, tL_32, tL_39, tL_48, tL_57, tL_60, tL_97, tL_100, tL_104, tL_126, tL_255, tL_3999, tL_4095, tL_99999, Option.some.injEq, Sum.inl.injEq, exists_eq_left', exists_eq', ltI, cf, ce, hA, x2, x3, x4, hC, N11 a1, u2, e3, e5, f2, f2', f4, f5, II, AA, RR, QQ, IA, IR, IQ, AI, AR, AQ, RI, RA, RQ, QI, QA, QR, LI, LA, LR, LQ, NI, NA, NR, NQ, HI, HA, HR, HQ, SI, SA, SR, SQ, IO', RO', LO', NO', AO', QO', L11_6 a1, updS0, f6]
            generalize hτ : (setI (setQ _ 11 6 0 _) 11 7 0 _ : St) = τ
            have q1 : SH τ := by rw [← hτ]; exact a1'
            have q15 : gA τ 12 15 0 = gA σ 12 15 0 := by rw [← hτ]; simp +decide only [II, AA, RR, QQ, IA, IR, IQ, AI, AR, AQ, RI, RA, RQ, QI, QA, QR, LI, LA, LR, LQ, NI, NA, NR, NQ, HI, HA, HR, HQ, SI, SA, SR, SQ, AO', true_and, and_true, or_true, true_or, if_true, if_false, not_true_eq_false, not_false_eq_true, ne_eq, and_self]
            have q16 : gA τ 12 16 0 = gA σ 12 16 0 := by rw [← hτ]; simp +decide only [II, AA, RR, QQ, IA, IR, IQ, AI, AR, AQ, RI, RA, RQ, QI, QA, QR, LI, LA, LR, LQ, NI, NA, NR, NQ, HI, HA, HR, HQ, SI, SA, SR, SQ, AO', true_and, and_true, or_true, true_or, if_true, if_false, not_true_eq_false, not_false_eq_true, ne_eq, and_self]
            have q23 : gI τ 12 23 0 = nI (gN σ 4) := by rw [← hτ]; simp +decide only [II, AA, RR, QQ, IA, IR, IQ, AI, AR, AQ, RI, RA, RQ, QI, QA, QR, LI, LA, LR, LQ, NI, NA, NR, NQ, HI, HA, HR, HQ, SI, SA, SR, SQ, IO', true_and, and_true, or_true, true_or, if_true, if_false, not_true_eq_false, not_false_eq_true, ne_eq, and_self]; exact u3
            have mf3 := fun {d : Nat} {Q : Option AV → St → Prop} => mf2 (d := d) (Q := Q) q1 q15 q16
            simp only [q16, hf, Option.elim_some] at mf3
            simp +decide only [e153_0, e153_1, e153_2, e153_3, e153_6, e153_9, e153_12, e153_13, e153_16, e153_19, e153_20, e153_23, e153_26, e153_27, e153_28, e153_29, e153_30, e153_31, e153_34, e153_36, e153_38, e153_41, e153_43, e153_44, e153_45, e153_48, e153_50, e153_53, e153_55, e153_56, e153_57, e153_60, e153_61, e153_64, e153_65, e153_66, e153_67, e153_70, e153_71, e153_74, e153_76, e153_77, e153_78, e153_81, e153_82, e153_85, e153_86, e153_87, e153_88, e153_91, e153_92, e153_95, e153_96, e153_97, e153_98, e153_101, e153_102, e153_105, e153_107, e153_108, e153_109, e153_110, e153_113, e153_114, e153_115, e153_118, e153_119, e153_122, e153_123, e153_124, true_and, and_true, or_true, true_or, if_true, if_false, not_true_eq_false, not_false_eq_true, ne_eq, and_self, Option.toList_some, Option.toList_none, List.cons_append, List.nil_append, catS_0, catS_I, catS_L, catS_R, Option.map_some, Option.map_none, c_isIn, m_in, wide_toInt, c_isDay, m_isDay, m_isCourse, c_areParts, tI_m1000, tI_m20, tI_m14, tI_m13, tI_m12, tI_m11, tI_m4, tI_m3, tI_m2, tI_m1, tI_0, tI_1, tI_2, tI_3, tI_4, tI_5, tI_6, tI_7, tI_8, tI_9, tI_10, tI_11, tI_12, tI_14, tI_15, tI_16, tI_19, tI_20, tI_21, tI_30, tI_31, tI_32, tI_40, tI_60, tI_61, tI_80, tI_90, tI_97, tI_100, tI_101, tI_119, tI_120, tI_121, tI_126, tI_128, tI_255, tI_256, tI_500, tI_512, tI_600, tI_999, tI_1000, tI_3999, tI_4000, tI_4095, tI_4096, tI_99999, tI_100000, tL_0, tL_1, tL_2, tL_3, tL_4, tL_5, tL_7, tL_8, tL_9, tL_15, tL_19, tL_20, tL_32, tL_39, tL_48, tL_57, tL_60, tL_97, tL_100, tL_104, tL_126, tL_255, tL_3999, tL_4095, tL_99999, Option.some.injEq, Sum.inl.injEq, exists_eq_left', exists_eq', mf3, k1, hA, hA', x2, x3, x4', hC, hC', N12 q1, q23, f3, e3, e5, f2, f4, L12_24 q1, L12_25 q1, L12_26 q1, L12_27 q1, L12_28 q1, II, AA, RR, QQ, IA, IR, IQ, AI, AR, AQ, RI, RA, RQ, QI, QA, QR, LI, LA, LR, LQ, NI, NA, NR, NQ, HI, HA, HR, HQ, SI, SA, SR, SQ, updS0, f6]
            subst hτ
            refine ⟨a1', ?_⟩
            simp +decide only [II, AA, RR, QQ, IA, IR, IQ, AI, AR, AQ, RI, RA, RQ, QI, QA, QR, LI, LA, LR, LQ, NI, NA, NR, NQ, HI, HA, HR, HQ, SI, SA, SR, SQ, IO', RO', LO', NO', AO', QO', HO', SO', true_and, and_true, or_true, true_or, if_true, if_false, not_true_eq_false, not_false_eq_true, ne_eq, and_self]
            obtain ⟨y1, y2, y3, y4, y5⟩ := a9
            refine ⟨a2, a3, a4.up, a5, a6, a7, ⟨by omega, ?_, ?_, fun j hj => ?_⟩, ⟨y1, y2, y3, fun t ht => ?_, y5⟩, a10.up, a11, a12', ?_⟩
            · rw [updS0]; exact nI_s
            · rw [updS0]; exact nI_s
            · unfold upd va_up
              by_cases hjx : j = gN σ 4
              · simp only [if_pos hjx]
                exact ⟨by rw [hjx], trivial, hA, trivial, hC, trivial, trivial, x, y, hx, by omega, rfl, rfl, rfl, by omega, i2.symm⟩
              · simp only [if_neg hjx]
                exact u4 j (by omega)
            · obtain ⟨z1, z2, z3, z4⟩ := y4 t ht
              exact ⟨z1, z2, ⟨z3.1, by omega⟩, z4⟩
            · obtain ⟨r1, r2⟩ := a13
              have r3 : nfd 4 = 7 := by decide
              exact ⟨by omega, by omega⟩
      · have hC' : ¬ (0 ≤ c.toInt ∧ c.toInt ≤ 3999) := by omega
        have hB' : b.toInt ≤ 3 := by omega
        simp +decide only [e70_0, e70_1, e70_3, e70_6, e70_9, e70_10, e70_11, e70_14, e70_17, e70_18, e70_21, e70_24, e70_25, e70_26, e70_27, e70_28, e70_29, e70_32, e70_34, e70_35, e70_36, e70_38, e70_41, e70_43, e70_45N, e70_45S, e70_48, e70_50, e70_51, e70_52, e70_55, e70_57, e70_60, e70_62, e70_63, e70_64, e70_67, e70_68, e70_71, e70_74, e70_75, e70_76, e70_77, e70_78, e70_80, e70_82, e70_85, e70_86, e70_87, e70_88, e70_91, e70_92, e70_93, e70_96, e70_97, e70_100, e70_101, e70_102, true_and, and_true, or_true, true_or, if_true, if_false, not_true_eq_false, not_false_eq_true, ne_eq, and_self, Option.toList_some, Option.toList_none, List.cons_append, List.nil_append, catS_0, catS_I, catS_L, catS_R, Option.map_some, Option.map_none, c_isIn, m_in, wide_toInt, c_isDay, m_isDay, m_isCourse, c_areParts, tI_m1000, tI_m20, tI_m14, tI_m13, tI_m12, tI_m11, tI_m4, tI_m3, tI_m2, tI_m1, tI_0, tI_1, tI_2, tI_3, tI_4, tI_5, tI_6, tI_7, tI_8, tI_9, tI_10, tI_11, tI_12, tI_14, tI_15, tI_16, tI_19, tI_20, tI_21, tI_30, tI_31, tI_32, tI_40, tI_60, tI_61, tI_80, tI_90, tI_97, tI_100, tI_101, tI_119, tI_120, tI_121, tI_126, tI_128, tI_255, tI_256, tI_500, tI_512, tI_600, tI_999, tI_1000, tI_3999, tI_4000, tI_4095, tI_4096, tI_99999, tI_100000, tL_0, tL_1, tL_2, tL_3, tL_4, tL_5, tL_7, tL_8, tL_9, tL_15, tL_19, tL_20, tL_32, tL_39, tL_48, tL_57, tL_60, tL_97, tL_100, tL_104, tL_126, tL_255, tL_3999, tL_4095, tL_99999, Option.some.injEq, Sum.inl.injEq, exists_eq_left', exists_eq', hA, hB, hC, N11 a1]
        simp +decide only [e153_0, e153_1, e153_2, e153_3, e153_6, e153_9, e153_12, e153_13, e153_16, e153_19, e153_20, e153_23, e153_26, e153_27, e153_28, e153_29, e153_30, e153_31, e153_34, e153_36, e153_38, e153_41, e153_43, e153_44, e153_45, e153_48, e153_50, e153_53, e153_55, e153_56, e153_57, e153_60, e153_61, e153_64, e153_65, e153_66, e153_67, e153_70, e153_71, e153_74, e153_76, e153_77, e153_78, e153_81, e153_82, e153_85, e153_86, e153_87, e153_88, e153_91, e153_92, e153_95, e153_96, e153_97, e153_98, e153_101, e153_102, e153_105, e153_107, e153_108, e153_109, e153_110, e153_113, e153_114, e153_115, e153_118, e153_119, e153_122, e153_123, e153_124, true_and, and_true, or_true, true_or, if_true, if_false, not_true_eq_false, not_false_eq_true, ne_eq, and_self, Option.toList_some, Option.toList_none, List.cons_append, List.nil_append, catS_0, catS_I, catS_L, catS_R, Option.map_some, Option.map_none, c_isIn, m_in, wide_toInt, c_isDay, m_isDay, m_isCourse, c_areParts, tI_m1000, tI_m20, tI_m14, tI_m13, tI_m12, tI_m11, tI_m4, tI_m3, tI_m2, tI_m1, tI_0, tI_1, tI_2, tI_3, tI_4, tI_5, tI_6, tI_7, tI_8, tI_9, tI_10, tI_11, tI_12, tI_14, tI_15, tI_16, tI_19, tI_20, tI_21, tI_30, tI_31, tI_32, tI_40, tI_60, tI_61, tI_80, tI_90, tI_97, tI_100, tI_101, tI_119, tI_120, tI_121, tI_126, tI_128, tI_255, tI_256, tI_500, tI_512, tI_600, tI_999, tI_1000, tI_3999, tI_4000, tI_4095, tI_4096, tI_99999, tI_100000, tL_0, tL_1, tL_2, tL_3, tL_4, tL_5, tL_7, tL_8, tL_9, tL_15, tL_19, tL_20, tL_32, tL_39, tL_48, tL_57, tL_60, tL_97, tL_100, tL_104, tL_126, tL_255, tL_3999, tL_4095, tL_99999, Option.some.injEq, Sum.inl.injEq, exists_eq_left', exists_eq', hA, hA', hB, hB', hC', N12 a1, hI]
    · have hB' : ¬ (0 ≤ b.toInt ∧ b.toInt ≤ 3) := by omega
      simp +decide only [e70_0, e70_1, e70_3, e70_6, e70_9, e70_10, e70_11, e70_14, e70_17, e70_18, e70_21, e70_24, e70_25, e70_26, e70_27, e70_28, e70_29, e70_32, e70_34, e70_35, e70_36, e70_38, e70_41, e70_43, e70_45N, e70_45S, e70_48, e70_50, e70_51, e70_52, e70_55, e70_57, e70_60, e70_62, e70_63, e70_64, e70_67, e70_68, e70_71, e70_74, e70_75, e70_76, e70_77, e70_78, e70_80, e70_82, e70_85, e70_86, e70_87, e70_88, e70_91, e70_92, e70_93, e70_96, e70_97, e70_100, e70_101, e70_102, true_and, and_true, or_true, true_or, if_true, if_false, not_true_eq_false, not_false_eq_true, ne_eq, and_self, Option.toList_some, Option.toList_none, List.cons_append, List.nil_append, catS_0, catS_I, catS_L, catS_R, Option.map_some, Option.map_none, c_isIn, m_in, wide_toInt, c_isDay, m_isDay, m_isCourse, c_areParts, tI_m1000, tI_m20, tI_m14, tI_m13, tI_m12, tI_m11, tI_m4, tI_m3, tI_m2, tI_m1, tI_0, tI_1, tI_2, tI_3, tI_4, tI_5, tI_6, tI_7, tI_8, tI_9, tI_10, tI_11, tI_12, tI_14, tI_15, tI_16, tI_19, tI_20, tI_21, tI_30, tI_31, tI_32, tI_40, tI_60, tI_61, tI_80, tI_90, tI_97, tI_100, tI_101, tI_119, tI_120, tI_121, tI_126, tI_128, tI_255, tI_256, tI_500, tI_512, tI_600, tI_999, tI_1000, tI_3999, tI_4000, tI_4095, tI_4096, tI_99999, tI_100000, tL_0, tL_1, tL_2, tL_3, tL_4, tL_5, tL_7, tL_8, tL_9, tL_15, tL_19, tL_20, tL_32, tL_39, tL_48, tL_57, tL_60, tL_97, tL_100, tL_104, tL_126, tL_255, tL_3999, tL_4095, tL_99999, Option.some.injEq, Sum.inl.injEq, exists_eq_left', exists_eq', hA, hB, N11 a1]
      simp +decide only [e153_0, e153_1, e153_2, e153_3, e153_6, e153_9, e153_12, e153_13, e153_16, e153_19, e153_20, e153_23, e153_26, e153_27, e153_28, e153_29, e153_30, e153_31, e153_34, e153_36, e153_38, e153_41, e153_43, e153_44, e153_45, e153_48, e153_50, e153_53, e153_55, e153_56, e153_57, e153_60, e153_61, e153_64, e153_65, e153_66, e153_67, e153_70, e153_71, e153_74, e153_76, e153_77, e153_78, e153_81, e153_82, e153_85, e153_86, e153_87, e153_88, e153_91, e153_92, e153_95, e153_96, e153_97, e153_98, e153_101, e153_102, e153_105, e153_107, e153_108, e153_109, e153_110, e153_113, e153_114, e153_115, e153_118, e153_119, e153_122, e153_123, e153_124, true_and, and_true, or_true, true_or, if_true, if_false, not_true_eq_false, not_false_eq_true, ne_eq, and_self, Option.toList_some, Option.toList_none, List.cons_append, List.nil_append, catS_0, catS_I, catS_L, catS_R, Option.map_some, Option.map_none, c_isIn, m_in, wide_toInt, c_isDay, m_isDay, m_isCourse, c_areParts, tI_m1000, tI_m20, tI_m14, tI_m13, tI_m12, tI_m11, tI_m4, tI_m3, tI_m2, tI_m1, tI_0, tI_1, tI_2, tI_3, tI_4, tI_5, tI_6, tI_7, tI_8, tI_9, tI_10, tI_11, tI_12, tI_14, tI_15, tI_16, tI_19, tI_20, tI_21, tI_30, tI_31, tI_32, tI_40, tI_60, tI_61, tI_80, tI_90, tI_97, tI_100, tI_101, tI_119, tI_120, tI_121, tI_126, tI_128, tI_255, tI_256, tI_500, tI_512, tI_600, tI_999, tI_1000, tI_3999, tI_4000, tI_4095, tI_4096, tI_99999, tI_100000, tL_0, tL_1, tL_2, tL_3, tL_4, tL_5, tL_7, tL_8, tL_9, tL_15, tL_19, tL_20, tL_32, tL_39, tL_48, tL_57, tL_60, tL_97, tL_100, tL_104, tL_126, tL_255, tL_3999, tL_4095, tL_99999, Option.some.injEq, Sum.inl.injEq, exists_eq_left', exists_eq', hA, hA', hB', N12 a1, hI]
  · have hA' : ¬ (0 ≤ a.toInt ∧ a.toInt ≤ 5) := by omega
    simp +decide only [e70_0, e70_1, e70_3, e70_6, e70_9, e70_10, e70_11, e70_14, e70_17, e70_18, e70_21, e70_24, e70_25, e70_26, e70_27, e70_28, e70_29, e70_32, e70_34, e70_35, e70_36, e70_38, e70_41, e70_43, e70_45N, e70_45S, e70_48, e70_50, e70_51, e70_52, e70_55, e70_57, e70_60, e70_62, e70_63, e70_64, e70_67, e70_68, e70_71, e70_74, e70_75, e70_76, e70_77, e70_78, e70_80, e70_82, e70_85, e70_86, e70_87, e70_88, e70_91, e70_92, e70_93, e70_96, e70_97, e70_100, e70_101, e70_102, true_and, and_true, or_true, true_or, if_true, if_false, not_true_eq_false, not_false_eq_true, ne_eq, and_self, Option.toList_some, Option.toList_none, List.cons_append, List.nil_append, catS_0, catS_I, catS_L, catS_R, Option.map_some, Option.map_none, c_isIn, m_in, wide_toInt, c_isDay, m_isDay, m_isCourse, c_areParts, tI_m1000, tI_m20, tI_m14, tI_m13, tI_m12, tI_m11, tI_m4, tI_m3, tI_m2, tI_m1, tI_0, tI_1, tI_2, tI_3, tI_4, tI_5, tI_6, tI_7, tI_8, tI_9, tI_10, tI_11, tI_12, tI_14, tI_15, tI_16, tI_19, tI_20, tI_21, tI_30, tI_31, tI_32, tI_40, tI_60, tI_61, tI_80, tI_90, tI_97, tI_100, tI_101, tI_119, tI_120, tI_121, tI_126, tI_128, tI_255, tI_256, tI_500, tI_512, tI_600, tI_999, tI_1000, tI_3999, tI_4000, tI_4095, tI_4096, tI_99999, tI_100000, tL_0, tL_1, tL_2, tL_3, tL_4, tL_5, tL_7, tL_8, tL_9, tL_15, tL_19, tL_20, tL_32, tL_39, tL_48, tL_57, tL_60, tL_97, tL_100, tL_104, tL_126, tL_255, tL_3999, tL_4095, tL_99999, Option.some.injEq, Sum.inl.injEq, exists_eq_left', exists_eq', hA, N11 a1]
    simp +decide only [e153_0, e153_1, e153_2, e153_3, e153_6, e153_9, e153_12, e153_13, e153_16, e153_19, e153_20, e153_23, e153_26, e153_27, e153_28, e153_29, e153_30, e153_31, e153_34, e153_36, e153_38, e153_41, e153_43, e153_44, e153_45, e153_48, e153_50, e153_53, e153_55, e153_56, e153_57, e153_60, e153_61, e153_64, e153_65, e153_66, e153_67, e153_70, e153_71, e153_74, e153_76, e153_77, e153_78, e153_81, e153_82, e153_85, e153_86, e153_87, e153_88, e153_91, e153_92, e153_95, e153_96, e153_97, e153_98, e153_101, e153_102, e153_105, e153_107, e153_108, e153_109, e153_110, e153_113, e153_114, e153_115, e153_118, e153_119, e153_122, e153_123, e153_124, true_and, and_true, or_true, true_or, if_true, if_false, not_true_eq_false, not_false_eq_true, ne_eq, and_self, Option.toList_some, Option.toList_none, List.cons_append, List.nil_append, catS_0, catS_I, catS_L, catS_R, Option.map_some, Option.map_none, c_isIn, m_in, wide_toInt, c_isDay, m_isDay, m_isCourse, c_areParts, tI_m1000, tI_m20, tI_m14, tI_m13, tI_m12, tI_m11, tI_m4, tI_m3, tI_m2, tI_m1, tI_0, tI_1, tI_2, tI_3, tI_4, tI_5, tI_6, tI_7, tI_8, tI_9, tI_10, tI_11, tI_12, tI_14, tI_15, tI_16, tI_19, tI_20, tI_21, tI_30, tI_31, tI_32, tI_40, tI_60, tI_61, tI_80, tI_90, tI_97, tI_100, tI_101, tI_119, tI_120, tI_121, tI_126, tI_128, tI_255, tI_256, tI_500, tI_512, tI_600, tI_999, tI_1000, tI_3999, tI_4000, tI_4095, tI_4096, tI_99999, tI_100000, tL_0, tL_1, tL_2, tL_3, tL_4, tL_5, tL_7, tL_8, tL_9, tL_15, tL_19, tL_20, tL_32, tL_39, tL_48, tL_57, tL_60, tL_97, tL_100, tL_104, tL_126, tL_255, tL_3999, tL_4095, tL_99999, Option.some.injEq, Sum.inl.injEq, exists_eq_left', exists_eq', hA', N12 a1, hI]
