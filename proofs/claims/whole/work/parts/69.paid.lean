theorem psum_ext {c c' : Nat → Bool} {pe pe' : Nat → Int32} : ∀ m, (∀ j, j < m → c j = c' j ∧ pe j = pe' j) → psum c pe m = psum c' pe' m := by
  intro m
  induction m with
  | zero => intro _; rfl
  | succ m ih =>
    intro h
    show psum c pe m + (if c m then (pe m).toInt.toNat else 0) = psum c' pe' m + (if c' m then (pe' m).toInt.toNat else 0)
    rw [ih (fun j hj => h j (by omega)), (h m (by omega)).1, (h m (by omega)).2]
theorem psum_le {c : Nat → Bool} {pe : Nat → Int32} : ∀ m, (∀ j, j < m → (pe j).toInt ≤ 99999) → psum c pe m ≤ 99999 * m := by
  intro m
  induction m with
  | zero => intro _; exact Nat.le_refl _
  | succ m ih =>
    intro h
    have h1 := ih (fun j hj => h j (by omega))
    have h2 := h m (by omega)
    show psum c pe m + (if c m then (pe m).toInt.toNat else 0) ≤ 99999 * (m + 1)
    split <;> omega
theorem psum_split {c c1 c2 : Nat → Bool} {pe : Nat → Int32} : ∀ m, (∀ j, j < m → (c j = true ↔ c1 j = true ∨ c2 j = true) ∧ ¬ (c1 j = true ∧ c2 j = true)) → psum c1 pe m + psum c2 pe m = psum c pe m := by
  intro m
  induction m with
  | zero => intro _; rfl
  | succ m ih =>
    intro h
    have h1 := ih (fun j hj => h j (by omega))
    obtain ⟨h2, h3⟩ := h m (by omega)
    show psum c1 pe m + (if c1 m then (pe m).toInt.toNat else 0) + (psum c2 pe m + (if c2 m then (pe m).toInt.toNat else 0)) = psum c pe m + (if c m then (pe m).toInt.toNat else 0)
    by_cases k1 : c1 m = true
    · have k2 : ¬ c2 m = true := fun z => h3 ⟨k1, z⟩
      rw [if_pos k1, if_neg k2, if_pos (h2.mpr (Or.inl k1))]
      omega
    · by_cases k2 : c2 m = true
      · rw [if_neg k1, if_pos k2, if_pos (h2.mpr (Or.inr k2))]
        omega
      · rw [if_neg k1, if_neg k2, if_neg (fun z => (h2.mp z).elim k1 k2)]
        omega
/-- what p paid before day D, of the first M payments -/
def paidN (py pe pd : Nat → Int32) (p D M : Nat) : Nat := psum (fun j => decide (py j = nI p ∧ (pd j).toInt < (D : Int))) pe M
theorem paidN_0 {py pe pd : Nat → Int32} {p M : Nat} (h : ∀ j, j < M → 0 ≤ (pd j).toInt) : paidN py pe pd p 0 M = 0 := by
  have : ∀ m, m ≤ M → paidN py pe pd p 0 m = 0 := by
    intro m
    induction m with
    | zero => intro _; rfl
    | succ m ih =>
      intro hm
      have h1 := ih (by omega)
      have h2 := h m (by omega)
      show psum _ pe m + (if decide (py m = nI p ∧ (pd m).toInt < ((0 : Nat) : Int)) = true then (pe m).toInt.toNat else 0) = 0
      rw [if_neg (by rw [decide_eq_true_iff]; omega)]
      exact h1
  exact this M (Nat.le_refl _)
theorem paidN_s {py pe pd : Nat → Int32} {p D M : Nat} (hD : D < 4000) (h : ∀ j, j < M → 0 ≤ (pd j).toInt) : paidN py pe pd p D M + psum (fun j => decide (py j = nI p ∧ pd j = nI D)) pe M = paidN py pe pd p (D + 1) M := by
  apply psum_split
  intro j hj
  simp only [decide_eq_true_iff]
  have h1 := h j hj
  have h2 : pd j = nI D ↔ (pd j).toInt = (D : Int) := by
    rw [← Int32.toInt_inj, nI_toInt (by omega)]
  rw [h2]
  by_cases kk : py j = nI p
  · simp only [kk, true_and]
    omega
  · simp [kk]
theorem paidN_all {py pe pd : Nat → Int32} {p M : Nat} (h : ∀ j, j < M → (pd j).toInt < 4000) : paidN py pe pd p 4000 M = psum (fun j => decide (py j = nI p)) pe M := by
  apply psum_ext
  intro j hj
  have h1 := h j hj
  refine ⟨?_, rfl⟩
  by_cases k : py j = nI p
  · rw [decide_eq_true k, decide_eq_true ⟨k, by omega⟩]
  · rw [decide_eq_false k, decide_eq_false (fun z => k z.1)]
theorem paidN_y {py pe pd : Nat → Int32} {p D m : Nat} (h : py m = nI p ∧ (pd m).toInt < (D : Int)) : paidN py pe pd p D (m + 1) = paidN py pe pd p D m + (pe m).toInt.toNat := by
  show psum _ pe m + (if decide (py m = nI p ∧ (pd m).toInt < (D : Int)) = true then (pe m).toInt.toNat else 0) = _
  rw [if_pos (decide_eq_true h)]
  rfl
theorem paidN_n {py pe pd : Nat → Int32} {p D m : Nat} (h : ¬ (py m = nI p ∧ (pd m).toInt < (D : Int))) : paidN py pe pd p D (m + 1) = paidN py pe pd p D m := by
  show psum _ pe m + (if decide (py m = nI p ∧ (pd m).toInt < (D : Int)) = true then (pe m).toInt.toNat else 0) = _
  rw [if_neg (by rw [decide_eq_true_iff]; exact h)]
  rfl
theorem nI_nat {v : Int32} (h : 0 ≤ v.toInt) : nI v.toInt.toNat = v := by
  apply Int32.toInt_inj.mp
  have := Int32.toInt_lt v
  rw [nI_toInt (by omega)]
  omega
section PAID
variable {d : Nat} {Q : Option AV → St → Prop} {σ : St} {p D M : Nat}
theorem c_paid_l (a1 : SH σ) (hM : M ≤ 512) (hc : gI σ 2 3 0 = nI M) (hr : ∀ j, j < M → 0 ≤ (gA σ 2 1 0 j).toInt) (hD : D < 4000) : ∀ n m, m + n = M → Rn d Q (20, 5, [some (vR (some (2, 0, 0))), some (vI (nI p)), some (vI (nI D)), some (vI (nI (paidN (gA σ 2 0 0) (gA σ 2 1 0) (gA σ 2 2 0) p (D + 1) m))), some (vI (nI m))], [], σ) = Q (some (vI (nI (paidN (gA σ 2 0 0) (gA σ 2 1 0) (gA σ 2 2 0) p (D + 1) M)))) σ := by
  intro n
  induction n with
  | zero =>
    intro m hm
    have e1 : nI M ≤ nI m := nI_le (by omega) (by omega)
    rw [e20_5]
    simp +decide only [e20_0, e20_1, e20_2, e20_3, e20_7, e20_8, e20_11, e20_14, e20_15, e20_18, e20_20, e20_21, e20_22, e20_25, e20_26, e20_29, e20_31, e20_32, e20_33, e20_36, e20_37, e20_38, e20_41, e20_43, e20_44, e20_45, e20_46, e20_49, e20_52, e20_53, true_and, and_true, or_true, true_or, if_true, if_false, not_true_eq_false, not_false_eq_true, ne_eq, and_self, Option.toList_some, Option.toList_none, List.cons_append, List.nil_append, catS_0, catS_I, catS_L, catS_R, Option.map_some, Option.map_none, e1, hc, N2 a1]
    rw [show m = M by omega]
  | succ n ih =>
    intro m hm
    have e1 : ¬ nI M ≤ nI m := nI_ge (by omega) (by omega)
    have e2 : (nI m).toInt = (m : Int) := nI_toInt (by omega)
    have e3 : (0 : Int) ≤ (m : Int) := by omega
    have e4 : (m : Int) < ((512 : Nat) : Int) := by omega
    have e5 : (nI m).toNatClampNeg = m := nI_clamp (by omega)
    have e6 : (nI D).toInt = (D : Int) := nI_toInt (by omega)
    have t1 := ih (m + 1) (by omega)
    rw [← nI_1 m] at t1
    rw [e20_5]
    by_cases hv : gA σ 2 0 0 m = nI p
    · by_cases hv2 : (D : Int) < (gA σ 2 2 0 m).toInt
      · rw [paidN_n (fun z => by have := z.2; omega)] at t1
        simp +decide only [e20_0, e20_1, e20_2, e20_3, e20_7, e20_8, e20_11, e20_14, e20_15, e20_18, e20_20, e20_21, e20_22, e20_25, e20_26, e20_29, e20_31, e20_32, e20_33, e20_36, e20_37, e20_38, e20_41, e20_43, e20_44, e20_45, e20_46, e20_49, e20_52, e20_53, true_and, and_true, or_true, true_or, if_true, if_false, not_true_eq_false, not_false_eq_true, ne_eq, and_self, Option.toList_some, Option.toList_none, List.cons_append, List.nil_append, catS_0, catS_I, catS_L, catS_R, Option.map_some, Option.map_none, Option.some.injEq, Sum.inl.injEq, exists_eq_left', exists_eq', e1, e2, e3, e4, e5, e6, hc, hv, hv2, ltI, N2 a1, L2_0 a1, L2_1 a1, L2_2 a1]
        exact t1
      · rw [paidN_y ⟨hv, by omega⟩, ← nI_add, nI_nat (hr m (by omega))] at t1
        simp +decide only [e20_0, e20_1, e20_2, e20_3, e20_7, e20_8, e20_11, e20_14, e20_15, e20_18, e20_20, e20_21, e20_22, e20_25, e20_26, e20_29, e20_31, e20_32, e20_33, e20_36, e20_37, e20_38, e20_41, e20_43, e20_44, e20_45, e20_46, e20_49, e20_52, e20_53, true_and, and_true, or_true, true_or, if_true, if_false, not_true_eq_false, not_false_eq_true, ne_eq, and_self, Option.toList_some, Option.toList_none, List.cons_append, List.nil_append, catS_0, catS_I, catS_L, catS_R, Option.map_some, Option.map_none, Option.some.injEq, Sum.inl.injEq, exists_eq_left', exists_eq', e1, e2, e3, e4, e5, e6, hc, hv, hv2, ltI, N2 a1, L2_0 a1, L2_1 a1, L2_2 a1]
        exact t1
    · rw [paidN_n (fun z => hv z.1)] at t1
      simp +decide only [e20_0, e20_1, e20_2, e20_3, e20_7, e20_8, e20_11, e20_14, e20_15, e20_18, e20_20, e20_21, e20_22, e20_25, e20_26, e20_29, e20_31, e20_32, e20_33, e20_36, e20_37, e20_38, e20_41, e20_43, e20_44, e20_45, e20_46, e20_49, e20_52, e20_53, true_and, and_true, or_true, true_or, if_true, if_false, not_true_eq_false, not_false_eq_true, ne_eq, and_self, Option.toList_some, Option.toList_none, List.cons_append, List.nil_append, catS_0, catS_I, catS_L, catS_R, Option.map_some, Option.map_none, Option.some.injEq, Sum.inl.injEq, exists_eq_left', exists_eq', e1, e2, e3, e4, e5, e6, hc, hv, N2 a1, L2_0 a1, L2_1 a1, L2_2 a1]
      exact t1
theorem c_paidBy (a1 : SH σ) (hM : M ≤ 512) (hc : gI σ 2 3 0 = nI M) (hr : ∀ j, j < M → 0 ≤ (gA σ 2 1 0 j).toInt) (hD : D < 4000) : Rn d Q (20, 0, [some (vR (some (2, 0, 0))), some (vI (nI p)), some (vI (nI D)), none, none], [], σ) = Q (some (vI (nI (paidN (gA σ 2 0 0) (gA σ 2 1 0) (gA σ 2 2 0) p (D + 1) M)))) σ := by
  have cl := fun {d : Nat} {Q : Option AV → St → Prop} => c_paid_l (d := d) (Q := Q) (p := p) a1 hM hc hr hD M 0 (by omega)
  have z0 : nI (paidN (gA σ 2 0 0) (gA σ 2 1 0) (gA σ 2 2 0) p (D + 1) 0) = 0 := rfl
  simp only [z0, nI_0] at cl
  simp +decide only [e20_0, e20_1, e20_2, e20_3, e20_7, e20_8, e20_11, e20_14, e20_15, e20_18, e20_20, e20_21, e20_22, e20_25, e20_26, e20_29, e20_31, e20_32, e20_33, e20_36, e20_37, e20_38, e20_41, e20_43, e20_44, e20_45, e20_46, e20_49, e20_52, e20_53, cl]
theorem m_paid_l (a1 : SH σ) {py pe pd : Nat → Int32} (hp : p < 12) (hD : D < 4000) (hb : ∀ c, psum c pe M < 2 ^ 31) (hr : ∀ j, j < M → 0 ≤ (pd j).toInt) (ho : ∀ x, x < 4000 → gA σ 12 30 0 (4000 * p + x) = nI (psum (fun j => decide (py j = nI p ∧ pd j = nI x)) pe M)) : ∀ n m, m + n = D + 1 → Rn d Q (206, 5, [some (vR (some (12, 0, 0))), some (vI (nI p)), some (vI (nI D)), some (vL (lN (paidN py pe pd p m M))), none, some (vI (nI m))], [], σ) = Q (some (vL (lN (paidN py pe pd p (D + 1) M)))) σ := by
  intro n
  induction n with
  | zero =>
    intro m hm
    have e1 : nI D < nI m := nI_lt (by omega) (by omega)
    rw [e206_5]
    simp +decide only [e206_0, e206_1, e206_2, e206_3, e206_7, e206_8, e206_11, e206_12, e206_13, e206_16, e206_19, e206_20, e206_21, e206_23, e206_24, e206_25, e206_26, e206_27, e206_28, e206_31, e206_34, e206_35, true_and, and_true, or_true, true_or, if_true, if_false, not_true_eq_false, not_false_eq_true, ne_eq, and_self, Option.toList_some, Option.toList_none, List.cons_append, List.nil_append, catS_0, catS_I, catS_L, catS_R, Option.map_some, Option.map_none, e1]
    rw [show m = D + 1 by omega]
  | succ n ih =>
    intro m hm
    have e1 : ¬ nI D < nI m := nI_nlt (by omega) (by omega)
    have g2 : 4000 * nI p + nI m = nI (4000 * p + m) := by rw [lN4000, pk_mul, nI_add]
    have g3 : (nI (4000 * p + m)).toInt = ((4000 * p + m : Nat) : Int) := nI_toInt (by omega)
    have g4 : (nI (4000 * p + m)).toNatClampNeg = 4000 * p + m := nI_clamp (by omega)
    have g5 : (0 : Int) ≤ ((4000 * p + m : Nat) : Int) ∧ ((4000 * p + m : Nat) : Int) < ((48000 : Nat) : Int) := by omega
    have t1 := ih (m + 1) (by omega)
    rw [← nI_1 m, ← paidN_s (show m < 4000 by omega) hr, ← lN_add, ← nI_l (hb _)] at t1
    rw [e206_5]
    simp +decide only [e206_0, e206_1, e206_2, e206_3, e206_7, e206_8, e206_11, e206_12, e206_13, e206_16, e206_19, e206_20, e206_21, e206_23, e206_24, e206_25, e206_26, e206_27, e206_28, e206_31, e206_34, e206_35, true_and, and_true, or_true, true_or, if_true, if_false, not_true_eq_false, not_false_eq_true, ne_eq, and_self, Option.toList_some, Option.toList_none, List.cons_append, List.nil_append, catS_0, catS_I, catS_L, catS_R, Option.map_some, Option.map_none, Option.some.injEq, Sum.inl.injEq, exists_eq_left', exists_eq', e1, g2, g3, g4, g5, ho m (by omega), N12 a1, L12_30 a1]
    exact t1
theorem m_paidBy (a1 : SH σ) {py pe pd : Nat → Int32} (hp : p < 12) (hD : D < 4000) (hb : ∀ c, psum c pe M < 2 ^ 31) (hr : ∀ j, j < M → 0 ≤ (pd j).toInt) (ho : ∀ x, x < 4000 → gA σ 12 30 0 (4000 * p + x) = nI (psum (fun j => decide (py j = nI p ∧ pd j = nI x)) pe M)) : Rn d Q (206, 0, [some (vR (some (12, 0, 0))), some (vI (nI p)), some (vI (nI D)), none, none, none], [], σ) = Q (some (vL (lN (paidN py pe pd p (D + 1) M)))) σ := by
  have ml := fun {d : Nat} {Q : Option AV → St → Prop} => m_paid_l (d := d) (Q := Q) a1 hp hD hb hr ho (D + 1) 0 (by omega)
  have z0 : lN (paidN py pe pd p 0 M) = 0 := by rw [paidN_0 hr]; rfl
  simp only [z0, nI_0] at ml
  simp +decide only [e206_0, e206_1, e206_2, e206_3, e206_7, e206_8, e206_11, e206_12, e206_13, e206_16, e206_19, e206_20, e206_21, e206_23, e206_24, e206_25, e206_26, e206_27, e206_28, e206_31, e206_34, e206_35, ml]
end PAID
theorem lN3999 : (3999 : Int32) = nI 3999 := rfl
theorem T_who {h0 n d : Nat} {σ : St} {a b : Int32} (hn : n ≤ 512) (h : Inv h0 n σ) : PR h0 n (d + 2) 71 [some (vR (some (11, 0, 0))), some (vI a), some (vI b), none] 156 [some (vR (some (12, 0, 0))), some (vI a), some (vI b)] σ := by
  have hI := h.up
  obtain ⟨a1, a2, a3, a4, a5, a6, a7, a8, a9, a10, a11, a12, a13⟩ := h
  obtain ⟨u1, u2, u3, u4⟩ := a8
  have ct := fun {d : Nat} {Q : Option AV → St → Prop} {a : Int32} => c_pupAt (d := d) (Q := Q) (a := a) a1 u2 u1 (fun p hp => (u4 p hp).1)
  have mt := fun {d : Nat} {Q : Option AV → St → Prop} {a : Int32} => m_isPupil (d := d) (Q := Q) (a := a) a1 u3 (by omega)
  unfold PR
  by_cases hA : 0 ≤ a.toInt ∧ a.toInt < (gN σ 4 : Int)
  · obtain ⟨x, hx, rfl, e4⟩ := nI_ex hA
    have e3 : (nI x).toInt = (x : Int) := nI_toInt (by omega)
    have hx0 : (0 : Int) ≤ (x : Int) := by omega
    have hx1 : (x : Int) < (gN σ 4 : Int) := by omega
    have hx3 : (x : Int) < ((12 : Nat) : Int) := by omega
    obtain ⟨-, w1, -, w2, -, w3, w4, X, Y, hX, hY, w5, w6, w7, -, -⟩ := u4 x hx
    by_cases b0 : b = 0
    · subst b0
      simp +decide only [e71_0, e71_1, e71_2, e71_5, e71_6, e71_7N, e71_7S, e71_10, e71_11, e71_12, e71_13, e71_56, e71_57, e71_60, e71_61, e71_62, e71_65, e71_66, e71_67, e71_70, e71_71, e71_72, e71_75, e71_76, e71_77, e71_80, e71_81, e71_82, e71_85, e71_86, e71_87, e71_90, e71_91, e71_94, e71_97, e71_98, e71_99, true_and, and_true, or_true, true_or, if_true, if_false, not_true_eq_false, not_false_eq_true, ne_eq, and_self, Option.toList_some, Option.toList_none, List.cons_append, List.nil_append, catS_0, catS_I, catS_L, catS_R, Option.map_some, Option.map_none, Option.some.injEq, Sum.inl.injEq, exists_eq_left', exists_eq', ct, e3, e4, hx0, hx1, hx, N11 a1]
      simp +decide only [e156_0, e156_1, e156_2, e156_5, e156_8, e156_9, e156_10, e156_11, e156_52, e156_53, e156_56, e156_57, e156_58, e156_59, e156_60, e156_63, e156_64, e156_65, e156_67, e156_68, e156_69, e156_70, e156_73, e156_74, e156_75, e156_77, e156_78, e156_79, e156_80, e156_83, e156_84, e156_85, e156_86, e156_87, e156_90, e156_91, e156_92, e156_93, e156_94, e156_97, e156_98, e156_99, e156_100, e156_101, e156_104, e156_105, e156_106, e156_107, e156_108, true_and, and_true, or_true, true_or, if_true, if_false, not_true_eq_false, not_false_eq_true, ne_eq, and_self, Option.toList_some, Option.toList_none, List.cons_append, List.nil_append, catS_0, catS_I, catS_L, catS_R, Option.map_some, Option.map_none, Option.some.injEq, Sum.inl.injEq, exists_eq_left', exists_eq', mt, e3, e4, hx0, hx1, hx3, N12 a1, L12_24 a1, w1, hI]
    by_cases b1 : b = 1
    · subst b1
      have g1 : nI (6 * X + Y) / 6 = nI X := by
        rw [lN6, pk_div (by omega) (by omega) (by omega)]
        congr 1; omega
      simp +decide only [e71_0, e71_1, e71_2, e71_5, e71_6, e71_7N, e71_7S, e71_10, e71_11, e71_12, e71_13, e71_56, e71_57, e71_60, e71_61, e71_62, e71_65, e71_66, e71_67, e71_70, e71_71, e71_72, e71_75, e71_76, e71_77, e71_80, e71_81, e71_82, e71_85, e71_86, e71_87, e71_90, e71_91, e71_94, e71_97, e71_98, e71_99, true_and, and_true, or_true, true_or, if_true, if_false, not_true_eq_false, not_false_eq_true, ne_eq, and_self, Option.toList_some, Option.toList_none, List.cons_append, List.nil_append, catS_0, catS_I, catS_L, catS_R, Option.map_some, Option.map_none, Option.some.injEq, Sum.inl.injEq, exists_eq_left', exists_eq', ct, e3, e4, hx0, hx1, hx, N11 a1]
      simp +decide only [e156_0, e156_1, e156_2, e156_5, e156_8, e156_9, e156_10, e156_11, e156_52, e156_53, e156_56, e156_57, e156_58, e156_59, e156_60, e156_63, e156_64, e156_65, e156_67, e156_68, e156_69, e156_70, e156_73, e156_74, e156_75, e156_77, e156_78, e156_79, e156_80, e156_83, e156_84, e156_85, e156_86, e156_87, e156_90, e156_91, e156_92, e156_93, e156_94, e156_97, e156_98, e156_99, e156_100, e156_101, e156_104, e156_105, e156_106, e156_107, e156_108, true_and, and_true, or_true, true_or, if_true, if_false, not_true_eq_false, not_false_eq_true, ne_eq, and_self, Option.toList_some, Option.toList_none, List.cons_append, List.nil_append, catS_0, catS_I, catS_L, catS_R, Option.map_some, Option.map_none, Option.some.injEq, Sum.inl.injEq, exists_eq_left', exists_eq', mt, e3, e4, hx0, hx1, hx3, N12 a1, L12_25 a1, w5, w7, g1, hI]
    by_cases b2 : b = 2
    · subst b2
      have g1 : nI (6 * X + Y) - nI (6 * X + Y) / 6 * 6 = nI Y := by
        rw [lN6, pk_rem (by omega) (by omega) (by omega)]
        congr 1; omega
      simp +decide only [e71_0, e71_1, e71_2, e71_5, e71_6, e71_7N, e71_7S, e71_10, e71_11, e71_12, e71_13, e71_56, e71_57, e71_60, e71_61, e71_62, e71_65, e71_66, e71_67, e71_70, e71_71, e71_72, e71_75, e71_76, e71_77, e71_80, e71_81, e71_82, e71_85, e71_86, e71_87, e71_90, e71_91, e71_94, e71_97, e71_98, e71_99, true_and, and_true, or_true, true_or, if_true, if_false, not_true_eq_false, not_false_eq_true, ne_eq, and_self, Option.toList_some, Option.toList_none, List.cons_append, List.nil_append, catS_0, catS_I, catS_L, catS_R, Option.map_some, Option.map_none, Option.some.injEq, Sum.inl.injEq, exists_eq_left', exists_eq', ct, e3, e4, hx0, hx1, hx, N11 a1]
      simp +decide only [e156_0, e156_1, e156_2, e156_5, e156_8, e156_9, e156_10, e156_11, e156_52, e156_53, e156_56, e156_57, e156_58, e156_59, e156_60, e156_63, e156_64, e156_65, e156_67, e156_68, e156_69, e156_70, e156_73, e156_74, e156_75, e156_77, e156_78, e156_79, e156_80, e156_83, e156_84, e156_85, e156_86, e156_87, e156_90, e156_91, e156_92, e156_93, e156_94, e156_97, e156_98, e156_99, e156_100, e156_101, e156_104, e156_105, e156_106, e156_107, e156_108, true_and, and_true, or_true, true_or, if_true, if_false, not_true_eq_false, not_false_eq_true, ne_eq, and_self, Option.toList_some, Option.toList_none, List.cons_append, List.nil_append, catS_0, catS_I, catS_L, catS_R, Option.map_some, Option.map_none, Option.some.injEq, Sum.inl.injEq, exists_eq_left', exists_eq', mt, e3, e4, hx0, hx1, hx3, N12 a1, L12_25 a1, w6, w7, g1, hI]
    by_cases b3 : b = 3
    · subst b3
      simp +decide only [e71_0, e71_1, e71_2, e71_5, e71_6, e71_7N, e71_7S, e71_10, e71_11, e71_12, e71_13, e71_56, e71_57, e71_60, e71_61, e71_62, e71_65, e71_66, e71_67, e71_70, e71_71, e71_72, e71_75, e71_76, e71_77, e71_80, e71_81, e71_82, e71_85, e71_86, e71_87, e71_90, e71_91, e71_94, e71_97, e71_98, e71_99, true_and, and_true, or_true, true_or, if_true, if_false, not_true_eq_false, not_false_eq_true, ne_eq, and_self, Option.toList_some, Option.toList_none, List.cons_append, List.nil_append, catS_0, catS_I, catS_L, catS_R, Option.map_some, Option.map_none, Option.some.injEq, Sum.inl.injEq, exists_eq_left', exists_eq', ct, e3, e4, hx0, hx1, hx, N11 a1]
      simp +decide only [e156_0, e156_1, e156_2, e156_5, e156_8, e156_9, e156_10, e156_11, e156_52, e156_53, e156_56, e156_57, e156_58, e156_59, e156_60, e156_63, e156_64, e156_65, e156_67, e156_68, e156_69, e156_70, e156_73, e156_74, e156_75, e156_77, e156_78, e156_79, e156_80, e156_83, e156_84, e156_85, e156_86, e156_87, e156_90, e156_91, e156_92, e156_93, e156_94, e156_97, e156_98, e156_99, e156_100, e156_101, e156_104, e156_105, e156_106, e156_107, e156_108, true_and, and_true, or_true, true_or, if_true, if_false, not_true_eq_false, not_false_eq_true, ne_eq, and_self, Option.toList_some, Option.toList_none, List.cons_append, List.nil_append, catS_0, catS_I, catS_L, catS_R, Option.map_some, Option.map_none, Option.some.injEq, Sum.inl.injEq, exists_eq_left', exists_eq', mt, e3, e4, hx0, hx1, hx3, N12 a1, L12_26 a1, w2, hI]
    by_cases b4 : b = 4
    · subst b4
      simp +decide only [e71_0, e71_1, e71_2, e71_5, e71_6, e71_7N, e71_7S, e71_10, e71_11, e71_12, e71_13, e71_56, e71_57, e71_60, e71_61, e71_62, e71_65, e71_66, e71_67, e71_70, e71_71, e71_72, e71_75, e71_76, e71_77, e71_80, e71_81, e71_82, e71_85, e71_86, e71_87, e71_90, e71_91, e71_94, e71_97, e71_98, e71_99, true_and, and_true, or_true, true_or, if_true, if_false, not_true_eq_false, not_false_eq_true, ne_eq, and_self, Option.toList_some, Option.toList_none, List.cons_append, List.nil_append, catS_0, catS_I, catS_L, catS_R, Option.map_some, Option.map_none, Option.some.injEq, Sum.inl.injEq, exists_eq_left', exists_eq', ct, e3, e4, hx0, hx1, hx, N11 a1]
      simp +decide only [e156_0, e156_1, e156_2, e156_5, e156_8, e156_9, e156_10, e156_11, e156_52, e156_53, e156_56, e156_57, e156_58, e156_59, e156_60, e156_63, e156_64, e156_65, e156_67, e156_68, e156_69, e156_70, e156_73, e156_74, e156_75, e156_77, e156_78, e156_79, e156_80, e156_83, e156_84, e156_85, e156_86, e156_87, e156_90, e156_91, e156_92, e156_93, e156_94, e156_97, e156_98, e156_99, e156_100, e156_101, e156_104, e156_105, e156_106, e156_107, e156_108, true_and, and_true, or_true, true_or, if_true, if_false, not_true_eq_false, not_false_eq_true, ne_eq, and_self, Option.toList_some, Option.toList_none, List.cons_append, List.nil_append, catS_0, catS_I, catS_L, catS_R, Option.map_some, Option.map_none, Option.some.injEq, Sum.inl.injEq, exists_eq_left', exists_eq', mt, e3, e4, hx0, hx1, hx3, N12 a1, L12_27 a1, w3, hI]
    by_cases b5 : b = 5
    · subst b5
      simp +decide only [e71_0, e71_1, e71_2, e71_5, e71_6, e71_7N, e71_7S, e71_10, e71_11, e71_12, e71_13, e71_56, e71_57, e71_60, e71_61, e71_62, e71_65, e71_66, e71_67, e71_70, e71_71, e71_72, e71_75, e71_76, e71_77, e71_80, e71_81, e71_82, e71_85, e71_86, e71_87, e71_90, e71_91, e71_94, e71_97, e71_98, e71_99, true_and, and_true, or_true, true_or, if_true, if_false, not_true_eq_false, not_false_eq_true, ne_eq, and_self, Option.toList_some, Option.toList_none, List.cons_append, List.nil_append, catS_0, catS_I, catS_L, catS_R, Option.map_some, Option.map_none, Option.some.injEq, Sum.inl.injEq, exists_eq_left', exists_eq', ct, e3, e4, hx0, hx1, hx, N11 a1]
      simp +decide only [e156_0, e156_1, e156_2, e156_5, e156_8, e156_9, e156_10, e156_11, e156_52, e156_53, e156_56, e156_57, e156_58, e156_59, e156_60, e156_63, e156_64, e156_65, e156_67, e156_68, e156_69, e156_70, e156_73, e156_74, e156_75, e156_77, e156_78, e156_79, e156_80, e156_83, e156_84, e156_85, e156_86, e156_87, e156_90, e156_91, e156_92, e156_93, e156_94, e156_97, e156_98, e156_99, e156_100, e156_101, e156_104, e156_105, e156_106, e156_107, e156_108, true_and, and_true, or_true, true_or, if_true, if_false, not_true_eq_false, not_false_eq_true, ne_eq, and_self, Option.toList_some, Option.toList_none, List.cons_append, List.nil_append, catS_0, catS_I, catS_L, catS_R, Option.map_some, Option.map_none, Option.some.injEq, Sum.inl.injEq, exists_eq_left', exists_eq', mt, e3, e4, hx0, hx1, hx3, N12 a1, L12_28 a1, w4, hI]
    by_cases b6 : b = 6
    · subst b6
      obtain ⟨M, M1, M2, M3, M4, M5⟩ := a10
      have cp := fun {d : Nat} {Q : Option AV → St → Prop} => c_paidBy (d := d) (Q := Q) (p := x) (D := 3999) a1 (show M ≤ 512 by omega) M2 (fun j hj => by have := (M3 j hj).2.1.1; omega) (by omega)
      rw [show 3999 + 1 = 4000 from rfl, paidN_all (fun j hj => (M3 j hj).2.2.2), ← lN3999] at cp
      simp +decide only [e71_0, e71_1, e71_2, e71_5, e71_6, e71_7N, e71_7S, e71_10, e71_11, e71_12, e71_13, e71_56, e71_57, e71_60, e71_61, e71_62, e71_65, e71_66, e71_67, e71_70, e71_71, e71_72, e71_75, e71_76, e71_77, e71_80, e71_81, e71_82, e71_85, e71_86, e71_87, e71_90, e71_91, e71_94, e71_97, e71_98, e71_99, true_and, and_true, or_true, true_or, if_true, if_false, not_true_eq_false, not_false_eq_true, ne_eq, and_self, Option.toList_some, Option.toList_none, List.cons_append, List.nil_append, catS_0, catS_I, catS_L, catS_R, Option.map_some, Option.map_none, Option.some.injEq, Sum.inl.injEq, exists_eq_left', exists_eq', ct, cp, e3, e4, hx0, hx1, hx, N11 a1, N2 a1, R11_13 a1]
      simp +decide only [e156_0, e156_1, e156_2, e156_5, e156_8, e156_9, e156_10, e156_11, e156_52, e156_53, e156_56, e156_57, e156_58, e156_59, e156_60, e156_63, e156_64, e156_65, e156_67, e156_68, e156_69, e156_70, e156_73, e156_74, e156_75, e156_77, e156_78, e156_79, e156_80, e156_83, e156_84, e156_85, e156_86, e156_87, e156_90, e156_91, e156_92, e156_93, e156_94, e156_97, e156_98, e156_99, e156_100, e156_101, e156_104, e156_105, e156_106, e156_107, e156_108, true_and, and_true, or_true, true_or, if_true, if_false, not_true_eq_false, not_false_eq_true, ne_eq, and_self, Option.toList_some, Option.toList_none, List.cons_append, List.nil_append, catS_0, catS_I, catS_L, catS_R, Option.map_some, Option.map_none, Option.some.injEq, Sum.inl.injEq, exists_eq_left', exists_eq', mt, e3, e4, hx0, hx1, hx3, N12 a1, L12_29 a1, M4 x (by omega), hI]
    simp +decide only [e71_0, e71_1, e71_2, e71_5, e71_6, e71_7N, e71_7S, e71_10, e71_11, e71_12, e71_13, e71_56, e71_57, e71_60, e71_61, e71_62, e71_65, e71_66, e71_67, e71_70, e71_71, e71_72, e71_75, e71_76, e71_77, e71_80, e71_81, e71_82, e71_85, e71_86, e71_87, e71_90, e71_91, e71_94, e71_97, e71_98, e71_99, true_and, and_true, or_true, true_or, if_true, if_false, not_true_eq_false, not_false_eq_true, ne_eq, and_self, Option.toList_some, Option.toList_none, List.cons_append, List.nil_append, catS_0, catS_I, catS_L, catS_R, Option.map_some, Option.map_none, Option.some.injEq, Sum.inl.injEq, exists_eq_left', exists_eq', ct, e3, e4, hx0, hx1, hx, N11 a1, b0, b1, b2, b3, b4, b5, b6]
    simp +decide only [e156_0, e156_1, e156_2, e156_5, e156_8, e156_9, e156_10, e156_11, e156_52, e156_53, e156_56, e156_57, e156_58, e156_59, e156_60, e156_63, e156_64, e156_65, e156_67, e156_68, e156_69, e156_70, e156_73, e156_74, e156_75, e156_77, e156_78, e156_79, e156_80, e156_83, e156_84, e156_85, e156_86, e156_87, e156_90, e156_91, e156_92, e156_93, e156_94, e156_97, e156_98, e156_99, e156_100, e156_101, e156_104, e156_105, e156_106, e156_107, e156_108, true_and, and_true, or_true, true_or, if_true, if_false, not_true_eq_false, not_false_eq_true, ne_eq, and_self, Option.toList_some, Option.toList_none, List.cons_append, List.nil_append, catS_0, catS_I, catS_L, catS_R, Option.map_some, Option.map_none, Option.some.injEq, Sum.inl.injEq, exists_eq_left', exists_eq', mt, e3, e4, hx0, hx1, hx3, N12 a1, b0, b1, b2, b3, b4, b5, b6, hI]
  · simp +decide only [e71_0, e71_1, e71_2, e71_5, e71_6, e71_7N, e71_7S, e71_10, e71_11, e71_12, e71_13, e71_56, e71_57, e71_60, e71_61, e71_62, e71_65, e71_66, e71_67, e71_70, e71_71, e71_72, e71_75, e71_76, e71_77, e71_80, e71_81, e71_82, e71_85, e71_86, e71_87, e71_90, e71_91, e71_94, e71_97, e71_98, e71_99, true_and, and_true, or_true, true_or, if_true, if_false, not_true_eq_false, not_false_eq_true, ne_eq, and_self, Option.toList_some, Option.toList_none, List.cons_append, List.nil_append, catS_0, catS_I, catS_L, catS_R, Option.map_some, Option.map_none, Option.some.injEq, Sum.inl.injEq, exists_eq_left', exists_eq', ct, hA, N11 a1]
    simp +decide only [e156_0, e156_1, e156_2, e156_5, e156_8, e156_9, e156_10, e156_11, e156_52, e156_53, e156_56, e156_57, e156_58, e156_59, e156_60, e156_63, e156_64, e156_65, e156_67, e156_68, e156_69, e156_70, e156_73, e156_74, e156_75, e156_77, e156_78, e156_79, e156_80, e156_83, e156_84, e156_85, e156_86, e156_87, e156_90, e156_91, e156_92, e156_93, e156_94, e156_97, e156_98, e156_99, e156_100, e156_101, e156_104, e156_105, e156_106, e156_107, e156_108, true_and, and_true, or_true, true_or, if_true, if_false, not_true_eq_false, not_false_eq_true, ne_eq, and_self, Option.toList_some, Option.toList_none, List.cons_append, List.nil_append, catS_0, catS_I, catS_L, catS_R, Option.map_some, Option.map_none, Option.some.injEq, Sum.inl.injEq, exists_eq_left', exists_eq', mt, hA, N12 a1, hI]
