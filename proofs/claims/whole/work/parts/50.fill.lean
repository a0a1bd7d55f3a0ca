def ff (v : Int32) (f : Nat → Int32) (m : Nat) : Nat → Int32 := fun j => if j < m then v else f j
theorem ff_0 (v : Int32) (f : Nat → Int32) : ff v f 0 = f := by funext j; simp [ff]
theorem ff_s (v : Int32) (f : Nat → Int32) (m : Nat) : upd (ff v f m) m v = ff v f (m + 1) := by
  funext j
  unfold upd ff
  by_cases h : j = m
  · simp [h]
  · by_cases h2 : j < m
    · simp [h, h2, Nat.lt_succ_of_lt h2]
    · simp [h, h2, show ¬ j < m + 1 by omega]
theorem setA_self (σ : St) (c k i : Nat) : setA σ c k i (gA σ c k i) = σ := by
  unfold setA
  have : up3 σ.2.1 c k i (gA σ c k i) = σ.2.1 := by
    funext a b d
    unfold up3
    by_cases h : a = c ∧ b = k ∧ d = i
    · rw [if_pos h]; obtain ⟨rfl, rfl, rfl⟩ := h; rfl
    · rw [if_neg h]
  rw [this]
theorem setA_A {σ : St} {c k i : Nat} {f f2 : Nat → Int32} : setA (setA σ c k i f) c k i f2 = setA σ c k i f2 := by
  unfold setA
  have : up3 (up3 σ.2.1 c k i f) c k i f2 = up3 σ.2.1 c k i f2 := by
    funext a b d
    unfold up3
    by_cases h : a = c ∧ b = k ∧ d = i
    · rw [if_pos h, if_pos h]
    · rw [if_neg h, if_neg h, if_neg h]
  show (_, up3 (up3 σ.2.1 c k i f) c k i f2, _) = _
  rw [this]
theorem gA_A {σ : St} {c k i : Nat} {f : Nat → Int32} : gA (setA σ c k i f) c k i = f := if_pos ⟨rfl, rfl, rfl⟩
theorem c_fill_l {d : Nat} {Q : Option AV → St → Prop} {σ : St} {c k i L : Nat} {v : Int32} {f : Nat → Int32} (hk : fk c k = (1, 1)) (hc : c < 13) (hL : gL σ c k i = some L) (hi : i < gN σ c) (hL2 : L < 2 ^ 31) :
    ∀ n m, m + n = L → Rn d Q (217, 5, [some (vR (some (c, k + 1, i))), some (vI v), some (vI (nI m)), some (vI (nI L))], [], setA σ c k i (ff v f m)) = Q none (setA σ c k i (ff v f L)) := by
  intro n
  induction n with
  | zero =>
    intro m hm
    have e1 : nI L ≤ nI m := nI_le (by omega) (by omega)
    simp +decide only [e217_0, e217_1, e217_2, e217_3, e217_4, e217_5, e217_6, e217_7, e217_10, e217_11, e217_12, e217_13, e217_14, e217_17, e217_20, true_and, and_true, or_true, true_or, if_true, if_false, not_true_eq_false, not_false_eq_true, ne_eq, and_self, Option.toList_some, Option.toList_none, List.cons_append, List.nil_append, catS_0, catS_I, catS_L, catS_R, Option.map_some, Option.map_none, e1]
    rw [show m = L by omega]
  | succ n ih =>
    intro m hm
    have e1 : ¬ nI L ≤ nI m := nI_ge (by omega) hL2
    have e2 : (nI m).toInt = (m : Int) := nI_toInt (by omega)
    have e3 : (0 : Int) ≤ (m : Int) := by omega
    have e4 : (m : Int) < (L : Int) := by omega
    have e5 : (nI m).toNatClampNeg = m := nI_clamp (by omega)
    have := ih (m + 1) (by omega)
    rw [← nI_1] at this
    rw [e217_5]
    simp +decide only [e217_0, e217_1, e217_2, e217_3, e217_4, e217_6, e217_7, e217_10, e217_11, e217_12, e217_13, e217_14, e217_17, e217_20, true_and, and_true, or_true, true_or, if_true, if_false, not_true_eq_false, not_false_eq_true, ne_eq, and_self, Option.toList_some, Option.toList_none, List.cons_append, List.nil_append, catS_0, catS_I, catS_L, catS_R, Option.map_some, Option.map_none, e1, hk, hc, LA, NA, hL, hi, e2, e3, e4, e5, Option.some.injEq, Sum.inl.injEq, exists_eq_left', exists_eq', gA_A, setA_A, ff_s]
    exact this
theorem c_fill {d : Nat} {Q : Option AV → St → Prop} {σ : St} {c k i L : Nat} {v : Int32} (hk : fk c k = (1, 1)) (hc : c < 13) (hL : gL σ c k i = some L) (hi : i < gN σ c) (hL2 : L < 2 ^ 31) : Rn d Q (217, 0, [some (vR (some (c, k + 1, i))), some (vI v), none, none], [], σ) = Q none (setA σ c k i (ff v (gA σ c k i) L)) := by
  have := c_fill_l (d := d) (Q := Q) (v := v) (f := gA σ c k i) hk hc hL hi hL2 L 0 (by omega)
  rw [ff_0, setA_self] at this
  simp +decide only [e217_0, e217_1, e217_2, e217_3, e217_4, e217_6, e217_7, e217_10, e217_11, e217_12, e217_13, e217_14, e217_17, e217_20, true_and, and_true, or_true, true_or, if_true, if_false, not_true_eq_false, not_false_eq_true, ne_eq, and_self, Option.toList_some, Option.toList_none, List.cons_append, List.nil_append, catS_0, catS_I, catS_L, catS_R, Option.map_some, Option.map_none, hk, hL, hi, Option.some.injEq, Sum.inl.injEq, exists_eq_left', exists_eq']
  exact this
