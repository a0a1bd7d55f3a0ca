/-- nothing but rows named by P and cells named by R has changed -/
def frB (P R : Nat → Nat → Bool) (σ σ' : St) : Prop := gR σ' = gR σ ∧ gQ σ' = gQ σ ∧ gL σ' = gL σ ∧ gN σ' = gN σ ∧ gH σ' = gH σ ∧ gS σ' = gS σ ∧ (∀ c k, P c k = false → gA σ' c k = gA σ c k) ∧ ∀ c k, R c k = false → gI σ' c k = gI σ c k
theorem frB_0 {P R : Nat → Nat → Bool} {σ : St} : frB P R σ σ := ⟨rfl, rfl, rfl, rfl, rfl, rfl, fun _ _ _ => rfl, fun _ _ _ => rfl⟩
theorem frB_t {P R : Nat → Nat → Bool} {σ σ1 σ2 : St} (h1 : frB P R σ σ1) (h2 : frB P R σ1 σ2) : frB P R σ σ2 := by
  obtain ⟨a1, a2, a3, a4, a5, a6, a7, a8⟩ := h1
  obtain ⟨b1, b2, b3, b4, b5, b6, b7, b8⟩ := h2
  exact ⟨b1.trans a1, b2.trans a2, b3.trans a3, b4.trans a4, b5.trans a5, b6.trans a6, fun c k h => (b7 c k h).trans (a7 c k h), fun c k h => (b8 c k h).trans (a8 c k h)⟩
theorem frB_w {P R P' R' : Nat → Nat → Bool} {σ σ1 : St} (h1 : frB P R σ σ1) (hP : ∀ c k, P' c k = false → P c k = false) (hR : ∀ c k, R' c k = false → R c k = false) : frB P' R' σ σ1 := by
  obtain ⟨a1, a2, a3, a4, a5, a6, a7, a8⟩ := h1
  exact ⟨a1, a2, a3, a4, a5, a6, fun c k h => a7 c k (hP c k h), fun c k h => a8 c k (hR c k h)⟩
theorem frB_A {P R : Nat → Nat → Bool} {σ : St} {c k i : Nat} {f : Nat → Int32} (h : P c k = true) : frB P R σ (setA σ c k i f) := by
  refine ⟨rfl, rfl, rfl, rfl, rfl, rfl, fun a b hab => ?_, fun _ _ _ => rfl⟩
  rw [AA, if_neg (fun z => by rw [z.1, z.2, h] at hab; cases hab)]
theorem frB_I {P R : Nat → Nat → Bool} {σ : St} {c k i : Nat} {f : Int32} (h : R c k = true) : frB P R σ (setI σ c k i f) := by
  refine ⟨rfl, rfl, rfl, rfl, rfl, rfl, fun _ _ _ => rfl, fun a b hab => ?_⟩
  rw [II, if_neg (fun z => by rw [z.1, z.2, h] at hab; cases hab)]
theorem SH_frB {P R : Nat → Nat → Bool} {σ σ' : St} (h : frB P R σ σ') (a1 : SH σ) : SH σ' := by
  obtain ⟨h1, h2, h3, h4, h5, h6, h7, h8⟩ := h
  unfold SH
  rw [h1, h2, h3, h4]
  exact a1
theorem c_cut {d : Nat} {Q : Option AV → St → Prop} {σ : St} {a p : Nat} (ha : a < 1000) (hp : 0 < p) (hp2 : p < 1000) : Rn d Q (112, 0, [some (vI (nI a)), some (vI (nI p))], [], σ) = Q (some (vI (nI (cutN a p)))) σ := by
  have h1 : (1 : Int32) ≤ nI p := by rw [lN1]; exact nI_le (by omega) (by omega)
  have h1' : ¬ nI p < 1 := by rw [lN1]; exact nI_nlt (by omega) (by omega)
  have h2 : nI a + nI p - 1 = nI (a + p - 1) := by rw [nI_add, lN1, pk_sub (by omega)]
  have h3 : nI (a + p - 1) / nI p = nI (cutN a p) := pk_div (by omega) hp (by omega)
  have h4 : ¬ nI p = 0 := nI_ne0 hp (by omega)
  simp +decide only [e112_0, e112_1, e112_2, e112_5, e112_6, e112_9, e112_10, e112_11, e112_12, e112_13, e112_14, e112_15, e112_16, true_and, and_true, or_true, true_or, if_true, if_false, not_true_eq_false, not_false_eq_true, ne_eq, and_self, Option.toList_some, Option.toList_none, List.cons_append, List.nil_append, catS_0, catS_I, catS_L, catS_R, Option.map_some, Option.map_none, h1, h1', h2, h3, h4]
theorem cutN_le {a p : Nat} (ha : a ≤ 13) (hp : 0 < p) : cutN a p ≤ 13 := by
  unfold cutN
  refine Nat.le_of_lt_succ ((Nat.div_lt_iff_lt_mul hp).mpr ?_)
  have : 14 * p = 13 * p + p := by omega
  omega
section SEEK
variable {ρ : St} {d : Nat} {Q : Option AV → St → Prop}
theorem c_canT {u i w lu : Nat} (a1 : SH ρ) (hu : u < 6) (hi : i < 6) (h1 : gA ρ 5 1 0 i = nI w) (hw : w < 64) (h2 : gA ρ 5 6 0 u = nI lu) (hl : lu ≤ 13) : Rn d Q (33, 0, [some (vR (some (5, 0, 0))), some (vI (nI u)), some (vI (nI i))], [], ρ) = if (w.testBit u && decide (lu < 12)) = true then Q (some (vI 1)) ρ else Q (some (vI 0)) ρ := by
  have e3 : (nI u).toInt = (u : Int) := nI_toInt (by omega)
  have e4 : (nI u).toNatClampNeg = u := nI_clamp (by omega)
  have f3 : (nI i).toInt = (i : Int) := nI_toInt (by omega)
  have f4 : (nI i).toNatClampNeg = i := nI_clamp (by omega)
  have g1 : (0 : Int) ≤ (u : Int) := by omega
  have g2 : (u : Int) < ((6 : Nat) : Int) := by omega
  have g3 : (0 : Int) ≤ (i : Int) := by omega
  have g4 : (i : Int) < ((6 : Nat) : Int) := by omega
  cases b1 : w.testBit u with
  | false =>
    have t : ¬ nI w >>> (nI u &&& 31) &&& 1 = 1 := by rw [bitI (by omega) (by omega), b1]; decide
    rw [if_neg (by decide)]
    simp +decide only [e33_0, e33_1, e33_4, e33_5, e33_6, e33_7, e33_8, e33_9, e33_10, e33_11, e33_14, e33_15, e33_18, e33_19, e33_20, e33_22, e33_25, e33_26, e33_29, e33_30, true_and, and_true, or_true, true_or, if_true, if_false, not_true_eq_false, not_false_eq_true, ne_eq, and_self, Option.toList_some, Option.toList_none, List.cons_append, List.nil_append, catS_0, catS_I, catS_L, catS_R, Option.map_some, Option.map_none, Option.some.injEq, Sum.inl.injEq, exists_eq_left', exists_eq', e3, e4, f3, f4, g1, g2, g3, g4, h1, t, N5 a1, L5_1 a1, L5_6 a1]
  | true =>
    have t : nI w >>> (nI u &&& 31) &&& 1 = 1 := by rw [bitI (by omega) (by omega), b1]
    by_cases b2 : lu < 12
    · have t2 : ¬ (12 : Int32) ≤ nI lu := nI_ge (b := 12) b2 (by omega)
      rw [if_pos (by rw [decide_eq_true b2]; rfl)]
      simp +decide only [e33_0, e33_1, e33_4, e33_5, e33_6, e33_7, e33_8, e33_9, e33_10, e33_11, e33_14, e33_15, e33_18, e33_19, e33_20, e33_22, e33_25, e33_26, e33_29, e33_30, true_and, and_true, or_true, true_or, if_true, if_false, not_true_eq_false, not_false_eq_true, ne_eq, and_self, Option.toList_some, Option.toList_none, List.cons_append, List.nil_append, catS_0, catS_I, catS_L, catS_R, Option.map_some, Option.map_none, Option.some.injEq, Sum.inl.injEq, exists_eq_left', exists_eq', e3, e4, f3, f4, g1, g2, g3, g4, h1, h2, t, t2, N5 a1, L5_1 a1, L5_6 a1]
    · have t2 : (12 : Int32) ≤ nI lu := nI_le (a := 12) (by omega) (by omega)
      rw [if_neg (by rw [decide_eq_false b2]; decide)]
      simp +decide only [e33_0, e33_1, e33_4, e33_5, e33_6, e33_7, e33_8, e33_9, e33_10, e33_11, e33_14, e33_15, e33_18, e33_19, e33_20, e33_22, e33_25, e33_26, e33_29, e33_30, true_and, and_true, or_true, true_or, if_true, if_false, not_true_eq_false, not_false_eq_true, ne_eq, and_self, Option.toList_some, Option.toList_none, List.cons_append, List.nil_append, catS_0, catS_I, catS_L, catS_R, Option.map_some, Option.map_none, Option.some.injEq, Sum.inl.injEq, exists_eq_left', exists_eq', e3, e4, f3, f4, g1, g2, g3, g4, h1, h2, t, t2, N5 a1, L5_1 a1, L5_6 a1]
theorem c_canB {i g s x y : Nat} {b : Int × Nat × (Nat → Nat)} (a1 : SH ρ) (hi : i < 7) (hg : g < 100) (hs : s < 1000) (h1 : gA ρ 5 4 0 i = nI x) (hx : x < 100) (h2 : gA ρ 5 5 0 i = nI y) (hy : y < 1000) (h3 : (gI ρ 5 10 0).toInt = b.1) (h4 : gI ρ 5 11 0 = nI b.2.1) (h5 : b.2.1 ≤ 1000) : Rn d Q (35, 0, [some (vR (some (5, 0, 0))), some (vI (nI i)), some (vI (nI g)), some (vI (nI s)), none], [], ρ) = if ((g + x : Nat) : Int) < b.1 ∨ (((g + x : Nat) : Int) = b.1 ∧ b.2.1 ≤ s + y) then Q (some (vI 0)) ρ else Q (some (vI 1)) ρ := by
  have f3 : (nI i).toInt = (i : Int) := nI_toInt (by omega)
  have f4 : (nI i).toNatClampNeg = i := nI_clamp (by omega)
  have g3 : (0 : Int) ≤ (i : Int) := by omega
  have g4 : (i : Int) < ((7 : Nat) : Int) := by omega
  have t1 : nI g + nI x = nI (g + x) := nI_add g x
  have t2 : nI s + nI y = nI (s + y) := nI_add s y
  have t3 : (nI (g + x)).toInt = ((g + x : Nat) : Int) := nI_toInt (by omega)
  by_cases c1 : ((g + x : Nat) : Int) = b.1
  · have c2 : nI (g + x) = gI ρ 5 10 0 := Int32.toInt_inj.mp (by rw [t3, h3]; exact c1)
    by_cases c3 : b.2.1 ≤ s + y
    · have c4 : nI b.2.1 ≤ nI (s + y) := nI_le c3 (by omega)
      rw [if_pos (Or.inr ⟨c1, c3⟩)]
      simp +decide only [e35_0, e35_1, e35_2, e35_5, e35_6, e35_7, e35_8, e35_10, e35_12, e35_13, e35_16, e35_19, e35_21, e35_22, e35_25, e35_28, e35_29, e35_32, e35_33, e35_34, e35_35, e35_36, e35_39, e35_40, e35_41, e35_42, e35_43, e35_46, e35_49, e35_50, e35_53, e35_54, true_and, and_true, or_true, true_or, if_true, if_false, not_true_eq_false, not_false_eq_true, ne_eq, and_self, Option.toList_some, Option.toList_none, List.cons_append, List.nil_append, catS_0, catS_I, catS_L, catS_R, Option.map_some, Option.map_none, Option.some.injEq, Sum.inl.injEq, exists_eq_left', exists_eq', f3, f4, g3, g4, h1, h2, h4, t1, t2, c2, c4, N5 a1, L5_4 a1, L5_5 a1]
    · have c4 : ¬ nI b.2.1 ≤ nI (s + y) := nI_ge (by omega) (by omega)
      rw [if_neg (by omega)]
      simp +decide only [e35_0, e35_1, e35_2, e35_5, e35_6, e35_7, e35_8, e35_10, e35_12, e35_13, e35_16, e35_19, e35_21, e35_22, e35_25, e35_28, e35_29, e35_32, e35_33, e35_34, e35_35, e35_36, e35_39, e35_40, e35_41, e35_42, e35_43, e35_46, e35_49, e35_50, e35_53, e35_54, true_and, and_true, or_true, true_or, if_true, if_false, not_true_eq_false, not_false_eq_true, ne_eq, and_self, Option.toList_some, Option.toList_none, List.cons_append, List.nil_append, catS_0, catS_I, catS_L, catS_R, Option.map_some, Option.map_none, Option.some.injEq, Sum.inl.injEq, exists_eq_left', exists_eq', f3, f4, g3, g4, h1, h2, h4, t1, t2, c2, c4, N5 a1, L5_4 a1, L5_5 a1]
  · have c2 : ¬ nI (g + x) = gI ρ 5 10 0 := fun z => c1 (by rw [← t3, z, h3])
    by_cases c3 : ((g + x : Nat) : Int) < b.1
    · have c4 : nI (g + x) ≤ gI ρ 5 10 0 := by rw [leI, t3, h3]; omega
      rw [if_pos (Or.inl c3)]
      simp +decide only [e35_0, e35_1, e35_2, e35_5, e35_6, e35_7, e35_8, e35_10, e35_12, e35_13, e35_16, e35_19, e35_21, e35_22, e35_25, e35_28, e35_29, e35_32, e35_33, e35_34, e35_35, e35_36, e35_39, e35_40, e35_41, e35_42, e35_43, e35_46, e35_49, e35_50, e35_53, e35_54, true_and, and_true, or_true, true_or, if_true, if_false, not_true_eq_false, not_false_eq_true, ne_eq, and_self, Option.toList_some, Option.toList_none, List.cons_append, List.nil_append, catS_0, catS_I, catS_L, catS_R, Option.map_some, Option.map_none, Option.some.injEq, Sum.inl.injEq, exists_eq_left', exists_eq', f3, f4, g3, g4, h1, h2, h4, t1, t2, c2, c4, N5 a1, L5_4 a1, L5_5 a1]
    · have c4 : ¬ nI (g + x) ≤ gI ρ 5 10 0 := by rw [leI, t3, h3]; omega
      rw [if_neg (by omega)]
      simp +decide only [e35_0, e35_1, e35_2, e35_5, e35_6, e35_7, e35_8, e35_10, e35_12, e35_13, e35_16, e35_19, e35_21, e35_22, e35_25, e35_28, e35_29, e35_32, e35_33, e35_34, e35_35, e35_36, e35_39, e35_40, e35_41, e35_42, e35_43, e35_46, e35_49, e35_50, e35_53, e35_54, true_and, and_true, or_true, true_or, if_true, if_false, not_true_eq_false, not_false_eq_true, ne_eq, and_self, Option.toList_some, Option.toList_none, List.cons_append, List.nil_append, catS_0, catS_I, catS_L, catS_R, Option.map_some, Option.map_none, Option.some.injEq, Sum.inl.injEq, exists_eq_left', exists_eq', f3, f4, g3, g4, h1, h2, h4, t1, t2, c2, c4, N5 a1, L5_4 a1, L5_5 a1]
/-- the copying of now into chosen -/
theorem c_copyN {ls : List (Option AV)} (a1 : SH ρ) : Rn d Q (34, 41, ls, [vI 6, vI 0, vR (some (5, 4, 0)), vI 0, vR (some (5, 3, 0))], ρ) = Rn d Q (34, 44, ls, [], setA ρ 5 3 0 (va_cpy (gA ρ 5 2 0) (gA ρ 5 3 0) 0 0 6)) := by
  have hq : mthQ (ow 34) 78 = some (7, 0, 5) := (congrArg (fun z => mthQ z 78) o34).trans m5_78
  rw [Rn_nx i34_41]
  show Sd (clo d) (Rn d Q) Q (match mthQ (ow 34) 78 with
    | some (1, μ', na) => if na ≤ ([vI 6, vI 0, vR (some (5, 4, 0)), vI 0, vR (some (5, 3, 0))] : List AV).length then call μ' (([vI 6, vI 0, vR (some (5, 4, 0)), vI 0, vR (some (5, 3, 0))] : List AV).take na).reverse 34 (41 + 3) ls (([vI 6, vI 0, vR (some (5, 4, 0)), vI 0, vR (some (5, 3, 0))] : List AV).drop na) ρ else none
    | some (4, μ', na) => if na ≤ ([vI 6, vI 0, vR (some (5, 4, 0)), vI 0, vR (some (5, 3, 0))] : List AV).length then call μ' (([vI 6, vI 0, vR (some (5, 4, 0)), vI 0, vR (some (5, 3, 0))] : List AV).take na).reverse 34 (41 + 3) ls (([vI 6, vI 0, vR (some (5, 4, 0)), vI 0, vR (some (5, 3, 0))] : List AV).drop na) ρ else none
    | some (7, _, _) => acopy 34 (41 + 3) ls ([vI 6, vI 0, vR (some (5, 4, 0)), vI 0, vR (some (5, 3, 0))] : List AV) ρ
    | some (8, _, _) => popI ([vI 6, vI 0, vR (some (5, 4, 0)), vI 0, vR (some (5, 3, 0))] : List AV) fun y r => popI r fun x r => if (r.map cat).sum ≤ 8 then nx 34 (41 + 3) ls (vI (if x < y then y else x) :: r) ρ else none
    | some (9, _, _) => popI ([vI 6, vI 0, vR (some (5, 4, 0)), vI 0, vR (some (5, 3, 0))] : List AV) fun y r => popI r fun x r => if (r.map cat).sum ≤ 8 then nx 34 (41 + 3) ls (vI (if y < x then y else x) :: r) ρ else none
    | _ => none) = _
  rw [hq]
  show Sd (clo d) (Rn d Q) Q (popW ρ ([vR (some (5, 3 + 1, 0)), vI 0, vR (some (5, 3, 0))] : List AV) fun c1 k1 i1 n1 r => popI r fun sp r => popW ρ r fun c0 k0 i0 n0 r =>
    if c0 < 13 ∧ c1 < 13 ∧ fk c0 k0 = (1, 1) ∧ fk c1 k1 = (1, 1) ∧ ¬ (c0 = c1 ∧ k0 = k1 ∧ i0 = i1) ∧ ¬ sp < 0 ∧ ¬ (0 : Int32) < 0 ∧ ¬ (6 : Int32) < 0 ∧ sp.toNatClampNeg + (6 : Int32).toNatClampNeg ≤ n0 ∧ (0 : Int32).toNatClampNeg + (6 : Int32).toNatClampNeg ≤ n1 ∧ (r.map cat).sum ≤ 8 then
      nx 34 (41 + 3) ls r (setA ρ c1 k1 i1 (va_cpy (gA ρ c0 k0 i0) (gA ρ c1 k1 i1) sp.toNatClampNeg (0 : Int32).toNatClampNeg (6 : Int32).toNatClampNeg)) else none) = _
  rw [popW_eq, L5_3 a1]
  show Sd (clo d) (Rn d Q) Q (if 0 < gN ρ 5 then _ else none) = _
  rw [if_pos (by rw [N5 a1]; decide)]
  show Sd (clo d) (Rn d Q) Q (popW ρ ([vR (some (5, 2 + 1, 0))] : List AV) _) = _
  rw [popW_eq, L5_2 a1]
  show Sd (clo d) (Rn d Q) Q (if 0 < gN ρ 5 then _ else none) = _
  rw [if_pos (by rw [N5 a1]; decide)]
  rw [if_pos (by decide)]
  rfl
end SEEK
