/-- nothing but rows named by P and cells named by R has changed -/
def frB (P R : Nat → Nat → Bool) (σ σ' : St) : Prop := gR σ' = gR σ ∧ gQ σ' = gQ σ ∧ gL σ' = gL σ ∧ gN σ' = gN σ ∧ gH σ' = gH σ ∧ gS σ' = gS σ ∧ (∀ c k, P c k = false → gA σ' c k = gA σ c k) ∧ ∀ c k, R c k = false → gI σ' c k = gI σ c k
theorem frB_0 {P R : Nat → Nat → Bool} {σ : St} : frB P R σ σ := ⟨rfl, rfl, rfl, rfl, rfl, rfl, fun _ _ _ => rfl, fun _ _ _ => rfl⟩
theorem frB_t {P R : Nat → Nat → Bool} {σ σ1 σ2 : St} (h1 : frB P R σ σ1) (h2 : frB P R σ1 σ2) : frB P R σ σ2 := by
  obtain ⟨a1, a2, a3, a4, a5, a6, a7, a8⟩ := h1
  obtain ⟨b1, b2, b3, b4, b5, b6, b7, b8⟩ := h2
  exact ⟨b1.trans a1, b2.trans a2, b3.trans a3, b4.trans a4, b5.trans a5, b6.trans a6, fun c k h => (b7 c k h).trans (a7 c k h), fun c k h => (b8 c k h).trans (a8 c k h)⟩
theorem frB_w {P R P' R' : Nat → Nat → Bool} {σ σ1 : St} (h1 : frB P R σ σ1) (hP : ∀ c k, P' c k = false → P c k = false) (hR : ∀ c k, R' c k = false → R c k = false) : frB P' R' σ σ1 := by
  obtain ⟨a1, a2, a3, a4, a5, a6, a7, a8⟩ := h1
  exact ⟨a1, a2, a3, a4, a5, a6, fun c k h => a7 c k (hP c k h), fun c k h => a8 c k (hR c k h)⟩
theorem frB_A {P R : Nat → Nat → Bool} {σ : St} {c k i : Nat} {f : Nat → Int32} (h : P c k = true) : frB P R σ (setA σ c k i f) := by
  refine ⟨rfl, rfl, rfl, rfl, rfl, rfl, fun a b hab => ?_, fun _ _ _ => rfl⟩
  rw [AA, if_neg (fun z => by rw [z.1, z.2, h] at hab; cases hab)]
theorem frB_I {P R : Nat → Nat → Bool} {σ : St} {c k i : Nat} {f : Int32} (h : R c k = true) : frB P R σ (setI σ c k i f) := by
  refine ⟨rfl, rfl, rfl, rfl, rfl, rfl, fun _ _ _ => rfl, fun a b hab => ?_⟩
  rw [II, if_neg (fun z => by rw [z.1, z.2, h] at hab; cases hab)]
theorem SH_frB {P R : Nat → Nat → Bool} {σ σ' : St} (h : frB P R σ σ') (a1 : SH σ) : SH σ' := by
  obtain ⟨h1, h2, h3, h4, h5, h6, h7, h8⟩ := h
  unfold SH
  rw [h1, h2, h3, h4]
  exact a1
theorem c_cut {d : Nat} {Q : Option AV → St → Prop} {σ : St} {a p : Nat} (ha : a < 1000) (hp : 0 < p) (hp2 : p < 1000) : Rn d Q (112, 0, [some (vI (nI a)), some (vI (nI p))], [], σ) = Q (some (vI (nI (cutN a p)))) σ := by
  have h1 : (1 : Int32) ≤ nI p := by rw [lN1]; exact nI_le (by omega) (by omega)
  have h1' : ¬ nI p < 1 := by rw [lN1]; exact nI_nlt (by omega) (by omega)
  have h2 : nI a + nI p - 1 = nI (a + p - 1) := by rw [nI_add, lN1, pk_sub (by omega)]
  have h3 : nI (a + p - 1) / nI p = nI (cutN a p) := pk_div (by omega) hp (by omega)
  have h4 : ¬ nI p = 0 := nI_ne0 hp (by omega)
  simp +decide only [e112_0, e112_1, e112_2, e112_5, e112_6, e112_9, e112_10, e112_11, e112_12, e112_13, e112_14, e112_15, e112_16, true_and, and_true, or_true, true_or, if_true, if_false, not_true_eq_false, not_false_eq_true, ne_eq, and_self, Option.toList_some, Option.toList_none, List.cons_append, List.nil_append, catS_0, catS_I, catS_L, catS_R, Option.map_some, Option.map_none, h1, h1', h2, h3, h4]
theorem cutN_le {a p : Nat} (ha : a ≤ 13) (hp : 0 < p) : cutN a p ≤ 13 := by
  unfold cutN
  refine Nat.le_of_lt_succ ((Nat.div_lt_iff_lt_mul hp).mpr ?_)
  have : 14 * p = 13 * p + p := by omega
  omega
section SEEK
variable {ρ : St} {d : Nat} {Q : Option AV → St → Prop}
theorem c_canT {u i w lu : Nat} (a1 : SH ρ) (hu : u < 6) (hi : i < 6) (h1 : gA ρ 5 1 0 i = nI w) (hw : w < 64) (h2 : gA ρ 5 6 0 u = nI lu) (hl : lu ≤ 13) : Rn d Q (33, 0, [some (vR (some (5, 0, 0))), some (vI (nI u)), some (vI (nI i))], [], ρ) = if (w.testBit u && decide (lu < 12)) = true then Q (some (vI 1)) ρ else Q (some (vI 0)) ρ := by
  have e3 : (nI u).toInt = (u : Int) := nI_toInt (by omega)
  have e4 : (nI u).toNatClampNeg = u := nI_clamp (by omega)
  have f3 : (nI i).toInt = (i : Int) := nI_toInt (by omega)
  have f4 : (nI i).toNatClampNeg = i := nI_clamp (by omega)
  have g1 : (0 : Int) ≤ (u : Int) := by omega
  have g2 : (u : Int) < ((6 : Nat) : Int) := by omega
  have g3 : (0 : Int) ≤ (i : Int) := by omega
  have g4 : (i : Int) < ((6 : Nat) : Int) := by omega
  cases b1 : w.testBit u with
  | false =>
    have t : ¬ nI w >>> (nI u &&& 31) &&& 1 = 1 := by rw [bitI (by omega) (by omega), b1]; decide
    rw [if_neg (by rw [Bool.false_and]; decide)]
    simp +decide only [e33_0, e33_1, e33_4, e33_5, e33_6, e33_7, e33_8, e33_9, e33_10, e33_11, e33_14, e33_15, e33_18, e33_19, e33_20, e33_22, e33_25, e33_26, e33_29, e33_30, true_and, and_true, or_true, true_or, if_true, if_false, not_true_eq_false, not_false_eq_true, ne_eq, and_self, Option.toList_some, Option.toList_none, List.cons_append, List.nil_append, catS_0, catS_I, catS_L, catS_R, Option.map_some, Option.map_none, Option.some.injEq, Sum.inl.injEq, exists_eq_left', exists_eq', e3, e4, f3, f4, g1, g2, g3, g4, h1, t, N5 a1, L5_1 a1, L5_6 a1]
  | true =>
    have t : nI w >>> (nI u &&& 31) &&& 1 = 1 := by rw [bitI (by omega) (by omega), b1]
    by_cases b2 : lu < 12
    · have t2 : ¬ (12 : Int32) ≤ nI lu := nI_ge (b := 12) b2 (by omega)
      rw [if_pos (by rw [decide_eq_true b2]; rfl)]
      simp +decide only [e33_0, e33_1, e33_4, e33_5, e33_6, e33_7, e33_8, e33_9, e33_10, e33_11, e33_14, e33_15, e33_18, e33_19, e33_20, e33_22, e33_25, e33_26, e33_29, e33_30, true_and, and_true, or_true, true_or, if_true, if_false, not_true_eq_false, not_false_eq_true, ne_eq, and_self, Option.toList_some, Option.toList_none, List.cons_append, List.nil_append, catS_0, catS_I, catS_L, catS_R, Option.map_some, Option.map_none, Option.some.injEq, Sum.inl.injEq, exists_eq_left', exists_eq', e3, e4, f3, f4, g1, g2, g3, g4, h1, h2, t, t2, N5 a1, L5_1 a1, L5_6 a1]
    · have t2 : (12 : Int32) ≤ nI lu := nI_le (a := 12) (by omega) (by omega)
      rw [if_neg (by rw [decide_eq_false b2]; decide)]
      simp +decide only [e33_0, e33_1, e33_4, e33_5, e33_6, e33_7, e33_8, e33_9, e33_10, e33_11, e33_14, e33_15, e33_18, e33_19, e33_20, e33_22, e33_25, e33_26, e33_29, e33_30, true_and, and_true, or_true, true_or, if_true, if_false, not_true_eq_false, not_false_eq_true, ne_eq, and_self, Option.toList_some, Option.toList_none, List.cons_append, List.nil_append, catS_0, catS_I, catS_L, catS_R, Option.map_some, Option.map_none, Option.some.injEq, Sum.inl.injEq, exists_eq_left', exists_eq', e3, e4, f3, f4, g1, g2, g3, g4, h1, h2, t, t2, N5 a1, L5_1 a1, L5_6 a1]
theorem c_canB {i g s x y : Nat} {b : Int × Nat × (Nat → Nat)} (a1 : SH ρ) (hi : i < 7) (hg : g < 100) (hs : s < 1000) (h1 : gA ρ 5 4 0 i = nI x) (hx : x < 100) (h2 : gA ρ 5 5 0 i = nI y) (hy : y < 1000) (h3 : (gI ρ 5 10 0).toInt = b.1) (h4 : gI ρ 5 11 0 = nI b.2.1) (h5 : b.2.1 ≤ 1000) : Rn d Q (35, 0, [some (vR (some (5, 0, 0))), some (vI (nI i)), some (vI (nI g)), some (vI (nI s)), none], [], ρ) = if ((g + x : Nat) : Int) < b.1 ∨ (((g + x : Nat) : Int) = b.1 ∧ b.2.1 ≤ s + y) then Q (some (vI 0)) ρ else Q (some (vI 1)) ρ := by
  have f3 : (nI i).toInt = (i : Int) := nI_toInt (by omega)
  have f4 : (nI i).toNatClampNeg = i := nI_clamp (by omega)
  have g3 : (0 : Int) ≤ (i : Int) := by omega
  have g4 : (i : Int) < ((7 : Nat) : Int) := by omega
  have t1 : nI g + nI x = nI (g + x) := nI_add g x
  have t2 : nI s + nI y = nI (s + y) := nI_add s y
  have t3 : (nI (g + x)).toInt = ((g + x : Nat) : Int) := nI_toInt (by omega)
  by_cases c1 : ((g + x : Nat) : Int) = b.1
  · have c2 : nI (g + x) = gI ρ 5 10 0 := Int32.toInt_inj.mp (by rw [t3, h3]; exact c1)
    by_cases c3 : b.2.1 ≤ s + y
    · have c4 : nI b.2.1 ≤ nI (s + y) := nI_le c3 (by omega)
      rw [if_pos (Or.inr ⟨c1, c3⟩)]
      simp +decide only [e35_0, e35_1, e35_2, e35_5, e35_6, e35_7, e35_8, e35_10, e35_12, e35_13, e35_16, e35_19, e35_21, e35_22, e35_25, e35_28, e35_29, e35_32, e35_33, e35_34, e35_35, e35_36, e35_39, e35_40, e35_41, e35_42, e35_43, e35_46, e35_49, e35_50, e35_53, e35_54, true_and, and_true, or_true, true_or, if_true, if_false, not_true_eq_false, not_false_eq_true, ne_eq, and_self, Option.toList_some, Option.toList_none, List.cons_append, List.nil_append, catS_0, catS_I, catS_L, catS_R, Option.map_some, Option.map_none, Option.some.injEq, Sum.inl.injEq, exists_eq_left', exists_eq', f3, f4, g3, g4, h1, h2, h4, t1, t2, c2, c4, N5 a1, L5_4 a1, L5_5 a1]
    · have c4 : ¬ nI b.2.1 ≤ nI (s + y) := nI_ge (by omega) (by omega)
      rw [if_neg (by omega)]
      simp +decide only [e35_0, e35_1, e35_2, e35_5, e35_6, e35_7, e35_8, e35_10, e35_12, e35_13, e35_16, e35_19, e35_21, e35_22, e35_25, e35_28, e35_29, e35_32, e35_33, e35_34, e35_35, e35_36, e35_39, e35_40, e35_41, e35_42, e35_43, e35_46, e35_49, e35_50, e35_53, e35_54, true_and, and_true, or_true, true_or, if_true, if_false, not_true_eq_false, not_false_eq_true, ne_eq, and_self, Option.toList_some, Option.toList_none, List.cons_append, List.nil_append, catS_0, catS_I, catS_L, catS_R, Option.map_some, Option.map_none, Option.some.injEq, Sum.inl.injEq, exists_eq_left', exists_eq', f3, f4, g3, g4, h1, h2, h4, t1, t2, c2, c4, N5 a1, L5_4 a1, L5_5 a1]
  · have c2 : ¬ nI (g + x) = gI ρ 5 10 0 := fun z => c1 (by rw [← t3, z, h3])
    by_cases c3 : ((g + x : Nat) : Int) < b.1
    · have c4 : nI (g + x) ≤ gI ρ 5 10 0 := by rw [leI, t3, h3]; omega
      rw [if_pos (Or.inl c3)]
      simp +decide only [e35_0, e35_1, e35_2, e35_5, e35_6, e35_7, e35_8, e35_10, e35_12, e35_13, e35_16, e35_19, e35_21, e35_22, e35_25, e35_28, e35_29, e35_32, e35_33, e35_34, e35_35, e35_36, e35_39, e35_40, e35_41, e35_42, e35_43, e35_46, e35_49, e35_50, e35_53, e35_54, true_and, and_true, or_true, true_or, if_true, if_false, not_true_eq_false, not_false_eq_true, ne_eq, and_self, Option.toList_some, Option.toList_none, List.cons_append, List.nil_append, catS_0, catS_I, catS_L, catS_R, Option.map_some, Option.map_none, Option.some.injEq, Sum.inl.injEq, exists_eq_left', exists_eq', f3, f4, g3, g4, h1, h2, h4, t1, t2, c2, c4, N5 a1, L5_4 a1, L5_5 a1]
    · have c4 : ¬ nI (g + x) ≤ gI ρ 5 10 0 := by rw [leI, t3, h3]; omega
      rw [if_neg (by omega)]
      simp +decide only [e35_0, e35_1, e35_2, e35_5, e35_6, e35_7, e35_8, e35_10, e35_12, e35_13, e35_16, e35_19, e35_21, e35_22, e35_25, e35_28, e35_29, e35_32, e35_33, e35_34, e35_35, e35_36, e35_39, e35_40, e35_41, e35_42, e35_43, e35_46, e35_49, e35_50, e35_53, e35_54, true_and, and_true, or_true, true_or, if_true, if_false, not_true_eq_false, not_false_eq_true, ne_eq, and_self, Option.toList_some, Option.toList_none, List.cons_append, List.nil_append, catS_0, catS_I, catS_L, catS_R, Option.map_some, Option.map_none, Option.some.injEq, Sum.inl.injEq, exists_eq_left', exists_eq', f3, f4, g3, g4, h1, h2, h4, t1, t2, c2, c4, N5 a1, L5_4 a1, L5_5 a1]
/-- the copying of now into chosen -/
theorem c_copyN {ls : List (Option AV)} (a1 : SH ρ) : Rn d Q (34, 41, ls, [vI 6, vI 0, vR (some (5, 4, 0)), vI 0, vR (some (5, 3, 0))], ρ) = Rn d Q (34, 44, ls, [], setA ρ 5 3 0 (va_cpy (gA ρ 5 2 0) (gA ρ 5 3 0) 0 0 6)) := by
  have hq : mthQ (ow 34) 78 = some (7, 0, 5) := (congrArg (fun z => mthQ z 78) o34).trans m5_78
  rw [Rn_nx i34_41]
  show Sd (clo d) (Rn d Q) Q (match mthQ (ow 34) 78 with
    | some (1, μ', na) => if na ≤ ([vI 6, vI 0, vR (some (5, 4, 0)), vI 0, vR (some (5, 3, 0))] : List AV).length then call μ' (([vI 6, vI 0, vR (some (5, 4, 0)), vI 0, vR (some (5, 3, 0))] : List AV).take na).reverse 34 (41 + 3) ls (([vI 6, vI 0, vR (some (5, 4, 0)), vI 0, vR (some (5, 3, 0))] : List AV).drop na) ρ else none
    | some (4, μ', na) => if na ≤ ([vI 6, vI 0, vR (some (5, 4, 0)), vI 0, vR (some (5, 3, 0))] : List AV).length then call μ' (([vI 6, vI 0, vR (some (5, 4, 0)), vI 0, vR (some (5, 3, 0))] : List AV).take na).reverse 34 (41 + 3) ls (([vI 6, vI 0, vR (some (5, 4, 0)), vI 0, vR (some (5, 3, 0))] : List AV).drop na) ρ else none
    | some (7, _, _) => acopy 34 (41 + 3) ls ([vI 6, vI 0, vR (some (5, 4, 0)), vI 0, vR (some (5, 3, 0))] : List AV) ρ
    | some (8, _, _) => popI ([vI 6, vI 0, vR (some (5, 4, 0)), vI 0, vR (some (5, 3, 0))] : List AV) fun y r => popI r fun x r => if (r.map cat).sum ≤ 8 then nx 34 (41 + 3) ls (vI (if x < y then y else x) :: r) ρ else none
    | some (9, _, _) => popI ([vI 6, vI 0, vR (some (5, 4, 0)), vI 0, vR (some (5, 3, 0))] : List AV) fun y r => popI r fun x r => if (r.map cat).sum ≤ 8 then nx 34 (41 + 3) ls (vI (if y < x then y else x) :: r) ρ else none
    | _ => none) = _
  rw [hq]
  show Sd (clo d) (Rn d Q) Q (popW ρ ([vR (some (5, 3 + 1, 0)), vI 0, vR (some (5, 3, 0))] : List AV) fun c1 k1 i1 n1 r => popI r fun sp r => popW ρ r fun c0 k0 i0 n0 r =>
    if c0 < 13 ∧ c1 < 13 ∧ fk c0 k0 = (1, 1) ∧ fk c1 k1 = (1, 1) ∧ ¬ (c0 = c1 ∧ k0 = k1 ∧ i0 = i1) ∧ ¬ sp < 0 ∧ ¬ (0 : Int32) < 0 ∧ ¬ (6 : Int32) < 0 ∧ sp.toNatClampNeg + (6 : Int32).toNatClampNeg ≤ n0 ∧ (0 : Int32).toNatClampNeg + (6 : Int32).toNatClampNeg ≤ n1 ∧ (r.map cat).sum ≤ 8 then
      nx 34 (41 + 3) ls r (setA ρ c1 k1 i1 (va_cpy (gA ρ c0 k0 i0) (gA ρ c1 k1 i1) sp.toNatClampNeg (0 : Int32).toNatClampNeg (6 : Int32).toNatClampNeg)) else none) = _
  rw [popW_eq, L5_3 a1]
  show Sd (clo d) (Rn d Q) Q (if 0 < gN ρ 5 then _ else none) = _
  rw [if_pos (by rw [N5 a1]; decide)]
  show Sd (clo d) (Rn d Q) Q (popW ρ ([vR (some (5, 2 + 1, 0))] : List AV) fun c0 k0 i0 n0 r =>
    if c0 < 13 ∧ 5 < 13 ∧ fk c0 k0 = (1, 1) ∧ fk 5 3 = (1, 1) ∧ ¬ (c0 = 5 ∧ k0 = 3 ∧ i0 = 0) ∧ ¬ (0 : Int32) < 0 ∧ ¬ (0 : Int32) < 0 ∧ ¬ (6 : Int32) < 0 ∧ (0 : Int32).toNatClampNeg + (6 : Int32).toNatClampNeg ≤ n0 ∧ (0 : Int32).toNatClampNeg + (6 : Int32).toNatClampNeg ≤ 6 ∧ (r.map cat).sum ≤ 8 then
      nx 34 (41 + 3) ls r (setA ρ 5 3 0 (va_cpy (gA ρ c0 k0 i0) (gA ρ 5 3 0) (0 : Int32).toNatClampNeg (0 : Int32).toNatClampNeg (6 : Int32).toNatClampNeg)) else none) = _
  rw [popW_eq, L5_2 a1]
  show Sd (clo d) (Rn d Q) Q (if 0 < gN ρ 5 then _ else none) = _
  rw [if_pos (by rw [N5 a1]; decide)]
  rw [if_pos (by decide)]
  rfl
end SEEK
def eU (U v : Nat) : Int32 := if v < U then nI v else -4
def PS (c k : Nat) : Bool := decide (c = 5 ∧ (k = 2 ∨ k = 3 ∨ k = 6))
def RS (c k : Nat) : Bool := decide (c = 5 ∧ (k = 10 ∨ k = 11))
/-- what stands still while the class seeks -/
def CS (K U : Nat) (fit : Nat → Nat → Bool) (pace ml dl : Nat → Nat) (ρ : St) : Prop := SH ρ ∧ gI ρ 5 8 0 = nI K ∧ gI ρ 5 9 0 = nI U ∧ (∀ i, i < K → ∃ w : Nat, w < 64 ∧ gA ρ 5 1 0 i = nI w ∧ ∀ u, u < U → w.testBit u = fit i u) ∧ (∀ u, u < U → gA ρ 5 7 0 u = nI (pace u) ∧ 1 ≤ pace u ∧ pace u ≤ 9) ∧ ∀ i, i ≤ K → gA ρ 5 4 0 i = nI (ml i) ∧ ml i ≤ 6 ∧ gA ρ 5 5 0 i = nI (dl i) ∧ dl i ≤ 100
/-- what moves -/
def CD (K U at' : Nat) (ld now : Nat → Nat) (b : Int × Nat × (Nat → Nat)) (ρ : St) : Prop := (∀ u, u < U → gA ρ 5 6 0 u = nI (ld u) ∧ ld u ≤ 12) ∧ (∀ j, j < at' → gA ρ 5 2 0 j = eU U (now j)) ∧ (gI ρ 5 10 0).toInt = b.1 ∧ (-1 ≤ b.1 ∧ b.1 ≤ 100) ∧ gI ρ 5 11 0 = nI b.2.1 ∧ b.2.1 ≤ 1000 ∧ (0 ≤ b.1 → ∀ j, j < K → gA ρ 5 3 0 j = eU U (b.2.2 j))
theorem CS_fr {K U : Nat} {fit : Nat → Nat → Bool} {pace ml dl : Nat → Nat} {ρ ρ' : St} (h : frB PS RS ρ ρ') (hC : CS K U fit pace ml dl ρ) : CS K U fit pace ml dl ρ' := by
  have hS := SH_frB h hC.1
  obtain ⟨h1, h2, h3, h4, h5, h6, h7, h8⟩ := h
  obtain ⟨c1, c2, c3, c4, c5, c6⟩ := hC
  unfold CS
  rw [h8 5 8 (by decide), h8 5 9 (by decide), h7 5 1 (by decide), h7 5 7 (by decide), h7 5 4 (by decide), h7 5 5 (by decide)]
  exact ⟨hS, c2, c3, c4, c5, c6⟩
theorem c_seek {K U : Nat} {fit : Nat → Nat → Bool} {pace ml dl : Nat → Nat} (hK : K ≤ 6) (hU : U ≤ 6) : ∀ (f at' given days : Nat) (ld now : Nat → Nat) (b : Int × Nat × (Nat → Nat)) (ρ : St), at' + f = K → given ≤ at' → days ≤ 13 * at' → CS K U fit pace ml dl ρ → CD K U at' ld now b ρ → ∃ ρ', frB PS RS ρ ρ' ∧ CD K U at' ld now (cutS U fit pace ml dl f at' ld given days now b) ρ' ∧ ∀ D Q, f + 2 ≤ D → Rn D Q (34, 0, [some (vR (some (5, 0, 0))), some (vI (nI at')), some (vI (nI given)), some (vI (nI days)), none], [], ρ) = Q none ρ' := by
  intro f
  induction f with
  | zero =>
    intro at' given days ld now b ρ hk hg hs hC hD
    have hC0 := hC
    obtain ⟨a1, c2, c3, c4, c5, c6⟩ := hC
    have hD0 := hD
    obtain ⟨d1, d2, d3, d4, d5, d6, d7⟩ := hD
    obtain ⟨m1, m2, m3, m4⟩ := c6 at' (by omega)
    have cb := fun {d : Nat} {Q : Option AV → St → Prop} => c_canB (d := d) (Q := Q) (g := given) (s := days) a1 (by omega) (by omega) (by omega) m1 (by omega) m3 (by omega) d3 d5 d6
    by_cases hN : ((given + ml at' : Nat) : Int) < b.1 ∨ (((given + ml at' : Nat) : Int) = b.1 ∧ b.2.1 ≤ days + dl at')
    · refine ⟨ρ, frB_0, ?_, fun D Q hD => ?_⟩
      · show CD K U at' ld now (if ((given + ml at' : Nat) : Int) < b.1 ∨ (((given + ml at' : Nat) : Int) = b.1 ∧ b.2.1 ≤ days + dl at') then b else ((given : Int), days, now)) ρ
        rw [if_pos hN]; exact hD0
      · obtain ⟨D, rfl⟩ : ∃ D', D = D' + 1 := ⟨D - 1, by omega⟩
        simp +decide only [e34_0, e34_1, e34_2, e34_3, e34_4, e34_7, e34_10, e34_11, e34_12, e34_13, e34_16, e34_19, e34_20, e34_21, e34_24, e34_25, e34_26, e34_29, e34_30, e34_33, e34_34, e34_35, e34_38, e34_39, e34_44, e34_45, e34_46, e34_50, e34_51, e34_54, e34_57, e34_58, e34_60, e34_61, e34_64, e34_67, e34_68, e34_71, e34_73, e34_74, e34_75, e34_76, e34_77, e34_78, e34_79, e34_82, e34_83, e34_85, e34_86, e34_87, e34_88, e34_89, e34_90, e34_91, e34_92, e34_93, e34_94, e34_95, e34_98, e34_100, e34_101, e34_102, e34_105, e34_107, e34_108, e34_111, e34_115, e34_116, e34_119, e34_121, e34_122, e34_123, e34_124, e34_125, e34_126, e34_129, e34_132, e34_133, e34_136, e34_137, e34_139, e34_140, e34_141, e34_142, e34_143, e34_144, e34_145, e34_149, true_and, and_true, or_true, true_or, if_true, if_false, not_true_eq_false, not_false_eq_true, ne_eq, and_self, Option.toList_some, Option.toList_none, List.cons_append, List.nil_append, catS_0, catS_I, catS_L, catS_R, Option.map_some, Option.map_none, cb, hN, N5 a1]
    · refine ⟨setA (setI (setI ρ 5 10 0 (nI given)) 5 11 0 (nI days)) 5 3 0 (va_cpy (gA ρ 5 2 0) (gA ρ 5 3 0) 0 0 6), frB_t (frB_t (frB_I (by decide)) (frB_I (by decide))) (frB_A (by decide)), ?_, fun D Q hD => ?_⟩
      · show CD K U at' ld now (if ((given + ml at' : Nat) : Int) < b.1 ∨ (((given + ml at' : Nat) : Int) = b.1 ∧ b.2.1 ≤ days + dl at') then b else ((given : Int), days, now)) _
        rw [if_neg hN]
        unfold CD
        simp +decide only [II, AA, RR, QQ, IA, IR, IQ, AI, AR, AQ, RI, RA, RQ, QI, QA, QR, LI, LA, LR, LQ, NI, NA, NR, NQ, HI, HA, HR, HQ, SI, SA, SR, SQ, true_and, and_true, or_true, true_or, if_true, if_false, not_true_eq_false, not_false_eq_true, ne_eq, and_self]
        refine ⟨d1, d2, ?_, ⟨by omega, by omega⟩, updS0, by omega, fun _ j hj => ?_⟩
        · rw [updS0, nI_toInt (by omega)]
        · rw [pk_cpy_in (by omega) (by omega)]
          show gA ρ 5 2 0 (0 + (j - 0)) = _
          rw [show 0 + (j - 0) = j by omega]
          exact d2 j (by omega)
      · obtain ⟨D, rfl⟩ : ∃ D', D = D' + 1 := ⟨D - 1, by omega⟩
        have l1 : ¬ nI at' < nI K := nI_nlt (by omega) (by omega)
        have cp := fun {d : Nat} {Q : Option AV → St → Prop} {ls : List (Option AV)} => c_copyN (d := d) (Q := Q) (ls := ls) (ρ := setI (setI ρ 5 10 0 (nI given)) 5 11 0 (nI days)) (SH_I (SH_I a1))
        simp +decide only [II, AA, RR, QQ, IA, IR, IQ, AI, AR, AQ, RI, RA, RQ, QI, QA, QR, LI, LA, LR, LQ, NI, NA, NR, NQ, HI, HA, HR, HQ, SI, SA, SR, SQ, true_and, and_true, or_true, true_or, if_true, if_false, not_true_eq_false, not_false_eq_true, ne_eq, and_self] at cp
        simp +decide only [e34_0, e34_1, e34_2, e34_3, e34_4, e34_7, e34_10, e34_11, e34_12, e34_13, e34_16, e34_19, e34_20, e34_21, e34_24, e34_25, e34_26, e34_29, e34_30, e34_33, e34_34, e34_35, e34_38, e34_39, e34_44, e34_45, e34_46, e34_50, e34_51, e34_54, e34_57, e34_58, e34_60, e34_61, e34_64, e34_67, e34_68, e34_71, e34_73, e34_74, e34_75, e34_76, e34_77, e34_78, e34_79, e34_82, e34_83, e34_85, e34_86, e34_87, e34_88, e34_89, e34_90, e34_91, e34_92, e34_93, e34_94, e34_95, e34_98, e34_100, e34_101, e34_102, e34_105, e34_107, e34_108, e34_111, e34_115, e34_116, e34_119, e34_121, e34_122, e34_123, e34_124, e34_125, e34_126, e34_129, e34_132, e34_133, e34_136, e34_137, e34_139, e34_140, e34_141, e34_142, e34_143, e34_144, e34_145, e34_149, true_and, and_true, or_true, true_or, if_true, if_false, not_true_eq_false, not_false_eq_true, ne_eq, and_self, Option.toList_some, Option.toList_none, List.cons_append, List.nil_append, catS_0, catS_I, catS_L, catS_R, Option.map_some, Option.map_none, II, AA, RR, QQ, IA, IR, IQ, AI, AR, AQ, RI, RA, RQ, QI, QA, QR, LI, LA, LR, LQ, NI, NA, NR, NQ, HI, HA, HR, HQ, SI, SA, SR, SQ, cb, hN, c2, l1, cp, N5 a1, L5_2 a1, L5_3 a1]
  | succ f ih =>
    intro at' given days ld now b ρ hk hg hs hC hD
    have hC0 := hC
    obtain ⟨a1, c2, c3, c4, c5, c6⟩ := hC
    have hD0 := hD
    obtain ⟨d1, d2, d3, d4, d5, d6, d7⟩ := hD
    obtain ⟨m1, m2, m3, m4⟩ := c6 at' (by omega)
    have cb := fun {d : Nat} {Q : Option AV → St → Prop} => c_canB (d := d) (Q := Q) (g := given) (s := days) a1 (by omega) (by omega) (by omega) m1 (by omega) m3 (by omega) d3 d5 d6
    have x2 : (nI at').toInt = (at' : Int) := nI_toInt (by omega)
    have x3 : (0 : Int) ≤ (at' : Int) := by omega
    have x4 : (at' : Int) < ((6 : Nat) : Int) := by omega
    have x5 : (nI at').toNatClampNeg = at' := nI_clamp (by omega)
    by_cases hN : ((given + ml at' : Nat) : Int) < b.1 ∨ (((given + ml at' : Nat) : Int) = b.1 ∧ b.2.1 ≤ days + dl at')
    · refine ⟨ρ, frB_0, ?_, fun D Q hD => ?_⟩
      · show CD K U at' ld now (if ((given + ml at' : Nat) : Int) < b.1 ∨ (((given + ml at' : Nat) : Int) = b.1 ∧ b.2.1 ≤ days + dl at') then b else _) ρ
        rw [if_pos hN]; exact hD0
      · obtain ⟨D, rfl⟩ : ∃ D', D = D' + 1 := ⟨D - 1, by omega⟩
        simp +decide only [e34_0, e34_1, e34_2, e34_3, e34_4, e34_7, e34_10, e34_11, e34_12, e34_13, e34_16, e34_19, e34_20, e34_21, e34_24, e34_25, e34_26, e34_29, e34_30, e34_33, e34_34, e34_35, e34_38, e34_39, e34_44, e34_45, e34_46, e34_50, e34_51, e34_54, e34_57, e34_58, e34_60, e34_61, e34_64, e34_67, e34_68, e34_71, e34_73, e34_74, e34_75, e34_76, e34_77, e34_78, e34_79, e34_82, e34_83, e34_85, e34_86, e34_87, e34_88, e34_89, e34_90, e34_91, e34_92, e34_93, e34_94, e34_95, e34_98, e34_100, e34_101, e34_102, e34_105, e34_107, e34_108, e34_111, e34_115, e34_116, e34_119, e34_121, e34_122, e34_123, e34_124, e34_125, e34_126, e34_129, e34_132, e34_133, e34_136, e34_137, e34_139, e34_140, e34_141, e34_142, e34_143, e34_144, e34_145, e34_149, true_and, and_true, or_true, true_or, if_true, if_false, not_true_eq_false, not_false_eq_true, ne_eq, and_self, Option.toList_some, Option.toList_none, List.cons_append, List.nil_append, catS_0, catS_I, catS_L, catS_R, Option.map_some, Option.map_none, cb, hN, N5 a1]
    · have hl : ∀ u, u ≤ U → ∃ ρ', frB PS RS ρ ρ' ∧ CD K U at' ld now (lpT (fun u => fit at' u && decide (ld u < 12)) (fun u b => cutS U fit pace ml dl f (at' + 1) (va_up ld u (ld u + 1)) (given + 1) (days + cutN (ld u + 1) (pace u)) (va_up now at' u) b) u b) ρ' ∧ ∀ D Q, f + 2 ≤ D → Rn (D + 1) Q (34, 48, [some (vR (some (5, 0, 0))), some (vI (nI at')), some (vI (nI given)), some (vI (nI days)), some (vI (nI 0))], [], ρ) = Rn (D + 1) Q (34, 48, [some (vR (some (5, 0, 0))), some (vI (nI at')), some (vI (nI given)), some (vI (nI days)), some (vI (nI u))], [], ρ') := by
        intro u
        induction u with
        | zero => intro _; exact ⟨ρ, frB_0, hD0, fun _ _ _ => rfl⟩
        | succ u ihu =>
          intro hu
          obtain ⟨ρ1, p1, p2, p3⟩ := ihu (by omega)
          have hC1 := CS_fr p1 hC0
          obtain ⟨b1, e2, e3, e4, e5, e6⟩ := hC1
          have hD1 := p2
          obtain ⟨g1, g2, g3, g4, g5, g6, g7⟩ := p2
          obtain ⟨w, w1, w2, w3⟩ := e4 at' (by omega)
          have w3 := w3 u (by omega)
          obtain ⟨l1, l2⟩ := g1 u (by omega)
          obtain ⟨q1, q2, q3⟩ := e5 u (by omega)
          have ct := fun {d : Nat} {Q : Option AV → St → Prop} => c_canT (d := d) (Q := Q) b1 (show u < 6 by omega) (show at' < 6 by omega) w2 w1 l1 (by omega)
          rw [w3] at ct
          have y1 : ¬ nI U ≤ nI u := nI_ge (by omega) (by omega)
          have y2 : (nI u).toInt = (u : Int) := nI_toInt (by omega)
          have y3 : (0 : Int) ≤ (u : Int) := by omega
          have y4 : (u : Int) < ((6 : Nat) : Int) := by omega
          have y5 : (nI u).toNatClampNeg = u := nI_clamp (by omega)
          by_cases hc : (fit at' u && decide (ld u < 12)) = true
          · have hc2 := hc
            rw [Bool.and_eq_true, decide_eq_true_iff] at hc2
            have hcu : cutN (ld u + 1) (pace u) ≤ 13 := cutN_le (by omega) (by omega)
            obtain ⟨ρ3, r1, r2, r3⟩ := ih (at' + 1) (given + 1) (days + cutN (ld u + 1) (pace u)) (va_up ld u (ld u + 1)) (va_up now at' u) (lpT (fun u => fit at' u && decide (ld u < 12)) (fun u b => cutS U fit pace ml dl f (at' + 1) (va_up ld u (ld u + 1)) (given + 1) (days + cutN (ld u + 1) (pace u)) (va_up now at' u) b) u b) (setA (setA ρ1 5 6 0 (upd (gA ρ1 5 6 0) u (nI (ld u + 1)))) 5 2 0 (upd (gA ρ1 5 2 0) at' (nI u))) (by omega) (by omega) (by omega) (CS_fr (frB_t (frB_A (by decide)) (frB_A (by decide))) ⟨b1, e2, e3, e4, e5, e6⟩) (by
              unfold CD
              simp +decide only [II, AA, RR, QQ, IA, IR, IQ, AI, AR, AQ, RI, RA, RQ, QI, QA, QR, LI, LA, LR, LQ, NI, NA, NR, NQ, HI, HA, HR, HQ, SI, SA, SR, SQ, true_and, and_true, or_true, true_or, if_true, if_false, not_true_eq_false, not_false_eq_true, ne_eq, and_self]
              refine ⟨fun v hv => ?_, fun j hj => ?_, g3, g4, g5, g6, g7⟩
              · unfold va_up upd
                by_cases hvu : v = u
                · rw [if_pos hvu, if_pos hvu]; exact ⟨rfl, by omega⟩
                · rw [if_neg hvu, if_neg hvu]; exact g1 v hv
              · unfold va_up upd
                by_cases hja : j = at'
                · rw [if_pos hja, if_pos hja]; unfold eU; rw [if_pos (by omega)]
                · rw [if_neg hja, if_neg hja]; exact g2 j (by omega))
            have hC3 := CS_fr r1 (CS_fr (frB_t (frB_A (by decide)) (frB_A (by decide))) ⟨b1, e2, e3, e4, e5, e6⟩)
            obtain ⟨s1, s2, s3, s4, s5, s6, s7⟩ := r2
            have o1 : gA ρ3 5 6 0 u = nI (ld u + 1) := by rw [(s1 u (by omega)).1, vaS]
            refine ⟨setA ρ3 5 6 0 (upd (gA ρ3 5 6 0) u (nI (ld u))), frB_t p1 (frB_t (frB_t (frB_t (frB_A (by decide)) (frB_A (by decide))) r1) (frB_A (by decide))), ?_, fun D Q hD => ?_⟩
            · show CD K U at' ld now (if (fit at' u && decide (ld u < 12)) = true then _ else _) _
              rw [if_pos hc]
              unfold CD
              simp +decide only [II, AA, RR, QQ, IA, IR, IQ, AI, AR, AQ, RI, RA, RQ, QI, QA, QR, LI, LA, LR, LQ, NI, NA, NR, NQ, HI, HA, HR, HQ, SI, SA, SR, SQ, true_and, and_true, or_true, true_or, if_true, if_false, not_true_eq_false, not_false_eq_true, ne_eq, and_self]
              refine ⟨fun v hv => ?_, fun j hj => ?_, s3, s4, s5, s6, s7⟩
              · have := s1 v hv
                unfold va_up at this
                unfold upd
                by_cases hvu : v = u
                · rw [if_pos hvu, hvu]; exact ⟨rfl, l2⟩
                · rw [if_neg hvu] at this; rw [if_neg hvu]; exact this
              · have := s2 j (by omega)
                rw [va_up_ne _ _ (by omega)] at this
                exact this
            · have r3 := fun Q => r3 D Q (by omega)
              have cu := fun {d : Nat} {Q : Option AV → St → Prop} {σ : St} => c_cut (d := d) (Q := Q) (σ := σ) (a := ld u + 1) (p := pace u) (by omega) (by omega) (by omega)
              obtain ⟨D, rfl⟩ : ∃ D', D = D' + 1 := ⟨D - 1, by omega⟩
              rw [p3 _ Q hD, e34_48, ← nI_1 u]
              simp +decide only [e34_1, e34_2, e34_3, e34_4, e34_7, e34_10, e34_11, e34_12, e34_13, e34_16, e34_19, e34_20, e34_21, e34_24, e34_25, e34_26, e34_29, e34_30, e34_33, e34_34, e34_35, e34_38, e34_39, e34_44, e34_45, e34_46, e34_50, e34_51, e34_54, e34_57, e34_58, e34_60, e34_61, e34_64, e34_67, e34_68, e34_71, e34_73, e34_74, e34_75, e34_76, e34_77, e34_78, e34_79, e34_82, e34_83, e34_85, e34_86, e34_87, e34_88, e34_89, e34_90, e34_91, e34_92, e34_93, e34_94, e34_95, e34_98, e34_100, e34_101, e34_102, e34_105, e34_107, e34_108, e34_111, e34_112, e34_115, e34_116, e34_119, e34_121, e34_122, e34_123, e34_124, e34_125, e34_126, e34_129, e34_132, e34_133, e34_136, e34_137, e34_139, e34_140, e34_141, e34_142, e34_143, e34_144, e34_145, e34_146, e34_149, true_and, and_true, or_true, true_or, if_true, if_false, not_true_eq_false, not_false_eq_true, ne_eq, and_self, Option.toList_some, Option.toList_none, List.cons_append, List.nil_append, catS_0, catS_I, catS_L, catS_R, Option.map_some, Option.map_none, Option.some.injEq, Sum.inl.injEq, exists_eq_left', exists_eq', II, AA, RR, QQ, IA, IR, IQ, AI, AR, AQ, RI, RA, RQ, QI, QA, QR, LI, LA, LR, LQ, NI, NA, NR, NQ, HI, HA, HR, HQ, SI, SA, SR, SQ, e3, y1, y2, y3, y4, y5, x2, x3, x4, x5, ct, hc, l1, q1, cu, updS0, nI_1, nI_add, nI_pred, r3, o1, N5 b1, L5_6 b1, L5_2 b1, L5_7 b1, N5 hC3.1, L5_6 hC3.1]
          · refine ⟨ρ1, p1, ?_, fun D Q hD => ?_⟩
            · show CD K U at' ld now (if (fit at' u && decide (ld u < 12)) = true then _ else _) _
              rw [if_neg hc]
              exact hD1
            · obtain ⟨D, rfl⟩ : ∃ D', D = D' + 1 := ⟨D - 1, by omega⟩
              rw [p3 _ Q hD, e34_48, ← nI_1 u]
              simp +decide only [e34_1, e34_2, e34_3, e34_4, e34_7, e34_10, e34_11, e34_12, e34_13, e34_16, e34_19, e34_20, e34_21, e34_24, e34_25, e34_26, e34_29, e34_30, e34_33, e34_34, e34_35, e34_38, e34_39, e34_44, e34_45, e34_46, e34_50, e34_51, e34_54, e34_57, e34_58, e34_60, e34_61, e34_64, e34_67, e34_68, e34_71, e34_73, e34_74, e34_75, e34_76, e34_77, e34_78, e34_79, e34_82, e34_83, e34_85, e34_86, e34_87, e34_88, e34_89, e34_90, e34_91, e34_92, e34_93, e34_94, e34_95, e34_98, e34_100, e34_101, e34_102, e34_105, e34_107, e34_108, e34_111, e34_112, e34_115, e34_116, e34_119, e34_121, e34_122, e34_123, e34_124, e34_125, e34_126, e34_129, e34_132, e34_133, e34_136, e34_137, e34_139, e34_140, e34_141, e34_142, e34_143, e34_144, e34_145, e34_146, e34_149, true_and, and_true, or_true, true_or, if_true, if_false, not_true_eq_false, not_false_eq_true, ne_eq, and_self, Option.toList_some, Option.toList_none, List.cons_append, List.nil_append, catS_0, catS_I, catS_L, catS_R, Option.map_some, Option.map_none, Option.some.injEq, Sum.inl.injEq, exists_eq_left', exists_eq', e3, y1, ct, hc, N5 b1]
      obtain ⟨ρ1, p1, p2, p3⟩ := hl U (by omega)
      have hC1 := CS_fr p1 hC0
      obtain ⟨b1, e2, e3, e4, e5, e6⟩ := hC1
      obtain ⟨g1, g2, g3, g4, g5, g6, g7⟩ := p2
      obtain ⟨ρ3, r1, r2, r3⟩ := ih (at' + 1) given days ld (va_up now at' U) (lpT (fun u => fit at' u && decide (ld u < 12)) (fun u b => cutS U fit pace ml dl f (at' + 1) (va_up ld u (ld u + 1)) (given + 1) (days + cutN (ld u + 1) (pace u)) (va_up now at' u) b) U b) (setA ρ1 5 2 0 (upd (gA ρ1 5 2 0) at' (-4))) (by omega) (by omega) (by omega) (CS_fr (frB_A (by decide)) ⟨b1, e2, e3, e4, e5, e6⟩) (by
        unfold CD
        simp +decide only [II, AA, RR, QQ, IA, IR, IQ, AI, AR, AQ, RI, RA, RQ, QI, QA, QR, LI, LA, LR, LQ, NI, NA, NR, NQ, HI, HA, HR, HQ, SI, SA, SR, SQ, true_and, and_true, or_true, true_or, if_true, if_false, not_true_eq_false, not_false_eq_true, ne_eq, and_self]
        refine ⟨g1, fun j hj => ?_, g3, g4, g5, g6, g7⟩
        unfold va_up upd
        by_cases hja : j = at'
        · rw [if_pos hja, if_pos hja]; unfold eU; rw [if_neg (by omega)]
        · rw [if_neg hja, if_neg hja]; exact g2 j (by omega))
      obtain ⟨s1, s2, s3, s4, s5, s6, s7⟩ := r2
      refine ⟨ρ3, frB_t p1 (frB_t (frB_A (by decide)) r1), ?_, fun D Q hD => ?_⟩
      · show CD K U at' ld now (if ((given + ml at' : Nat) : Int) < b.1 ∨ (((given + ml at' : Nat) : Int) = b.1 ∧ b.2.1 ≤ days + dl at') then b else _) _
        rw [if_neg hN]
        refine ⟨s1, fun j hj => ?_, s3, s4, s5, s6, s7⟩
        have := s2 j (by omega)
        rw [va_up_ne _ _ (by omega)] at this
        exact this
      · obtain ⟨D, rfl⟩ : ∃ D', D = D' + 1 := ⟨D - 1, by omega⟩
        have r3 := fun Q => r3 D Q (by omega)
        have p3 := p3 D Q (by omega)
        have l1 : nI at' < nI K := nI_lt (by omega) (by omega)
        have y1 : nI U ≤ nI U := nI_le (by omega) (by omega)
        obtain ⟨D, rfl⟩ : ∃ D', D = D' + 1 := ⟨D - 1, by omega⟩
        rw [nI_0] at p3
        simp +decide only [e34_0, e34_1, e34_2, e34_3, e34_4, e34_7, e34_10, e34_11, e34_12, e34_13, e34_16, e34_19, e34_20, e34_21, e34_24, e34_25, e34_26, e34_29, e34_30, e34_33, e34_34, e34_35, e34_38, e34_39, e34_44, e34_45, e34_46, e34_50, e34_51, e34_54, e34_57, e34_58, e34_60, e34_61, e34_64, e34_67, e34_68, e34_71, e34_73, e34_74, e34_75, e34_76, e34_77, e34_78, e34_79, e34_82, e34_83, e34_85, e34_86, e34_87, e34_88, e34_89, e34_90, e34_91, e34_92, e34_93, e34_94, e34_95, e34_98, e34_100, e34_101, e34_102, e34_105, e34_107, e34_108, e34_111, e34_115, e34_116, e34_119, e34_121, e34_122, e34_123, e34_124, e34_125, e34_126, e34_129, e34_132, e34_133, e34_136, e34_137, e34_139, e34_140, e34_141, e34_142, e34_143, e34_144, e34_145, e34_149, true_and, and_true, or_true, true_or, if_true, if_false, not_true_eq_false, not_false_eq_true, ne_eq, and_self, Option.toList_some, Option.toList_none, List.cons_append, List.nil_append, catS_0, catS_I, catS_L, catS_R, Option.map_some, Option.map_none, cb, hN, c2, l1, N5 a1]
        rw [p3, e34_48]
        simp +decide only [e34_1, e34_2, e34_3, e34_4, e34_7, e34_10, e34_11, e34_12, e34_13, e34_16, e34_19, e34_20, e34_21, e34_24, e34_25, e34_26, e34_29, e34_30, e34_33, e34_34, e34_35, e34_38, e34_39, e34_44, e34_45, e34_46, e34_50, e34_51, e34_54, e34_57, e34_58, e34_60, e34_61, e34_64, e34_67, e34_68, e34_71, e34_73, e34_74, e34_75, e34_76, e34_77, e34_78, e34_79, e34_82, e34_83, e34_85, e34_86, e34_87, e34_88, e34_89, e34_90, e34_91, e34_92, e34_93, e34_94, e34_95, e34_98, e34_100, e34_101, e34_102, e34_105, e34_107, e34_108, e34_111, e34_112, e34_115, e34_116, e34_119, e34_121, e34_122, e34_123, e34_124, e34_125, e34_126, e34_129, e34_132, e34_133, e34_136, e34_137, e34_139, e34_140, e34_141, e34_142, e34_143, e34_144, e34_145, e34_146, e34_149, true_and, and_true, or_true, true_or, if_true, if_false, not_true_eq_false, not_false_eq_true, ne_eq, and_self, Option.toList_some, Option.toList_none, List.cons_append, List.nil_append, catS_0, catS_I, catS_L, catS_R, Option.map_some, Option.map_none, Option.some.injEq, Sum.inl.injEq, exists_eq_left', exists_eq', II, AA, RR, QQ, IA, IR, IQ, AI, AR, AQ, RI, RA, RQ, QI, QA, QR, LI, LA, LR, LQ, NI, NA, NR, NQ, HI, HA, HR, HQ, SI, SA, SR, SQ, e3, y1, x2, x3, x4, x5, nI_1, r3, N5 b1, L5_2 b1]
