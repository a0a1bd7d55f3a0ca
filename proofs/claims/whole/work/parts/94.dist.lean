/-- nothing but rows named by P has changed -/
def frA (P : Nat → Nat → Bool) (σ σ' : St) : Prop := gI σ' = gI σ ∧ gR σ' = gR σ ∧ gQ σ' = gQ σ ∧ gL σ' = gL σ ∧ gN σ' = gN σ ∧ gH σ' = gH σ ∧ gS σ' = gS σ ∧ ∀ c k, P c k = false → gA σ' c k = gA σ c k
theorem frA_0 {P : Nat → Nat → Bool} {σ : St} : frA P σ σ := ⟨rfl, rfl, rfl, rfl, rfl, rfl, rfl, fun _ _ _ => rfl⟩
theorem frA_t {P : Nat → Nat → Bool} {σ σ1 σ2 : St} (h1 : frA P σ σ1) (h2 : frA P σ1 σ2) : frA P σ σ2 := by
  obtain ⟨a1, a2, a3, a4, a5, a6, a7, a8⟩ := h1
  obtain ⟨b1, b2, b3, b4, b5, b6, b7, b8⟩ := h2
  exact ⟨b1.trans a1, b2.trans a2, b3.trans a3, b4.trans a4, b5.trans a5, b6.trans a6, b7.trans a7, fun c k h => (b8 c k h).trans (a8 c k h)⟩
theorem frA_A {P : Nat → Nat → Bool} {σ : St} {c k i : Nat} {f : Nat → Int32} (h : P c k = true) : frA P σ (setA σ c k i f) := by
  refine ⟨rfl, rfl, rfl, rfl, rfl, rfl, rfl, fun a b hab => ?_⟩
  rw [AA, if_neg (fun z => by rw [z.1, z.2, h] at hab; cases hab)]
theorem SH_fr {P : Nat → Nat → Bool} {σ σ' : St} (h : frA P σ σ') (a1 : SH σ) : SH σ' := by
  obtain ⟨h1, h2, h3, h4, h5, h6, h7, h8⟩ := h
  unfold SH
  rw [h2, h3, h4, h5]
  exact a1
theorem rk_ext {pt pt' : Nat → Int32} : ∀ k, (∀ j, j < k → pt j = pt' j) → rk pt k = rk pt' k := by
  intro k
  induction k with
  | zero => intro _; rfl
  | succ k ih =>
    intro h
    show rk pt k + (if pt k = 1 then 1 else 0) = rk pt' k + (if pt' k = 1 then 1 else 0)
    rw [ih (fun j hj => h j (by omega)), h k (by omega)]
def PF (c k : Nat) : Bool := decide (c = 12 ∧ 70 ≤ k ∧ k ≤ 75)
def DI (X k : Nat) (B : Nat → Bool) (V1 V2 : Nat → Nat) (o0 o1 o2 p0 p1 p2 a0 a1 a2 b0 b1 b2 : Nat → Int32) : Prop := a0 X = nI (rk (fun j => bz (B j)) k) ∧ b0 X = nI (k - rk (fun j => bz (B j)) k) ∧ (∀ j, j < k → (B j = true → a1 (6 * X + rk (fun j => bz (B j)) j) = nI (V1 j) ∧ a2 (6 * X + rk (fun j => bz (B j)) j) = nI (V2 j)) ∧ (B j = false → b1 (6 * X + (j - rk (fun j => bz (B j)) j)) = nI (V1 j) ∧ b2 (6 * X + (j - rk (fun j => bz (B j)) j)) = nI (V2 j))) ∧ (∀ co, co ≠ X → a0 co = o0 co ∧ b0 co = p0 co) ∧ ∀ j, ¬ (6 * X ≤ j ∧ j < 6 * X + 6) → a1 j = o1 j ∧ a2 j = o2 j ∧ b1 j = p1 j ∧ b2 j = p2 j
theorem m_dist {X K : Nat} {B : Nat → Bool} {V1 V2 : Nat → Nat} {o0 o1 o2 p0 p1 p2 : Nat → Int32} (hX : X < 4) (hK : K ≤ 6) : ∀ n k (ρ : St), k + n = K → SH ρ → FM K (gA ρ 12 76 0) (gA ρ 12 77 0) (gA ρ 12 78 0) B V1 V2 → DI X k B V1 V2 o0 o1 o2 p0 p1 p2 (gA ρ 12 70 0) (gA ρ 12 71 0) (gA ρ 12 72 0) (gA ρ 12 73 0) (gA ρ 12 74 0) (gA ρ 12 75 0) → ∃ ρ', frA PF ρ ρ' ∧ DI X K B V1 V2 o0 o1 o2 p0 p1 p2 (gA ρ' 12 70 0) (gA ρ' 12 71 0) (gA ρ' 12 72 0) (gA ρ' 12 73 0) (gA ρ' 12 74 0) (gA ρ' 12 75 0) ∧ ∀ d Q, Rn d Q (204, 50, [some (vR (some (12, 0, 0))), some (vI (nI X)), some (vI (nI K)), some (vI (nI k))], [], ρ) = Q (some (vI (nI K))) ρ' := by
  have x2 : (nI X).toInt = (X : Int) := nI_toInt (by omega)
  have x3 : (0 : Int) ≤ (X : Int) := by omega
  have x4 : (X : Int) < ((4 : Nat) : Int) := by omega
  have x5 : (nI X).toNatClampNeg = X := nI_clamp (by omega)
  intro n
  induction n with
  | zero =>
    intro k ρ hk a1 hF hD
    have e1 : nI K ≤ nI k := nI_le (by omega) (by omega)
    refine ⟨ρ, frA_0, by rw [show K = k by omega]; exact hD, fun d Q => ?_⟩
    rw [e204_50]
    simp +decide only [e204_0, e204_1, e204_4, e204_7, e204_8, e204_9, e204_10, e204_13, e204_14, e204_15, e204_16, e204_19, e204_20, e204_23, e204_26, e204_28, e204_29, e204_32, e204_33, e204_34, e204_35, e204_38, e204_39, e204_40, e204_41, e204_42, e204_45, e204_46, e204_47, e204_48, e204_49, e204_51, e204_52, e204_55, e204_56, e204_59, e204_60, e204_61, e204_63, e204_66, e204_67, e204_70, e204_72, e204_73, e204_74, e204_75, e204_78, e204_79, e204_80, e204_81, e204_82, e204_85, e204_86, e204_87, e204_88, e204_89, e204_92, e204_94, e204_95, e204_96, e204_97, e204_100, e204_101, e204_102, e204_103, e204_104, e204_107, e204_108, e204_109, e204_110, e204_111, e204_114, e204_115, e204_116, e204_117, e204_118, e204_119, e204_120, e204_123, e204_124, e204_127, e204_129, e204_130, e204_131, e204_132, e204_135, e204_136, e204_137, e204_138, e204_139, e204_142, e204_143, e204_144, e204_145, e204_146, e204_149, e204_151, e204_152, e204_153, e204_154, e204_157, e204_158, e204_159, e204_160, e204_161, e204_164, e204_165, e204_166, e204_167, e204_168, e204_171, e204_172, e204_173, e204_174, e204_175, e204_176, e204_177, e204_180, e204_183, e204_184, true_and, and_true, or_true, true_or, if_true, if_false, not_true_eq_false, not_false_eq_true, ne_eq, and_self, e1]
  | succ n ih =>
    intro k ρ hk a1 hF hD
    have e1 : ¬ nI K ≤ nI k := nI_ge (by omega) (by omega)
    have k2 : (nI k).toInt = (k : Int) := nI_toInt (by omega)
    have k3 : (0 : Int) ≤ (k : Int) := by omega
    have k4 : (k : Int) < ((6 : Nat) : Int) := by omega
    have k5 : (nI k).toNatClampNeg = k := nI_clamp (by omega)
    obtain ⟨f1, f2, f3⟩ := hF k (by omega)
    obtain ⟨d1, d2, d3, d4, d5⟩ := hD
    have hrk := rk_le (pt := fun j => bz (B j)) k
    cases hB : B k with
    | true =>
      rw [hB] at f1
      have f1 : gA ρ 12 76 0 k = 112 := f1
      have ry : rk (fun j => bz (B j)) (k + 1) = rk (fun j => bz (B j)) k + 1 := rk_y (by show bz (B k) = 1; rw [hB]; rfl)
      generalize hr : rk (fun j => bz (B j)) k = r at d1 d2 hrk ry
      have g2 : 6 * nI X + nI r = nI (6 * X + r) := by rw [lN6, pk_mul, nI_add]
      have g3 : (nI (6 * X + r)).toInt = ((6 * X + r : Nat) : Int) := nI_toInt (by omega)
      have g4 : (nI (6 * X + r)).toNatClampNeg = 6 * X + r := nI_clamp (by omega)
      have g5 : (0 : Int) ≤ ((6 * X + r : Nat) : Int) ∧ ((6 * X + r : Nat) : Int) < ((24 : Nat) : Int) := by omega
      obtain ⟨ρ', q1, q2, q3⟩ := ih (k + 1) (setA (setA (setA ρ 12 71 0 (upd (gA ρ 12 71 0) (6 * X + r) (nI (V1 k)))) 12 72 0 (upd (gA ρ 12 72 0) (6 * X + r) (nI (V2 k)))) 12 70 0 (upd (gA ρ 12 70 0) X (nI r + 1))) (by omega) (SH_A (SH_A (SH_A a1))) (by simp +decide only [II, AA, RR, QQ, IA, IR, IQ, AI, AR, AQ, RI, RA, RQ, QI, QA, QR, LI, LA, LR, LQ, NI, NA, NR, NQ, HI, HA, HR, HQ, SI, SA, SR, SQ, true_and, and_true, or_true, true_or, if_true, if_false, not_true_eq_false, not_false_eq_true, ne_eq, and_self]; exact hF) (by
        simp +decide only [II, AA, RR, QQ, IA, IR, IQ, AI, AR, AQ, RI, RA, RQ, QI, QA, QR, LI, LA, LR, LQ, NI, NA, NR, NQ, HI, HA, HR, HQ, SI, SA, SR, SQ, true_and, and_true, or_true, true_or, if_true, if_false, not_true_eq_false, not_false_eq_true, ne_eq, and_self]
        refine ⟨by rw [updS0, ry, nI_1], by rw [d2, ry]; congr 1; omega, fun j hj => ?_, fun co hco => ⟨by rw [pk_un hco]; exact (d4 co hco).1, (d4 co hco).2⟩, fun j hj => ?_⟩
        · by_cases hjk : j = k
          · subst hjk
            rw [hr, updS0, updS0]
            exact ⟨fun _ => ⟨rfl, rfl⟩, fun z => by rw [hB] at z; cases z⟩
          · refine ⟨fun z => ?_, (d3 j (by omega)).2⟩
            have m1 := rk_mono (pt := fun j => bz (B j)) (k - (j + 1)) (j + 1)
            rw [show j + 1 + (k - (j + 1)) = k by omega, hr, rk_y (pt := fun j => bz (B j)) (by show bz (B j) = 1; rw [z]; rfl)] at m1
            rw [pk_un (by omega), pk_un (by omega)]
            exact (d3 j (by omega)).1 z
        · rw [pk_un (by omega), pk_un (by omega)]
          exact d5 j hj)
      refine ⟨ρ', frA_t (frA_t (frA_t (frA_A (by decide)) (frA_A (by decide))) (frA_A (by decide))) q1, q2, fun d Q => ?_⟩
      rw [← q3 d Q, ← nI_1 k, e204_50]
      simp +decide only [e204_0, e204_1, e204_4, e204_7, e204_8, e204_9, e204_10, e204_13, e204_14, e204_15, e204_16, e204_19, e204_20, e204_23, e204_26, e204_28, e204_29, e204_32, e204_33, e204_34, e204_35, e204_38, e204_39, e204_40, e204_41, e204_42, e204_45, e204_46, e204_47, e204_48, e204_49, e204_51, e204_52, e204_55, e204_56, e204_59, e204_60, e204_61, e204_63, e204_66, e204_67, e204_70, e204_72, e204_73, e204_74, e204_75, e204_78, e204_79, e204_80, e204_81, e204_82, e204_85, e204_86, e204_87, e204_88, e204_89, e204_92, e204_94, e204_95, e204_96, e204_97, e204_100, e204_101, e204_102, e204_103, e204_104, e204_107, e204_108, e204_109, e204_110, e204_111, e204_114, e204_115, e204_116, e204_117, e204_118, e204_119, e204_120, e204_123, e204_124, e204_127, e204_129, e204_130, e204_131, e204_132, e204_135, e204_136, e204_137, e204_138, e204_139, e204_142, e204_143, e204_144, e204_145, e204_146, e204_149, e204_151, e204_152, e204_153, e204_154, e204_157, e204_158, e204_159, e204_160, e204_161, e204_164, e204_165, e204_166, e204_167, e204_168, e204_171, e204_172, e204_173, e204_174, e204_175, e204_176, e204_177, e204_180, e204_183, e204_184, true_and, and_true, or_true, true_or, if_true, if_false, not_true_eq_false, not_false_eq_true, ne_eq, and_self, Option.toList_some, Option.toList_none, List.cons_append, List.nil_append, catS_0, catS_I, catS_L, catS_R, Option.map_some, Option.map_none, Option.some.injEq, Sum.inl.injEq, exists_eq_left', exists_eq', II, AA, RR, QQ, IA, IR, IQ, AI, AR, AQ, RI, RA, RQ, QI, QA, QR, LI, LA, LR, LQ, NI, NA, NR, NQ, HI, HA, HR, HQ, SI, SA, SR, SQ, e1, k2, k3, k4, k5, x2, x3, x4, x5, f1, f2, f3, d1, g2, g3, g4, g5, N12 a1, L12_76 a1, L12_77 a1, L12_78 a1, L12_70 a1, L12_71 a1, L12_72 a1]
    | false =>
      rw [hB] at f1
      have f1 : gA ρ 12 76 0 k = 98 := f1
      have ry : rk (fun j => bz (B j)) (k + 1) = rk (fun j => bz (B j)) k := rk_n (by show ¬ bz (B k) = 1; rw [hB]; decide)
      generalize hr : rk (fun j => bz (B j)) k = r at d1 d2 hrk ry
      have g2 : 6 * nI X + nI (k - r) = nI (6 * X + (k - r)) := by rw [lN6, pk_mul, nI_add]
      have g3 : (nI (6 * X + (k - r))).toInt = ((6 * X + (k - r) : Nat) : Int) := nI_toInt (by omega)
      have g4 : (nI (6 * X + (k - r))).toNatClampNeg = 6 * X + (k - r) := nI_clamp (by omega)
      have g5 : (0 : Int) ≤ ((6 * X + (k - r) : Nat) : Int) ∧ ((6 * X + (k - r) : Nat) : Int) < ((24 : Nat) : Int) := by omega
      obtain ⟨ρ', q1, q2, q3⟩ := ih (k + 1) (setA (setA (setA ρ 12 74 0 (upd (gA ρ 12 74 0) (6 * X + (k - r)) (nI (V1 k)))) 12 75 0 (upd (gA ρ 12 75 0) (6 * X + (k - r)) (nI (V2 k)))) 12 73 0 (upd (gA ρ 12 73 0) X (nI (k - r) + 1))) (by omega) (SH_A (SH_A (SH_A a1))) (by simp +decide only [II, AA, RR, QQ, IA, IR, IQ, AI, AR, AQ, RI, RA, RQ, QI, QA, QR, LI, LA, LR, LQ, NI, NA, NR, NQ, HI, HA, HR, HQ, SI, SA, SR, SQ, true_and, and_true, or_true, true_or, if_true, if_false, not_true_eq_false, not_false_eq_true, ne_eq, and_self]; exact hF) (by
        simp +decide only [II, AA, RR, QQ, IA, IR, IQ, AI, AR, AQ, RI, RA, RQ, QI, QA, QR, LI, LA, LR, LQ, NI, NA, NR, NQ, HI, HA, HR, HQ, SI, SA, SR, SQ, true_and, and_true, or_true, true_or, if_true, if_false, not_true_eq_false, not_false_eq_true, ne_eq, and_self]
        refine ⟨by rw [d1, ry], by rw [updS0, ry, nI_1]; congr 1; omega, fun j hj => ?_, fun co hco => ⟨(d4 co hco).1, by rw [pk_un hco]; exact (d4 co hco).2⟩, fun j hj => ?_⟩
        · by_cases hjk : j = k
          · subst hjk
            rw [hr, updS0, updS0]
            exact ⟨fun z => (by rw [hB] at z; cases z), fun _ => ⟨rfl, rfl⟩⟩
          · refine ⟨(d3 j (by omega)).1, fun z => ?_⟩
            have m1 := rk_mono (pt := fun j => bz (B j)) (k - (j + 1)) (j + 1)
            have m2 := rk_le (pt := fun j => bz (B j)) j
            rw [show j + 1 + (k - (j + 1)) = k by omega, hr, rk_n (pt := fun j => bz (B j)) (by show ¬ bz (B j) = 1; rw [z]; decide)] at m1
            rw [pk_un (by omega), pk_un (by omega)]
            exact (d3 j (by omega)).2 z
        · rw [pk_un (by omega), pk_un (by omega)]
          exact d5 j hj)
      refine ⟨ρ', frA_t (frA_t (frA_t (frA_A (by decide)) (frA_A (by decide))) (frA_A (by decide))) q1, q2, fun d Q => ?_⟩
      rw [← q3 d Q, ← nI_1 k, e204_50]
      simp +decide only [e204_0, e204_1, e204_4, e204_7, e204_8, e204_9, e204_10, e204_13, e204_14, e204_15, e204_16, e204_19, e204_20, e204_23, e204_26, e204_28, e204_29, e204_32, e204_33, e204_34, e204_35, e204_38, e204_39, e204_40, e204_41, e204_42, e204_45, e204_46, e204_47, e204_48, e204_49, e204_51, e204_52, e204_55, e204_56, e204_59, e204_60, e204_61, e204_63, e204_66, e204_67, e204_70, e204_72, e204_73, e204_74, e204_75, e204_78, e204_79, e204_80, e204_81, e204_82, e204_85, e204_86, e204_87, e204_88, e204_89, e204_92, e204_94, e204_95, e204_96, e204_97, e204_100, e204_101, e204_102, e204_103, e204_104, e204_107, e204_108, e204_109, e204_110, e204_111, e204_114, e204_115, e204_116, e204_117, e204_118, e204_119, e204_120, e204_123, e204_124, e204_127, e204_129, e204_130, e204_131, e204_132, e204_135, e204_136, e204_137, e204_138, e204_139, e204_142, e204_143, e204_144, e204_145, e204_146, e204_149, e204_151, e204_152, e204_153, e204_154, e204_157, e204_158, e204_159, e204_160, e204_161, e204_164, e204_165, e204_166, e204_167, e204_168, e204_171, e204_172, e204_173, e204_174, e204_175, e204_176, e204_177, e204_180, e204_183, e204_184, true_and, and_true, or_true, true_or, if_true, if_false, not_true_eq_false, not_false_eq_true, ne_eq, and_self, Option.toList_some, Option.toList_none, List.cons_append, List.nil_append, catS_0, catS_I, catS_L, catS_R, Option.map_some, Option.map_none, Option.some.injEq, Sum.inl.injEq, exists_eq_left', exists_eq', II, AA, RR, QQ, IA, IR, IQ, AI, AR, AQ, RI, RA, RQ, QI, QA, QR, LI, LA, LR, LQ, NI, NA, NR, NQ, HI, HA, HR, HQ, SI, SA, SR, SQ, e1, k2, k3, k4, k5, x2, x3, x4, x5, f1, f2, f3, d2, g2, g3, g4, g5, N12 a1, L12_76 a1, L12_77 a1, L12_78 a1, L12_73 a1, L12_74 a1, L12_75 a1]
