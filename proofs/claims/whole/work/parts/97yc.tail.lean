def PX (c k : Nat) : Bool := decide ((c = 11 ∧ k = 2) ∨ (c = 12 ∧ ((4 ≤ k ∧ k ≤ 8) ∨ k = 13 ∨ (15 ≤ k ∧ k ≤ 22))))
def RX (c k : Nat) : Bool := decide ((c = 7 ∧ (k = 1 ∨ k = 2)) ∨ (c = 12 ∧ ((1 ≤ k ∧ k ≤ 3) ∨ (9 ≤ k ∧ k ≤ 12) ∨ k = 14)))
theorem Inv_X {h0 n : Nat} {σ σ' : St} (h : Inv h0 n σ) (hS : SH σ') (hA : ∀ c k, c ≠ 0 → PX c k = false → gA σ' c k = gA σ c k) (hI : ∀ c k, c ≠ 0 → RX c k = false → gI σ' c k = gI σ c k) (hQ3 : gQ σ' 11 3 = gQ σ 11 3) (hQ6 : gQ σ' 11 6 = gQ σ 11 6) (hQ8 : gQ σ' 11 8 = gQ σ 11 8) (hQ10 : gQ σ' 11 10 = gQ σ 11 10) (hR4 : gR σ' 4 4 = gR σ 4 4) (hR5 : gR σ' 11 5 = gR σ 11 5) (hN4 : gN σ' 4 = gN σ 4) (hN8 : gN σ' 8 = gN σ 8) (hN9 : gN σ' 9 = gN σ 9) (hRM : RM h0 (n + 1) (gH σ') (gS σ')) (t1 : gI σ' 7 1 0 = 0) (t2 : gI σ' 12 1 0 = 0) (hPU : PU (gN σ 4) (gQ σ 11 6 0) (gQ σ' 11 1 0) (gR σ 4 4) (gA σ' 12 15 0) (gI σ 11 7 0) (gI σ 12 23 0) (gI σ 4 0) (gI σ 4 1) (gI σ 4 2) (gI σ 4 3) (gI σ 4 5) (gI σ 4 6) (gA σ 12 24 0) (gA σ 12 25 0) (gA σ 12 26 0) (gA σ 12 27 0) (gA σ 12 28 0)) (hED : ED (gN σ' 0) (gR σ' 11 4 0) (gQ σ' 11 1 0) (gA σ' 11 2 0) (gI σ' 0 0) (gI σ' 0 1) (gA σ' 0 2) (gA σ' 0 3) (gA σ' 0 4) (gA σ' 0 5) (gA σ' 0 6) (gA σ' 0 7) (gA σ' 12 15 0) (gA σ' 12 16 0) (gA σ' 12 17 0) (gA σ' 12 18 0) (gA σ' 12 19 0) (gA σ' 12 20 0) (gA σ' 12 21 0) (gA σ' 12 22 0)) : Inv h0 (n + 1) σ' := by
  obtain ⟨a1, a2, a3, a4, a5, a6, a7, a8, a9, a10, a11, a12, a13⟩ := h
  refine ⟨hS, ⟨0, by omega, by rw [t1]; rfl, by rw [t2]; rfl, fun j hj => by omega⟩, ?_⟩
  rw [hQ3, hQ6, hQ8, hQ10, hR4, hR5, hN4, hN8, hN9, hA 11 14 (by decide) (by decide), hA 12 68 (by decide) (by decide), hA 12 35 (by decide) (by decide), hA 12 36 (by decide) (by decide), hA 12 37 (by decide) (by decide), hA 6 2 (by decide) (by decide), hA 12 79 (by decide) (by decide), hA 12 80 (by decide) (by decide), hA 12 81 (by decide) (by decide), hA 12 55 (by decide) (by decide), hA 12 56 (by decide) (by decide), hA 12 57 (by decide) (by decide), hA 12 58 (by decide) (by decide), hA 12 39 (by decide) (by decide), hA 12 46 (by decide) (by decide), hA 12 24 (by decide) (by decide), hA 12 25 (by decide) (by decide), hA 12 26 (by decide) (by decide), hA 12 27 (by decide) (by decide), hA 12 28 (by decide) (by decide), hA 8 4 (by decide) (by decide), hA 12 40 (by decide) (by decide), hA 12 41 (by decide) (by decide), hA 12 42 (by decide) (by decide), hA 12 43 (by decide) (by decide), hA 12 44 (by decide) (by decide), hA 12 45 (by decide) (by decide), hA 12 47 (by decide) (by decide), hA 12 48 (by decide) (by decide), hA 12 49 (by decide) (by decide), hA 12 50 (by decide) (by decide), hA 12 51 (by decide) (by decide), hA 12 52 (by decide) (by decide), hA 12 53 (by decide) (by decide), hA 2 0 (by decide) (by decide), hA 2 1 (by decide) (by decide), hA 2 2 (by decide) (by decide), hA 12 29 (by decide) (by decide), hA 12 30 (by decide) (by decide), hA 1 1 (by decide) (by decide), hA 1 2 (by decide) (by decide), hA 1 3 (by decide) (by decide), hA 12 70 (by decide) (by decide), hA 12 71 (by decide) (by decide), hA 12 72 (by decide) (by decide), hA 12 73 (by decide) (by decide), hA 12 74 (by decide) (by decide), hA 12 75 (by decide) (by decide), hI 11 15 (by decide) (by decide), hI 12 69 (by decide) (by decide), hI 3 0 (by decide) (by decide), hI 3 1 (by decide) (by decide), hI 3 2 (by decide) (by decide), hI 6 0 (by decide) (by decide), hI 6 1 (by decide) (by decide), hI 11 9 (by decide) (by decide), hI 12 54 (by decide) (by decide), hI 9 0 (by decide) (by decide), hI 9 1 (by decide) (by decide), hI 9 2 (by decide) (by decide), hI 9 3 (by decide) (by decide), hI 11 7 (by decide) (by decide), hI 12 23 (by decide) (by decide), hI 4 0 (by decide) (by decide), hI 4 1 (by decide) (by decide), hI 4 2 (by decide) (by decide), hI 4 3 (by decide) (by decide), hI 4 5 (by decide) (by decide), hI 4 6 (by decide) (by decide), hI 11 11 (by decide) (by decide), hI 12 38 (by decide) (by decide), hI 8 0 (by decide) (by decide), hI 8 1 (by decide) (by decide), hI 8 2 (by decide) (by decide), hI 8 3 (by decide) (by decide), hI 8 5 (by decide) (by decide), hI 8 6 (by decide) (by decide), hI 8 7 (by decide) (by decide), hI 8 8 (by decide) (by decide), hI 8 9 (by decide) (by decide), hI 8 10 (by decide) (by decide), hI 8 11 (by decide) (by decide), hI 8 12 (by decide) (by decide), hI 8 13 (by decide) (by decide), hI 8 14 (by decide) (by decide), hI 2 3 (by decide) (by decide), hI 1 0 (by decide) (by decide)]
  exact ⟨a3, a4.up, a5, a6, a7, hPU, a9, a10.up, a11, hED, hRM⟩
theorem gA_on {σ : St} {c k z m a b i : Nat} (h : i ≠ z) : gA (newA σ c k z m) a b i = gA σ a b i := by
  rw [AW']
  by_cases hc : a = c ∧ b = k
  · rw [if_pos hc]
    obtain ⟨rfl, rfl⟩ := hc
    show (if i = z then _ else gA σ a b i) = _
    rw [if_neg h]
  · rw [if_neg hc]
theorem gI_on {σ : St} {c a b i : Nat} (h : i ≠ gN σ c) : gI (newO σ c) a b i = gI σ a b i := by
  rw [IO']
  by_cases hc : a = c
  · rw [if_pos hc]
    exact pk_un h
  · rw [if_neg hc]
def nwE (τ : St) : St := setR (setI (newA (newA (newA (newA (newA (newA (setI (setI (newO τ 0) 0 0 (gN τ 0) 0) 0 1 (gN τ 0) 0) 0 2 (gN τ 0) 8) 0 3 (gN τ 0) 8) 0 4 (gN τ 0) 8) 0 5 (gN τ 0) 8) 0 6 (gN τ 0) 8) 0 7 (gN τ 0) 120) 0 8 (gN τ 0) 0) 11 4 0 (some (gN τ 0))
theorem isA0 {k : Nat} (h : isA 0 k) : k = 2 ∨ k = 3 ∨ k = 4 ∨ k = 5 ∨ k = 6 ∨ k = 7 := by
  rcases h with h | h
  · have h2 := fk_k (by decide) h
    have : k < 9 := h2
    match k, this, h with
    | 0, _, h => cases h
    | 1, _, h => cases h
    | 2, _, _ => exact Or.inl rfl
    | 3, _, _ => exact Or.inr (Or.inl rfl)
    | 4, _, _ => exact Or.inr (Or.inr (Or.inl rfl))
    | 5, _, _ => exact Or.inr (Or.inr (Or.inr (Or.inl rfl)))
    | 6, _, _ => exact Or.inr (Or.inr (Or.inr (Or.inr (Or.inl rfl))))
    | 7, _, _ => exact Or.inr (Or.inr (Or.inr (Or.inr (Or.inr rfl))))
    | 8, _, h => cases h
  · have h2 := fk_k (by decide) h
    have : k < 9 := h2
    match k, this, h with
    | 0, _, h => cases h
    | 1, _, h => cases h
    | 2, _, h => cases h
    | 3, _, h => cases h
    | 4, _, h => cases h
    | 5, _, h => cases h
    | 6, _, h => cases h
    | 7, _, h => cases h
    | 8, _, h => cases h
theorem SH_nwE {τ : St} (h : SH τ) : SH (nwE τ) := by
  obtain ⟨h1, h2, h3, h4, h5⟩ := h
  refine ⟨h1, fun c k i hc hi ha => ?_, h3, h4, h5⟩
  unfold nwE at hi ⊢
  by_cases h9 : c = 0
  · subst h9
    have hi2 : i < gN τ 0 + 1 := hi
    have old : i ≠ gN τ 0 → gL τ 0 k i = some (alen 0 k) := fun hin => h2 0 k i hc (by omega) ha
    rcases isA0 ha with hk | hk | hk | hk | hk | hk <;>
    · subst hk
      simp +decide only [LR, LI, LW', LO', true_and, and_true, or_true, true_or, if_true, if_false, not_true_eq_false, not_false_eq_true, ne_eq, and_self]
      by_cases hin : i = gN τ 0
      · rw [hin, vaS]; rfl
      · rw [va_up_ne _ _ hin, va_up_ne _ _ hin]; exact old hin
  · have hi2 : i < if c = 0 then gN τ 0 + 1 else gN τ c := hi
    rw [if_neg h9] at hi2
    simp only [LR, LI, LW', LO', h9, false_and, if_false]
    exact h2 c k i hc hi2 ha
def NEW (τ τ' : St) : Prop := SH τ' ∧ (∀ c k, c ≠ 0 → gA τ' c k = gA τ c k ∧ gI τ' c k = gI τ c k ∧ gQ τ' c k = gQ τ c k) ∧ (∀ k i, i ≠ gN τ 0 → gA τ' 0 k i = gA τ 0 k i ∧ gI τ' 0 k i = gI τ 0 k i) ∧ gR τ' 4 4 = gR τ 4 4 ∧ gR τ' 11 5 = gR τ 11 5 ∧ gR τ' 11 4 0 = some (gN τ 0) ∧ (∀ c, gN τ' c = if c = 0 then gN τ 0 + 1 else gN τ c) ∧ gH τ' = gH τ + 7 ∧ gS τ' = gS τ + 169
theorem NEW_nw {τ : St} (a1 : SH τ) : NEW τ (nwE τ) := by
  refine ⟨SH_nwE a1, fun c k hc => ⟨?_, ?_, ?_⟩, fun k i hi => ⟨?_, ?_⟩, ?_, ?_, ?_, fun c => ?_, ?_, ?_⟩
  · unfold nwE
    simp only [AR, AI, AW', AO', hc, false_and, if_false]
  · unfold nwE
    simp only [IR, II, IW', IO', hc, false_and, if_false]
  · unfold nwE
    simp only [QR, QI, QW', QO', hc, false_and, if_false]
  · unfold nwE
    rw [AR, AI, gA_on hi, gA_on hi, gA_on hi, gA_on hi, gA_on hi, gA_on hi, AI, AI, AO']
  · unfold nwE
    rw [IR, gI_oi hi, IW', IW', IW', IW', IW', IW', gI_oi hi, gI_oi hi, gI_on hi]
  · unfold nwE
    simp +decide only [RR, RI, RW', RO', true_and, and_true, or_true, true_or, if_true, if_false, not_true_eq_false, not_false_eq_true, ne_eq, and_self]
  · unfold nwE
    simp +decide only [RR, RI, RW', RO', true_and, and_true, or_true, true_or, if_true, if_false, not_true_eq_false, not_false_eq_true, ne_eq, and_self]
  · unfold nwE
    simp +decide only [RR, RI, RW', RO', true_and, and_true, or_true, true_or, if_true, if_false, not_true_eq_false, not_false_eq_true, ne_eq, and_self]
    exact vaS
  · unfold nwE
    rw [NR, NI, NW', NW', NW', NW', NW', NW', NI, NI, NO']
  · unfold nwE
    rw [HR, HI, HW', HW', HW', HW', HW', HW', HI, HI, HO']
  · unfold nwE
    rw [SR, SI, SW', SW', SW', SW', SW', SW', SI, SI, SO', show nfd 0 = 9 by decide]
theorem c_newE {τ : St} {l1 l2 l3 : Option AV} {v : Int32} (a1 : SH τ) : ∀ D Q, Rn (D + 1) Q (67, 113, [some (vR (some (11, 0, 0))), l1, l2, l3, some (vI v)], [], τ) = Q (some (vI v)) (nwE τ) := by
  intro D Q
  have f5 : gN τ 0 < gN τ 0 + 1 := by omega
  unfold nwE
  simp +decide only [e67_0, e67_1, e67_2, e67_5, e67_8, e67_9, e67_12, e67_15, e67_16, e67_17, e67_18, e67_21, e67_24, e67_25, e67_26, e67_27, e67_30, e67_31, e67_34, e67_37, e67_38, e67_39, e67_42, e67_43, e67_46, e67_47, e67_50, e67_52, e67_53, e67_56, e67_59, e67_60, e67_61, e67_62, e67_65, e67_66, e67_67, e67_69, e67_71, e67_73, e67_76, e67_78, e67_79, e67_80, e67_83, e67_84, e67_87, e67_88, e67_91, e67_92, e67_94, e67_95, e67_97, e67_98, e67_99, e67_102, e67_103, e67_104, e67_107, e67_108, e67_110, e67_111, e67_112, e67_113, e67_114, e67_117, e67_118, e67_121, e67_124, e67_126, e0_0, e0_1, e0_4, e0_5, e0_6, e0_9, e0_10, e0_11, e0_14, e0_15, e0_17, e0_22, e0_23, e0_25, e0_30, e0_31, e0_33, e0_38, e0_39, e0_41, e0_46, e0_47, e0_49, e0_54, e0_55, e0_57, e0_62, e0_63, e0_64, e0_67, true_and, and_true, or_true, true_or, if_true, if_false, not_true_eq_false, not_false_eq_true, ne_eq, and_self, Option.toList_some, Option.toList_none, List.cons_append, List.nil_append, catS_0, catS_I, catS_L, catS_R, Option.map_some, Option.map_none, Option.some.injEq, Sum.inl.injEq, exists_eq_left', exists_eq', II, AA, RR, QQ, IA, IR, IQ, AI, AR, AQ, RI, RA, RQ, QI, QA, QR, LI, LA, LR, LQ, NI, NA, NR, NQ, HI, HA, HR, HQ, SI, SA, SR, SQ, IO', RO', LO', NO', AO', QO', IW', RW', NW', AW', QW', LW', f5, vaS, updS0, N11 a1]
section COPY
variable {X : Nat} {l1 l2 l3 : Option AV} {o18 o19 o20 o21 o22 : Nat → Int32}
def PC1 (c k : Nat) : Bool := decide (c = 12 ∧ 18 ≤ k ∧ k ≤ 21)
def PC2 (c k : Nat) : Bool := decide (c = 12 ∧ k = 22)
theorem m_cp1 (hX : X < 24) : ∀ (m i : Nat) (ρ : St), i + m = 8 → SH ρ → gA ρ 12 18 0 = cpF (gA ρ 12 4 0) o18 (8 * X) i → gA ρ 12 19 0 = cpF (gA ρ 12 5 0) o19 (8 * X) i → gA ρ 12 20 0 = cpF (gA ρ 12 6 0) o20 (8 * X) i → gA ρ 12 21 0 = cpF (gA ρ 12 7 0) o21 (8 * X) i → ∃ ρ', frB PC1 RN ρ ρ' ∧ gA ρ' 12 18 0 = cpF (gA ρ 12 4 0) o18 (8 * X) 8 ∧ gA ρ' 12 19 0 = cpF (gA ρ 12 5 0) o19 (8 * X) 8 ∧ gA ρ' 12 20 0 = cpF (gA ρ 12 6 0) o20 (8 * X) 8 ∧ gA ρ' 12 21 0 = cpF (gA ρ 12 7 0) o21 (8 * X) 8 ∧ ∀ D Q, Rn D Q (146, 109, [some (vR (some (12, 0, 0))), l1, l2, l3, some (vI (nI X)), some (vI (nI i))], [], ρ) = Rn D Q (146, 202, [some (vR (some (12, 0, 0))), l1, l2, l3, some (vI (nI X)), some (vI (nI 8))], [], ρ') := by
  intro m
  induction m with
  | zero =>
    intro i ρ hi a1 h1 h2 h3 h4
    have hi : i = 8 := by omega
    subst hi
    refine ⟨ρ, frB_0, h1, h2, h3, h4, fun D Q => ?_⟩
    rw [e146_109]
    simp +decide only [e146_0, e146_1, e146_4, e146_7, e146_8, e146_11, e146_14, e146_15, e146_16, e146_17, e146_20, e146_21, e146_22, e146_23, e146_24, e146_27, e146_28, e146_29, e146_32, e146_34, e146_35, e146_36, e146_37, e146_38, e146_39, e146_40, e146_41, e146_44, e146_45, e146_46, e146_47, e146_50, e146_51, e146_52, e146_55, e146_56, e146_59, e146_62, e146_64, e146_65, e146_68, e146_69, e146_70, e146_71, e146_73, e146_76, e146_78, e146_79, e146_81, e146_82, e146_83, e146_84, e146_85, e146_87, e146_88, e146_91, e146_93, e146_94, e146_95, e146_96, e146_99, e146_101, e146_102, e146_105, e146_106, e146_107, e146_111, e146_113, e146_116, e146_117, e146_120, e146_122, e146_124, e146_125, e146_127, e146_128, e146_129, e146_132, e146_134, e146_135, e146_136, e146_137, e146_140, e146_142, e146_144, e146_145, e146_147, e146_148, e146_149, e146_152, e146_154, e146_155, e146_156, e146_157, e146_160, e146_162, e146_164, e146_165, e146_167, e146_168, e146_169, e146_172, e146_174, e146_175, e146_176, e146_177, e146_180, e146_182, e146_184, e146_185, e146_187, e146_188, e146_189, e146_192, e146_194, e146_195, e146_196, e146_199, e146_203, e146_207, e146_208, e146_211, e146_214, e146_215, e146_218, e146_221, e146_223, e146_224, e146_226, e146_227, e146_228, e146_231, e146_233, e146_234, e146_235, e146_238, e146_241, e146_242, e146_245, e146_246, e146_247, e146_248, e146_249, e146_250, e146_251, e146_252, true_and, and_true, or_true, true_or, if_true, if_false, not_true_eq_false, not_false_eq_true, ne_eq, and_self, Option.toList_some, Option.toList_none, List.cons_append, List.nil_append, catS_0, catS_I, catS_L, catS_R, Option.map_some, Option.map_none, show (8 : Int32) ≤ nI 8 by decide]
  | succ m ih =>
    intro i ρ hi a1 h1 h2 h3 h4
    have y1 : ¬ (8 : Int32) ≤ nI i := nI_ge (b := 8) (by omega) (by omega)
    have y2 : (nI i).toInt = (i : Int) := nI_toInt (by omega)
    have y3 : (0 : Int) ≤ (i : Int) := by omega
    have y4 : (i : Int) < ((8 : Nat) : Int) := by omega
    have y5 : (nI i).toNatClampNeg = i := nI_clamp (by omega)
    have g2 : 8 * nI X + nI i = nI (8 * X + i) := by rw [lN8, pk_mul, nI_add]
    have g3 : (nI (8 * X + i)).toInt = ((8 * X + i : Nat) : Int) := nI_toInt (by omega)
    have g4 : (nI (8 * X + i)).toNatClampNeg = 8 * X + i := nI_clamp (by omega)
    have g5 : (0 : Int) ≤ ((8 * X + i : Nat) : Int) ∧ ((8 * X + i : Nat) : Int) < ((192 : Nat) : Int) := by omega
    obtain ⟨ρ', p1, p2, p3, p4, p5, p6⟩ := ih (i + 1) (setA (setA (setA (setA ρ 12 18 0 (upd (gA ρ 12 18 0) (8 * X + i) (gA ρ 12 4 0 i))) 12 19 0 (upd (gA ρ 12 19 0) (8 * X + i) (gA ρ 12 5 0 i))) 12 20 0 (upd (gA ρ 12 20 0) (8 * X + i) (gA ρ 12 6 0 i))) 12 21 0 (upd (gA ρ 12 21 0) (8 * X + i) (gA ρ 12 7 0 i))) (by omega) (SH_A (SH_A (SH_A (SH_A a1)))) (by simp +decide only [II, AA, RR, QQ, IA, IR, IQ, AI, AR, AQ, RI, RA, RQ, QI, QA, QR, LI, LA, LR, LQ, NI, NA, NR, NQ, HI, HA, HR, HQ, SI, SA, SR, SQ, true_and, and_true, or_true, true_or, if_true, if_false, not_true_eq_false, not_false_eq_true, ne_eq, and_self]; rw [h1, cpF_s]) (by simp +decide only [II, AA, RR, QQ, IA, IR, IQ, AI, AR, AQ, RI, RA, RQ, QI, QA, QR, LI, LA, LR, LQ, NI, NA, NR, NQ, HI, HA, HR, HQ, SI, SA, SR, SQ, true_and, and_true, or_true, true_or, if_true, if_false, not_true_eq_false, not_false_eq_true, ne_eq, and_self]; rw [h2, cpF_s]) (by simp +decide only [II, AA, RR, QQ, IA, IR, IQ, AI, AR, AQ, RI, RA, RQ, QI, QA, QR, LI, LA, LR, LQ, NI, NA, NR, NQ, HI, HA, HR, HQ, SI, SA, SR, SQ, true_and, and_true, or_true, true_or, if_true, if_false, not_true_eq_false, not_false_eq_true, ne_eq, and_self]; rw [h3, cpF_s]) (by simp +decide only [II, AA, RR, QQ, IA, IR, IQ, AI, AR, AQ, RI, RA, RQ, QI, QA, QR, LI, LA, LR, LQ, NI, NA, NR, NQ, HI, HA, HR, HQ, SI, SA, SR, SQ, true_and, and_true, or_true, true_or, if_true, if_false, not_true_eq_false, not_false_eq_true, ne_eq, and_self]; rw [h4, cpF_s])
    simp +decide only [II, AA, RR, QQ, IA, IR, IQ, AI, AR, AQ, RI, RA, RQ, QI, QA, QR, LI, LA, LR, LQ, NI, NA, NR, NQ, HI, HA, HR, HQ, SI, SA, SR, SQ, true_and, and_true, or_true, true_or, if_true, if_false, not_true_eq_false, not_false_eq_true, ne_eq, and_self] at p2 p3 p4 p5
    refine ⟨ρ', frB_t (frB_t (frB_t (frB_t (frB_A (by decide)) (frB_A (by decide))) (frB_A (by decide))) (frB_A (by decide))) p1, p2, p3, p4, p5, fun D Q => ?_⟩
    rw [← p6 D Q, e146_109, ← nI_1 i]
    simp +decide only [e146_0, e146_1, e146_4, e146_7, e146_8, e146_11, e146_14, e146_15, e146_16, e146_17, e146_20, e146_21, e146_22, e146_23, e146_24, e146_27, e146_28, e146_29, e146_32, e146_34, e146_35, e146_36, e146_37, e146_38, e146_39, e146_40, e146_41, e146_44, e146_45, e146_46, e146_47, e146_50, e146_51, e146_52, e146_55, e146_56, e146_59, e146_62, e146_64, e146_65, e146_68, e146_69, e146_70, e146_71, e146_73, e146_76, e146_78, e146_79, e146_81, e146_82, e146_83, e146_84, e146_85, e146_87, e146_88, e146_91, e146_93, e146_94, e146_95, e146_96, e146_99, e146_101, e146_102, e146_105, e146_106, e146_107, e146_111, e146_113, e146_116, e146_117, e146_120, e146_122, e146_124, e146_125, e146_127, e146_128, e146_129, e146_132, e146_134, e146_135, e146_136, e146_137, e146_140, e146_142, e146_144, e146_145, e146_147, e146_148, e146_149, e146_152, e146_154, e146_155, e146_156, e146_157, e146_160, e146_162, e146_164, e146_165, e146_167, e146_168, e146_169, e146_172, e146_174, e146_175, e146_176, e146_177, e146_180, e146_182, e146_184, e146_185, e146_187, e146_188, e146_189, e146_192, e146_194, e146_195, e146_196, e146_199, e146_203, e146_207, e146_208, e146_211, e146_214, e146_215, e146_218, e146_221, e146_223, e146_224, e146_226, e146_227, e146_228, e146_231, e146_233, e146_234, e146_235, e146_238, e146_241, e146_242, e146_245, e146_246, e146_247, e146_248, e146_249, e146_250, e146_251, e146_252, true_and, and_true, or_true, true_or, if_true, if_false, not_true_eq_false, not_false_eq_true, ne_eq, and_self, Option.toList_some, Option.toList_none, List.cons_append, List.nil_append, catS_0, catS_I, catS_L, catS_R, Option.map_some, Option.map_none, Option.some.injEq, Sum.inl.injEq, exists_eq_left', exists_eq', II, AA, RR, QQ, IA, IR, IQ, AI, AR, AQ, RI, RA, RQ, QI, QA, QR, LI, LA, LR, LQ, NI, NA, NR, NQ, HI, HA, HR, HQ, SI, SA, SR, SQ, y1, y2, y3, y4, y5, g2, g3, g4, g5, N12 a1, L12_4 a1, L12_5 a1, L12_6 a1, L12_7 a1, L12_18 a1, L12_19 a1, L12_20 a1, L12_21 a1]
theorem m_cp2 {T : Nat} (hX : X < 24) (hT : T ≤ 120) : ∀ (m i : Nat) (ρ : St), i + m = T → SH ρ → gI ρ 12 9 0 = nI T → gA ρ 12 22 0 = cpF (gA ρ 12 8 0) o22 (128 * X) i → ∃ ρ' v, frB PC2 RN ρ ρ' ∧ gA ρ' 12 22 0 = cpF (gA ρ 12 8 0) o22 (128 * X) T ∧ ∀ D Q, Rn D Q (146, 205, [some (vR (some (12, 0, 0))), l1, l2, l3, some (vI (nI X)), some (vI (nI i))], [], ρ) = Rn D Q (146, 241, [some (vR (some (12, 0, 0))), l1, l2, l3, some (vI (nI X)), v], [], ρ') := by
  intro m
  induction m with
  | zero =>
    intro i ρ hi a1 hg h1
    have hi : i = T := by omega
    subst hi
    have y1 : nI i ≤ nI i := nI_le (by omega) (by omega)
    refine ⟨ρ, some (vI (nI i)), frB_0, h1, fun D Q => ?_⟩
    rw [e146_205]
    simp +decide only [e146_0, e146_1, e146_4, e146_7, e146_8, e146_11, e146_14, e146_15, e146_16, e146_17, e146_20, e146_21, e146_22, e146_23, e146_24, e146_27, e146_28, e146_29, e146_32, e146_34, e146_35, e146_36, e146_37, e146_38, e146_39, e146_40, e146_41, e146_44, e146_45, e146_46, e146_47, e146_50, e146_51, e146_52, e146_55, e146_56, e146_59, e146_62, e146_64, e146_65, e146_68, e146_69, e146_70, e146_71, e146_73, e146_76, e146_78, e146_79, e146_81, e146_82, e146_83, e146_84, e146_85, e146_87, e146_88, e146_91, e146_93, e146_94, e146_95, e146_96, e146_99, e146_101, e146_102, e146_105, e146_106, e146_107, e146_111, e146_113, e146_116, e146_117, e146_120, e146_122, e146_124, e146_125, e146_127, e146_128, e146_129, e146_132, e146_134, e146_135, e146_136, e146_137, e146_140, e146_142, e146_144, e146_145, e146_147, e146_148, e146_149, e146_152, e146_154, e146_155, e146_156, e146_157, e146_160, e146_162, e146_164, e146_165, e146_167, e146_168, e146_169, e146_172, e146_174, e146_175, e146_176, e146_177, e146_180, e146_182, e146_184, e146_185, e146_187, e146_188, e146_189, e146_192, e146_194, e146_195, e146_196, e146_199, e146_202, e146_203, e146_207, e146_208, e146_211, e146_214, e146_215, e146_218, e146_221, e146_223, e146_224, e146_226, e146_227, e146_228, e146_231, e146_233, e146_234, e146_235, e146_238, e146_242, e146_245, e146_246, e146_247, e146_248, e146_249, e146_250, e146_251, e146_252, true_and, and_true, or_true, true_or, if_true, if_false, not_true_eq_false, not_false_eq_true, ne_eq, and_self, Option.toList_some, Option.toList_none, List.cons_append, List.nil_append, catS_0, catS_I, catS_L, catS_R, Option.map_some, Option.map_none, hg, y1, N12 a1]
  | succ m ih =>
    intro i ρ hi a1 hg h1
    have y1 : ¬ nI T ≤ nI i := nI_ge (by omega) (by omega)
    have y2 : (nI i).toInt = (i : Int) := nI_toInt (by omega)
    have y3 : (0 : Int) ≤ (i : Int) := by omega
    have y4 : (i : Int) < ((128 : Nat) : Int) := by omega
    have y5 : (nI i).toNatClampNeg = i := nI_clamp (by omega)
    have g2 : 128 * nI X + nI i = nI (128 * X + i) := by rw [lN128, pk_mul, nI_add]
    have g3 : (nI (128 * X + i)).toInt = ((128 * X + i : Nat) : Int) := nI_toInt (by omega)
    have g4 : (nI (128 * X + i)).toNatClampNeg = 128 * X + i := nI_clamp (by omega)
    have g5 : (0 : Int) ≤ ((128 * X + i : Nat) : Int) ∧ ((128 * X + i : Nat) : Int) < ((3072 : Nat) : Int) := by omega
    obtain ⟨ρ', v, p1, p2, p3⟩ := ih (i + 1) (setA ρ 12 22 0 (upd (gA ρ 12 22 0) (128 * X + i) (gA ρ 12 8 0 i))) (by omega) (SH_A a1) (by simp +decide only [II, AA, RR, QQ, IA, IR, IQ, AI, AR, AQ, RI, RA, RQ, QI, QA, QR, LI, LA, LR, LQ, NI, NA, NR, NQ, HI, HA, HR, HQ, SI, SA, SR, SQ, true_and, and_true, or_true, true_or, if_true, if_false, not_true_eq_false, not_false_eq_true, ne_eq, and_self]; exact hg) (by simp +decide only [II, AA, RR, QQ, IA, IR, IQ, AI, AR, AQ, RI, RA, RQ, QI, QA, QR, LI, LA, LR, LQ, NI, NA, NR, NQ, HI, HA, HR, HQ, SI, SA, SR, SQ, true_and, and_true, or_true, true_or, if_true, if_false, not_true_eq_false, not_false_eq_true, ne_eq, and_self]; rw [h1, cpF_s])
    simp +decide only [II, AA, RR, QQ, IA, IR, IQ, AI, AR, AQ, RI, RA, RQ, QI, QA, QR, LI, LA, LR, LQ, NI, NA, NR, NQ, HI, HA, HR, HQ, SI, SA, SR, SQ, true_and, and_true, or_true, true_or, if_true, if_false, not_true_eq_false, not_false_eq_true, ne_eq, and_self] at p2
    refine ⟨ρ', v, frB_t (frB_A (by decide)) p1, p2, fun D Q => ?_⟩
    rw [← p3 D Q, e146_205, ← nI_1 i]
    simp +decide only [e146_0, e146_1, e146_4, e146_7, e146_8, e146_11, e146_14, e146_15, e146_16, e146_17, e146_20, e146_21, e146_22, e146_23, e146_24, e146_27, e146_28, e146_29, e146_32, e146_34, e146_35, e146_36, e146_37, e146_38, e146_39, e146_40, e146_41, e146_44, e146_45, e146_46, e146_47, e146_50, e146_51, e146_52, e146_55, e146_56, e146_59, e146_62, e146_64, e146_65, e146_68, e146_69, e146_70, e146_71, e146_73, e146_76, e146_78, e146_79, e146_81, e146_82, e146_83, e146_84, e146_85, e146_87, e146_88, e146_91, e146_93, e146_94, e146_95, e146_96, e146_99, e146_101, e146_102, e146_105, e146_106, e146_107, e146_111, e146_113, e146_116, e146_117, e146_120, e146_122, e146_124, e146_125, e146_127, e146_128, e146_129, e146_132, e146_134, e146_135, e146_136, e146_137, e146_140, e146_142, e146_144, e146_145, e146_147, e146_148, e146_149, e146_152, e146_154, e146_155, e146_156, e146_157, e146_160, e146_162, e146_164, e146_165, e146_167, e146_168, e146_169, e146_172, e146_174, e146_175, e146_176, e146_177, e146_180, e146_182, e146_184, e146_185, e146_187, e146_188, e146_189, e146_192, e146_194, e146_195, e146_196, e146_199, e146_202, e146_203, e146_207, e146_208, e146_211, e146_214, e146_215, e146_218, e146_221, e146_223, e146_224, e146_226, e146_227, e146_228, e146_231, e146_233, e146_234, e146_235, e146_238, e146_242, e146_245, e146_246, e146_247, e146_248, e146_249, e146_250, e146_251, e146_252, true_and, and_true, or_true, true_or, if_true, if_false, not_true_eq_false, not_false_eq_true, ne_eq, and_self, Option.toList_some, Option.toList_none, List.cons_append, List.nil_append, catS_0, catS_I, catS_L, catS_R, Option.map_some, Option.map_none, Option.some.injEq, Sum.inl.injEq, exists_eq_left', exists_eq', II, AA, RR, QQ, IA, IR, IQ, AI, AR, AQ, RI, RA, RQ, QI, QA, QR, LI, LA, LR, LQ, NI, NA, NR, NQ, HI, HA, HR, HQ, SI, SA, SR, SQ, hg, y1, y2, y3, y4, y5, g2, g3, g4, g5, N12 a1, L12_8 a1, L12_22 a1]
end COPY
