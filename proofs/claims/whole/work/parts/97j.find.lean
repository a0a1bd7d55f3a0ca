def PQ (c k : Nat) : Bool := decide (c = 5 ∨ (c = 12 ∧ 59 ≤ k ∧ k ≤ 67))
theorem Inv_fr {h0 n : Nat} {σ σ' : St} (h : frB PQ PQ σ σ') (hI : Inv h0 n σ) : Inv h0 n σ' := by
  have hS := SH_frB h hI.1
  obtain ⟨h1, h2, h3, h4, h5, h6, h7, h8⟩ := h
  refine ⟨hS, ?_⟩
  rw [h1, h2, h4, h5, h6, h7 7 0 (by decide), h7 12 0 (by decide), h7 11 14 (by decide), h7 12 68 (by decide), h7 12 35 (by decide), h7 12 36 (by decide), h7 12 37 (by decide), h7 6 2 (by decide), h7 12 79 (by decide), h7 12 80 (by decide), h7 12 81 (by decide), h7 12 55 (by decide), h7 12 56 (by decide), h7 12 57 (by decide), h7 12 58 (by decide), h7 12 39 (by decide), h7 12 46 (by decide), h7 12 15 (by decide), h7 12 24 (by decide), h7 12 25 (by decide), h7 12 26 (by decide), h7 12 27 (by decide), h7 12 28 (by decide), h7 8 4 (by decide), h7 12 40 (by decide), h7 12 41 (by decide), h7 12 42 (by decide), h7 12 43 (by decide), h7 12 44 (by decide), h7 12 45 (by decide), h7 12 47 (by decide), h7 12 48 (by decide), h7 12 49 (by decide), h7 12 50 (by decide), h7 12 51 (by decide), h7 12 52 (by decide), h7 12 53 (by decide), h7 2 0 (by decide), h7 2 1 (by decide), h7 2 2 (by decide), h7 12 29 (by decide), h7 12 30 (by decide), h7 1 1 (by decide), h7 1 2 (by decide), h7 1 3 (by decide), h7 12 70 (by decide), h7 12 71 (by decide), h7 12 72 (by decide), h7 12 73 (by decide), h7 12 74 (by decide), h7 12 75 (by decide), h7 11 2 (by decide), h7 0 2 (by decide), h7 0 3 (by decide), h7 0 4 (by decide), h7 0 5 (by decide), h7 0 6 (by decide), h7 0 7 (by decide), h7 12 16 (by decide), h7 12 17 (by decide), h7 12 18 (by decide), h7 12 19 (by decide), h7 12 20 (by decide), h7 12 21 (by decide), h7 12 22 (by decide), h8 7 1 (by decide), h8 12 1 (by decide), h8 11 15 (by decide), h8 12 69 (by decide), h8 3 0 (by decide), h8 3 1 (by decide), h8 3 2 (by decide), h8 6 0 (by decide), h8 6 1 (by decide), h8 11 9 (by decide), h8 12 54 (by decide), h8 9 0 (by decide), h8 9 1 (by decide), h8 9 2 (by decide), h8 9 3 (by decide), h8 11 7 (by decide), h8 12 23 (by decide), h8 4 0 (by decide), h8 4 1 (by decide), h8 4 2 (by decide), h8 4 3 (by decide), h8 4 5 (by decide), h8 4 6 (by decide), h8 11 11 (by decide), h8 12 38 (by decide), h8 8 0 (by decide), h8 8 1 (by decide), h8 8 2 (by decide), h8 8 3 (by decide), h8 8 5 (by decide), h8 8 6 (by decide), h8 8 7 (by decide), h8 8 8 (by decide), h8 8 9 (by decide), h8 8 10 (by decide), h8 8 11 (by decide), h8 8 12 (by decide), h8 8 13 (by decide), h8 8 14 (by decide), h8 2 3 (by decide), h8 1 0 (by decide), h8 0 0 (by decide), h8 0 1 (by decide)]
  exact hI.2
section GATM
variable {U T : Nat} {o : Nat → Bool} {b : Int32} {l3 : Option AV}
def PJ (c k : Nat) : Bool := decide (c = 12 ∧ (k = 60 ∨ k = 61))
def RJ (c k : Nat) : Bool := decide (c = 12 ∧ k = 59)
theorem m_gath (hT : T ≤ 80) : ∀ (n t : Nat) (ρ : St), t + n = T → SH ρ → gI ρ 12 38 0 = nI T → (∀ t, t < T → (gA ρ 12 39 0 t = 1 ∧ gA ρ 12 46 0 t = -4 ∧ (gA ρ 12 45 0 t).toInt ≤ b.toInt) = (o t = true)) → gI ρ 12 59 0 = nI (gcn o t) → (∀ i, i < gcn o t → gA ρ 12 60 0 i = nI (gls o t i) ∧ gA ρ 12 61 0 i = 0) → ∃ ρ' l2, frB PJ RJ ρ ρ' ∧ gI ρ' 12 59 0 = nI (gcn o T) ∧ (∀ i, i < gcn o T → gA ρ' 12 60 0 i = nI (gls o T i) ∧ gA ρ' 12 61 0 i = 0) ∧ ∀ D Q, Rn D Q (193, 7, [some (vR (some (12, 0, 0))), some (vI b), some (vI (nI t)), l3], [], ρ) = Rn D Q (193, 91, [some (vR (some (12, 0, 0))), some (vI b), some (vI l2), l3], [], ρ') := by
  intro n
  induction n with
  | zero =>
    intro t ρ hu a1 c1 c2 h1 h2
    have hu : t = T := by omega
    subst hu
    have y1 : nI t ≤ nI t := nI_le (by omega) (by omega)
    refine ⟨ρ, nI t, frB_0, h1, h2, fun D Q => ?_⟩
    rw [e193_7]
    simp +decide only [e193_0, e193_1, e193_2, e193_5, e193_6, e193_8, e193_9, e193_12, e193_15, e193_16, e193_19, e193_21, e193_24, e193_25, e193_28, e193_29, e193_30, e193_31, e193_34, e193_35, e193_38, e193_39, e193_40, e193_42, e193_45, e193_46, e193_49, e193_50, e193_51, e193_52, e193_55, e193_56, e193_59, e193_60, e193_63, e193_64, e193_65, e193_66, e193_69, e193_70, e193_73, e193_74, e193_75, e193_76, e193_77, e193_80, e193_81, e193_82, e193_85, e193_88, e193_92, e193_93, e193_96, e193_97, e193_99, e193_102, e193_103, e193_106, e193_107, e193_110, e193_111, e193_114, e193_117, e193_118, e193_121, e193_124, e193_125, e193_128, e193_129, e193_132, e193_135, e193_136, e193_139, e193_140, e193_143, e193_146, e193_147, e193_148, e193_151, e193_154, e193_155, e193_156, e193_159, e193_162, e193_163, e193_165, e193_166, e193_169, e193_172, e193_173, e193_176, e193_177, e193_178, e193_181, e193_182, e193_183, e193_184, e193_187, e193_190, e193_191, e193_194, e193_195, e193_198, true_and, and_true, or_true, true_or, if_true, if_false, not_true_eq_false, not_false_eq_true, ne_eq, and_self, Option.toList_some, Option.toList_none, List.cons_append, List.nil_append, catS_0, catS_I, catS_L, catS_R, Option.map_some, Option.map_none, c1, y1, N12 a1]
  | succ n ih =>
    intro t ρ hu a1 c1 c2 h1 h2
    have y1 : ¬ nI T ≤ nI t := nI_ge (by omega) (by omega)
    have y2 : (nI t).toInt = (t : Int) := nI_toInt (by omega)
    have y3 : (0 : Int) ≤ (t : Int) := by omega
    have y4 : (t : Int) < ((80 : Nat) : Int) := by omega
    have y5 : (nI t).toNatClampNeg = t := nI_clamp (by omega)
    have gl := gcn_le (o := o) t
    by_cases h6 : gcn o t < 6
    · have z1 : ¬ (6 : Int32) ≤ nI (gcn o t) := nI_ge (b := 6) (by omega) (by omega)
      have z2 : (nI (gcn o t)).toInt = (gcn o t : Int) := nI_toInt (by omega)
      have z3 : (0 : Int) ≤ (gcn o t : Int) := by omega
      have z4 : (gcn o t : Int) < ((6 : Nat) : Int) := by omega
      have z5 : (nI (gcn o t)).toNatClampNeg = gcn o t := nI_clamp (by omega)
      have hco := c2 t (by omega)
      by_cases ho : o t = true
      · rw [ho] at hco
        have hco : (gA ρ 12 39 0 t = 1 ∧ gA ρ 12 46 0 t = -4 ∧ (gA ρ 12 45 0 t).toInt ≤ b.toInt) := by rw [hco]
        obtain ⟨o1, o2, o3⟩ := hco
        have o3 : ¬ b < gA ρ 12 45 0 t := by rw [ltI]; omega
        obtain ⟨k1, k2⟩ := gcn_y ho h6
        obtain ⟨ρ', l2, p1, p2, p3, p4⟩ := ih (t + 1) (setI (setA (setA ρ 12 60 0 (upd (gA ρ 12 60 0) (gcn o t) (nI t))) 12 61 0 (upd (gA ρ 12 61 0) (gcn o t) 0)) 12 59 0 (nI (gcn o t + 1))) (by omega) (SH_I (SH_A (SH_A a1))) (by simp +decide only [II, AA, RR, QQ, IA, IR, IQ, AI, AR, AQ, RI, RA, RQ, QI, QA, QR, LI, LA, LR, LQ, NI, NA, NR, NQ, HI, HA, HR, HQ, SI, SA, SR, SQ, true_and, and_true, or_true, true_or, if_true, if_false, not_true_eq_false, not_false_eq_true, ne_eq, and_self]; exact c1) (by simp +decide only [II, AA, RR, QQ, IA, IR, IQ, AI, AR, AQ, RI, RA, RQ, QI, QA, QR, LI, LA, LR, LQ, NI, NA, NR, NQ, HI, HA, HR, HQ, SI, SA, SR, SQ, true_and, and_true, or_true, true_or, if_true, if_false, not_true_eq_false, not_false_eq_true, ne_eq, and_self]; exact c2) (by simp +decide only [II, AA, RR, QQ, IA, IR, IQ, AI, AR, AQ, RI, RA, RQ, QI, QA, QR, LI, LA, LR, LQ, NI, NA, NR, NQ, HI, HA, HR, HQ, SI, SA, SR, SQ, true_and, and_true, or_true, true_or, if_true, if_false, not_true_eq_false, not_false_eq_true, ne_eq, and_self]; rw [updS0, k1]) (by
          simp +decide only [II, AA, RR, QQ, IA, IR, IQ, AI, AR, AQ, RI, RA, RQ, QI, QA, QR, LI, LA, LR, LQ, NI, NA, NR, NQ, HI, HA, HR, HQ, SI, SA, SR, SQ, true_and, and_true, or_true, true_or, if_true, if_false, not_true_eq_false, not_false_eq_true, ne_eq, and_self]
          rw [k1, k2]
          intro i hi
          by_cases hit : i = gcn o t
          · rw [hit, updS0, updS0, vaS]; exact ⟨rfl, rfl⟩
          · rw [pk_un hit, pk_un hit, va_up_ne _ _ hit]; exact h2 i (by omega))
        refine ⟨ρ', l2, frB_t (frB_t (frB_t (frB_A (by decide)) (frB_A (by decide))) (frB_I (by decide))) p1, p2, p3, fun D Q => ?_⟩
        rw [← p4 D Q, e193_7, ← nI_1 t]
        simp +decide only [e193_0, e193_1, e193_2, e193_5, e193_6, e193_8, e193_9, e193_12, e193_15, e193_16, e193_19, e193_21, e193_24, e193_25, e193_28, e193_29, e193_30, e193_31, e193_34, e193_35, e193_38, e193_39, e193_40, e193_42, e193_45, e193_46, e193_49, e193_50, e193_51, e193_52, e193_55, e193_56, e193_59, e193_60, e193_63, e193_64, e193_65, e193_66, e193_69, e193_70, e193_73, e193_74, e193_75, e193_76, e193_77, e193_80, e193_81, e193_82, e193_85, e193_88, e193_92, e193_93, e193_96, e193_97, e193_99, e193_102, e193_103, e193_106, e193_107, e193_110, e193_111, e193_114, e193_117, e193_118, e193_121, e193_124, e193_125, e193_128, e193_129, e193_132, e193_135, e193_136, e193_139, e193_140, e193_143, e193_146, e193_147, e193_148, e193_151, e193_154, e193_155, e193_156, e193_159, e193_162, e193_163, e193_165, e193_166, e193_169, e193_172, e193_173, e193_176, e193_177, e193_178, e193_181, e193_182, e193_183, e193_184, e193_187, e193_190, e193_191, e193_194, e193_195, e193_198, true_and, and_true, or_true, true_or, if_true, if_false, not_true_eq_false, not_false_eq_true, ne_eq, and_self, Option.toList_some, Option.toList_none, List.cons_append, List.nil_append, catS_0, catS_I, catS_L, catS_R, Option.map_some, Option.map_none, Option.some.injEq, Sum.inl.injEq, exists_eq_left', exists_eq', II, AA, RR, QQ, IA, IR, IQ, AI, AR, AQ, RI, RA, RQ, QI, QA, QR, LI, LA, LR, LQ, NI, NA, NR, NQ, HI, HA, HR, HQ, SI, SA, SR, SQ, c1, h1, o1, o2, o3, y1, y2, y3, y4, y5, z1, z2, z3, z4, z5, nI_1 (gcn o t), N12 a1, L12_39 a1, L12_46 a1, L12_45 a1, L12_60 a1, L12_61 a1]
      · have hco : ¬ (gA ρ 12 39 0 t = 1 ∧ gA ρ 12 46 0 t = -4 ∧ (gA ρ 12 45 0 t).toInt ≤ b.toInt) := by rw [hco]; exact ho
        obtain ⟨k1, k2⟩ := gcn_n (o := o) (t := t) (fun z => ho z.1)
        obtain ⟨ρ', l2, p1, p2, p3, p4⟩ := ih (t + 1) ρ (by omega) a1 c1 c2 (by rw [k1]; exact h1) (by rw [k1, k2]; exact h2)
        refine ⟨ρ', l2, p1, p2, p3, fun D Q => ?_⟩
        rw [← p4 D Q, e193_7, ← nI_1 t]
        by_cases o1 : gA ρ 12 39 0 t = 1
        · by_cases o2 : gA ρ 12 46 0 t = -4
          · have o3 : b < gA ρ 12 45 0 t := by rw [ltI]; exact Int.lt_of_not_ge (fun z => hco ⟨o1, o2, z⟩)
            simp +decide only [e193_0, e193_1, e193_2, e193_5, e193_6, e193_8, e193_9, e193_12, e193_15, e193_16, e193_19, e193_21, e193_24, e193_25, e193_28, e193_29, e193_30, e193_31, e193_34, e193_35, e193_38, e193_39, e193_40, e193_42, e193_45, e193_46, e193_49, e193_50, e193_51, e193_52, e193_55, e193_56, e193_59, e193_60, e193_63, e193_64, e193_65, e193_66, e193_69, e193_70, e193_73, e193_74, e193_75, e193_76, e193_77, e193_80, e193_81, e193_82, e193_85, e193_88, e193_92, e193_93, e193_96, e193_97, e193_99, e193_102, e193_103, e193_106, e193_107, e193_110, e193_111, e193_114, e193_117, e193_118, e193_121, e193_124, e193_125, e193_128, e193_129, e193_132, e193_135, e193_136, e193_139, e193_140, e193_143, e193_146, e193_147, e193_148, e193_151, e193_154, e193_155, e193_156, e193_159, e193_162, e193_163, e193_165, e193_166, e193_169, e193_172, e193_173, e193_176, e193_177, e193_178, e193_181, e193_182, e193_183, e193_184, e193_187, e193_190, e193_191, e193_194, e193_195, e193_198, true_and, and_true, or_true, true_or, if_true, if_false, not_true_eq_false, not_false_eq_true, ne_eq, and_self, Option.toList_some, Option.toList_none, List.cons_append, List.nil_append, catS_0, catS_I, catS_L, catS_R, Option.map_some, Option.map_none, Option.some.injEq, Sum.inl.injEq, exists_eq_left', exists_eq', II, AA, RR, QQ, IA, IR, IQ, AI, AR, AQ, RI, RA, RQ, QI, QA, QR, LI, LA, LR, LQ, NI, NA, NR, NQ, HI, HA, HR, HQ, SI, SA, SR, SQ, c1, h1, o1, o2, o3, y1, y2, y3, y4, y5, z1, N12 a1, L12_39 a1, L12_46 a1, L12_45 a1]
          · simp +decide only [e193_0, e193_1, e193_2, e193_5, e193_6, e193_8, e193_9, e193_12, e193_15, e193_16, e193_19, e193_21, e193_24, e193_25, e193_28, e193_29, e193_30, e193_31, e193_34, e193_35, e193_38, e193_39, e193_40, e193_42, e193_45, e193_46, e193_49, e193_50, e193_51, e193_52, e193_55, e193_56, e193_59, e193_60, e193_63, e193_64, e193_65, e193_66, e193_69, e193_70, e193_73, e193_74, e193_75, e193_76, e193_77, e193_80, e193_81, e193_82, e193_85, e193_88, e193_92, e193_93, e193_96, e193_97, e193_99, e193_102, e193_103, e193_106, e193_107, e193_110, e193_111, e193_114, e193_117, e193_118, e193_121, e193_124, e193_125, e193_128, e193_129, e193_132, e193_135, e193_136, e193_139, e193_140, e193_143, e193_146, e193_147, e193_148, e193_151, e193_154, e193_155, e193_156, e193_159, e193_162, e193_163, e193_165, e193_166, e193_169, e193_172, e193_173, e193_176, e193_177, e193_178, e193_181, e193_182, e193_183, e193_184, e193_187, e193_190, e193_191, e193_194, e193_195, e193_198, true_and, and_true, or_true, true_or, if_true, if_false, not_true_eq_false, not_false_eq_true, ne_eq, and_self, Option.toList_some, Option.toList_none, List.cons_append, List.nil_append, catS_0, catS_I, catS_L, catS_R, Option.map_some, Option.map_none, Option.some.injEq, Sum.inl.injEq, exists_eq_left', exists_eq', II, AA, RR, QQ, IA, IR, IQ, AI, AR, AQ, RI, RA, RQ, QI, QA, QR, LI, LA, LR, LQ, NI, NA, NR, NQ, HI, HA, HR, HQ, SI, SA, SR, SQ, c1, h1, o1, o2, y1, y2, y3, y4, y5, z1, N12 a1, L12_39 a1, L12_46 a1]
        · simp +decide only [e193_0, e193_1, e193_2, e193_5, e193_6, e193_8, e193_9, e193_12, e193_15, e193_16, e193_19, e193_21, e193_24, e193_25, e193_28, e193_29, e193_30, e193_31, e193_34, e193_35, e193_38, e193_39, e193_40, e193_42, e193_45, e193_46, e193_49, e193_50, e193_51, e193_52, e193_55, e193_56, e193_59, e193_60, e193_63, e193_64, e193_65, e193_66, e193_69, e193_70, e193_73, e193_74, e193_75, e193_76, e193_77, e193_80, e193_81, e193_82, e193_85, e193_88, e193_92, e193_93, e193_96, e193_97, e193_99, e193_102, e193_103, e193_106, e193_107, e193_110, e193_111, e193_114, e193_117, e193_118, e193_121, e193_124, e193_125, e193_128, e193_129, e193_132, e193_135, e193_136, e193_139, e193_140, e193_143, e193_146, e193_147, e193_148, e193_151, e193_154, e193_155, e193_156, e193_159, e193_162, e193_163, e193_165, e193_166, e193_169, e193_172, e193_173, e193_176, e193_177, e193_178, e193_181, e193_182, e193_183, e193_184, e193_187, e193_190, e193_191, e193_194, e193_195, e193_198, true_and, and_true, or_true, true_or, if_true, if_false, not_true_eq_false, not_false_eq_true, ne_eq, and_self, Option.toList_some, Option.toList_none, List.cons_append, List.nil_append, catS_0, catS_I, catS_L, catS_R, Option.map_some, Option.map_none, Option.some.injEq, Sum.inl.injEq, exists_eq_left', exists_eq', II, AA, RR, QQ, IA, IR, IQ, AI, AR, AQ, RI, RA, RQ, QI, QA, QR, LI, LA, LR, LQ, NI, NA, NR, NQ, HI, HA, HR, HQ, SI, SA, SR, SQ, c1, h1, o1, y1, y2, y3, y4, y5, z1, N12 a1, L12_39 a1]
    · have z1 : (6 : Int32) ≤ nI (gcn o t) := nI_le (a := 6) (by omega) (by omega)
      obtain ⟨g1, g2⟩ := gcn_6 h6 (n + 1)
      rw [hu] at g1 g2
      refine ⟨ρ, nI t, frB_0, by rw [g1]; exact h1, by rw [g1, g2]; exact h2, fun D Q => ?_⟩
      rw [e193_7]
      simp +decide only [e193_0, e193_1, e193_2, e193_5, e193_6, e193_8, e193_9, e193_12, e193_15, e193_16, e193_19, e193_21, e193_24, e193_25, e193_28, e193_29, e193_30, e193_31, e193_34, e193_35, e193_38, e193_39, e193_40, e193_42, e193_45, e193_46, e193_49, e193_50, e193_51, e193_52, e193_55, e193_56, e193_59, e193_60, e193_63, e193_64, e193_65, e193_66, e193_69, e193_70, e193_73, e193_74, e193_75, e193_76, e193_77, e193_80, e193_81, e193_82, e193_85, e193_88, e193_92, e193_93, e193_96, e193_97, e193_99, e193_102, e193_103, e193_106, e193_107, e193_110, e193_111, e193_114, e193_117, e193_118, e193_121, e193_124, e193_125, e193_128, e193_129, e193_132, e193_135, e193_136, e193_139, e193_140, e193_143, e193_146, e193_147, e193_148, e193_151, e193_154, e193_155, e193_156, e193_159, e193_162, e193_163, e193_165, e193_166, e193_169, e193_172, e193_173, e193_176, e193_177, e193_178, e193_181, e193_182, e193_183, e193_184, e193_187, e193_190, e193_191, e193_194, e193_195, e193_198, true_and, and_true, or_true, true_or, if_true, if_false, not_true_eq_false, not_false_eq_true, ne_eq, and_self, Option.toList_some, Option.toList_none, List.cons_append, List.nil_append, catS_0, catS_I, catS_L, catS_R, Option.map_some, Option.map_none, c1, h1, y1, z1, N12 a1]
def PZ (c k : Nat) : Bool := decide (c = 12 ∧ 60 ≤ k ∧ k ≤ 63)
def RZ (c k : Nat) : Bool := decide (c = 12 ∧ (k = 59 ∨ (64 ≤ k ∧ k ≤ 67)))
theorem PZ_J : ∀ c k, PZ c k = false → PJ c k = false := by
  intro c k h
  unfold PZ at h
  unfold PJ
  rw [decide_eq_false_iff_not] at *
  omega
theorem RZ_J : ∀ c k, RZ c k = false → RJ c k = false := by
  intro c k h
  unfold RZ at h
  unfold RJ
  rw [decide_eq_false_iff_not] at *
  omega
theorem PZ_K : ∀ c k, PZ c k = false → PK c k = false := by
  intro c k h
  unfold PZ at h
  unfold PK
  rw [decide_eq_false_iff_not] at *
  omega
theorem RZ_K : ∀ c k, RZ c k = false → RK c k = false := by
  intro c k h
  unfold RZ at h
  unfold RK
  rw [decide_eq_false_iff_not] at *
  omega
theorem m_findS {s : Nat → Nat → Bool} {pace l0 : Nat → Nat} {ρ : St} (hT : T ≤ 80) (hU : U ≤ 6) (a1 : SH ρ) (c1 : gI ρ 12 38 0 = nI T) (c2 : ∀ t, t < T → (gA ρ 12 39 0 t = 1 ∧ gA ρ 12 46 0 t = -4 ∧ (gA ρ 12 45 0 t).toInt ≤ b.toInt) = (o t = true)) (c3 : gI ρ 12 54 0 = nI U) (c4 : ∀ u, u < U → gA ρ 12 58 0 u = nI (l0 u) ∧ l0 u ≤ 12 ∧ gA ρ 12 56 0 u = nI (pace u) ∧ 1 ≤ pace u ∧ pace u ≤ 9) (c5 : ∀ t u, t < T → u < U → ((gA ρ 12 55 0 u >>> ((gA ρ 12 41 0 t / 10) &&& 31)) &&& 1 = 1 ∧ (gA ρ 12 57 0 u >>> (gA ρ 12 40 0 t &&& 31)) &&& 1 = 0) = (s t u = true)) : ∃ ρ', frB PZ RZ ρ ρ' ∧ gI ρ' 12 59 0 = nI (gcn o T) ∧ (∀ i, i < gcn o T → gA ρ' 12 60 0 i = nI (gls o T i)) ∧ BR (gcn o T) U (BB (gcn o T) U (fun i u => s (gls o T i) u) pace l0) ρ' ∧ ∀ D Q, Rn (D + 3) Q (193, 0, [some (vR (some (12, 0, 0))), some (vI b), none, none], [], ρ) = Q none ρ' := by
  obtain ⟨ρ1, l2, p1, p2, p3, p4⟩ := m_gath (o := o) (b := b) (l3 := none) hT T 0 (setI ρ 12 59 0 0) (by omega) (SH_I a1) (by simp +decide only [II, AA, RR, QQ, IA, IR, IQ, AI, AR, AQ, RI, RA, RQ, QI, QA, QR, LI, LA, LR, LQ, NI, NA, NR, NQ, HI, HA, HR, HQ, SI, SA, SR, SQ, true_and, and_true, or_true, true_or, if_true, if_false, not_true_eq_false, not_false_eq_true, ne_eq, and_self]; exact c1) (by simp +decide only [II, AA, RR, QQ, IA, IR, IQ, AI, AR, AQ, RI, RA, RQ, QI, QA, QR, LI, LA, LR, LQ, NI, NA, NR, NQ, HI, HA, HR, HQ, SI, SA, SR, SQ, true_and, and_true, or_true, true_or, if_true, if_false, not_true_eq_false, not_false_eq_true, ne_eq, and_self]; exact c2) (by simp +decide only [II, AA, RR, QQ, IA, IR, IQ, AI, AR, AQ, RI, RA, RQ, QI, QA, QR, LI, LA, LR, LQ, NI, NA, NR, NQ, HI, HA, HR, HQ, SI, SA, SR, SQ, true_and, and_true, or_true, true_or, if_true, if_false, not_true_eq_false, not_false_eq_true, ne_eq, and_self]; exact updS0) (fun i hi => absurd hi (by show ¬ i < 0; omega))
  have hK := gcn_le (o := o) T
  have b1 : SH ρ1 := SH_frB p1 (SH_I a1)
  have fr1 := p1
  obtain ⟨q1, q2, q3, q4, q5, q6, q7, q8⟩ := p1
  have hC1 : SRr (gcn o T) U (fun i u => s (gls o T i) u) pace l0 (gls o T) ρ1 := by
    refine ⟨b1, ?_⟩
    rw [q8 12 54 (by decide), q7 12 58 (by decide), q7 12 56 (by decide), q7 12 55 (by decide), q7 12 41 (by decide), q7 12 57 (by decide), q7 12 40 (by decide)]
    simp +decide only [II, AA, RR, QQ, IA, IR, IQ, AI, AR, AQ, RI, RA, RQ, QI, QA, QR, LI, LA, LR, LQ, NI, NA, NR, NQ, HI, HA, HR, HQ, SI, SA, SR, SQ, true_and, and_true, or_true, true_or, if_true, if_false, not_true_eq_false, not_false_eq_true, ne_eq, and_self]
    exact ⟨c3, p2, fun i hi => ⟨(p3 i hi).1, by have := gls_lt (o := o) T i hi; omega⟩, c4, fun i u hi hu => c5 (gls o T i) u (gls_lt (o := o) T i hi) hu⟩
  have hC2 : SRr (gcn o T) U (fun i u => s (gls o T i) u) pace l0 (gls o T) (setI ρ1 12 64 0 (-1)) := SR_fr (frB_I (by decide)) hC1
  obtain ⟨ρ3, m3, r1, r2, r3, r4⟩ := m_sub (dy := b) hK hU (gcn o T) 0 (fun _ => 0) (-1, 0, fun _ => 0) (setI ρ1 12 64 0 (-1)) none (by omega) hC2 (fun j hj => by omega) (by
    simp +decide only [II, AA, RR, QQ, IA, IR, IQ, AI, AR, AQ, RI, RA, RQ, QI, QA, QR, LI, LA, LR, LQ, NI, NA, NR, NQ, HI, HA, HR, HQ, SI, SA, SR, SQ, true_and, and_true, or_true, true_or, if_true, if_false, not_true_eq_false, not_false_eq_true, ne_eq, and_self]
    intro j hj
    rw [if_neg (by omega)]
    exact (p3 j hj).2) (by
    unfold BR
    simp +decide only [II, AA, RR, QQ, IA, IR, IQ, AI, AR, AQ, RI, RA, RQ, QI, QA, QR, LI, LA, LR, LQ, NI, NA, NR, NQ, HI, HA, HR, HQ, SI, SA, SR, SQ, true_and, and_true, or_true, true_or, if_true, if_false, not_true_eq_false, not_false_eq_true, ne_eq, and_self]
    refine ⟨by rw [updS0]; rfl, fun z => absurd z (by decide)⟩)
  rw [all_full (gcn o T) 0 (fun _ => 0) l0 0 0 (-1, 0, fun _ => 0) (by omega) rfl] at r3
  have hC3 := SR_fr r1 hC2
  obtain ⟨ρ4, s1, s2⟩ := m_step0 hK hU hC3 (fun j hj => by rw [r2 j hj, if_neg (by omega)])
  have d1 := hC3.1
  have s1w := frB_w (P' := PZ) (R' := RZ) (frB_w s1 PK1_w RN_w) PZ_K RZ_K
  refine ⟨ρ4, frB_t (frB_I (by decide)) (frB_t (frB_w fr1 PZ_J RZ_J) (frB_t (frB_I (by decide)) (frB_t (frB_w r1 PZ_K RZ_K) s1w))), ?_, ?_, ?_, fun D Q => ?_⟩
  · rw [s1.2.2.2.2.2.2.2 12 59 (by decide)]; exact hC3.2.2.1
  · rw [s1.2.2.2.2.2.2.1 12 60 (by decide)]; exact fun i hi => (hC3.2.2.2.1 i hi).1
  · unfold BR
    rw [s1.2.2.2.2.2.2.2 12 64 (by decide), s1.2.2.2.2.2.2.2 12 65 (by decide), s1.2.2.2.2.2.2.1 12 62 (by decide)]
    exact r3
  · have s2 := fun D => s2 (D + 2)
    rw [nI_0] at p4
    simp +decide only [e193_0, e193_1, e193_2, e193_5, e193_6, e193_8, e193_9, e193_12, e193_15, e193_16, e193_19, e193_21, e193_24, e193_25, e193_28, e193_29, e193_30, e193_31, e193_34, e193_35, e193_38, e193_39, e193_40, e193_42, e193_45, e193_46, e193_49, e193_50, e193_51, e193_52, e193_55, e193_56, e193_59, e193_60, e193_63, e193_64, e193_65, e193_66, e193_69, e193_70, e193_73, e193_74, e193_75, e193_76, e193_77, e193_80, e193_81, e193_82, e193_85, e193_88, e193_91, e193_92, e193_93, e193_96, e193_97, e193_99, e193_102, e193_103, e193_106, e193_107, e193_110, e193_111, e193_114, e193_117, e193_118, e193_121, e193_124, e193_125, e193_128, e193_129, e193_132, e193_135, e193_136, e193_139, e193_140, e193_143, e193_146, e193_147, e193_148, e193_151, e193_154, e193_155, e193_156, e193_159, e193_162, e193_163, e193_165, e193_166, e193_169, e193_172, e193_173, e193_176, e193_177, e193_178, e193_181, e193_182, e193_183, e193_184, e193_187, e193_190, e193_191, e193_194, e193_195, e193_198, true_and, and_true, or_true, true_or, if_true, if_false, not_true_eq_false, not_false_eq_true, ne_eq, and_self, Option.toList_some, Option.toList_none, List.cons_append, List.nil_append, catS_0, catS_I, catS_L, catS_R, Option.map_some, Option.map_none, Option.some.injEq, Sum.inl.injEq, exists_eq_left', exists_eq', p4, N12 a1, N12 b1]
    rw [r4 D Q]
    simp +decide only [e193_0, e193_1, e193_2, e193_5, e193_6, e193_8, e193_9, e193_12, e193_15, e193_16, e193_19, e193_21, e193_24, e193_25, e193_28, e193_29, e193_30, e193_31, e193_34, e193_35, e193_38, e193_39, e193_40, e193_42, e193_45, e193_46, e193_49, e193_50, e193_51, e193_52, e193_55, e193_56, e193_59, e193_60, e193_63, e193_64, e193_65, e193_66, e193_69, e193_70, e193_73, e193_74, e193_75, e193_76, e193_77, e193_80, e193_81, e193_82, e193_85, e193_88, e193_91, e193_92, e193_93, e193_96, e193_97, e193_99, e193_102, e193_103, e193_106, e193_107, e193_110, e193_111, e193_114, e193_117, e193_118, e193_121, e193_124, e193_125, e193_128, e193_129, e193_132, e193_135, e193_136, e193_139, e193_140, e193_143, e193_146, e193_147, e193_148, e193_151, e193_154, e193_155, e193_156, e193_159, e193_162, e193_163, e193_165, e193_166, e193_169, e193_172, e193_173, e193_176, e193_177, e193_178, e193_181, e193_182, e193_183, e193_184, e193_187, e193_190, e193_191, e193_194, e193_195, e193_198, true_and, and_true, or_true, true_or, if_true, if_false, not_true_eq_false, not_false_eq_true, ne_eq, and_self, Option.toList_some, Option.toList_none, List.cons_append, List.nil_append, catS_0, catS_I, catS_L, catS_R, Option.map_some, Option.map_none, Option.some.injEq, Sum.inl.injEq, exists_eq_left', exists_eq', s2, N12 d1]
    rw [e193_98]
    simp +decide only [e193_0, e193_1, e193_2, e193_5, e193_6, e193_8, e193_9, e193_12, e193_15, e193_16, e193_19, e193_21, e193_24, e193_25, e193_28, e193_29, e193_30, e193_31, e193_34, e193_35, e193_38, e193_39, e193_40, e193_42, e193_45, e193_46, e193_49, e193_50, e193_51, e193_52, e193_55, e193_56, e193_59, e193_60, e193_63, e193_64, e193_65, e193_66, e193_69, e193_70, e193_73, e193_74, e193_75, e193_76, e193_77, e193_80, e193_81, e193_82, e193_85, e193_88, e193_91, e193_92, e193_93, e193_96, e193_97, e193_99, e193_102, e193_103, e193_106, e193_107, e193_110, e193_111, e193_114, e193_117, e193_118, e193_121, e193_124, e193_125, e193_128, e193_129, e193_132, e193_135, e193_136, e193_139, e193_140, e193_143, e193_146, e193_147, e193_148, e193_151, e193_154, e193_155, e193_156, e193_159, e193_162, e193_163, e193_165, e193_166, e193_169, e193_172, e193_173, e193_176, e193_177, e193_178, e193_181, e193_182, e193_183, e193_184, e193_187, e193_190, e193_191, e193_194, e193_195, e193_198, true_and, and_true, or_true, true_or, if_true, if_false, not_true_eq_false, not_false_eq_true, ne_eq, and_self, Option.toList_some, Option.toList_none, List.cons_append, List.nil_append, catS_0, catS_I, catS_L, catS_R, Option.map_some, Option.map_none, Option.some.injEq, Sum.inl.injEq, exists_eq_left', exists_eq']
end GATM
