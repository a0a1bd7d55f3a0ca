section RDF
variable {c : Nat → Int32} {n : Nat}
theorem i_wa {τ : St} {a b : Int32} : setI (setI τ 12 2 0 a) 12 3 0 b = setI (setI τ 12 3 0 b) 12 2 0 a := setI_c (by decide)
/-- both read the fees alike -/
theorem rdFees (hn : n ≤ 120) (hch : ∀ j, j < n → 32 ≤ (c j).toInt) : (∃ q, q ≤ n ∧
    (∀ (σ : St) (F : Nat), SH σ → F < gN σ 1 → gI σ 7 1 0 = nI n → (∀ j, j < n → gA σ 7 0 0 j = c j) → ∃ (g1 g2 g3 : Nat → Int32) (k' : Int32), ∀ d Q, Rn (d + 5) Q (52, 0, [some (vR (some (7, 0, 0))), some (vR (some (1, 0, F))), none], [], σ) = Q (some (vI 0)) (setI (setI (setA (setA (setA σ 1 1 F g1) 1 2 F g2) 1 3 F g3) 1 0 F k') 7 2 0 (nI q))) ∧
    (∀ (τ : St), SH τ → gI τ 12 1 0 = nI n → (∀ j, j < n → gA τ 12 0 0 j = c j) → ∃ (v : Int32) (h1 h2 h3 : Nat → Int32), ∀ d Q, Rn (d + 4) Q (203, 0, [some (vR (some (12, 0, 0))), none, none, none], [], τ) = Q (some (vI v)) (setI (setI (setA (setA (setA τ 12 76 0 h1) 12 77 0 h2) 12 78 0 h3) 12 3 0 1) 12 2 0 (nI q)))) ∨
    (∃ (K : Nat) (B' : Nat → Bool) (V1' V2' : Nat → Nat), K ≤ 6 ∧ RG K B' V1' V2' ∧
    (∀ (σ : St) (F : Nat), SH σ → F < gN σ 1 → gI σ 7 1 0 = nI n → (∀ j, j < n → gA σ 7 0 0 j = c j) → ∃ (g1 g2 g3 : Nat → Int32) (e : Nat), GM K g1 g2 g3 B' V1' V2' ∧ ∀ d Q, Rn (d + 5) Q (52, 0, [some (vR (some (7, 0, 0))), some (vR (some (1, 0, F))), none], [], σ) = Q (some (vI 1)) (setI (setI (setA (setA (setA σ 1 1 F g1) 1 2 F g2) 1 3 F g3) 1 0 F (nI K)) 7 2 0 (nI e))) ∧
    (∀ (τ : St), SH τ → gI τ 12 1 0 = nI n → (∀ j, j < n → gA τ 12 0 0 j = c j) → ∃ (h1 h2 h3 : Nat → Int32) (e : Nat), FM K h1 h2 h3 B' V1' V2' ∧ ∀ d Q, Rn (d + 4) Q (203, 0, [some (vR (some (12, 0, 0))), none, none, none], [], τ) = Q (some (vI (nI K))) (setI (setI (setA (setA (setA τ 12 76 0 h1) 12 77 0 h2) 12 78 0 h3) 12 3 0 0) 12 2 0 (nI e)))) := by
  have hz := fees_l (c := c) (n := n) hn hch 5 0 0 (fun _ => true) (fun _ => 0) (fun _ => 0) (by omega) (by omega) (fun j hj => absurd hj (by omega))
  rw [nI_0] at hz
  rcases hz with ⟨q, hq, hc, hm⟩ | ⟨K, B', V1', V2', hK, hR, hc, hm⟩
  · refine Or.inl ⟨q, hq, fun σ F a1 hF hcI hcA => ?_, fun τ a1 hcI hcA => ?_⟩
    · obtain ⟨g1, g2, g3, k', t⟩ := hc (setI σ 1 0 F 0) F a1 hF (by simp +decide only [II, AA, RR, QQ, IA, IR, IQ, AI, AR, AQ, RI, RA, RQ, QI, QA, QR, LI, LA, LR, LQ, NI, NA, NR, NQ, HI, HA, HR, HQ, SI, SA, SR, SQ, true_and, and_true, or_true, true_or, if_true, if_false, not_true_eq_false, not_false_eq_true, ne_eq, and_self, updS0]) (by simp +decide only [II, AA, RR, QQ, IA, IR, IQ, AI, AR, AQ, RI, RA, RQ, QI, QA, QR, LI, LA, LR, LQ, NI, NA, NR, NQ, HI, HA, HR, HQ, SI, SA, SR, SQ, true_and, and_true, or_true, true_or, if_true, if_false, not_true_eq_false, not_false_eq_true, ne_eq, and_self, false_and, if_false]; exact hcI) hcA
      refine ⟨g1, g2, g3, k', fun d Q => ?_⟩
      have t := t d Q
      rw [setA_I, setA_I, setA_I, setI_I] at t
      have t' : Rn (d + 5) Q (52, 12, [some (vR (some (7, 0, 0))), some (vR (some (1, 0, F))), some (vI 1)], [], setI (setI σ 1 0 F 0) 7 2 0 0) = _ := t
      simp +decide only [e52_0, e52_1, e52_2, e52_5, e52_6, e52_7, e52_10, e52_11, e52_13, e52_15, e52_18, e52_19, e52_20, e52_23, e52_26, e52_27, e52_28, e52_29, e52_32, e52_33, e52_36, e52_37, e52_38, e52_39, e52_41, e52_44, e52_45, e52_47, e52_50, e52_53, e52_54, e52_55, e52_58, e52_61, e52_62, true_and, and_true, or_true, true_or, if_true, if_false, not_true_eq_false, not_false_eq_true, ne_eq, and_self, Option.toList_some, Option.toList_none, List.cons_append, List.nil_append, catS_0, catS_I, catS_L, catS_R, Option.map_some, Option.map_none, Option.some.injEq, Sum.inl.injEq, exists_eq_left', exists_eq', II, AA, RR, QQ, IA, IR, IQ, AI, AR, AQ, RI, RA, RQ, QI, QA, QR, LI, LA, LR, LQ, NI, NA, NR, NQ, HI, HA, HR, HQ, SI, SA, SR, SQ, hF, N7 a1, t']
    · obtain ⟨v, h1, h2, h3, t⟩ := hm τ none a1 hcI hcA
      refine ⟨v, h1, h2, h3, fun d Q => ?_⟩
      have t := t d Q
      simp +decide only [e203_0, e203_1, e203_2, e203_5, e203_6, e203_7, e203_10, e203_11, e203_12, e203_13, e203_15, e203_18, e203_19, e203_22, e203_25, e203_26, e203_29, e203_30, e203_31, e203_33, e203_36, e203_37, e203_39, e203_42, e203_43, e203_44, e203_47, e203_50, e203_53, e203_54, e203_55, e203_58, e203_59, e203_60, e203_63, e203_64, e203_67, e203_68, e203_69, e203_70, e203_71, e203_74, e203_75, e203_76, e203_79, e203_82, e203_83, e203_84, e203_86, e203_89, e203_90, e203_93, e203_94, e203_95, e203_96, e203_98, e203_101, e203_104, e203_107, e203_109, e203_112, e203_113, e203_116, e203_117, e203_119, e203_122, e203_123, e203_125, e203_128, e203_131, e203_132, e203_135, e203_136, e203_137, e203_140, e203_141, e203_144, e203_147, e203_148, e203_151, e203_154, e203_155, e203_156, e203_159, e203_162, e203_163, true_and, and_true, or_true, true_or, if_true, if_false, not_true_eq_false, not_false_eq_true, ne_eq, and_self, Option.toList_some, Option.toList_none, List.cons_append, List.nil_append, catS_0, catS_I, catS_L, catS_R, Option.map_some, Option.map_none, Option.some.injEq, Sum.inl.injEq, exists_eq_left', exists_eq', II, AA, RR, QQ, IA, IR, IQ, AI, AR, AQ, RI, RA, RQ, QI, QA, QR, LI, LA, LR, LQ, NI, NA, NR, NQ, HI, HA, HR, HQ, SI, SA, SR, SQ, i_wa, N12 a1, t]
  · refine Or.inr ⟨K, B', V1', V2', hK, hR, fun σ F a1 hF hcI hcA => ?_, fun τ a1 hcI hcA => ?_⟩
    · obtain ⟨g1, g2, g3, e, hG, t⟩ := hc (setI σ 1 0 F 0) F a1 hF (by simp +decide only [II, AA, RR, QQ, IA, IR, IQ, AI, AR, AQ, RI, RA, RQ, QI, QA, QR, LI, LA, LR, LQ, NI, NA, NR, NQ, HI, HA, HR, HQ, SI, SA, SR, SQ, true_and, and_true, or_true, true_or, if_true, if_false, not_true_eq_false, not_false_eq_true, ne_eq, and_self, updS0]) (by simp +decide only [II, AA, RR, QQ, IA, IR, IQ, AI, AR, AQ, RI, RA, RQ, QI, QA, QR, LI, LA, LR, LQ, NI, NA, NR, NQ, HI, HA, HR, HQ, SI, SA, SR, SQ, true_and, and_true, or_true, true_or, if_true, if_false, not_true_eq_false, not_false_eq_true, ne_eq, and_self, false_and, if_false]; exact hcI) hcA (fun j hj => absurd hj (by omega))
      refine ⟨g1, g2, g3, e, hG, fun d Q => ?_⟩
      have t := t d Q
      rw [setA_I, setA_I, setA_I, setI_I] at t
      have t' : Rn (d + 5) Q (52, 12, [some (vR (some (7, 0, 0))), some (vR (some (1, 0, F))), some (vI 1)], [], setI (setI σ 1 0 F 0) 7 2 0 0) = _ := t
      simp +decide only [e52_0, e52_1, e52_2, e52_5, e52_6, e52_7, e52_10, e52_11, e52_13, e52_15, e52_18, e52_19, e52_20, e52_23, e52_26, e52_27, e52_28, e52_29, e52_32, e52_33, e52_36, e52_37, e52_38, e52_39, e52_41, e52_44, e52_45, e52_47, e52_50, e52_53, e52_54, e52_55, e52_58, e52_61, e52_62, true_and, and_true, or_true, true_or, if_true, if_false, not_true_eq_false, not_false_eq_true, ne_eq, and_self, Option.toList_some, Option.toList_none, List.cons_append, List.nil_append, catS_0, catS_I, catS_L, catS_R, Option.map_some, Option.map_none, Option.some.injEq, Sum.inl.injEq, exists_eq_left', exists_eq', II, AA, RR, QQ, IA, IR, IQ, AI, AR, AQ, RI, RA, RQ, QI, QA, QR, LI, LA, LR, LQ, NI, NA, NR, NQ, HI, HA, HR, HQ, SI, SA, SR, SQ, hF, N7 a1, t']
    · obtain ⟨h1, h2, h3, e, hF, t⟩ := hm τ none a1 hcI hcA (fun j hj => absurd hj (by omega))
      refine ⟨h1, h2, h3, e, hF, fun d Q => ?_⟩
      have t := t d Q
      simp +decide only [e203_0, e203_1, e203_2, e203_5, e203_6, e203_7, e203_10, e203_11, e203_12, e203_13, e203_15, e203_18, e203_19, e203_22, e203_25, e203_26, e203_29, e203_30, e203_31, e203_33, e203_36, e203_37, e203_39, e203_42, e203_43, e203_44, e203_47, e203_50, e203_53, e203_54, e203_55, e203_58, e203_59, e203_60, e203_63, e203_64, e203_67, e203_68, e203_69, e203_70, e203_71, e203_74, e203_75, e203_76, e203_79, e203_82, e203_83, e203_84, e203_86, e203_89, e203_90, e203_93, e203_94, e203_95, e203_96, e203_98, e203_101, e203_104, e203_107, e203_109, e203_112, e203_113, e203_116, e203_117, e203_119, e203_122, e203_123, e203_125, e203_128, e203_131, e203_132, e203_135, e203_136, e203_137, e203_140, e203_141, e203_144, e203_147, e203_148, e203_151, e203_154, e203_155, e203_156, e203_159, e203_162, e203_163, true_and, and_true, or_true, true_or, if_true, if_false, not_true_eq_false, not_false_eq_true, ne_eq, and_self, Option.toList_some, Option.toList_none, List.cons_append, List.nil_append, catS_0, catS_I, catS_L, catS_R, Option.map_some, Option.map_none, Option.some.injEq, Sum.inl.injEq, exists_eq_left', exists_eq', II, AA, RR, QQ, IA, IR, IQ, AI, AR, AQ, RI, RA, RQ, QI, QA, QR, LI, LA, LR, LQ, NI, NA, NR, NQ, HI, HA, HR, HQ, SI, SA, SR, SQ, i_wa, N12 a1, t]
end RDF
theorem T_fees {h0 n d : Nat} {σ : St} {a : Int32} (h : Inv h0 n σ) : PR h0 n (d + 6) 99 [some (vR (some (11, 0, 0))), some (vI a), none, none] 204 [some (vR (some (12, 0, 0))), some (vI a), none, none] σ := by
  have hI := h.up
  obtain ⟨a1, a2, a3, a4, a5, a6, a7, a8, a9, a10, a11, a12, a13⟩ := h
  obtain ⟨L, L1, L2, L3, L4⟩ := a2
  unfold PR
  by_cases hA : 0 ≤ a.toInt ∧ a.toInt < 4
  · obtain ⟨X, hX, rfl, x5⟩ := nI_ex (n := 4) hA
    have x2 : (nI X).toInt = (X : Int) := nI_toInt (by omega)
    have x3 : (0 : Int) ≤ (X : Int) := by omega
    have x4 : (X : Int) < ((4 : Nat) : Int) := by omega
    have x4' : (X : Int) < 4 := by omega
    have x4'' : (X : Int) ≤ 3 := by omega
    obtain ⟨f, q1, q2, q3, q4, q5⟩ := a11
    have hF : f 4 < gN σ 1 := by rw [N1 a1]; exact q1 4 (by omega)
    have hF5 : f 4 < 5 := q1 4 (by omega)
    have fne : ∀ co, co < 4 → ¬ f co = f 4 := fun co hco z => by have := q2 co 4 (by omega) (by omega) z; omega
    rcases rdFees (c := gA σ 12 0 0) (n := L) L1 (fun j hj => (L4 j hj).2.1) with ⟨q, hq, hc, hm⟩ | ⟨K, B, V1, V2, hK, hR, hc, hm⟩
    · obtain ⟨g1, g2, g3, k', t⟩ := hc σ (f 4) a1 hF L2 (fun j hj => (L4 j hj).1)
      obtain ⟨v, h1, h2, h3, t2⟩ := hm (setI (setI (setI (setA (setA (setA σ 1 1 (f 4) g1) 1 2 (f 4) g2) 1 3 (f 4) g3) 1 0 (f 4) k') 7 2 0 (nI q)) 7 1 0 0) a1 (by simp +decide only [II, AA, RR, QQ, IA, IR, IQ, AI, AR, AQ, RI, RA, RQ, QI, QA, QR, LI, LA, LR, LQ, NI, NA, NR, NQ, HI, HA, HR, HQ, SI, SA, SR, SQ, true_and, and_true, or_true, true_or, if_true, if_false, not_true_eq_false, not_false_eq_true, ne_eq, and_self]; exact L3) (fun j hj => by simp +decide only [II, AA, RR, QQ, IA, IR, IQ, AI, AR, AQ, RI, RA, RQ, QI, QA, QR, LI, LA, LR, LQ, NI, NA, NR, NQ, HI, HA, HR, HQ, SI, SA, SR, SQ, true_and, and_true, or_true, true_or, if_true, if_false, not_true_eq_false, not_false_eq_true, ne_eq, and_self])
      simp +decide only [e99_0, e99_1, e99_2, e99_5, e99_8, e99_9, e99_10, e99_11, e99_14, e99_15, e99_18, e99_21, e99_22, e99_23, e99_26, e99_27, e99_30, e99_31, e99_34, e99_36, e99_37, e99_40, e99_43, e99_44, e99_45, e99_46, e99_49, e99_50, e99_51, e99_52, e99_53, e99_56, e99_57, e99_58, e99_61, e99_62, e99_63, e99_64, e99_67, e99_68, e99_71, e99_72, e99_73, e99_76, true_and, and_true, or_true, true_or, if_true, if_false, not_true_eq_false, not_false_eq_true, ne_eq, and_self, Option.toList_some, Option.toList_none, List.cons_append, List.nil_append, catS_0, catS_I, catS_L, catS_R, Option.map_some, Option.map_none, c_isIn, m_in, wide_toInt, c_isDay, m_isDay, m_isCourse, c_areParts, tI_m1000, tI_m20, tI_m14, tI_m13, tI_m12, tI_m11, tI_m4, tI_m3, tI_m2, tI_m1, tI_0, tI_1, tI_2, tI_3, tI_4, tI_5, tI_6, tI_7, tI_8, tI_9, tI_10, tI_11, tI_12, tI_14, tI_15, tI_16, tI_19, tI_20, tI_21, tI_30, tI_31, tI_32, tI_40, tI_60, tI_61, tI_80, tI_90, tI_97, tI_100, tI_101, tI_119, tI_120, tI_121, tI_126, tI_128, tI_255, tI_256, tI_500, tI_512, tI_600, tI_999, tI_1000, tI_3999, tI_4000, tI_4095, tI_4096, tI_99999, tI_100000, tL_0, tL_1, tL_2, tL_3, tL_4, tL_5, tL_7, tL_8, tL_9, tL_15, tL_19, tL_20, tL_32, tL_39, tL_48, tL_57, tL_60, tL_97, tL_100, tL_104, tL_126, tL_255, tL_3999, tL_4095, tL_99999, Option.some.injEq, Sum.inl.injEq, exists_eq_left', exists_eq', x2, x3, x4', q4, hF, t, N11 a1, N7 a1, R11_0 a1, II, AA, RR, QQ, IA, IR, IQ, AI, AR, AQ, RI, RA, RQ, QI, QA, QR, LI, LA, LR, LQ, NI, NA, NR, NQ, HI, HA, HR, HQ, SI, SA, SR, SQ, updS0]
      simp +decide only [e204_0, e204_1, e204_4, e204_7, e204_8, e204_9, e204_10, e204_13, e204_14, e204_15, e204_16, e204_19, e204_20, e204_23, e204_26, e204_28, e204_29, e204_32, e204_33, e204_34, e204_35, e204_38, e204_39, e204_40, e204_41, e204_42, e204_45, e204_46, e204_47, e204_48, e204_49, e204_51, e204_52, e204_55, e204_56, e204_59, e204_60, e204_61, e204_63, e204_66, e204_67, e204_70, e204_72, e204_73, e204_74, e204_75, e204_78, e204_79, e204_80, e204_81, e204_82, e204_85, e204_86, e204_87, e204_88, e204_89, e204_92, e204_94, e204_95, e204_96, e204_97, e204_100, e204_101, e204_102, e204_103, e204_104, e204_107, e204_108, e204_109, e204_110, e204_111, e204_114, e204_115, e204_116, e204_117, e204_118, e204_119, e204_120, e204_123, e204_124, e204_127, e204_129, e204_130, e204_131, e204_132, e204_135, e204_136, e204_137, e204_138, e204_139, e204_142, e204_143, e204_144, e204_145, e204_146, e204_149, e204_151, e204_152, e204_153, e204_154, e204_157, e204_158, e204_159, e204_160, e204_161, e204_164, e204_165, e204_166, e204_167, e204_168, e204_171, e204_172, e204_173, e204_174, e204_175, e204_176, e204_177, e204_180, e204_183, e204_184, true_and, and_true, or_true, true_or, if_true, if_false, not_true_eq_false, not_false_eq_true, ne_eq, and_self, Option.toList_some, Option.toList_none, List.cons_append, List.nil_append, catS_0, catS_I, catS_L, catS_R, Option.map_some, Option.map_none, c_isIn, m_in, wide_toInt, c_isDay, m_isDay, m_isCourse, c_areParts, tI_m1000, tI_m20, tI_m14, tI_m13, tI_m12, tI_m11, tI_m4, tI_m3, tI_m2, tI_m1, tI_0, tI_1, tI_2, tI_3, tI_4, tI_5, tI_6, tI_7, tI_8, tI_9, tI_10, tI_11, tI_12, tI_14, tI_15, tI_16, tI_19, tI_20, tI_21, tI_30, tI_31, tI_32, tI_40, tI_60, tI_61, tI_80, tI_90, tI_97, tI_100, tI_101, tI_119, tI_120, tI_121, tI_126, tI_128, tI_255, tI_256, tI_500, tI_512, tI_600, tI_999, tI_1000, tI_3999, tI_4000, tI_4095, tI_4096, tI_99999, tI_100000, tL_0, tL_1, tL_2, tL_3, tL_4, tL_5, tL_7, tL_8, tL_9, tL_15, tL_19, tL_20, tL_32, tL_39, tL_48, tL_57, tL_60, tL_97, tL_100, tL_104, tL_126, tL_255, tL_3999, tL_4095, tL_99999, Option.some.injEq, Sum.inl.injEq, exists_eq_left', exists_eq', x2, x3, x4'', t2, N12 a1, II, AA, RR, QQ, IA, IR, IQ, AI, AR, AQ, RI, RA, RQ, QI, QA, QR, LI, LA, LR, LQ, NI, NA, NR, NQ, HI, HA, HR, HQ, SI, SA, SR, SQ, updS0]
      refine ⟨a1, ?_⟩
      simp +decide only [II, AA, RR, QQ, IA, IR, IQ, AI, AR, AQ, RI, RA, RQ, QI, QA, QR, LI, LA, LR, LQ, NI, NA, NR, NQ, HI, HA, HR, HQ, SI, SA, SR, SQ, true_and, and_true, or_true, true_or, if_true, if_false, not_true_eq_false, not_false_eq_true, ne_eq, and_self]
      refine ⟨⟨0, by omega, updS0, updS0, fun j hj => absurd hj (by omega)⟩, a3, a4.up, a5, a6, a7, a8, a9, a10.up, ⟨f, q1, q2, q3, q4, fun co hco => ?_⟩, a12, a13.up⟩
      have hne := fne co hco
      simp only [if_neg hne]
      unfold upd
      rw [if_neg hne]
      exact q5 co hco
    · obtain ⟨g1, g2, g3, e, hG, t⟩ := hc σ (f 4) a1 hF L2 (fun j hj => (L4 j hj).1)
      have hFX : f X < 5 := q1 X (by omega)
      obtain ⟨h1, h2, h3, e2, hFM, t2⟩ := hm (setR (setQ (setI (setI (setI (setA (setA (setA σ 1 1 (f 4) g1) 1 2 (f 4) g2) 1 3 (f 4) g3) 1 0 (f 4) (nI K)) 7 2 0 (nI e)) 7 1 0 0) 11 3 0 (va_up (gQ σ 11 3 0) X (some (f 4)))) 11 5 0 (some (f X))) a1 (by simp +decide only [II, AA, RR, QQ, IA, IR, IQ, AI, AR, AQ, RI, RA, RQ, QI, QA, QR, LI, LA, LR, LQ, NI, NA, NR, NQ, HI, HA, HR, HQ, SI, SA, SR, SQ, true_and, and_true, or_true, true_or, if_true, if_false, not_true_eq_false, not_false_eq_true, ne_eq, and_self]; exact L3) (fun j hj => by simp +decide only [II, AA, RR, QQ, IA, IR, IQ, AI, AR, AQ, RI, RA, RQ, QI, QA, QR, LI, LA, LR, LQ, NI, NA, NR, NQ, HI, HA, HR, HQ, SI, SA, SR, SQ, true_and, and_true, or_true, true_or, if_true, if_false, not_true_eq_false, not_false_eq_true, ne_eq, and_self])
      obtain ⟨ρ', w1, w2, w3⟩ := m_dist (X := X) (K := K) (B := B) (V1 := V1) (V2 := V2) (o0 := gA σ 12 70 0) (o1 := gA σ 12 71 0) (o2 := gA σ 12 72 0) (p0 := gA σ 12 73 0) (p1 := gA σ 12 74 0) (p2 := gA σ 12 75 0) hX hK K 0 (setA (setA (setI (setI (setI (setA (setA (setA (setR (setQ (setI (setI (setI (setA (setA (setA σ 1 1 (f 4) g1) 1 2 (f 4) g2) 1 3 (f 4) g3) 1 0 (f 4) (nI K)) 7 2 0 (nI e)) 7 1 0 0) 11 3 0 (va_up (gQ σ 11 3 0) X (some (f 4)))) 11 5 0 (some (f X))) 12 76 0 h1) 12 77 0 h2) 12 78 0 h3) 12 3 0 0) 12 2 0 (nI e2)) 12 1 0 0) 12 70 0 (upd (gA σ 12 70 0) X 0)) 12 73 0 (upd (gA σ 12 73 0) X 0)) (by omega) a1 (by simp +decide only [II, AA, RR, QQ, IA, IR, IQ, AI, AR, AQ, RI, RA, RQ, QI, QA, QR, LI, LA, LR, LQ, NI, NA, NR, NQ, HI, HA, HR, HQ, SI, SA, SR, SQ, true_and, and_true, or_true, true_or, if_true, if_false, not_true_eq_false, not_false_eq_true, ne_eq, and_self]; exact hFM) (by
        simp +decide only [II, AA, RR, QQ, IA, IR, IQ, AI, AR, AQ, RI, RA, RQ, QI, QA, QR, LI, LA, LR, LQ, NI, NA, NR, NQ, HI, HA, HR, HQ, SI, SA, SR, SQ, true_and, and_true, or_true, true_or, if_true, if_false, not_true_eq_false, not_false_eq_true, ne_eq, and_self]
        exact ⟨updS0, updS0, fun j hj => absurd hj (by omega), fun co hco => ⟨pk_un hco, pk_un hco⟩, fun j hj => ⟨rfl, rfl, rfl, rfl⟩⟩)
      rw [nI_0] at w3
      simp +decide only [e99_0, e99_1, e99_2, e99_5, e99_8, e99_9, e99_10, e99_11, e99_14, e99_15, e99_18, e99_21, e99_22, e99_23, e99_26, e99_27, e99_30, e99_31, e99_34, e99_36, e99_37, e99_40, e99_43, e99_44, e99_45, e99_46, e99_49, e99_50, e99_51, e99_52, e99_53, e99_56, e99_57, e99_58, e99_61, e99_62, e99_63, e99_64, e99_67, e99_68, e99_71, e99_72, e99_73, e99_76, true_and, and_true, or_true, true_or, if_true, if_false, not_true_eq_false, not_false_eq_true, ne_eq, and_self, Option.toList_some, Option.toList_none, List.cons_append, List.nil_append, catS_0, catS_I, catS_L, catS_R, Option.map_some, Option.map_none, c_isIn, m_in, wide_toInt, c_isDay, m_isDay, m_isCourse, c_areParts, tI_m1000, tI_m20, tI_m14, tI_m13, tI_m12, tI_m11, tI_m4, tI_m3, tI_m2, tI_m1, tI_0, tI_1, tI_2, tI_3, tI_4, tI_5, tI_6, tI_7, tI_8, tI_9, tI_10, tI_11, tI_12, tI_14, tI_15, tI_16, tI_19, tI_20, tI_21, tI_30, tI_31, tI_32, tI_40, tI_60, tI_61, tI_80, tI_90, tI_97, tI_100, tI_101, tI_119, tI_120, tI_121, tI_126, tI_128, tI_255, tI_256, tI_500, tI_512, tI_600, tI_999, tI_1000, tI_3999, tI_4000, tI_4095, tI_4096, tI_99999, tI_100000, tL_0, tL_1, tL_2, tL_3, tL_4, tL_5, tL_7, tL_8, tL_9, tL_15, tL_19, tL_20, tL_32, tL_39, tL_48, tL_57, tL_60, tL_97, tL_100, tL_104, tL_126, tL_255, tL_3999, tL_4095, tL_99999, Option.some.injEq, Sum.inl.injEq, exists_eq_left', exists_eq', x2, x3, x4, x4', x5, q3 X hX, q4, hF, hF5, hFX, t, N11 a1, N7 a1, N1 a1, R11_0 a1, L11_3 a1, II, AA, RR, QQ, IA, IR, IQ, AI, AR, AQ, RI, RA, RQ, QI, QA, QR, LI, LA, LR, LQ, NI, NA, NR, NQ, HI, HA, HR, HQ, SI, SA, SR, SQ, updS0, vaS]
      simp +decide only [e204_0, e204_1, e204_4, e204_7, e204_8, e204_9, e204_10, e204_13, e204_14, e204_15, e204_16, e204_19, e204_20, e204_23, e204_26, e204_28, e204_29, e204_32, e204_33, e204_34, e204_35, e204_38, e204_39, e204_40, e204_41, e204_42, e204_45, e204_46, e204_47, e204_48, e204_49, e204_51, e204_52, e204_55, e204_56, e204_59, e204_60, e204_61, e204_63, e204_66, e204_67, e204_70, e204_72, e204_73, e204_74, e204_75, e204_78, e204_79, e204_80, e204_81, e204_82, e204_85, e204_86, e204_87, e204_88, e204_89, e204_92, e204_94, e204_95, e204_96, e204_97, e204_100, e204_101, e204_102, e204_103, e204_104, e204_107, e204_108, e204_109, e204_110, e204_111, e204_114, e204_115, e204_116, e204_117, e204_118, e204_119, e204_120, e204_123, e204_124, e204_127, e204_129, e204_130, e204_131, e204_132, e204_135, e204_136, e204_137, e204_138, e204_139, e204_142, e204_143, e204_144, e204_145, e204_146, e204_149, e204_151, e204_152, e204_153, e204_154, e204_157, e204_158, e204_159, e204_160, e204_161, e204_164, e204_165, e204_166, e204_167, e204_168, e204_171, e204_172, e204_173, e204_174, e204_175, e204_176, e204_177, e204_180, e204_183, e204_184, true_and, and_true, or_true, true_or, if_true, if_false, not_true_eq_false, not_false_eq_true, ne_eq, and_self, Option.toList_some, Option.toList_none, List.cons_append, List.nil_append, catS_0, catS_I, catS_L, catS_R, Option.map_some, Option.map_none, c_isIn, m_in, wide_toInt, c_isDay, m_isDay, m_isCourse, c_areParts, tI_m1000, tI_m20, tI_m14, tI_m13, tI_m12, tI_m11, tI_m4, tI_m3, tI_m2, tI_m1, tI_0, tI_1, tI_2, tI_3, tI_4, tI_5, tI_6, tI_7, tI_8, tI_9, tI_10, tI_11, tI_12, tI_14, tI_15, tI_16, tI_19, tI_20, tI_21, tI_30, tI_31, tI_32, tI_40, tI_60, tI_61, tI_80, tI_90, tI_97, tI_100, tI_101, tI_119, tI_120, tI_121, tI_126, tI_128, tI_255, tI_256, tI_500, tI_512, tI_600, tI_999, tI_1000, tI_3999, tI_4000, tI_4095, tI_4096, tI_99999, tI_100000, tL_0, tL_1, tL_2, tL_3, tL_4, tL_5, tL_7, tL_8, tL_9, tL_15, tL_19, tL_20, tL_32, tL_39, tL_48, tL_57, tL_60, tL_97, tL_100, tL_104, tL_126, tL_255, tL_3999, tL_4095, tL_99999, Option.some.injEq, Sum.inl.injEq, exists_eq_left', exists_eq', x2, x3, x4, x4'', x5, t2, w3, N12 a1, L12_70 a1, L12_73 a1, II, AA, RR, QQ, IA, IR, IQ, AI, AR, AQ, RI, RA, RQ, QI, QA, QR, LI, LA, LR, LQ, NI, NA, NR, NQ, HI, HA, HR, HQ, SI, SA, SR, SQ, updS0]
      refine ⟨SH_fr w1 a1, ?_⟩
      obtain ⟨v1, v2, v3, v4, v5, v6, v7, v8⟩ := w1
      obtain ⟨d1, d2, d3, d4, d5⟩ := w2
      rw [v1, v2, v3, v5, v6, v7]
      simp +decide only [v8 7 0 rfl, v8 12 0 rfl, v8 11 14 rfl, v8 12 68 rfl, v8 12 35 rfl, v8 12 36 rfl, v8 12 37 rfl, v8 6 2 rfl, v8 12 79 rfl, v8 12 80 rfl, v8 12 81 rfl, v8 12 55 rfl, v8 12 56 rfl, v8 12 57 rfl, v8 12 58 rfl, v8 12 39 rfl, v8 12 46 rfl, v8 12 15 rfl, v8 12 24 rfl, v8 12 25 rfl, v8 12 26 rfl, v8 12 27 rfl, v8 12 28 rfl, v8 8 4 rfl, v8 12 40 rfl, v8 12 41 rfl, v8 12 42 rfl, v8 12 43 rfl, v8 12 44 rfl, v8 12 45 rfl, v8 12 47 rfl, v8 12 48 rfl, v8 12 49 rfl, v8 12 50 rfl, v8 12 51 rfl, v8 12 52 rfl, v8 12 53 rfl, v8 2 0 rfl, v8 2 1 rfl, v8 2 2 rfl, v8 12 29 rfl, v8 12 30 rfl, v8 1 1 rfl, v8 1 2 rfl, v8 1 3 rfl, v8 11 2 rfl, v8 0 2 rfl, v8 0 3 rfl, v8 0 4 rfl, v8 0 5 rfl, v8 0 6 rfl, v8 0 7 rfl, v8 12 16 rfl, v8 12 17 rfl, v8 12 18 rfl, v8 12 19 rfl, v8 12 20 rfl, v8 12 21 rfl, v8 12 22 rfl, II, AA, RR, QQ, IA, IR, IQ, AI, AR, AQ, RI, RA, RQ, QI, QA, QR, LI, LA, LR, LQ, NI, NA, NR, NQ, HI, HA, HR, HQ, SI, SA, SR, SQ, true_and, and_true, or_true, true_or, if_true, if_false, not_true_eq_false, not_false_eq_true, ne_eq, and_self]
      refine ⟨⟨0, by omega, updS0, updS0, fun j hj => absurd hj (by omega)⟩, a3, a4.up, a5, a6, a7, a8, a9, a10.up, ⟨fun co => if co = X then f 4 else if co = 4 then f X else f co, fun co hco => ?_, fun aa bb haa hbb hab => ?_, fun co hco => ?_, ?_, fun co hco => ?_⟩, a12, a13.up⟩
      · dsimp only
        split
        · exact hF5
        · split
          · exact hFX
          · exact q1 co hco
      · dsimp only at hab
        have n1 := fne X hX
        by_cases c1 : aa = X
        · rw [if_pos c1] at hab
          by_cases c2 : bb = X
          · omega
          · rw [if_neg c2] at hab
            by_cases c3 : bb = 4
            · rw [if_pos c3] at hab; exact absurd hab.symm n1
            · rw [if_neg c3] at hab
              have := q2 4 bb (by omega) hbb hab
              omega
        · rw [if_neg c1] at hab
          by_cases c4 : aa = 4
          · rw [if_pos c4] at hab
            by_cases c2 : bb = X
            · rw [if_pos c2] at hab; exact absurd hab n1
            · rw [if_neg c2] at hab
              by_cases c3 : bb = 4
              · omega
              · rw [if_neg c3] at hab
                have := q2 X bb (by omega) hbb hab
                omega
          · rw [if_neg c4] at hab
            by_cases c2 : bb = X
            · rw [if_pos c2] at hab
              have := q2 aa 4 haa (by omega) hab
              omega
            · rw [if_neg c2] at hab
              by_cases c3 : bb = 4
              · rw [if_pos c3] at hab
                have := q2 aa X haa (by omega) hab
                omega
              · rw [if_neg c3] at hab
                exact q2 aa bb haa hbb hab
      · dsimp only
        unfold va_up
        by_cases c1 : co = X
        · rw [if_pos c1, if_pos c1]
        · rw [if_neg c1, if_neg c1, if_neg (by omega)]
          exact q3 co hco
      · dsimp only
        rw [if_neg (by omega), if_pos rfl]
        exact vaS
      · dsimp only
        by_cases c1 : co = X
        · subst c1
          simp only [if_true]
          unfold upd
          rw [if_pos rfl]
          have rkE : ∀ k, k ≤ K → rk g1 k = rk (fun j => bz (B j)) k := fun k hk => rk_ext k (fun j hj => (hG j (by omega)).1)
          refine ⟨K, hK, rfl, by rw [d1, rkE K (Nat.le_refl _)], by rw [d2, rkE K (Nat.le_refl _)], fun k hk => ?_⟩
          obtain ⟨y1, y2, y3⟩ := hG k hk
          obtain ⟨z1, z2, z3⟩ := hR k hk
          rw [y1, y2, y3, nI_toInt (by omega), nI_toInt (by omega), rkE k (by omega)]
          refine ⟨by omega, by omega, ?_⟩
          cases hB : B k with
          | true =>
            obtain ⟨j1, j2⟩ := (d3 k hk).1 hB
            exact Or.inl ⟨rfl, j1, j2⟩
          | false =>
            obtain ⟨j1, j2⟩ := (d3 k hk).2 hB
            exact Or.inr ⟨rfl, by have := z3 hB; omega, j1, j2⟩
        · have hne := fne co hco
          have c4 : ¬ co = 4 := by omega
          simp only [if_neg c1, if_neg c4, if_neg hne]
          unfold upd
          rw [if_neg hne]
          obtain ⟨cc, y1, y2, y3, y4, y5⟩ := q5 co hco
          refine ⟨cc, y1, y2, by rw [(d4 co c1).1]; exact y3, by rw [(d4 co c1).2]; exact y4, fun k hk => ?_⟩
          obtain ⟨z1, z2, z3⟩ := y5 k hk
          have r1 := rk_le (pt := gA σ 1 1 (f co)) k
          refine ⟨z1, z2, ?_⟩
          dsimp only
          rw [(d5 (6 * co + rk (gA σ 1 1 (f co)) k) (by omega)).1, (d5 (6 * co + rk (gA σ 1 1 (f co)) k) (by omega)).2.1, (d5 (6 * co + (k - rk (gA σ 1 1 (f co)) k)) (by omega)).2.2.1, (d5 (6 * co + (k - rk (gA σ 1 1 (f co)) k)) (by omega)).2.2.2]
          exact z3
  · have hA' : ¬ (0 ≤ a.toInt ∧ a.toInt ≤ 3) := by omega
    simp +decide only [e99_0, e99_1, e99_2, e99_5, e99_8, e99_9, e99_10, e99_11, e99_14, e99_15, e99_18, e99_21, e99_22, e99_23, e99_26, e99_27, e99_30, e99_31, e99_34, e99_36, e99_37, e99_40, e99_43, e99_44, e99_45, e99_46, e99_49, e99_50, e99_51, e99_52, e99_53, e99_56, e99_57, e99_58, e99_61, e99_62, e99_63, e99_64, e99_67, e99_68, e99_71, e99_72, e99_73, e99_76, true_and, and_true, or_true, true_or, if_true, if_false, not_true_eq_false, not_false_eq_true, ne_eq, and_self, Option.toList_some, Option.toList_none, List.cons_append, List.nil_append, catS_0, catS_I, catS_L, catS_R, Option.map_some, Option.map_none, c_isIn, m_in, wide_toInt, c_isDay, m_isDay, m_isCourse, c_areParts, tI_m1000, tI_m20, tI_m14, tI_m13, tI_m12, tI_m11, tI_m4, tI_m3, tI_m2, tI_m1, tI_0, tI_1, tI_2, tI_3, tI_4, tI_5, tI_6, tI_7, tI_8, tI_9, tI_10, tI_11, tI_12, tI_14, tI_15, tI_16, tI_19, tI_20, tI_21, tI_30, tI_31, tI_32, tI_40, tI_60, tI_61, tI_80, tI_90, tI_97, tI_100, tI_101, tI_119, tI_120, tI_121, tI_126, tI_128, tI_255, tI_256, tI_500, tI_512, tI_600, tI_999, tI_1000, tI_3999, tI_4000, tI_4095, tI_4096, tI_99999, tI_100000, tL_0, tL_1, tL_2, tL_3, tL_4, tL_5, tL_7, tL_8, tL_9, tL_15, tL_19, tL_20, tL_32, tL_39, tL_48, tL_57, tL_60, tL_97, tL_100, tL_104, tL_126, tL_255, tL_3999, tL_4095, tL_99999, Option.some.injEq, Sum.inl.injEq, exists_eq_left', exists_eq', hA, N11 a1]
    simp +decide only [e204_0, e204_1, e204_4, e204_7, e204_8, e204_9, e204_10, e204_13, e204_14, e204_15, e204_16, e204_19, e204_20, e204_23, e204_26, e204_28, e204_29, e204_32, e204_33, e204_34, e204_35, e204_38, e204_39, e204_40, e204_41, e204_42, e204_45, e204_46, e204_47, e204_48, e204_49, e204_51, e204_52, e204_55, e204_56, e204_59, e204_60, e204_61, e204_63, e204_66, e204_67, e204_70, e204_72, e204_73, e204_74, e204_75, e204_78, e204_79, e204_80, e204_81, e204_82, e204_85, e204_86, e204_87, e204_88, e204_89, e204_92, e204_94, e204_95, e204_96, e204_97, e204_100, e204_101, e204_102, e204_103, e204_104, e204_107, e204_108, e204_109, e204_110, e204_111, e204_114, e204_115, e204_116, e204_117, e204_118, e204_119, e204_120, e204_123, e204_124, e204_127, e204_129, e204_130, e204_131, e204_132, e204_135, e204_136, e204_137, e204_138, e204_139, e204_142, e204_143, e204_144, e204_145, e204_146, e204_149, e204_151, e204_152, e204_153, e204_154, e204_157, e204_158, e204_159, e204_160, e204_161, e204_164, e204_165, e204_166, e204_167, e204_168, e204_171, e204_172, e204_173, e204_174, e204_175, e204_176, e204_177, e204_180, e204_183, e204_184, true_and, and_true, or_true, true_or, if_true, if_false, not_true_eq_false, not_false_eq_true, ne_eq, and_self, Option.toList_some, Option.toList_none, List.cons_append, List.nil_append, catS_0, catS_I, catS_L, catS_R, Option.map_some, Option.map_none, c_isIn, m_in, wide_toInt, c_isDay, m_isDay, m_isCourse, c_areParts, tI_m1000, tI_m20, tI_m14, tI_m13, tI_m12, tI_m11, tI_m4, tI_m3, tI_m2, tI_m1, tI_0, tI_1, tI_2, tI_3, tI_4, tI_5, tI_6, tI_7, tI_8, tI_9, tI_10, tI_11, tI_12, tI_14, tI_15, tI_16, tI_19, tI_20, tI_21, tI_30, tI_31, tI_32, tI_40, tI_60, tI_61, tI_80, tI_90, tI_97, tI_100, tI_101, tI_119, tI_120, tI_121, tI_126, tI_128, tI_255, tI_256, tI_500, tI_512, tI_600, tI_999, tI_1000, tI_3999, tI_4000, tI_4095, tI_4096, tI_99999, tI_100000, tL_0, tL_1, tL_2, tL_3, tL_4, tL_5, tL_7, tL_8, tL_9, tL_15, tL_19, tL_20, tL_32, tL_39, tL_48, tL_57, tL_60, tL_97, tL_100, tL_104, tL_126, tL_255, tL_3999, tL_4095, tL_99999, Option.some.injEq, Sum.inl.injEq, exists_eq_left', exists_eq', hA', N12 a1, hI]
