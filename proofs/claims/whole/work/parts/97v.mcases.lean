/-- a claim is about to be read, at so many open ( -/
def KR (D : Nat) (Q : Option AV → St → Prop) (o : Nat) (l1 l1' l4 : Option AV) (ρ : St) : Prop := Rn (D + 4) (fun r σ' => Rn (D + 4 + 1) Q (142, 25, [some (vR (some (12, 0, 0))), l1, some (vI 1)], r.toList ++ [], σ')) (141, 4, [some (vR (some (12, 0, 0))), l1', some (vI (nI o)), some (vI 1), l4], [], ρ)
def MRes (s T0 : Nat) (c : Nat → Int32) (n : Nat) (S : List Nat) (o : Nat) (ρ : St) (x : Sum Nat (Nat × List Nat)) (run : Nat → (Option AV → St → Prop) → Prop) : Prop := match x with
  | .inl q => ∃ ρ', frB PMc RMc ρ ρ' ∧ gI ρ' 12 3 0 = 1 ∧ gI ρ' 12 2 0 = nI q ∧ ∀ D Q, run D Q = Q none ρ'
  | .inr y => ∃ ρ', frM s ρ ρ' ∧ MS s T0 c n y.1 y.2 S ρ' ∧ ∀ D Q, run D Q = Rn (D + 4 + 1) Q (142, 26, [some (vR (some (12, 0, 0))), some (vI (nI o)), some (vI 1)], [], ρ')
section MCASES
variable {s T0 : Nat} {c : Nat → Int32} {n : Nat}
/-- a claim that is no ( -/
theorem m_clean {p o : Nat} {C S : List Nat} {ρ : St} {l1 l1' l4 : Option AV} (ho : o ≤ 6) (hS : noT S) (h : MS s T0 c n p C S ρ) (hg : ¬ (sgn c n (denP c n p) = 40 ∧ o < 6)) : MRes s T0 c n S o ρ (bnd (leanP c n (denP c n p) C) (fun p' C' => .inr (p', denC (denY c n p) C'))) (fun D Q => KR D Q o l1 l1' l4 ρ) := by
  obtain ⟨ρ1, p1, p2, p3⟩ := m_preB (l1 := l1') (l4 := l4) ho h hg
  have hx := m_lean1 (o := o) (l1 := l1') (l3 := some (vI 0)) (l4 := l4) hS p2
  rw [lean_sk h.2.1] at hx
  cases hy : leanP c n (denP c n p) C with
  | inl q =>
    rw [hy] at hx
    obtain ⟨k', S', ρ2, r1, r2, r3⟩ := hx
    obtain ⟨ρ3, t1, t2, t3, t4⟩ := m_dead (o := o) (by omega) r2
    rw [bnd_l]
    refine ⟨ρ3, frB_t p1.1 (frB_t r1 t1), t2, t3, fun D Q => ?_⟩
    dsimp only
    unfold KR
    have r3 := fun Q => r3 (D + 1) Q
    have t4 := t4 (D + 3) Q
    dsimp only at r3
    rw [p3 (D + 3), r3]
    simp +decide only [e142_0, e142_1, e142_2, e142_3, e142_4, e142_7, e142_8, e142_10, e142_13, e142_14, e142_17, e142_20, e142_21, e142_22, e142_25, e142_27, e142_30, e142_31, e142_33, e142_36, e142_39, e142_40, e142_42, e142_45, e142_46, e142_47, e142_50, e142_51, e142_52, e142_55, e142_58, e142_59, e142_62, e142_65, e142_66, e142_67, e142_68, e142_70, e142_73, e142_76, e142_77, e142_79, e142_82, e142_83, e142_86, e142_87, e142_90, e142_92, e142_93, e142_94, e142_95, e142_98, e142_99, e142_100, e142_103, e142_104, e142_105, e142_108, e142_109, e142_111, e142_114, e142_117, e142_118, e142_120, e142_123, e142_124, e142_127, e142_128, e142_131, e142_133, e142_134, e142_135, e142_136, e142_139, e142_140, e142_141, e142_144, e142_145, e142_146, e142_149, e142_150, e142_153, e142_154, e142_155, e142_158, e142_161, e142_162, e142_164, e142_167, true_and, and_true, or_true, true_or, if_true, if_false, not_true_eq_false, not_false_eq_true, ne_eq, and_self, Option.toList_some, Option.toList_none, List.cons_append, List.nil_append, catS_0, catS_I, catS_L, catS_R, Option.map_some, Option.map_none, t4]
  | inr y =>
    obtain ⟨p2', C2⟩ := y
    rw [hy] at hx
    obtain ⟨ρ2, r1, r2, r3⟩ := hx
    rw [bnd_r]
    refine ⟨ρ2, frM_t p1 r1, r2, fun D Q => ?_⟩
    dsimp only
    unfold KR
    have r3 := fun Q => r3 (D + 1) Q
    dsimp only at r3
    rw [p3 (D + 3), r3]
    simp +decide only [e142_0, e142_1, e142_2, e142_3, e142_4, e142_7, e142_8, e142_10, e142_13, e142_14, e142_17, e142_20, e142_21, e142_22, e142_25, e142_27, e142_30, e142_31, e142_33, e142_36, e142_39, e142_40, e142_42, e142_45, e142_46, e142_47, e142_50, e142_51, e142_52, e142_55, e142_58, e142_59, e142_62, e142_65, e142_66, e142_67, e142_68, e142_70, e142_73, e142_76, e142_77, e142_79, e142_82, e142_83, e142_86, e142_87, e142_90, e142_92, e142_93, e142_94, e142_95, e142_98, e142_99, e142_100, e142_103, e142_104, e142_105, e142_108, e142_109, e142_111, e142_114, e142_117, e142_118, e142_120, e142_123, e142_124, e142_127, e142_128, e142_131, e142_133, e142_134, e142_135, e142_136, e142_139, e142_140, e142_141, e142_144, e142_145, e142_146, e142_149, e142_150, e142_153, e142_154, e142_155, e142_158, e142_161, e142_162, e142_164, e142_167, true_and, and_true, or_true, true_or, if_true, if_false, not_true_eq_false, not_false_eq_true, ne_eq, and_self, Option.toList_some, Option.toList_none, List.cons_append, List.nil_append, catS_0, catS_I, catS_L, catS_R, Option.map_some, Option.map_none]
/-- not a ) -/
theorem m_26 {p o : Nat} {C S : List Nat} {ρ : St} (ho : o ≤ 6) (h : MS s T0 c n p C S ρ) (hg : ¬ (sgn c n p = 41 ∧ 0 < o)) : ∃ ρ' p', frM s ρ ρ' ∧ MS s T0 c n p' C S ρ' ∧ sk c n p' = sk c n p ∧ ∀ D Q, Rn (D + 4 + 1) Q (142, 26, [some (vR (some (12, 0, 0))), some (vI (nI o)), some (vI 1)], [], ρ) = Rn (D + 4 + 1) Q (142, 67, [some (vR (some (12, 0, 0))), some (vI (nI o)), some (vI 0)], [], ρ') := by
  have a1 := h.1
  have h8 := h.2.2.2.2.2.2.2.1
  have sl := sk_le (c := c) h8
  have tk := fun {d : Nat} {Q : Option AV → St → Prop} {ch : Int32} => m_tk (d := d) (Q := Q) (ch := ch) h
  by_cases h0 : o = 0
  · subst h0
    refine ⟨ρ, p, frM_0, h, rfl, fun D Q => ?_⟩
    have y1 : nI 0 ≤ 0 := by decide
    rw [e142_26]
    simp +decide only [e142_0, e142_1, e142_2, e142_3, e142_4, e142_7, e142_8, e142_10, e142_13, e142_14, e142_17, e142_20, e142_21, e142_22, e142_25, e142_27, e142_30, e142_31, e142_33, e142_36, e142_39, e142_40, e142_42, e142_45, e142_46, e142_47, e142_50, e142_51, e142_52, e142_55, e142_58, e142_59, e142_62, e142_65, e142_66, e142_68, e142_70, e142_73, e142_76, e142_77, e142_79, e142_82, e142_83, e142_86, e142_87, e142_90, e142_92, e142_93, e142_94, e142_95, e142_98, e142_99, e142_100, e142_103, e142_104, e142_105, e142_108, e142_109, e142_111, e142_114, e142_117, e142_118, e142_120, e142_123, e142_124, e142_127, e142_128, e142_131, e142_133, e142_134, e142_135, e142_136, e142_139, e142_140, e142_141, e142_144, e142_145, e142_146, e142_149, e142_150, e142_153, e142_154, e142_155, e142_158, e142_161, e142_162, e142_164, e142_167, true_and, and_true, or_true, true_or, if_true, if_false, not_true_eq_false, not_false_eq_true, ne_eq, and_self, Option.toList_some, Option.toList_none, List.cons_append, List.nil_append, catS_0, catS_I, catS_L, catS_R, Option.map_some, Option.map_none, y1]
  · have y1 : ¬ nI o ≤ 0 := nI_nle (by omega) (by omega)
    have hg' : ¬ sgn c n p = 41 := fun z => hg ⟨z, by omega⟩
    refine ⟨setI ρ 12 2 0 (nI (sk c n p)), sk c n p, frM_I (by decide), MS_p h sl.1 sl.2, sk_sk h.2.1, fun D Q => ?_⟩
    rw [e142_26]
    simp +decide only [e142_0, e142_1, e142_2, e142_3, e142_4, e142_7, e142_8, e142_10, e142_13, e142_14, e142_17, e142_20, e142_21, e142_22, e142_25, e142_27, e142_30, e142_31, e142_33, e142_36, e142_39, e142_40, e142_42, e142_45, e142_46, e142_47, e142_50, e142_51, e142_52, e142_55, e142_58, e142_59, e142_62, e142_65, e142_66, e142_68, e142_70, e142_73, e142_76, e142_77, e142_79, e142_82, e142_83, e142_86, e142_87, e142_90, e142_92, e142_93, e142_94, e142_95, e142_98, e142_99, e142_100, e142_103, e142_104, e142_105, e142_108, e142_109, e142_111, e142_114, e142_117, e142_118, e142_120, e142_123, e142_124, e142_127, e142_128, e142_131, e142_133, e142_134, e142_135, e142_136, e142_139, e142_140, e142_141, e142_144, e142_145, e142_146, e142_149, e142_150, e142_153, e142_154, e142_155, e142_158, e142_161, e142_162, e142_164, e142_167, true_and, and_true, or_true, true_or, if_true, if_false, not_true_eq_false, not_false_eq_true, ne_eq, and_self, Option.toList_some, Option.toList_none, List.cons_append, List.nil_append, catS_0, catS_I, catS_L, catS_R, Option.map_some, Option.map_none, y1, tk, hg', N12 a1]
theorem MS_pushW {p t : Nat} {C S : List Nat} {ρ : St} {v : Int32} (hv : wvT t = v) (h : MS s T0 c n p C S ρ) (hl : s + C.length + S.length + 1 ≤ p) : MS s T0 c n p C (t :: S) (setI (setA ρ 12 13 0 (upd (gA ρ 12 13 0) S.length v)) 12 14 0 (nI (S.length + 1))) ∧ frM s ρ (setI (setA ρ 12 13 0 (upd (gA ρ 12 13 0) S.length v)) 12 14 0 (nI (S.length + 1))) := by
  subst hv
  exact MS_push h hl
theorem m_amp {p o : Nat} {C Ss : List Nat} {ρ : St} {hB : Bool} (ho : o ≤ 6) (hS : bs3 Ss) (h : MS s T0 c n p C (bC hB 1001 Ss) ρ) (hg : sgn c n p = 38) : ∃ ρ', frM s ρ ρ' ∧ MS s T0 c n (sk c n p + 1) (bC hB 1001 C) (1001 :: Ss) ρ' ∧ ∀ D Q, Rn (D + 4 + 1) Q (142, 26, [some (vR (some (12, 0, 0))), some (vI (nI o)), some (vI 1)], [], ρ) = KR D Q o (some (vI (nI o))) (some (vI (nI o))) none ρ' := by
  obtain ⟨ρ1, p1, q1, q2, q3, q4⟩ := m_26 ho h (fun z => by rw [hg] at z; exact absurd z.1 (by decide))
  have h8 := q2.2.2.2.2.2.2.2.1
  have sg : sgn c n p1 = 38 := by unfold sgn; rw [q3]; exact hg
  have hlt := sgn_n h8 sg (by decide)
  have sl := sk_le (c := c) h8
  have tk := fun {d : Nat} {Q : Option AV → St → Prop} {ch : Int32} => m_tk (d := d) (Q := Q) (ch := ch) q2
  have k14 := q2.2.2.2.2.2.2.2.2.2.2.2.2.2
  obtain ⟨ρ2, r1, r2, r3⟩ := m_flush3 hS (MS_p q2 (q := sk c n p1 + 1) (by omega) (by omega))
  have k14' := r2.2.2.2.2.2.2.2.2.2.2.2.2.2
  have hlen : s + (bC hB 1001 C).length + Ss.length + 1 ≤ sk c n p1 + 1 := by
    cases hB with
    | false => rw [bC_f] at k14 ⊢; rw [bC_f] at k14; omega
    | true =>
      rw [bC_t] at k14 ⊢
      have k14 : s + C.length + (Ss.length + 1) ≤ p1 := k14
      show s + (C.length + 1) + Ss.length + 1 ≤ sk c n p1 + 1
      omega
  obtain ⟨u1, u2⟩ := MS_pushW (t := 1001) (v := -3) (by decide) r2 hlen
  have b1 := q2.1
  have b2 := r2.1
  have b3 := u1.1
  have w12 : gI ρ2 12 14 0 = nI Ss.length := r2.2.2.2.2.2.2.2.2.2.2.2.1
  have w6 := u1.2.2.2.2.2.1
  have n120 := q2.2.1
  have y2 : (nI Ss.length).toInt = (Ss.length : Int) := nI_toInt (by omega)
  have y3 : (0 : Int) ≤ (Ss.length : Int) := by omega
  have y4 : (Ss.length : Int) < ((128 : Nat) : Int) := by omega
  have y5 : (nI Ss.length).toNatClampNeg = Ss.length := nI_clamp (by omega)
  rw [q3] at u1
  refine ⟨_, frM_t q1 (frM_t (frM_I (by decide)) (frM_t r1 u2)), u1, fun D Q => ?_⟩
  have r3 := fun Q => r3 (D + 3) Q
  unfold KR
  rw [q4 D Q]
  simp +decide only [e142_0, e142_1, e142_2, e142_3, e142_4, e142_7, e142_8, e142_10, e142_13, e142_14, e142_17, e142_20, e142_21, e142_22, e142_25, e142_27, e142_30, e142_31, e142_33, e142_36, e142_39, e142_40, e142_42, e142_45, e142_46, e142_47, e142_50, e142_51, e142_52, e142_55, e142_58, e142_59, e142_62, e142_65, e142_66, e142_67, e142_68, e142_70, e142_73, e142_76, e142_77, e142_79, e142_82, e142_83, e142_86, e142_87, e142_90, e142_92, e142_93, e142_94, e142_95, e142_98, e142_99, e142_100, e142_103, e142_104, e142_105, e142_108, e142_109, e142_111, e142_114, e142_117, e142_118, e142_120, e142_123, e142_124, e142_127, e142_128, e142_131, e142_133, e142_134, e142_135, e142_136, e142_139, e142_140, e142_141, e142_144, e142_145, e142_146, e142_149, e142_150, e142_153, e142_154, e142_155, e142_158, e142_161, e142_162, e142_164, e142_167, true_and, and_true, or_true, true_or, if_true, if_false, not_true_eq_false, not_false_eq_true, ne_eq, and_self, Option.toList_some, Option.toList_none, List.cons_append, List.nil_append, catS_0, catS_I, catS_L, catS_R, Option.map_some, Option.map_none, Option.some.injEq, Sum.inl.injEq, exists_eq_left', exists_eq', II, AA, RR, QQ, IA, IR, IQ, AI, AR, AQ, RI, RA, RQ, QI, QA, QR, LI, LA, LR, LQ, NI, NA, NR, NQ, HI, HA, HR, HQ, SI, SA, SR, SQ, tk, sg, r3, w12, nI_1 Ss.length, y2, y3, y4, y5, N12 b1, N12 b2, L12_13 b2]
  rw [e142_9]
  simp +decide only [e142_0, e142_1, e142_2, e142_3, e142_4, e142_7, e142_8, e142_10, e142_13, e142_14, e142_17, e142_20, e142_21, e142_22, e142_27, e142_30, e142_31, e142_33, e142_36, e142_39, e142_40, e142_42, e142_45, e142_46, e142_47, e142_50, e142_51, e142_52, e142_55, e142_58, e142_59, e142_62, e142_65, e142_66, e142_67, e142_68, e142_70, e142_73, e142_76, e142_77, e142_79, e142_82, e142_83, e142_86, e142_87, e142_90, e142_92, e142_93, e142_94, e142_95, e142_98, e142_99, e142_100, e142_103, e142_104, e142_105, e142_108, e142_109, e142_111, e142_114, e142_117, e142_118, e142_120, e142_123, e142_124, e142_127, e142_128, e142_131, e142_133, e142_134, e142_135, e142_136, e142_139, e142_140, e142_141, e142_144, e142_145, e142_146, e142_149, e142_150, e142_153, e142_154, e142_155, e142_158, e142_161, e142_162, e142_164, e142_167, e141_0, e141_1, e141_2, e141_3, e141_5, e141_8, e141_9, e141_12, e141_15, e141_16, e141_19, e141_21, e141_24, e141_25, e141_26, e141_29, e141_30, e141_31, e141_34, e141_35, e141_38, e141_39, e141_42, e141_44, e141_45, e141_46, e141_47, e141_50, e141_51, e141_52, e141_55, e141_56, e141_59, e141_61, e141_64, e141_65, e141_67, e141_70, e141_71, e141_72, e141_75, e141_76, e141_77, e141_80, e141_81, e141_84, e141_85, e141_88, e141_89, e141_90, e141_91, e141_92, e141_95, e141_96, e141_97, e141_100, e141_103, e141_106, e141_107, e141_108, e141_111, e141_112, e141_115, e141_117, e141_119, e141_120, e141_123, e141_126, e141_129, e141_132, e141_133, e141_134, e141_137, e141_140, e141_141, e141_142, e141_143, e141_144, e141_147, e141_148, e141_149, e141_152, e141_153, e141_154, e141_157, e141_158, e141_160, e141_162, e141_163, e141_164, e141_165, e141_168, e141_169, e141_171, e141_174, e141_177, e141_178, e141_180, e141_182, e141_183, e141_185, e141_188, e141_189, e141_190, e141_192, e141_193, e141_195, e141_196, e141_199, e141_202, e141_203, e141_205, e141_207, e141_208, e141_211, e141_212, e141_215, e141_216, true_and, and_true, or_true, true_or, if_true, if_false, not_true_eq_false, not_false_eq_true, ne_eq, and_self, Option.toList_some, Option.toList_none, List.cons_append, List.nil_append, catS_0, catS_I, catS_L, catS_R, Option.map_some, Option.map_none, Option.some.injEq, Sum.inl.injEq, exists_eq_left', exists_eq', II, AA, RR, QQ, IA, IR, IQ, AI, AR, AQ, RI, RA, RQ, QI, QA, QR, LI, LA, LR, LQ, NI, NA, NR, NQ, HI, HA, HR, HQ, SI, SA, SR, SQ, w6, N12 b2, N12 b3]
  simp +decide only [II, AA, RR, QQ, IA, IR, IQ, AI, AR, AQ, RI, RA, RQ, QI, QA, QR, LI, LA, LR, LQ, NI, NA, NR, NQ, HI, HA, HR, HQ, SI, SA, SR, SQ, true_and, and_true, or_true, true_or, if_true, if_false, not_true_eq_false, not_false_eq_true, ne_eq, and_self] at w6
  simp +decide only [e142_0, e142_1, e142_2, e142_3, e142_4, e142_7, e142_8, e142_10, e142_13, e142_14, e142_17, e142_20, e142_21, e142_22, e142_27, e142_30, e142_31, e142_33, e142_36, e142_39, e142_40, e142_42, e142_45, e142_46, e142_47, e142_50, e142_51, e142_52, e142_55, e142_58, e142_59, e142_62, e142_65, e142_66, e142_67, e142_68, e142_70, e142_73, e142_76, e142_77, e142_79, e142_82, e142_83, e142_86, e142_87, e142_90, e142_92, e142_93, e142_94, e142_95, e142_98, e142_99, e142_100, e142_103, e142_104, e142_105, e142_108, e142_109, e142_111, e142_114, e142_117, e142_118, e142_120, e142_123, e142_124, e142_127, e142_128, e142_131, e142_133, e142_134, e142_135, e142_136, e142_139, e142_140, e142_141, e142_144, e142_145, e142_146, e142_149, e142_150, e142_153, e142_154, e142_155, e142_158, e142_161, e142_162, e142_164, e142_167, e141_0, e141_1, e141_2, e141_3, e141_5, e141_8, e141_9, e141_12, e141_15, e141_16, e141_19, e141_21, e141_24, e141_25, e141_26, e141_29, e141_30, e141_31, e141_34, e141_35, e141_38, e141_39, e141_42, e141_44, e141_45, e141_46, e141_47, e141_50, e141_51, e141_52, e141_55, e141_56, e141_59, e141_61, e141_64, e141_65, e141_67, e141_70, e141_71, e141_72, e141_75, e141_76, e141_77, e141_80, e141_81, e141_84, e141_85, e141_88, e141_89, e141_90, e141_91, e141_92, e141_95, e141_96, e141_97, e141_100, e141_103, e141_106, e141_107, e141_108, e141_111, e141_112, e141_115, e141_117, e141_119, e141_120, e141_123, e141_126, e141_129, e141_132, e141_133, e141_134, e141_137, e141_140, e141_141, e141_142, e141_143, e141_144, e141_147, e141_148, e141_149, e141_152, e141_153, e141_154, e141_157, e141_158, e141_160, e141_162, e141_163, e141_164, e141_165, e141_168, e141_169, e141_171, e141_174, e141_177, e141_178, e141_180, e141_182, e141_183, e141_185, e141_188, e141_189, e141_190, e141_192, e141_193, e141_195, e141_196, e141_199, e141_202, e141_203, e141_205, e141_207, e141_208, e141_211, e141_212, e141_215, e141_216, true_and, and_true, or_true, true_or, if_true, if_false, not_true_eq_false, not_false_eq_true, ne_eq, and_self, Option.toList_some, Option.toList_none, List.cons_append, List.nil_append, catS_0, catS_I, catS_L, catS_R, Option.map_some, Option.map_none, Option.some.injEq, Sum.inl.injEq, exists_eq_left', exists_eq', II, AA, RR, QQ, IA, IR, IQ, AI, AR, AQ, RI, RA, RQ, QI, QA, QR, LI, LA, LR, LQ, NI, NA, NR, NQ, HI, HA, HR, HQ, SI, SA, SR, SQ, w6, N12 b2, N12 b3]
end MCASES
