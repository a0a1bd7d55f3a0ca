/-- a claim is about to be read, at so many open ( -/
def KR (D : Nat) (Q : Option AV → St → Prop) (o : Nat) (l1 l1' l4 : Option AV) (ρ : St) : Prop := Rn (D + 4) (fun r σ' => Rn (D + 4 + 1) Q (142, 25, [some (vR (some (12, 0, 0))), l1, some (vI 1)], r.toList ++ [], σ')) (141, 4, [some (vR (some (12, 0, 0))), l1', some (vI (nI o)), some (vI 1), l4], [], ρ)
def MRes (s T0 : Nat) (c : Nat → Int32) (n : Nat) (S : List Nat) (o : Nat) (ρ : St) (x : Sum Nat (Nat × List Nat)) (run : Nat → (Option AV → St → Prop) → Prop) : Prop := match x with
  | .inl q => ∃ ρ', frB PMc RMc ρ ρ' ∧ gI ρ' 12 3 0 = 1 ∧ gI ρ' 12 2 0 = nI q ∧ ∀ D Q, run D Q = Q none ρ'
  | .inr y => ∃ ρ', frM s ρ ρ' ∧ MS s T0 c n y.1 y.2 S ρ' ∧ ∀ D Q, run D Q = Rn (D + 4 + 1) Q (142, 26, [some (vR (some (12, 0, 0))), some (vI (nI o)), some (vI 1)], [], ρ')
section MCASES
variable {s T0 : Nat} {c : Nat → Int32} {n : Nat}
/-- a claim that is no ( -/
theorem m_clean {p o : Nat} {C S : List Nat} {ρ : St} {l1 l1' l4 : Option AV} (ho : o ≤ 6) (hS : noT S) (h : MS s T0 c n p C S ρ) (hg : ¬ (sgn c n (denP c n p) = 40 ∧ o < 6)) : MRes s T0 c n S o ρ (bnd (leanP c n (denP c n p) C) (fun p' C' => .inr (p', denC (denY c n p) C'))) (fun D Q => KR D Q o l1 l1' l4 ρ) := by
  obtain ⟨ρ1, p1, p2, p3⟩ := m_preB (l1 := l1') (l4 := l4) ho h hg
  have hx := m_lean1 (o := o) (l1 := l1') (l3 := some (vI 0)) (l4 := l4) hS p2
  rw [lean_sk h.2.1] at hx
  cases hy : leanP c n (denP c n p) C with
  | inl q =>
    rw [hy] at hx
    obtain ⟨k', S', ρ2, r1, r2, r3⟩ := hx
    obtain ⟨ρ3, t1, t2, t3, t4⟩ := m_dead (o := o) (by omega) r2
    rw [bnd_l]
    refine ⟨ρ3, frB_t p1.1 (frB_t r1 t1), t2, t3, fun D Q => ?_⟩
    dsimp only
    unfold KR
    have r3 := fun Q => r3 (D + 1) Q
    have t4 := t4 (D + 3) Q
    dsimp only at r3
    rw [p3 (D + 3), r3]
    simp +decide only [e142_0, e142_1, e142_2, e142_3, e142_4, e142_7, e142_8, e142_10, e142_13, e142_14, e142_17, e142_20, e142_21, e142_22, e142_25, e142_27, e142_30, e142_31, e142_33, e142_36, e142_39, e142_40, e142_42, e142_45, e142_46, e142_47, e142_50, e142_51, e142_52, e142_55, e142_58, e142_59, e142_62, e142_65, e142_66, e142_67, e142_68, e142_70, e142_73, e142_76, e142_77, e142_79, e142_82, e142_83, e142_86, e142_87, e142_90, e142_92, e142_93, e142_94, e142_95, e142_98, e142_99, e142_100, e142_103, e142_104, e142_105, e142_108, e142_109, e142_111, e142_114, e142_117, e142_118, e142_120, e142_123, e142_124, e142_127, e142_128, e142_131, e142_133, e142_134, e142_135, e142_136, e142_139, e142_140, e142_141, e142_144, e142_145, e142_146, e142_149, e142_150, e142_153, e142_154, e142_155, e142_158, e142_161, e142_162, e142_164, e142_167, true_and, and_true, or_true, true_or, if_true, if_false, not_true_eq_false, not_false_eq_true, ne_eq, and_self, Option.toList_some, Option.toList_none, List.cons_append, List.nil_append, catS_0, catS_I, catS_L, catS_R, Option.map_some, Option.map_none, t4]
  | inr y =>
    obtain ⟨p2', C2⟩ := y
    rw [hy] at hx
    obtain ⟨ρ2, r1, r2, r3⟩ := hx
    rw [bnd_r]
    refine ⟨ρ2, frM_t p1 r1, r2, fun D Q => ?_⟩
    dsimp only
    unfold KR
    have r3 := fun Q => r3 (D + 1) Q
    dsimp only at r3
    rw [p3 (D + 3), r3]
    simp +decide only [e142_0, e142_1, e142_2, e142_3, e142_4, e142_7, e142_8, e142_10, e142_13, e142_14, e142_17, e142_20, e142_21, e142_22, e142_25, e142_27, e142_30, e142_31, e142_33, e142_36, e142_39, e142_40, e142_42, e142_45, e142_46, e142_47, e142_50, e142_51, e142_52, e142_55, e142_58, e142_59, e142_62, e142_65, e142_66, e142_67, e142_68, e142_70, e142_73, e142_76, e142_77, e142_79, e142_82, e142_83, e142_86, e142_87, e142_90, e142_92, e142_93, e142_94, e142_95, e142_98, e142_99, e142_100, e142_103, e142_104, e142_105, e142_108, e142_109, e142_111, e142_114, e142_117, e142_118, e142_120, e142_123, e142_124, e142_127, e142_128, e142_131, e142_133, e142_134, e142_135, e142_136, e142_139, e142_140, e142_141, e142_144, e142_145, e142_146, e142_149, e142_150, e142_153, e142_154, e142_155, e142_158, e142_161, e142_162, e142_164, e142_167, true_and, and_true, or_true, true_or, if_true, if_false, not_true_eq_false, not_false_eq_true, ne_eq, and_self, Option.toList_some, Option.toList_none, List.cons_append, List.nil_append, catS_0, catS_I, catS_L, catS_R, Option.map_some, Option.map_none]
/-- not a ) -/
theorem m_26 {p o : Nat} {C S : List Nat} {ρ : St} (ho : o ≤ 6) (h : MS s T0 c n p C S ρ) (hg : ¬ (sgn c n p = 41 ∧ 0 < o)) : ∃ ρ' p', frM s ρ ρ' ∧ MS s T0 c n p' C S ρ' ∧ sk c n p' = sk c n p ∧ ∀ D Q, Rn (D + 4 + 1) Q (142, 26, [some (vR (some (12, 0, 0))), some (vI (nI o)), some (vI 1)], [], ρ) = Rn (D + 4 + 1) Q (142, 67, [some (vR (some (12, 0, 0))), some (vI (nI o)), some (vI 0)], [], ρ') := by
  have a1 := h.1
  have h8 := h.2.2.2.2.2.2.2.1
  have sl := sk_le (c := c) h8
  have tk := fun {d : Nat} {Q : Option AV → St → Prop} {ch : Int32} => m_tk (d := d) (Q := Q) (ch := ch) h
  by_cases h0 : o = 0
  · subst h0
    refine ⟨ρ, p, frM_0, h, rfl, fun D Q => ?_⟩
    have y1 : nI 0 ≤ 0 := by decide
    rw [e142_26]
    simp +decide only [e142_0, e142_1, e142_2, e142_3, e142_4, e142_7, e142_8, e142_10, e142_13, e142_14, e142_17, e142_20, e142_21, e142_22, e142_25, e142_27, e142_30, e142_31, e142_33, e142_36, e142_39, e142_40, e142_42, e142_45, e142_46, e142_47, e142_50, e142_51, e142_52, e142_55, e142_58, e142_59, e142_62, e142_65, e142_66, e142_68, e142_70, e142_73, e142_76, e142_77, e142_79, e142_82, e142_83, e142_86, e142_87, e142_90, e142_92, e142_93, e142_94, e142_95, e142_98, e142_99, e142_100, e142_103, e142_104, e142_105, e142_108, e142_109, e142_111, e142_114, e142_117, e142_118, e142_120, e142_123, e142_124, e142_127, e142_128, e142_131, e142_133, e142_134, e142_135, e142_136, e142_139, e142_140, e142_141, e142_144, e142_145, e142_146, e142_149, e142_150, e142_153, e142_154, e142_155, e142_158, e142_161, e142_162, e142_164, e142_167, true_and, and_true, or_true, true_or, if_true, if_false, not_true_eq_false, not_false_eq_true, ne_eq, and_self, Option.toList_some, Option.toList_none, List.cons_append, List.nil_append, catS_0, catS_I, catS_L, catS_R, Option.map_some, Option.map_none, y1]
  · have y1 : ¬ nI o ≤ 0 := nI_nle (by omega) (by omega)
    have hg' : ¬ sgn c n p = 41 := fun z => hg ⟨z, by omega⟩
    refine ⟨setI ρ 12 2 0 (nI (sk c n p)), sk c n p, frM_I (by decide), MS_p h sl.1 sl.2, sk_sk h.2.1, fun D Q => ?_⟩
    rw [e142_26]
    simp +decide only [e142_0, e142_1, e142_2, e142_3, e142_4, e142_7, e142_8, e142_10, e142_13, e142_14, e142_17, e142_20, e142_21, e142_22, e142_25, e142_27, e142_30, e142_31, e142_33, e142_36, e142_39, e142_40, e142_42, e142_45, e142_46, e142_47, e142_50, e142_51, e142_52, e142_55, e142_58, e142_59, e142_62, e142_65, e142_66, e142_68, e142_70, e142_73, e142_76, e142_77, e142_79, e142_82, e142_83, e142_86, e142_87, e142_90, e142_92, e142_93, e142_94, e142_95, e142_98, e142_99, e142_100, e142_103, e142_104, e142_105, e142_108, e142_109, e142_111, e142_114, e142_117, e142_118, e142_120, e142_123, e142_124, e142_127, e142_128, e142_131, e142_133, e142_134, e142_135, e142_136, e142_139, e142_140, e142_141, e142_144, e142_145, e142_146, e142_149, e142_150, e142_153, e142_154, e142_155, e142_158, e142_161, e142_162, e142_164, e142_167, true_and, and_true, or_true, true_or, if_true, if_false, not_true_eq_false, not_false_eq_true, ne_eq, and_self, Option.toList_some, Option.toList_none, List.cons_append, List.nil_append, catS_0, catS_I, catS_L, catS_R, Option.map_some, Option.map_none, y1, tk, hg', N12 a1]
theorem MS_pushW {p t : Nat} {C S : List Nat} {ρ : St} {v : Int32} (hv : wvT t = v) (h : MS s T0 c n p C S ρ) (hl : s + C.length + S.length + 1 ≤ p) : MS s T0 c n p C (t :: S) (setI (setA ρ 12 13 0 (upd (gA ρ 12 13 0) S.length v)) 12 14 0 (nI (S.length + 1))) ∧ frM s ρ (setI (setA ρ 12 13 0 (upd (gA ρ 12 13 0) S.length v)) 12 14 0 (nI (S.length + 1))) := by
  subst hv
  exact MS_push h hl
theorem m_amp {p o : Nat} {C Ss : List Nat} {ρ : St} {hB : Bool} (ho : o ≤ 6) (hS : bs3 Ss) (h : MS s T0 c n p C (bC hB 1001 Ss) ρ) (hg : sgn c n p = 38) : ∃ ρ', frM s ρ ρ' ∧ MS s T0 c n (sk c n p + 1) (bC hB 1001 C) (1001 :: Ss) ρ' ∧ ∀ D Q, Rn (D + 4 + 1) Q (142, 26, [some (vR (some (12, 0, 0))), some (vI (nI o)), some (vI 1)], [], ρ) = KR D Q o (some (vI (nI o))) (some (vI (nI o))) none ρ' := by
  obtain ⟨ρ1, p1, q1, q2, q3, q4⟩ := m_26 ho h (fun z => by rw [hg] at z; exact absurd z.1 (by decide))
  have h8 := q2.2.2.2.2.2.2.2.1
  have sg : sgn c n p1 = 38 := by unfold sgn; rw [q3]; exact hg
  have hlt := sgn_n h8 sg (by decide)
  have sl := sk_le (c := c) h8
  have tk := fun {d : Nat} {Q : Option AV → St → Prop} {ch : Int32} => m_tk (d := d) (Q := Q) (ch := ch) q2
  have k14 := q2.2.2.2.2.2.2.2.2.2.2.2.2.2
  obtain ⟨ρ2, r1, r2, r3⟩ := m_flush3 hS (MS_p q2 (q := sk c n p1 + 1) (by omega) (by omega))
  have k14' := r2.2.2.2.2.2.2.2.2.2.2.2.2.2
  have hlen : s + (bC hB 1001 C).length + Ss.length + 1 ≤ sk c n p1 + 1 := by
    cases hB with
    | false => rw [bC_f] at k14 ⊢; omega
    | true =>
      rw [bC_t] at k14 ⊢
      have k14 : s + C.length + (Ss.length + 1) ≤ p1 := k14
      show s + (C.length + 1) + Ss.length + 1 ≤ sk c n p1 + 1
      omega
  obtain ⟨u1, u2⟩ := MS_pushW (t := 1001) (v := -3) (by decide) r2 hlen
  have b1 := q2.1
  have b2 := r2.1
  have b3 := u1.1
  have w12 : gI ρ2 12 14 0 = nI Ss.length := r2.2.2.2.2.2.2.2.2.2.2.2.1
  have w6 := u1.2.2.2.2.2.1
  have n120 := q2.2.1
  have y2 : (nI Ss.length).toInt = (Ss.length : Int) := nI_toInt (by omega)
  have y3 : (0 : Int) ≤ (Ss.length : Int) := by omega
  have y4 : (Ss.length : Int) < ((128 : Nat) : Int) := by omega
  have y5 : (nI Ss.length).toNatClampNeg = Ss.length := nI_clamp (by omega)
  rw [q3] at u1
  refine ⟨_, frM_t q1 (frM_t (frM_I (by decide)) (frM_t r1 u2)), u1, fun D Q => ?_⟩
  have r3 := fun Q => r3 (D + 3) Q
  unfold KR
  rw [q4 D Q]
  simp +decide only [e142_0, e142_1, e142_2, e142_3, e142_4, e142_7, e142_8, e142_10, e142_13, e142_14, e142_17, e142_20, e142_21, e142_22, e142_25, e142_27, e142_30, e142_31, e142_33, e142_36, e142_39, e142_40, e142_42, e142_45, e142_46, e142_47, e142_50, e142_51, e142_52, e142_55, e142_58, e142_59, e142_62, e142_65, e142_66, e142_67, e142_68, e142_70, e142_73, e142_76, e142_77, e142_79, e142_82, e142_83, e142_86, e142_87, e142_90, e142_92, e142_93, e142_94, e142_95, e142_98, e142_99, e142_100, e142_103, e142_104, e142_105, e142_108, e142_109, e142_111, e142_114, e142_117, e142_118, e142_120, e142_123, e142_124, e142_127, e142_128, e142_131, e142_133, e142_134, e142_135, e142_136, e142_139, e142_140, e142_141, e142_144, e142_145, e142_146, e142_149, e142_150, e142_153, e142_154, e142_155, e142_158, e142_161, e142_162, e142_164, e142_167, true_and, and_true, or_true, true_or, if_true, if_false, not_true_eq_false, not_false_eq_true, ne_eq, and_self, Option.toList_some, Option.toList_none, List.cons_append, List.nil_append, catS_0, catS_I, catS_L, catS_R, Option.map_some, Option.map_none, Option.some.injEq, Sum.inl.injEq, exists_eq_left', exists_eq', II, AA, RR, QQ, IA, IR, IQ, AI, AR, AQ, RI, RA, RQ, QI, QA, QR, LI, LA, LR, LQ, NI, NA, NR, NQ, HI, HA, HR, HQ, SI, SA, SR, SQ, tk, sg, r3, w12, nI_1 Ss.length, y2, y3, y4, y5, N12 b1, N12 b2, L12_13 b2]
  rw [e142_9]
  simp +decide only [e142_0, e142_1, e142_2, e142_3, e142_4, e142_7, e142_8, e142_10, e142_13, e142_14, e142_17, e142_20, e142_21, e142_22, e142_27, e142_30, e142_31, e142_33, e142_36, e142_39, e142_40, e142_42, e142_45, e142_46, e142_47, e142_50, e142_51, e142_52, e142_55, e142_58, e142_59, e142_62, e142_65, e142_66, e142_67, e142_68, e142_70, e142_73, e142_76, e142_77, e142_79, e142_82, e142_83, e142_86, e142_87, e142_90, e142_92, e142_93, e142_94, e142_95, e142_98, e142_99, e142_100, e142_103, e142_104, e142_105, e142_108, e142_109, e142_111, e142_114, e142_117, e142_118, e142_120, e142_123, e142_124, e142_127, e142_128, e142_131, e142_133, e142_134, e142_135, e142_136, e142_139, e142_140, e142_141, e142_144, e142_145, e142_146, e142_149, e142_150, e142_153, e142_154, e142_155, e142_158, e142_161, e142_162, e142_164, e142_167, e141_0, e141_1, e141_2, e141_3, e141_5, e141_8, e141_9, e141_12, e141_15, e141_16, e141_19, e141_21, e141_24, e141_25, e141_26, e141_29, e141_30, e141_31, e141_34, e141_35, e141_38, e141_39, e141_42, e141_44, e141_45, e141_46, e141_47, e141_50, e141_51, e141_52, e141_55, e141_56, e141_59, e141_61, e141_64, e141_65, e141_67, e141_70, e141_71, e141_72, e141_75, e141_76, e141_77, e141_80, e141_81, e141_84, e141_85, e141_88, e141_89, e141_90, e141_91, e141_92, e141_95, e141_96, e141_97, e141_100, e141_103, e141_106, e141_107, e141_108, e141_111, e141_112, e141_115, e141_117, e141_119, e141_120, e141_123, e141_126, e141_129, e141_132, e141_133, e141_134, e141_137, e141_140, e141_141, e141_142, e141_143, e141_144, e141_147, e141_148, e141_149, e141_152, e141_153, e141_154, e141_157, e141_158, e141_160, e141_162, e141_163, e141_164, e141_165, e141_168, e141_169, e141_171, e141_174, e141_177, e141_178, e141_180, e141_182, e141_183, e141_185, e141_188, e141_189, e141_190, e141_192, e141_193, e141_195, e141_196, e141_199, e141_202, e141_203, e141_205, e141_207, e141_208, e141_211, e141_212, e141_215, e141_216, true_and, and_true, or_true, true_or, if_true, if_false, not_true_eq_false, not_false_eq_true, ne_eq, and_self, Option.toList_some, Option.toList_none, List.cons_append, List.nil_append, catS_0, catS_I, catS_L, catS_R, Option.map_some, Option.map_none, Option.some.injEq, Sum.inl.injEq, exists_eq_left', exists_eq', II, AA, RR, QQ, IA, IR, IQ, AI, AR, AQ, RI, RA, RQ, QI, QA, QR, LI, LA, LR, LQ, NI, NA, NR, NQ, HI, HA, HR, HQ, SI, SA, SR, SQ, w6, N12 b2, N12 b3]
theorem m_bar {p o : Nat} {C S0 : List Nat} {ρ : St} {hB hE : Bool} (ho : o ≤ 6) (hS : bs4 S0) (h : MS s T0 c n p C (bC hB 1001 (bC hE 1002 S0)) ρ) (hg : sgn c n p = 124) : ∃ ρ', frM s ρ ρ' ∧ MS s T0 c n (sk c n p + 1) (bC hE 1002 (bC hB 1001 C)) (1002 :: S0) ρ' ∧ ∀ D Q, Rn (D + 4 + 1) Q (142, 26, [some (vR (some (12, 0, 0))), some (vI (nI o)), some (vI 1)], [], ρ) = KR D Q o (some (vI (nI o))) (some (vI (nI o))) none ρ' := by
  obtain ⟨ρ1, p1, q1, q2, q3, q4⟩ := m_26 ho h (fun z => by rw [hg] at z; exact absurd z.1 (by decide))
  have h8 := q2.2.2.2.2.2.2.2.1
  have sg : sgn c n p1 = 124 := by unfold sgn; rw [q3]; exact hg
  have hlt := sgn_n h8 sg (by decide)
  have sl := sk_le (c := c) h8
  have tk := fun {d : Nat} {Q : Option AV → St → Prop} {ch : Int32} => m_tk (d := d) (Q := Q) (ch := ch) q2
  have q2' := MS_p q2 sl.1 sl.2
  have tk2 := fun {d : Nat} {Q : Option AV → St → Prop} {ch : Int32} => m_tk (d := d) (Q := Q) (ch := ch) q2'
  have sg2 : sgn c n (sk c n p1) = 124 := by rw [sgn_sk q2.2.1]; exact sg
  rw [sk_sk q2.2.1] at tk2
  have k14 := q2.2.2.2.2.2.2.2.2.2.2.2.2.2
  obtain ⟨ρ2, r1, r2, r3⟩ := m_flush4 hS (MS_p q2 (q := sk c n p1 + 1) (by omega) (by omega))
  have hlen : s + (bC hE 1002 (bC hB 1001 C)).length + S0.length + 1 ≤ sk c n p1 + 1 := by
    have e1 : ∀ (b : Bool) (t : Nat) (R : List Nat), (bC b t R).length = R.length + (if b = true then 1 else 0) := by
      intro b t R
      cases b <;> rfl
    rw [e1, e1] at k14 ⊢
    omega
  obtain ⟨u1, u2⟩ := MS_pushW (t := 1002) (v := -4) (by decide) r2 hlen
  have b1 := q2.1
  have b2 := r2.1
  have b3 := u1.1
  have w12 : gI ρ2 12 14 0 = nI S0.length := r2.2.2.2.2.2.2.2.2.2.2.2.1
  have w6 := u1.2.2.2.2.2.1
  have n120 := q2.2.1
  have y2 : (nI S0.length).toInt = (S0.length : Int) := nI_toInt (by omega)
  have y3 : (0 : Int) ≤ (S0.length : Int) := by omega
  have y4 : (S0.length : Int) < ((128 : Nat) : Int) := by omega
  have y5 : (nI S0.length).toNatClampNeg = S0.length := nI_clamp (by omega)
  rw [q3] at u1
  refine ⟨_, frM_t q1 (frM_t (frM_I (by decide)) (frM_t r1 u2)), u1, fun D Q => ?_⟩
  have r3 := fun Q => r3 (D + 3) Q
  unfold KR
  rw [q4 D Q]
  simp +decide only [e142_0, e142_1, e142_2, e142_3, e142_4, e142_7, e142_8, e142_10, e142_13, e142_14, e142_17, e142_20, e142_21, e142_22, e142_25, e142_27, e142_30, e142_31, e142_33, e142_36, e142_39, e142_40, e142_42, e142_45, e142_46, e142_47, e142_50, e142_51, e142_52, e142_55, e142_58, e142_59, e142_62, e142_65, e142_66, e142_67, e142_68, e142_70, e142_73, e142_76, e142_77, e142_79, e142_82, e142_83, e142_86, e142_87, e142_90, e142_92, e142_93, e142_94, e142_95, e142_98, e142_99, e142_100, e142_103, e142_104, e142_105, e142_108, e142_109, e142_111, e142_114, e142_117, e142_118, e142_120, e142_123, e142_124, e142_127, e142_128, e142_131, e142_133, e142_134, e142_135, e142_136, e142_139, e142_140, e142_141, e142_144, e142_145, e142_146, e142_149, e142_150, e142_153, e142_154, e142_155, e142_158, e142_161, e142_162, e142_164, e142_167, true_and, and_true, or_true, true_or, if_true, if_false, not_true_eq_false, not_false_eq_true, ne_eq, and_self, Option.toList_some, Option.toList_none, List.cons_append, List.nil_append, catS_0, catS_I, catS_L, catS_R, Option.map_some, Option.map_none, Option.some.injEq, Sum.inl.injEq, exists_eq_left', exists_eq', II, AA, RR, QQ, IA, IR, IQ, AI, AR, AQ, RI, RA, RQ, QI, QA, QR, LI, LA, LR, LQ, NI, NA, NR, NQ, HI, HA, HR, HQ, SI, SA, SR, SQ, tk, tk2, sg, sg2, r3, w12, setI_I, nI_1 S0.length, y2, y3, y4, y5, N12 b1, N12 b2, L12_13 b2]
  rw [e142_9]
  simp +decide only [e142_0, e142_1, e142_2, e142_3, e142_4, e142_7, e142_8, e142_10, e142_13, e142_14, e142_17, e142_20, e142_21, e142_22, e142_27, e142_30, e142_31, e142_33, e142_36, e142_39, e142_40, e142_42, e142_45, e142_46, e142_47, e142_50, e142_51, e142_52, e142_55, e142_58, e142_59, e142_62, e142_65, e142_66, e142_67, e142_68, e142_70, e142_73, e142_76, e142_77, e142_79, e142_82, e142_83, e142_86, e142_87, e142_90, e142_92, e142_93, e142_94, e142_95, e142_98, e142_99, e142_100, e142_103, e142_104, e142_105, e142_108, e142_109, e142_111, e142_114, e142_117, e142_118, e142_120, e142_123, e142_124, e142_127, e142_128, e142_131, e142_133, e142_134, e142_135, e142_136, e142_139, e142_140, e142_141, e142_144, e142_145, e142_146, e142_149, e142_150, e142_153, e142_154, e142_155, e142_158, e142_161, e142_162, e142_164, e142_167, e141_0, e141_1, e141_2, e141_3, e141_5, e141_8, e141_9, e141_12, e141_15, e141_16, e141_19, e141_21, e141_24, e141_25, e141_26, e141_29, e141_30, e141_31, e141_34, e141_35, e141_38, e141_39, e141_42, e141_44, e141_45, e141_46, e141_47, e141_50, e141_51, e141_52, e141_55, e141_56, e141_59, e141_61, e141_64, e141_65, e141_67, e141_70, e141_71, e141_72, e141_75, e141_76, e141_77, e141_80, e141_81, e141_84, e141_85, e141_88, e141_89, e141_90, e141_91, e141_92, e141_95, e141_96, e141_97, e141_100, e141_103, e141_106, e141_107, e141_108, e141_111, e141_112, e141_115, e141_117, e141_119, e141_120, e141_123, e141_126, e141_129, e141_132, e141_133, e141_134, e141_137, e141_140, e141_141, e141_142, e141_143, e141_144, e141_147, e141_148, e141_149, e141_152, e141_153, e141_154, e141_157, e141_158, e141_160, e141_162, e141_163, e141_164, e141_165, e141_168, e141_169, e141_171, e141_174, e141_177, e141_178, e141_180, e141_182, e141_183, e141_185, e141_188, e141_189, e141_190, e141_192, e141_193, e141_195, e141_196, e141_199, e141_202, e141_203, e141_205, e141_207, e141_208, e141_211, e141_212, e141_215, e141_216, true_and, and_true, or_true, true_or, if_true, if_false, not_true_eq_false, not_false_eq_true, ne_eq, and_self, Option.toList_some, Option.toList_none, List.cons_append, List.nil_append, catS_0, catS_I, catS_L, catS_R, Option.map_some, Option.map_none, Option.some.injEq, Sum.inl.injEq, exists_eq_left', exists_eq', II, AA, RR, QQ, IA, IR, IQ, AI, AR, AQ, RI, RA, RQ, QI, QA, QR, LI, LA, LR, LQ, NI, NA, NR, NQ, HI, HA, HR, HQ, SI, SA, SR, SQ, w6, N12 b2, N12 b3]
/-- nothing more: the reading of what a lesson leans on ends -/
theorem m_exit {p o : Nat} {C S : List Nat} {ρ : St} (ho : o ≤ 6) (h : MS s T0 c n p C S ρ) (h1 : ¬ (sgn c n p = 41 ∧ 0 < o)) (h2 : ¬ sgn c n p = 38) (h3 : ¬ sgn c n p = 124) : ∃ ρ', frM s ρ ρ' ∧ MS s T0 c n (sk c n p) C S ρ' ∧ ∀ D Q, Rn (D + 4 + 1) Q (142, 26, [some (vR (some (12, 0, 0))), some (vI (nI o)), some (vI 1)], [], ρ) = Rn (D + 4 + 1) Q (142, 149, [some (vR (some (12, 0, 0))), some (vI (nI o)), some (vI 0)], [], ρ') := by
  obtain ⟨ρ1, p1, q1, q2, q3, q4⟩ := m_26 ho h h1
  have h8 := q2.2.2.2.2.2.2.2.1
  have sg : sgn c n p1 = sgn c n p := by unfold sgn; rw [q3]
  have sl := sk_le (c := c) h8
  have tk := fun {d : Nat} {Q : Option AV → St → Prop} {ch : Int32} => m_tk (d := d) (Q := Q) (ch := ch) q2
  have q2' := MS_p q2 sl.1 sl.2
  have tk2 := fun {d : Nat} {Q : Option AV → St → Prop} {ch : Int32} => m_tk (d := d) (Q := Q) (ch := ch) q2'
  have sg2 : sgn c n (sk c n p1) = sgn c n p := by rw [sgn_sk q2.2.1]; exact sg
  rw [sk_sk q2.2.1, sg2] at tk2
  rw [sg] at tk
  have b1 := q2.1
  rw [q3] at q2'
  refine ⟨_, frM_t q1 (frM_I (by decide)), q2', fun D Q => ?_⟩
  rw [q4 D Q]
  rw [q3] at tk tk2
  simp +decide only [e142_0, e142_1, e142_2, e142_3, e142_4, e142_7, e142_8, e142_10, e142_13, e142_14, e142_17, e142_20, e142_21, e142_22, e142_25, e142_27, e142_30, e142_31, e142_33, e142_36, e142_39, e142_40, e142_42, e142_45, e142_46, e142_47, e142_50, e142_51, e142_52, e142_55, e142_58, e142_59, e142_62, e142_65, e142_66, e142_67, e142_68, e142_70, e142_73, e142_76, e142_77, e142_79, e142_82, e142_83, e142_86, e142_87, e142_90, e142_92, e142_93, e142_94, e142_95, e142_98, e142_99, e142_100, e142_103, e142_104, e142_105, e142_108, e142_109, e142_111, e142_114, e142_117, e142_118, e142_120, e142_123, e142_124, e142_127, e142_128, e142_131, e142_133, e142_134, e142_135, e142_136, e142_139, e142_140, e142_141, e142_144, e142_145, e142_146, e142_150, e142_153, e142_154, e142_155, e142_158, e142_161, e142_162, e142_164, e142_167, true_and, and_true, or_true, true_or, if_true, if_false, not_true_eq_false, not_false_eq_true, ne_eq, and_self, Option.toList_some, Option.toList_none, List.cons_append, List.nil_append, catS_0, catS_I, catS_L, catS_R, Option.map_some, Option.map_none, Option.some.injEq, Sum.inl.injEq, exists_eq_left', exists_eq', tk, tk2, h2, h3, setI_I, NI, N12 b1]
  rw [e142_9]
  simp +decide only [e142_0, e142_1, e142_2, e142_3, e142_4, e142_7, e142_8, e142_10, e142_13, e142_14, e142_17, e142_20, e142_21, e142_22, e142_25, e142_27, e142_30, e142_31, e142_33, e142_36, e142_39, e142_40, e142_42, e142_45, e142_46, e142_47, e142_50, e142_51, e142_52, e142_55, e142_58, e142_59, e142_62, e142_65, e142_66, e142_67, e142_68, e142_70, e142_73, e142_76, e142_77, e142_79, e142_82, e142_83, e142_86, e142_87, e142_90, e142_92, e142_93, e142_94, e142_95, e142_98, e142_99, e142_100, e142_103, e142_104, e142_105, e142_108, e142_109, e142_111, e142_114, e142_117, e142_118, e142_120, e142_123, e142_124, e142_127, e142_128, e142_131, e142_133, e142_134, e142_135, e142_136, e142_139, e142_140, e142_141, e142_144, e142_145, e142_146, e142_150, e142_153, e142_154, e142_155, e142_158, e142_161, e142_162, e142_164, e142_167, true_and, and_true, or_true, true_or, if_true, if_false, not_true_eq_false, not_false_eq_true, ne_eq, and_self, Option.toList_some, Option.toList_none, List.cons_append, List.nil_append, catS_0, catS_I, catS_L, catS_R, Option.map_some, Option.map_none]
theorem m_exitD {p o : Nat} {C S : List Nat} {ρ : St} (ho : o ≤ 6) (ho0 : 0 < o) (h : MS s T0 c n p C S ρ) (h1 : ¬ sgn c n p = 41) (h2 : ¬ sgn c n p = 38) (h3 : ¬ sgn c n p = 124) : ∃ ρ', frB PMc RMc ρ ρ' ∧ gI ρ' 12 3 0 = 1 ∧ gI ρ' 12 2 0 = nI (sk c n p) ∧ ∀ D Q, Rn (D + 4 + 1) Q (142, 26, [some (vR (some (12, 0, 0))), some (vI (nI o)), some (vI 1)], [], ρ) = Q none ρ' := by
  obtain ⟨ρ1, q1, q2, q3⟩ := m_exit ho h (fun z => h1 z.1) h2 h3
  have fl := fun {d : Nat} {Q : Option AV → St → Prop} {x : Nat} => m_fl (d := d) (Q := Q) (q := x) q2
  have hW := MS_wr (q := sk c n p) q2
  obtain ⟨ρ', t1, t2, t3, t4⟩ := m_comeD _ _ _ _ hW
  have b1 := q2.1
  have k7 := q2.2.2.2.2.2.2.1
  have y1 : ¬ nI o ≤ 0 := nI_nle (by omega) (by omega)
  refine ⟨ρ', frB_t q1.1 (frB_t (frB_t (frB_I (by decide)) (frB_I (by decide))) t1), t2, t3, fun D Q => ?_⟩
  have t4 := fun Q => t4 (D + 3) Q
  rw [q3 D Q]
  simp +decide only [e142_0, e142_1, e142_2, e142_3, e142_4, e142_7, e142_8, e142_10, e142_13, e142_14, e142_17, e142_20, e142_21, e142_22, e142_25, e142_27, e142_30, e142_31, e142_33, e142_36, e142_39, e142_40, e142_42, e142_45, e142_46, e142_47, e142_50, e142_51, e142_52, e142_55, e142_58, e142_59, e142_62, e142_65, e142_66, e142_67, e142_68, e142_70, e142_73, e142_76, e142_77, e142_79, e142_82, e142_83, e142_86, e142_87, e142_90, e142_92, e142_93, e142_94, e142_95, e142_98, e142_99, e142_100, e142_103, e142_104, e142_105, e142_108, e142_109, e142_111, e142_114, e142_117, e142_118, e142_120, e142_123, e142_124, e142_127, e142_128, e142_131, e142_133, e142_134, e142_135, e142_136, e142_139, e142_140, e142_141, e142_144, e142_145, e142_146, e142_149, e142_150, e142_153, e142_154, e142_155, e142_158, e142_161, e142_162, e142_164, e142_167, true_and, and_true, or_true, true_or, if_true, if_false, not_true_eq_false, not_false_eq_true, ne_eq, and_self, Option.toList_some, Option.toList_none, List.cons_append, List.nil_append, catS_0, catS_I, catS_L, catS_R, Option.map_some, Option.map_none, Option.some.injEq, Sum.inl.injEq, exists_eq_left', exists_eq', fl, k7, t4, y1, NI, N12 b1]
theorem m_exit0 {p : Nat} {C : List Nat} {ρ : St} {hB hE : Bool} (h : MS s T0 c n p C (bC hB 1001 (bC hE 1002 [])) ρ) (h2 : ¬ sgn c n p = 38) (h3 : ¬ sgn c n p = 124) : ∃ ρ', frM s ρ ρ' ∧ MS s T0 c n (sk c n p) (bC hE 1002 (bC hB 1001 C)) [] ρ' ∧ ∀ D Q, Rn (D + 4 + 1) Q (142, 26, [some (vR (some (12, 0, 0))), some (vI (nI 0)), some (vI 1)], [], ρ) = Q none ρ' := by
  obtain ⟨ρ1, q1, q2, q3⟩ := m_exit (o := 0) (by omega) h (fun z => absurd z.2 (by omega)) h2 h3
  obtain ⟨ρ2, r1, r2, r3⟩ := m_flush4 (Or.inl rfl) q2
  have b1 := q2.1
  have y1 : nI 0 ≤ 0 := by decide
  refine ⟨ρ2, frM_t q1 r1, r2, fun D Q => ?_⟩
  have r3 := fun Q => r3 (D + 3) Q
  rw [q3 D Q]
  simp +decide only [e142_0, e142_1, e142_2, e142_3, e142_4, e142_7, e142_8, e142_10, e142_13, e142_14, e142_17, e142_20, e142_21, e142_22, e142_25, e142_27, e142_30, e142_31, e142_33, e142_36, e142_39, e142_40, e142_42, e142_45, e142_46, e142_47, e142_50, e142_51, e142_52, e142_55, e142_58, e142_59, e142_62, e142_65, e142_66, e142_67, e142_68, e142_70, e142_73, e142_76, e142_77, e142_79, e142_82, e142_83, e142_86, e142_87, e142_90, e142_92, e142_93, e142_94, e142_95, e142_98, e142_99, e142_100, e142_103, e142_104, e142_105, e142_108, e142_109, e142_111, e142_114, e142_117, e142_118, e142_120, e142_123, e142_124, e142_127, e142_128, e142_131, e142_133, e142_134, e142_135, e142_136, e142_139, e142_140, e142_141, e142_144, e142_145, e142_146, e142_149, e142_150, e142_153, e142_154, e142_155, e142_158, e142_161, e142_162, e142_164, e142_167, true_and, and_true, or_true, true_or, if_true, if_false, not_true_eq_false, not_false_eq_true, ne_eq, and_self, Option.toList_some, Option.toList_none, List.cons_append, List.nil_append, catS_0, catS_I, catS_L, catS_R, Option.map_some, Option.map_none, Option.some.injEq, Sum.inl.injEq, exists_eq_left', exists_eq', r3, y1, N12 b1]
theorem m_close {p o : Nat} {C S : List Nat} {ρ : St} {hB hE den : Bool} (ho : o < 6) (hS : noT S) (h : MS s T0 c n p C (bC hB 1001 (bC hE 1002 (1003 :: bC den 1000 S))) ρ) (hg : sgn c n p = 41) : ∃ ρ', frM s ρ ρ' ∧ MS s T0 c n (sk c n p + 1) (bC den 1000 (bC hE 1002 (bC hB 1001 C))) S ρ' ∧ ∀ D Q, Rn (D + 4 + 1) Q (142, 26, [some (vR (some (12, 0, 0))), some (vI (nI (o + 1))), some (vI 1)], [], ρ) = Rn (D + 4 + 1) Q (142, 26, [some (vR (some (12, 0, 0))), some (vI (nI o)), some (vI 1)], [], ρ') := by
  have h8 := h.2.2.2.2.2.2.2.1
  have hlt := sgn_n h8 hg (by decide)
  have sl := sk_le (c := c) h8
  have a1 := h.1
  have tk := fun {d : Nat} {Q : Option AV → St → Prop} {ch : Int32} => m_tk (d := d) (Q := Q) (ch := ch) h
  obtain ⟨ρ2, r1, r2, r3⟩ := m_flush4 (Or.inr ⟨_, rfl⟩) (MS_p h (q := sk c n p + 1) (by omega) (by omega))
  obtain ⟨u1, u2, u3, u4⟩ := MS_pop r2
  obtain ⟨ρ3, v1, v2, v3⟩ := m_turn hS u1
  have b2 := r2.1
  have b3 := u1.1
  have n120 := h.2.1
  have y1 : ¬ nI (o + 1) ≤ 0 := nI_nle (by omega) (by omega)
  have y0 : ∀ k, nI (k + 1) - 1 = nI k := fun k => nI_pred k
  refine ⟨ρ3, frM_t (frM_I (by decide)) (frM_t r1 (frM_t (frM_I (by decide)) v1)), v2, fun D Q => ?_⟩
  have r3 := fun Q => r3 (D + 3) Q
  have v3 := fun Q => v3 (D + 3) Q
  rw [e142_26]
  simp +decide only [e142_0, e142_1, e142_2, e142_3, e142_4, e142_7, e142_8, e142_10, e142_13, e142_14, e142_17, e142_20, e142_21, e142_22, e142_25, e142_27, e142_30, e142_31, e142_33, e142_36, e142_39, e142_40, e142_42, e142_45, e142_46, e142_47, e142_50, e142_51, e142_52, e142_55, e142_58, e142_59, e142_62, e142_65, e142_66, e142_67, e142_68, e142_70, e142_73, e142_76, e142_77, e142_79, e142_82, e142_83, e142_86, e142_87, e142_90, e142_92, e142_93, e142_94, e142_95, e142_98, e142_99, e142_100, e142_103, e142_104, e142_105, e142_108, e142_109, e142_111, e142_114, e142_117, e142_118, e142_120, e142_123, e142_124, e142_127, e142_128, e142_131, e142_133, e142_134, e142_135, e142_136, e142_139, e142_140, e142_141, e142_144, e142_145, e142_146, e142_149, e142_150, e142_153, e142_154, e142_155, e142_158, e142_161, e142_162, e142_164, e142_167, true_and, and_true, or_true, true_or, if_true, if_false, not_true_eq_false, not_false_eq_true, ne_eq, and_self, Option.toList_some, Option.toList_none, List.cons_append, List.nil_append, catS_0, catS_I, catS_L, catS_R, Option.map_some, Option.map_none, Option.some.injEq, Sum.inl.injEq, exists_eq_left', exists_eq', II, AA, RR, QQ, IA, IR, IQ, AI, AR, AQ, RI, RA, RQ, QI, QA, QR, LI, LA, LR, LQ, NI, NA, NR, NQ, HI, HA, HR, HQ, SI, SA, SR, SQ, tk, hg, r3, u3, v3, y0, y1, pk_m1, N12 a1, N12 b2, N12 b3]
/-- where a row of claims joined by & stands -/
def MAn (s T0 : Nat) (c : Nat → Int32) (n : Nat) (Ss : List Nat) (o : Nat) (ρ : St) (x : Sum Nat (Nat × List Nat)) (run : Nat → (Option AV → St → Prop) → Prop) : Prop := match x with
  | .inl q => ∃ ρ', frB PMc RMc ρ ρ' ∧ gI ρ' 12 3 0 = 1 ∧ gI ρ' 12 2 0 = nI q ∧ ∀ D Q, run D Q = Q none ρ'
  | .inr y => ∃ ρ' p0 CR hB, frM s ρ ρ' ∧ MS s T0 c n p0 CR (bC hB 1001 Ss) ρ' ∧ y.2 = bC hB 1001 CR ∧ sk c n p0 = sk c n y.1 ∧ ¬ sgn c n p0 = 38 ∧ ∀ D Q, run D Q = Rn (D + 4 + 1) Q (142, 26, [some (vR (some (12, 0, 0))), some (vI (nI o)), some (vI 1)], [], ρ')
theorem n1001 (S : List Nat) : noT (1001 :: S) := Or.inr ⟨1001, S, rfl, by decide⟩
theorem n1002 (S : List Nat) : noT (1002 :: S) := Or.inr ⟨1002, S, rfl, by decide⟩
theorem m_ands {f o : Nat} (ho : o ≤ 6) (hcl : ∀ (p : Nat) (C S : List Nat) (ρ : St) (l1 l1' l4 : Option AV), noT S → MS s T0 c n p C S ρ → MRes s T0 c n S o ρ (claimP c n f p C) (fun D Q => KR D Q o l1 l1' l4 ρ)) {Ss : List Nat} (hS : bs3 Ss) : ∀ fuel p C hB ρ, n - p ≤ fuel → MS s T0 c n p C (bC hB 1001 Ss) ρ → MAn s T0 c n Ss o ρ (andsP c n (claimP c n f) fuel p (bC hB 1001 C)) (fun D Q => Rn (D + 4 + 1) Q (142, 26, [some (vR (some (12, 0, 0))), some (vI (nI o)), some (vI 1)], [], ρ)) := by
  intro fuel
  induction fuel with
  | zero =>
    intro p C hB ρ hf h
    have h8 := h.2.2.2.2.2.2.2.1
    have sl := sk_le (c := c) h8
    refine ⟨ρ, p, C, hB, frM_0, h, rfl, rfl, fun z => ?_, fun _ _ => rfl⟩
    have := sgn_n h8 z (by decide)
    omega
  | succ fuel ih =>
    intro p C hB ρ hf h
    have h8 := h.2.2.2.2.2.2.2.1
    have sl := sk_le (c := c) h8
    show MAn s T0 c n Ss o ρ (if sgn c n p = 38 then bnd (claimP c n f (sk c n p + 1) (bC hB 1001 C)) (fun p' C' => andsP c n (claimP c n f) fuel p' (1001 :: C')) else .inr (sk c n p, bC hB 1001 C)) _
    by_cases hg : sgn c n p = 38
    · rw [if_pos hg]
      have hlt := sgn_n h8 hg (by decide)
      obtain ⟨ρ1, a1, a2, a3⟩ := m_amp ho hS h hg
      have hx := hcl _ _ _ _ (some (vI (nI o))) (some (vI (nI o))) none (n1001 Ss) a2
      have hgo := claim_go (c := c) (n := n) f (sk c n p + 1) (bC hB 1001 C) (by omega)
      cases hy : claimP c n f (sk c n p + 1) (bC hB 1001 C) with
      | inl q =>
        rw [hy] at hx
        obtain ⟨ρ', r1, r2, r3, r4⟩ := hx
        rw [bnd_l]
        exact ⟨ρ', frB_t a1.1 r1, r2, r3, fun D Q => (a3 D Q).trans (r4 D Q)⟩
      | inr y =>
        obtain ⟨p2, C2⟩ := y
        rw [hy] at hx hgo
        obtain ⟨ρ', r1, r2, r3⟩ := hx
        have r2 : MS s T0 c n p2 C2 (bC true 1001 Ss) ρ' := r2
        obtain ⟨g1, g2, g3, g4⟩ := hgo
        have g1 : sk c n p + 1 < p2 := g1
        rw [bnd_r]
        have hi := ih p2 C2 true ρ' (by omega) r2
        rw [bC_t] at hi
        cases hw : andsP c n (claimP c n f) fuel p2 (1001 :: C2) with
        | inl q =>
          rw [hw] at hi
          obtain ⟨ρ2, t1, t2, t3, t4⟩ := hi
          exact ⟨ρ2, frB_t a1.1 (frB_t r1.1 t1), t2, t3, fun D Q => (a3 D Q).trans ((r3 D Q).trans (t4 D Q))⟩
        | inr y =>
          rw [hw] at hi
          obtain ⟨ρ2, p0, CR, b, t1, t2, t3, t4, t5, t6⟩ := hi
          exact ⟨ρ2, p0, CR, b, frM_t a1 (frM_t r1 t1), t2, t3, t4, t5, fun D Q => (a3 D Q).trans ((r3 D Q).trans (t6 D Q))⟩
    · rw [if_neg hg]
      exact ⟨ρ, p, C, hB, frM_0, h, rfl, (sk_sk h.2.1).symm, hg, fun _ _ => rfl⟩
theorem m_group {f o : Nat} (ho : o ≤ 6) (hcl : ∀ (p : Nat) (C S : List Nat) (ρ : St) (l1 l1' l4 : Option AV), noT S → MS s T0 c n p C S ρ → MRes s T0 c n S o ρ (claimP c n f p C) (fun D Q => KR D Q o l1 l1' l4 ρ)) {Ss : List Nat} (hS : bs3 Ss) (hN : noT Ss) {p : Nat} {C : List Nat} {ρ : St} {l1 l1' l4 : Option AV} (h : MS s T0 c n p C Ss ρ) : MAn s T0 c n Ss o ρ (groupP c n (claimP c n f) p C) (fun D Q => KR D Q o l1 l1' l4 ρ) := by
  have hx := hcl _ _ _ _ l1 l1' l4 hN h
  have h2 := h.2.1
  unfold groupP
  cases hy : claimP c n f p C with
  | inl q =>
    rw [hy] at hx
    obtain ⟨ρ', r1, r2, r3, r4⟩ := hx
    rw [bnd_l]
    exact ⟨ρ', r1, r2, r3, r4⟩
  | inr y =>
    obtain ⟨p2, C2⟩ := y
    rw [hy] at hx
    obtain ⟨ρ', r1, r2, r3⟩ := hx
    have r2 : MS s T0 c n p2 C2 (bC false 1001 Ss) ρ' := r2
    rw [bnd_r]
    have hi := m_ands ho hcl hS 120 p2 C2 false ρ' (by omega) r2
    rw [bC_f] at hi
    cases hw : andsP c n (claimP c n f) 120 p2 C2 with
    | inl q =>
      rw [hw] at hi
      obtain ⟨ρ2, t1, t2, t3, t4⟩ := hi
      exact ⟨ρ2, frB_t r1.1 t1, t2, t3, fun D Q => (r3 D Q).trans (t4 D Q)⟩
    | inr y =>
      rw [hw] at hi
      obtain ⟨ρ2, p0, CR, b, t1, t2, t3, t4, t5, t6⟩ := hi
      exact ⟨ρ2, p0, CR, b, frM_t r1 t1, t2, t3, t4, t5, fun D Q => (r3 D Q).trans (t6 D Q)⟩
def MCa (s T0 : Nat) (c : Nat → Int32) (n : Nat) (S0 : List Nat) (o : Nat) (ρ : St) (x : Sum Nat (Nat × List Nat)) (run : Nat → (Option AV → St → Prop) → Prop) : Prop := match x with
  | .inl q => ∃ ρ', frB PMc RMc ρ ρ' ∧ gI ρ' 12 3 0 = 1 ∧ gI ρ' 12 2 0 = nI q ∧ ∀ D Q, run D Q = Q none ρ'
  | .inr y => ∃ ρ' p0 CR hB hE, frM s ρ ρ' ∧ MS s T0 c n p0 CR (bC hB 1001 (bC hE 1002 S0)) ρ' ∧ y.2 = bC hE 1002 (bC hB 1001 CR) ∧ sk c n p0 = sk c n y.1 ∧ ¬ sgn c n p0 = 38 ∧ ¬ sgn c n p0 = 124 ∧ ∀ D Q, run D Q = Rn (D + 4 + 1) Q (142, 26, [some (vR (some (12, 0, 0))), some (vI (nI o)), some (vI 1)], [], ρ')
theorem m_alts {f o : Nat} (ho : o ≤ 6) (hcl : ∀ (p : Nat) (C S : List Nat) (ρ : St) (l1 l1' l4 : Option AV), noT S → MS s T0 c n p C S ρ → MRes s T0 c n S o ρ (claimP c n f p C) (fun D Q => KR D Q o l1 l1' l4 ρ)) {S0 : List Nat} (hS : bs4 S0) : ∀ fuel p p0 C hB hE ρ, n - p ≤ fuel → p ≤ n → sk c n p0 = sk c n p → MS s T0 c n p0 C (bC hB 1001 (bC hE 1002 S0)) ρ → ¬ sgn c n p0 = 38 → MCa s T0 c n S0 o ρ (altsP c n (claimP c n f) fuel p (bC hE 1002 (bC hB 1001 C))) (fun D Q => Rn (D + 4 + 1) Q (142, 26, [some (vR (some (12, 0, 0))), some (vI (nI o)), some (vI 1)], [], ρ)) := by
  intro fuel
  induction fuel with
  | zero =>
    intro p p0 C hB hE ρ hf hpn hk h h38
    have h8 := h.2.2.2.2.2.2.2.1
    have sg : sgn c n p0 = sgn c n p := by unfold sgn; rw [hk]
    show MCa s T0 c n S0 o ρ (if sgn c n p = 124 then .inl (sk c n p + 1) else .inr (sk c n p, bC hE 1002 (bC hB 1001 C))) _
    have h124 : ¬ sgn c n p = 124 := fun z => by
      have := sgn_n hpn z (by decide)
      have := sk_le (c := c) hpn
      omega
    rw [if_neg h124]
    exact ⟨ρ, p0, C, hB, hE, frM_0, h, rfl, hk.trans (sk_sk h.2.1).symm, h38, by rw [sg]; exact h124, fun _ _ => rfl⟩
  | succ fuel ih =>
    intro p p0 C hB hE ρ hf hpn hk h h38
    have h8 := h.2.2.2.2.2.2.2.1
    have sl := sk_le (c := c) h8
    have sg : sgn c n p0 = sgn c n p := by unfold sgn; rw [hk]
    show MCa s T0 c n S0 o ρ (if sgn c n p = 124 then bnd (groupP c n (claimP c n f) (sk c n p + 1) (bC hE 1002 (bC hB 1001 C))) (fun p' C' => altsP c n (claimP c n f) fuel p' (1002 :: C')) else .inr (sk c n p, bC hE 1002 (bC hB 1001 C))) _
    by_cases hg : sgn c n p = 124
    · rw [if_pos hg]
      have hlt := sgn_n hpn hg (by decide)
      obtain ⟨ρ1, a1, a2, a3⟩ := m_bar ho hS h (by rw [sg]; exact hg)
      rw [hk] at a2
      have hx := m_group ho hcl (Or.inr (Or.inr ⟨S0, rfl⟩)) (n1002 S0) (l1 := some (vI (nI o))) (l1' := some (vI (nI o))) (l4 := none) a2
      have hgo := group_go (c := c) (n := n) (b := 2 * f + 1) (by omega) (fun p C hp => claim_go (c := c) f p C hp) (sk c n p + 1) (bC hE 1002 (bC hB 1001 C)) (by omega)
      cases hy : groupP c n (claimP c n f) (sk c n p + 1) (bC hE 1002 (bC hB 1001 C)) with
      | inl q =>
        rw [hy] at hx
        obtain ⟨ρ', r1, r2, r3, r4⟩ := hx
        rw [bnd_l]
        exact ⟨ρ', frB_t a1.1 r1, r2, r3, fun D Q => (a3 D Q).trans (r4 D Q)⟩
      | inr y =>
        obtain ⟨p2, C2⟩ := y
        rw [hy] at hx hgo
        obtain ⟨ρ', q0, CR, b, r1, r2, r3, r4, r5, r6⟩ := hx
        have r3 : C2 = bC b 1001 CR := r3
        have r4 : sk c n q0 = sk c n p2 := r4
        obtain ⟨g1, g2, g3, g4⟩ := hgo
        have g1 : sk c n p + 1 < p2 := g1
        have g2 : p2 ≤ n := g2
        rw [bnd_r, r3]
        have r2 : MS s T0 c n q0 CR (bC b 1001 (bC true 1002 S0)) ρ' := r2
        have slp := sk_le (c := c) hpn
        have hi := ih p2 q0 CR b true ρ' (by omega) g2 r4 r2 r5
        rw [bC_t] at hi
        cases hw : altsP c n (claimP c n f) fuel p2 (1002 :: bC b 1001 CR) with
        | inl q =>
          rw [hw] at hi
          obtain ⟨ρ2, t1, t2, t3, t4⟩ := hi
          exact ⟨ρ2, frB_t a1.1 (frB_t r1.1 t1), t2, t3, fun D Q => (a3 D Q).trans ((r6 D Q).trans (t4 D Q))⟩
        | inr y =>
          rw [hw] at hi
          obtain ⟨ρ2, w0, CR2, b2, e2, t1, t2, t3, t4, t5, t6, t7⟩ := hi
          exact ⟨ρ2, w0, CR2, b2, e2, frM_t a1 (frM_t r1 t1), t2, t3, t4, t5, t6, fun D Q => (a3 D Q).trans ((r6 D Q).trans (t7 D Q))⟩
    · rw [if_neg hg]
      exact ⟨ρ, p0, C, hB, hE, frM_0, h, rfl, hk.trans (sk_sk h.2.1).symm, h38, by rw [sg]; exact hg, fun _ _ => rfl⟩
theorem m_cases {f o : Nat} (ho : o ≤ 6) (hcl : ∀ (p : Nat) (C S : List Nat) (ρ : St) (l1 l1' l4 : Option AV), noT S → MS s T0 c n p C S ρ → MRes s T0 c n S o ρ (claimP c n f p C) (fun D Q => KR D Q o l1 l1' l4 ρ)) {S0 : List Nat} (hS : bs4 S0) {p : Nat} {C : List Nat} {ρ : St} {l1 l1' l4 : Option AV} (h : MS s T0 c n p C S0 ρ) : MCa s T0 c n S0 o ρ (casesP c n (claimP c n f) p C) (fun D Q => KR D Q o l1 l1' l4 ρ) := by
  have h2 := h.2.1
  have h8 := h.2.2.2.2.2.2.2.1
  have hx := m_group ho hcl (bs4_3 hS) (bs4_n hS) (l1 := l1) (l1' := l1') (l4 := l4) h
  have hgo := group_go (c := c) (n := n) (b := 2 * f + 1) (by omega) (fun p C hp => claim_go (c := c) f p C hp) p C h8
  unfold casesP
  cases hy : groupP c n (claimP c n f) p C with
  | inl q =>
    rw [hy] at hx
    obtain ⟨ρ', r1, r2, r3, r4⟩ := hx
    rw [bnd_l]
    exact ⟨ρ', r1, r2, r3, r4⟩
  | inr y =>
    obtain ⟨p2, C2⟩ := y
    rw [hy] at hx hgo
    obtain ⟨ρ', q0, CR, b, r1, r2, r3, r4, r5, r6⟩ := hx
    have r3 : C2 = bC b 1001 CR := r3
    have r4 : sk c n q0 = sk c n p2 := r4
    obtain ⟨g1, g2, g3, g4⟩ := hgo
    have g1 : p < p2 := g1
    have g2 : p2 ≤ n := g2
    rw [bnd_r, r3]
    have r2 : MS s T0 c n q0 CR (bC b 1001 (bC false 1002 S0)) ρ' := r2
    have hi := m_alts ho hcl hS 119 p2 q0 CR b false ρ' (by omega) g2 r4 r2 r5
    rw [bC_f] at hi
    cases hw : altsP c n (claimP c n f) 119 p2 (bC b 1001 CR) with
    | inl q =>
      rw [hw] at hi
      obtain ⟨ρ2, t1, t2, t3, t4⟩ := hi
      exact ⟨ρ2, frB_t r1.1 t1, t2, t3, fun D Q => (r6 D Q).trans (t4 D Q)⟩
    | inr y =>
      rw [hw] at hi
      obtain ⟨ρ2, w0, CR2, b2, e2, t1, t2, t3, t4, t5, t6, t7⟩ := hi
      exact ⟨ρ2, w0, CR2, b2, e2, frM_t r1 t1, t2, t3, t4, t5, t6, fun D Q => (r6 D Q).trans (t7 D Q)⟩
theorem m_claimA : ∀ f o, o + f = 6 → ∀ (p : Nat) (C S : List Nat) (ρ : St) (l1 l1' l4 : Option AV), noT S → MS s T0 c n p C S ρ → MRes s T0 c n S o ρ (claimP c n f p C) (fun D Q => KR D Q o l1 l1' l4 ρ) := by
  intro f
  induction f with
  | zero =>
    intro o ho p C S ρ l1 l1' l4 hS h
    exact m_clean (by omega) hS h (fun z => by omega)
  | succ f ih =>
    intro o ho p C S ρ l1 l1' l4 hS h
    show MRes s T0 c n S o ρ (if sgn c n (denP c n p) = 40 then bnd (casesP c n (claimP c n f) (sk c n (denP c n p) + 1) C) (fun p' C' => if sgn c n p' = 41 then .inr (sk c n p' + 1, denC (denY c n p) C') else .inl (sk c n p')) else bnd (leanP c n (denP c n p) C) (fun p' C' => .inr (p', denC (denY c n p) C'))) _
    by_cases hg : sgn c n (denP c n p) = 40
    · rw [if_pos hg]
      obtain ⟨ρ1, a1, a2, a3⟩ := m_preA (l1 := l1') (l4 := l4) (show o < 6 by omega) h hg
      have first : ∀ D Q, KR D Q o l1 l1' l4 ρ = KR D Q (o + 1) l1 l1' l4 ρ1 := by
        intro D Q
        unfold KR
        exact a3 (D + 3) _
      have hx := m_cases (o := o + 1) (by omega) (ih (o + 1) (by omega)) (Or.inr ⟨_, rfl⟩) (l1 := l1) (l1' := l1') (l4 := l4) a2
      cases hy : casesP c n (claimP c n f) (sk c n (denP c n p) + 1) C with
      | inl q =>
        rw [hy] at hx
        obtain ⟨ρ', r1, r2, r3, r4⟩ := hx
        rw [bnd_l]
        exact ⟨ρ', frB_t a1.1 r1, r2, r3, fun D Q => (first D Q).trans (r4 D Q)⟩
      | inr y =>
        obtain ⟨p2, C2⟩ := y
        rw [hy] at hx
        obtain ⟨ρ', q0, CR, b, e, r1, r2, r3, r4, r5, r6, r7⟩ := hx
        have r3 : C2 = bC e 1002 (bC b 1001 CR) := r3
        have r4 : sk c n q0 = sk c n p2 := r4
        have sg : sgn c n q0 = sgn c n p2 := by unfold sgn; rw [r4]
        rw [bnd_r]
        by_cases hr : sgn c n p2 = 41
        · rw [if_pos hr]
          obtain ⟨ρ2, t1, t2, t3⟩ := m_close (show o < 6 by omega) hS r2 (by rw [sg]; exact hr)
          rw [r4] at t2
          refine ⟨ρ2, frM_t a1 (frM_t r1 t1), ?_, fun D Q => (first D Q).trans ((r7 D Q).trans (t3 D Q))⟩
          show MS s T0 c n (sk c n p2 + 1) (denC (denY c n p) C2) S ρ2
          rw [r3]
          exact t2
        · rw [if_neg hr]
          obtain ⟨ρ2, t1, t2, t3, t4⟩ := m_exitD (show o + 1 ≤ 6 by omega) (by omega) r2 (by rw [sg]; exact hr) r5 r6
          rw [r4] at t3
          exact ⟨ρ2, frB_t a1.1 (frB_t r1.1 t1), t2, t3, fun D Q => (first D Q).trans ((r7 D Q).trans (t4 D Q))⟩
    · rw [if_neg hg]
      exact m_clean (by omega) hS h (fun z => hg z.1)
/-- all that a lesson leans on -/
theorem m_leans {p : Nat} {C : List Nat} {ρ : St} (a1 : SH ρ) (hM : MS s T0 c n p C [] (setI ρ 12 14 0 0)) : match casesP c n (claimP c n 6) p C with
    | .inl q => ∃ ρ', frB PMc RMc ρ ρ' ∧ gI ρ' 12 3 0 = 1 ∧ gI ρ' 12 2 0 = nI q ∧ ∀ D Q, Rn (D + 4 + 1) Q (142, 0, [some (vR (some (12, 0, 0))), none, none], [], ρ) = Q none ρ'
    | .inr y => ∃ ρ', frM s ρ ρ' ∧ MS s T0 c n (sk c n y.1) y.2 [] ρ' ∧ ∀ D Q, Rn (D + 4 + 1) Q (142, 0, [some (vR (some (12, 0, 0))), none, none], [], ρ) = Q none ρ' := by
  have w6 := hM.2.2.2.2.2.1
  have b1 := hM.1
  have hx := m_cases (f := 6) (o := 0) (by omega) (m_claimA 6 0 (by omega)) (Or.inl rfl) (l1 := some (vI 0)) (l1' := some (vI 0)) (l4 := none) hM
  have first : ∀ D Q, Rn (D + 4 + 1) Q (142, 0, [some (vR (some (12, 0, 0))), none, none], [], ρ) = KR D Q 0 (some (vI 0)) (some (vI 0)) none (setI ρ 12 14 0 0) := by
    intro D Q
    unfold KR
    rw [nI_0]
    simp +decide only [e142_0, e142_1, e142_2, e142_3, e142_4, e142_7, e142_8, e142_10, e142_13, e142_14, e142_17, e142_20, e142_21, e142_22, e142_25, e142_27, e142_30, e142_31, e142_33, e142_36, e142_39, e142_40, e142_42, e142_45, e142_46, e142_47, e142_50, e142_51, e142_52, e142_55, e142_58, e142_59, e142_62, e142_65, e142_66, e142_67, e142_68, e142_70, e142_73, e142_76, e142_77, e142_79, e142_82, e142_83, e142_86, e142_87, e142_90, e142_92, e142_93, e142_94, e142_95, e142_98, e142_99, e142_100, e142_103, e142_104, e142_105, e142_108, e142_109, e142_111, e142_114, e142_117, e142_118, e142_120, e142_123, e142_124, e142_127, e142_128, e142_131, e142_133, e142_134, e142_135, e142_136, e142_139, e142_140, e142_141, e142_144, e142_145, e142_146, e142_149, e142_150, e142_153, e142_154, e142_155, e142_158, e142_161, e142_162, e142_164, e142_167, true_and, and_true, or_true, true_or, if_true, if_false, not_true_eq_false, not_false_eq_true, ne_eq, and_self, Option.toList_some, Option.toList_none, List.cons_append, List.nil_append, catS_0, catS_I, catS_L, catS_R, Option.map_some, Option.map_none, Option.some.injEq, Sum.inl.injEq, exists_eq_left', exists_eq', N12 a1]
    rw [e142_9]
    simp +decide only [e142_0, e142_1, e142_2, e142_3, e142_4, e142_7, e142_8, e142_10, e142_13, e142_14, e142_17, e142_20, e142_21, e142_22, e142_27, e142_30, e142_31, e142_33, e142_36, e142_39, e142_40, e142_42, e142_45, e142_46, e142_47, e142_50, e142_51, e142_52, e142_55, e142_58, e142_59, e142_62, e142_65, e142_66, e142_67, e142_68, e142_70, e142_73, e142_76, e142_77, e142_79, e142_82, e142_83, e142_86, e142_87, e142_90, e142_92, e142_93, e142_94, e142_95, e142_98, e142_99, e142_100, e142_103, e142_104, e142_105, e142_108, e142_109, e142_111, e142_114, e142_117, e142_118, e142_120, e142_123, e142_124, e142_127, e142_128, e142_131, e142_133, e142_134, e142_135, e142_136, e142_139, e142_140, e142_141, e142_144, e142_145, e142_146, e142_149, e142_150, e142_153, e142_154, e142_155, e142_158, e142_161, e142_162, e142_164, e142_167, e141_0, e141_1, e141_2, e141_3, e141_5, e141_8, e141_9, e141_12, e141_15, e141_16, e141_19, e141_21, e141_24, e141_25, e141_26, e141_29, e141_30, e141_31, e141_34, e141_35, e141_38, e141_39, e141_42, e141_44, e141_45, e141_46, e141_47, e141_50, e141_51, e141_52, e141_55, e141_56, e141_59, e141_61, e141_64, e141_65, e141_67, e141_70, e141_71, e141_72, e141_75, e141_76, e141_77, e141_80, e141_81, e141_84, e141_85, e141_88, e141_89, e141_90, e141_91, e141_92, e141_95, e141_96, e141_97, e141_100, e141_103, e141_106, e141_107, e141_108, e141_111, e141_112, e141_115, e141_117, e141_119, e141_120, e141_123, e141_126, e141_129, e141_132, e141_133, e141_134, e141_137, e141_140, e141_141, e141_142, e141_143, e141_144, e141_147, e141_148, e141_149, e141_152, e141_153, e141_154, e141_157, e141_158, e141_160, e141_162, e141_163, e141_164, e141_165, e141_168, e141_169, e141_171, e141_174, e141_177, e141_178, e141_180, e141_182, e141_183, e141_185, e141_188, e141_189, e141_190, e141_192, e141_193, e141_195, e141_196, e141_199, e141_202, e141_203, e141_205, e141_207, e141_208, e141_211, e141_212, e141_215, e141_216, true_and, and_true, or_true, true_or, if_true, if_false, not_true_eq_false, not_false_eq_true, ne_eq, and_self, Option.toList_some, Option.toList_none, List.cons_append, List.nil_append, catS_0, catS_I, catS_L, catS_R, Option.map_some, Option.map_none, Option.some.injEq, Sum.inl.injEq, exists_eq_left', exists_eq', w6, N12 a1, N12 b1]
  cases hy : casesP c n (claimP c n 6) p C with
  | inl q =>
    rw [hy] at hx
    obtain ⟨ρ', r1, r2, r3, r4⟩ := hx
    exact ⟨ρ', frB_t (frB_I (by decide)) r1, r2, r3, fun D Q => (first D Q).trans (r4 D Q)⟩
  | inr y =>
    obtain ⟨p2, C2⟩ := y
    rw [hy] at hx
    obtain ⟨ρ', q0, CR, b, e, r1, r2, r3, r4, r5, r6, r7⟩ := hx
    have r3 : C2 = bC e 1002 (bC b 1001 CR) := r3
    have r4 : sk c n q0 = sk c n p2 := r4
    obtain ⟨ρ2, t1, t2, t3⟩ := m_exit0 r2 r5 r6
    rw [r4, ← r3] at t2
    exact ⟨ρ2, frM_t (frM_I (by decide)) (frM_t r1 t1), t2, fun D Q => (first D Q).trans ((r7 D Q).trans (t3 D Q))⟩
end MCASES
