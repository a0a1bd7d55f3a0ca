/-- the best so far, on the reference's side -/
def BR (K U : Nat) (b : Int × Nat × (Nat → Nat)) (ρ : St) : Prop := (gI ρ 12 64 0).toInt = b.1 ∧ (-1 ≤ b.1 ∧ b.1 ≤ 100) ∧ (0 ≤ b.1 → gI ρ 12 65 0 = nI b.2.1 ∧ b.2.1 ≤ 1000 ∧ ∀ j, j < K → gA ρ 12 62 0 j = nI (b.2.2 j) ∧ b.2.2 j ≤ U)
def PK2 (c k : Nat) : Bool := decide (c = 12 ∧ k = 62)
theorem PK2_w : ∀ c k, PK c k = false → PK2 c k = false := by
  intro c k h
  unfold PK at h
  unfold PK2
  rw [decide_eq_false_iff_not] at *
  omega
theorem RN_w : ∀ c k, RK c k = false → RN c k = false := fun _ _ _ => rfl
section ALL
variable {K U : Nat} {fit : Nat → Nat → Bool} {pace l0 L : Nat → Nat} {dy : Int32}
theorem m_copy (hK : K ≤ 6) {v : Nat → Nat} : ∀ (n j : Nat) (ρ : St), j + n = K → SRr K U fit pace l0 L ρ → (∀ j, j < K → gA ρ 12 61 0 j = nI (v j)) → (∀ i, i < j → gA ρ 12 62 0 i = nI (v i)) → ∃ ρ', frB PK2 RN ρ ρ' ∧ (∀ i, i < K → gA ρ' 12 62 0 i = nI (v i)) ∧ ∀ D Q, Rn D Q (193, 164, [some (vR (some (12, 0, 0))), some (vI dy), some (vI 1), some (vI (nI j))], [], ρ) = Rn D Q (193, 190, [some (vR (some (12, 0, 0))), some (vI dy), some (vI 1), some (vI (nI K))], [], ρ') := by
  intro n
  induction n with
  | zero =>
    intro j ρ hu hC h1 h2
    obtain ⟨a1, c1, c2, c3⟩ := hC
    have hu : j = K := by omega
    subst hu
    have y1 : nI j ≤ nI j := nI_le (by omega) (by omega)
    refine ⟨ρ, frB_0, h2, fun D Q => ?_⟩
    rw [e193_164]
    simp +decide only [e193_0, e193_1, e193_2, e193_5, e193_6, e193_8, e193_9, e193_12, e193_15, e193_16, e193_19, e193_21, e193_24, e193_25, e193_28, e193_29, e193_30, e193_31, e193_34, e193_35, e193_38, e193_39, e193_40, e193_42, e193_45, e193_46, e193_49, e193_50, e193_51, e193_52, e193_55, e193_56, e193_59, e193_60, e193_63, e193_64, e193_65, e193_66, e193_69, e193_70, e193_73, e193_74, e193_75, e193_76, e193_77, e193_80, e193_81, e193_82, e193_85, e193_88, e193_91, e193_92, e193_93, e193_96, e193_97, e193_99, e193_102, e193_103, e193_106, e193_107, e193_110, e193_111, e193_114, e193_117, e193_118, e193_121, e193_124, e193_125, e193_128, e193_129, e193_132, e193_135, e193_136, e193_139, e193_140, e193_143, e193_146, e193_147, e193_148, e193_151, e193_154, e193_155, e193_156, e193_159, e193_162, e193_163, e193_165, e193_166, e193_169, e193_172, e193_173, e193_176, e193_177, e193_178, e193_181, e193_182, e193_183, e193_184, e193_187, e193_191, e193_194, e193_195, e193_198, true_and, and_true, or_true, true_or, if_true, if_false, not_true_eq_false, not_false_eq_true, ne_eq, and_self, Option.toList_some, Option.toList_none, List.cons_append, List.nil_append, catS_0, catS_I, catS_L, catS_R, Option.map_some, Option.map_none, c2, y1, N12 a1]
  | succ n ih =>
    intro j ρ hu hC h1 h2
    have hC0 := hC
    obtain ⟨a1, c1, c2, c3⟩ := hC
    have y1 : ¬ nI K ≤ nI j := nI_ge (by omega) (by omega)
    have y2 : (nI j).toInt = (j : Int) := nI_toInt (by omega)
    have y3 : (0 : Int) ≤ (j : Int) := by omega
    have y4 : (j : Int) < ((6 : Nat) : Int) := by omega
    have y5 : (nI j).toNatClampNeg = j := nI_clamp (by omega)
    have hj := h1 j (by omega)
    obtain ⟨ρ', p1, p2, p3⟩ := ih (j + 1) (setA ρ 12 62 0 (upd (gA ρ 12 62 0) j (nI (v j)))) (by omega) (SR_fr (frB_A (by decide)) hC0) (by simp +decide only [II, AA, RR, QQ, IA, IR, IQ, AI, AR, AQ, RI, RA, RQ, QI, QA, QR, LI, LA, LR, LQ, NI, NA, NR, NQ, HI, HA, HR, HQ, SI, SA, SR, SQ, true_and, and_true, or_true, true_or, if_true, if_false, not_true_eq_false, not_false_eq_true, ne_eq, and_self]; exact h1) (by
      simp +decide only [II, AA, RR, QQ, IA, IR, IQ, AI, AR, AQ, RI, RA, RQ, QI, QA, QR, LI, LA, LR, LQ, NI, NA, NR, NQ, HI, HA, HR, HQ, SI, SA, SR, SQ, true_and, and_true, or_true, true_or, if_true, if_false, not_true_eq_false, not_false_eq_true, ne_eq, and_self]
      intro i hi
      by_cases hij : i = j
      · rw [hij, updS0]
      · rw [pk_un hij]; exact h2 i (by omega))
    refine ⟨ρ', frB_t (frB_A (by decide)) p1, p2, fun D Q => ?_⟩
    rw [← p3 D Q, e193_164, ← nI_1 j]
    simp +decide only [e193_0, e193_1, e193_2, e193_5, e193_6, e193_8, e193_9, e193_12, e193_15, e193_16, e193_19, e193_21, e193_24, e193_25, e193_28, e193_29, e193_30, e193_31, e193_34, e193_35, e193_38, e193_39, e193_40, e193_42, e193_45, e193_46, e193_49, e193_50, e193_51, e193_52, e193_55, e193_56, e193_59, e193_60, e193_63, e193_64, e193_65, e193_66, e193_69, e193_70, e193_73, e193_74, e193_75, e193_76, e193_77, e193_80, e193_81, e193_82, e193_85, e193_88, e193_91, e193_92, e193_93, e193_96, e193_97, e193_99, e193_102, e193_103, e193_106, e193_107, e193_110, e193_111, e193_114, e193_117, e193_118, e193_121, e193_124, e193_125, e193_128, e193_129, e193_132, e193_135, e193_136, e193_139, e193_140, e193_143, e193_146, e193_147, e193_148, e193_151, e193_154, e193_155, e193_156, e193_159, e193_162, e193_163, e193_165, e193_166, e193_169, e193_172, e193_173, e193_176, e193_177, e193_178, e193_181, e193_182, e193_183, e193_184, e193_187, e193_191, e193_194, e193_195, e193_198, true_and, and_true, or_true, true_or, if_true, if_false, not_true_eq_false, not_false_eq_true, ne_eq, and_self, Option.toList_some, Option.toList_none, List.cons_append, List.nil_append, catS_0, catS_I, catS_L, catS_R, Option.map_some, Option.map_none, Option.some.injEq, Sum.inl.injEq, exists_eq_left', exists_eq', II, AA, RR, QQ, IA, IR, IQ, AI, AR, AQ, RI, RA, RQ, QI, QA, QR, LI, LA, LR, LQ, NI, NA, NR, NQ, HI, HA, HR, HQ, SI, SA, SR, SQ, c2, hj, y1, y2, y3, y4, y5, N12 a1, L12_61 a1, L12_62 a1]
/-- one way looked at -/
theorem m_leaf {v : Nat → Nat} {b : Int × Nat × (Nat → Nat)} {ρ : St} {l3 : Option AV} (hK : K ≤ 6) (hU : U ≤ 6) (hC : SRr K U fit pace l0 L ρ) (hr : ∀ j, j < K → gA ρ 12 61 0 j = nI (v j) ∧ v j ≤ U) (hB : BR K U b ρ) : ∃ ρ' l3', frB PK RK ρ ρ' ∧ (∀ j, j < K → gA ρ' 12 61 0 j = nI (v j)) ∧ BR K U (updB K U fit pace l0 v b) ρ' ∧ ∀ D Q, Rn (D + 3) Q (193, 98, [some (vR (some (12, 0, 0))), some (vI dy), some (vI 1), l3], [], ρ) = Rn (D + 3) Q (193, 190, [some (vR (some (12, 0, 0))), some (vI dy), some (vI 1), l3'], [], ρ') := by
  obtain ⟨ρ1, p1, p2, p3⟩ := m_look hK hU hC hr
  have hC1 := SR_fr (frB_w p1 PK3_w RK3_w) hC
  have a1 := hC.1
  have b1 := hC1.1
  have fr1 := p1
  obtain ⟨q1, q2, q3, q4, q5, q6, q7, q8⟩ := p1
  have hr1 : ∀ j, j < K → gA ρ1 12 61 0 j = nI (v j) := by rw [q7 12 61 (by decide)]; exact fun j hj => (hr j hj).1
  have hB1 : BR K U b ρ1 := by
    unfold BR
    rw [q8 12 64 (by decide), q8 12 65 (by decide), q7 12 62 (by decide)]
    exact hB
  obtain ⟨B1, B2, B3⟩ := hB1
  have p3 := fun D => p3 (D + 1)
  cases he : evV U fit pace l0 v K with
  | none =>
    rw [he] at p2
    have p2 : gI ρ1 12 66 0 = -1 := p2
    have hu : updB K U fit pace l0 v b = b := by unfold updB; rw [he]
    have z1 : ¬ gI ρ1 12 64 0 < -1 := by rw [ltI, B1]; have : (-1 : Int32).toInt = -1 := by decide
                                         rw [this]; omega
    refine ⟨ρ1, l3, frB_w fr1 PK3_w RK3_w, hr1, by rw [hu]; exact ⟨B1, B2, B3⟩, fun D Q => ?_⟩
    rw [e193_98]
    simp +decide only [e193_0, e193_1, e193_2, e193_5, e193_6, e193_8, e193_9, e193_12, e193_15, e193_16, e193_19, e193_21, e193_24, e193_25, e193_28, e193_29, e193_30, e193_31, e193_34, e193_35, e193_38, e193_39, e193_40, e193_42, e193_45, e193_46, e193_49, e193_50, e193_51, e193_52, e193_55, e193_56, e193_59, e193_60, e193_63, e193_64, e193_65, e193_66, e193_69, e193_70, e193_73, e193_74, e193_75, e193_76, e193_77, e193_80, e193_81, e193_82, e193_85, e193_88, e193_91, e193_92, e193_93, e193_96, e193_97, e193_99, e193_102, e193_103, e193_106, e193_107, e193_110, e193_111, e193_114, e193_117, e193_118, e193_121, e193_124, e193_125, e193_128, e193_129, e193_132, e193_135, e193_136, e193_139, e193_140, e193_143, e193_146, e193_147, e193_148, e193_151, e193_154, e193_155, e193_156, e193_159, e193_162, e193_163, e193_165, e193_166, e193_169, e193_172, e193_173, e193_176, e193_177, e193_178, e193_181, e193_182, e193_183, e193_184, e193_187, e193_191, e193_194, e193_195, e193_198, true_and, and_true, or_true, true_or, if_true, if_false, not_true_eq_false, not_false_eq_true, ne_eq, and_self, Option.toList_some, Option.toList_none, List.cons_append, List.nil_append, catS_0, catS_I, catS_L, catS_R, Option.map_some, Option.map_none, Option.some.injEq, Sum.inl.injEq, exists_eq_left', exists_eq', p3, p2, z1, N12 a1, N12 b1]
  | some x =>
    obtain ⟨ldx, m, s⟩ := x
    rw [he] at p2
    have p2 : gI ρ1 12 66 0 = nI m ∧ gI ρ1 12 67 0 = nI s ∧ m ≤ 6 ∧ s ≤ 78 := p2
    obtain ⟨p21, p22, p23, p24⟩ := p2
    have hu : updB K U fit pace l0 v b = leafS m s v b := by unfold updB; rw [he]
    have zm : (nI m).toInt = (m : Int) := nI_toInt (by omega)
    have x1 : ¬ nI m < 0 := nI_pos (by omega)
    by_cases hb : b.1 < (m : Int) ∨ (b.1 = (m : Int) ∧ s < b.2.1)
    · have hl : leafS m s v b = ((m : Int), s, v) := by unfold leafS; rw [if_pos hb]
      obtain ⟨ρ2, r1, r2, r3⟩ := m_copy (U := U) (fit := fit) (pace := pace) (l0 := l0) (L := L) (dy := dy) hK (v := v) K 0 (setI (setI ρ1 12 64 0 (nI m)) 12 65 0 (nI s)) (by omega) (SR_fr (frB_t (frB_I (by decide)) (frB_I (by decide))) hC1) (by simp +decide only [II, AA, RR, QQ, IA, IR, IQ, AI, AR, AQ, RI, RA, RQ, QI, QA, QR, LI, LA, LR, LQ, NI, NA, NR, NQ, HI, HA, HR, HQ, SI, SA, SR, SQ, true_and, and_true, or_true, true_or, if_true, if_false, not_true_eq_false, not_false_eq_true, ne_eq, and_self]; exact hr1) (by intro i hi; omega)
      refine ⟨ρ2, _, frB_t (frB_w fr1 PK3_w RK3_w) (frB_t (frB_t (frB_I (by decide)) (frB_I (by decide))) (frB_w r1 PK2_w RN_w)), ?_, ?_, fun D Q => (Eq.trans ?_ (r3 (D + 3) Q))⟩
      · rw [r1.2.2.2.2.2.2.1 12 61 (by decide)]
        simp +decide only [II, AA, RR, QQ, IA, IR, IQ, AI, AR, AQ, RI, RA, RQ, QI, QA, QR, LI, LA, LR, LQ, NI, NA, NR, NQ, HI, HA, HR, HQ, SI, SA, SR, SQ, true_and, and_true, or_true, true_or, if_true, if_false, not_true_eq_false, not_false_eq_true, ne_eq, and_self]
        exact hr1
      · rw [hu, hl]
        unfold BR
        rw [r1.2.2.2.2.2.2.2 12 64 (by decide), r1.2.2.2.2.2.2.2 12 65 (by decide)]
        simp +decide only [II, AA, RR, QQ, IA, IR, IQ, AI, AR, AQ, RI, RA, RQ, QI, QA, QR, LI, LA, LR, LQ, NI, NA, NR, NQ, HI, HA, HR, HQ, SI, SA, SR, SQ, true_and, and_true, or_true, true_or, if_true, if_false, not_true_eq_false, not_false_eq_true, ne_eq, and_self]
        refine ⟨by rw [updS0, zm], ⟨by omega, by omega⟩, fun _ => ⟨updS0, by omega, fun j hj => ⟨r2 j hj, (hr j hj).2⟩⟩⟩
      · rw [nI_0, e193_98]
        by_cases hb1 : b.1 < (m : Int)
        · have z1 : gI ρ1 12 64 0 < nI m := by rw [ltI, B1, zm]; exact hb1
          simp +decide only [e193_0, e193_1, e193_2, e193_5, e193_6, e193_8, e193_9, e193_12, e193_15, e193_16, e193_19, e193_21, e193_24, e193_25, e193_28, e193_29, e193_30, e193_31, e193_34, e193_35, e193_38, e193_39, e193_40, e193_42, e193_45, e193_46, e193_49, e193_50, e193_51, e193_52, e193_55, e193_56, e193_59, e193_60, e193_63, e193_64, e193_65, e193_66, e193_69, e193_70, e193_73, e193_74, e193_75, e193_76, e193_77, e193_80, e193_81, e193_82, e193_85, e193_88, e193_91, e193_92, e193_93, e193_96, e193_97, e193_99, e193_102, e193_103, e193_106, e193_107, e193_110, e193_111, e193_114, e193_117, e193_118, e193_121, e193_124, e193_125, e193_128, e193_129, e193_132, e193_135, e193_136, e193_139, e193_140, e193_143, e193_146, e193_147, e193_148, e193_151, e193_154, e193_155, e193_156, e193_159, e193_162, e193_163, e193_165, e193_166, e193_169, e193_172, e193_173, e193_176, e193_177, e193_178, e193_181, e193_182, e193_183, e193_184, e193_187, e193_191, e193_194, e193_195, e193_198, true_and, and_true, or_true, true_or, if_true, if_false, not_true_eq_false, not_false_eq_true, ne_eq, and_self, Option.toList_some, Option.toList_none, List.cons_append, List.nil_append, catS_0, catS_I, catS_L, catS_R, Option.map_some, Option.map_none, Option.some.injEq, Sum.inl.injEq, exists_eq_left', exists_eq', II, AA, RR, QQ, IA, IR, IQ, AI, AR, AQ, RI, RA, RQ, QI, QA, QR, LI, LA, LR, LQ, NI, NA, NR, NQ, HI, HA, HR, HQ, SI, SA, SR, SQ, p3, p21, p22, z1, N12 a1, N12 b1]
        · have hb2 : b.1 = (m : Int) ∧ s < b.2.1 := by omega
          have z1 : ¬ gI ρ1 12 64 0 < nI m := by rw [ltI, B1, zm]; exact hb1
          have z2 : gI ρ1 12 64 0 = nI m := Int32.toInt_inj.mp (by rw [B1, zm]; exact hb2.1)
          have z1' : ¬ nI m < nI m := nI_nlt (by omega) (by omega)
          obtain ⟨B4, B5, B6⟩ := B3 (by omega)
          have z3 : ¬ nI b.2.1 ≤ nI s := nI_ge (by omega) (by omega)
          simp +decide only [e193_0, e193_1, e193_2, e193_5, e193_6, e193_8, e193_9, e193_12, e193_15, e193_16, e193_19, e193_21, e193_24, e193_25, e193_28, e193_29, e193_30, e193_31, e193_34, e193_35, e193_38, e193_39, e193_40, e193_42, e193_45, e193_46, e193_49, e193_50, e193_51, e193_52, e193_55, e193_56, e193_59, e193_60, e193_63, e193_64, e193_65, e193_66, e193_69, e193_70, e193_73, e193_74, e193_75, e193_76, e193_77, e193_80, e193_81, e193_82, e193_85, e193_88, e193_91, e193_92, e193_93, e193_96, e193_97, e193_99, e193_102, e193_103, e193_106, e193_107, e193_110, e193_111, e193_114, e193_117, e193_118, e193_121, e193_124, e193_125, e193_128, e193_129, e193_132, e193_135, e193_136, e193_139, e193_140, e193_143, e193_146, e193_147, e193_148, e193_151, e193_154, e193_155, e193_156, e193_159, e193_162, e193_163, e193_165, e193_166, e193_169, e193_172, e193_173, e193_176, e193_177, e193_178, e193_181, e193_182, e193_183, e193_184, e193_187, e193_191, e193_194, e193_195, e193_198, true_and, and_true, or_true, true_or, if_true, if_false, not_true_eq_false, not_false_eq_true, ne_eq, and_self, Option.toList_some, Option.toList_none, List.cons_append, List.nil_append, catS_0, catS_I, catS_L, catS_R, Option.map_some, Option.map_none, Option.some.injEq, Sum.inl.injEq, exists_eq_left', exists_eq', II, AA, RR, QQ, IA, IR, IQ, AI, AR, AQ, RI, RA, RQ, QI, QA, QR, LI, LA, LR, LQ, NI, NA, NR, NQ, HI, HA, HR, HQ, SI, SA, SR, SQ, p3, p21, p22, z1', z2, x1, B4, z3, N12 a1, N12 b1]
    · have hl : leafS m s v b = b := by unfold leafS; rw [if_neg hb]
      refine ⟨ρ1, l3, frB_w fr1 PK3_w RK3_w, hr1, by rw [hu, hl]; exact ⟨B1, B2, B3⟩, fun D Q => ?_⟩
      have z1 : ¬ gI ρ1 12 64 0 < nI m := by rw [ltI, B1, zm]; omega
      rw [e193_98]
      by_cases hb2 : b.1 = (m : Int)
      · have z2 : gI ρ1 12 64 0 = nI m := Int32.toInt_inj.mp (by rw [B1, zm]; exact hb2)
        have z1' : ¬ nI m < nI m := nI_nlt (by omega) (by omega)
        obtain ⟨B4, B5, B6⟩ := B3 (by omega)
        have z3 : nI b.2.1 ≤ nI s := nI_le (by omega) (by omega)
        simp +decide only [e193_0, e193_1, e193_2, e193_5, e193_6, e193_8, e193_9, e193_12, e193_15, e193_16, e193_19, e193_21, e193_24, e193_25, e193_28, e193_29, e193_30, e193_31, e193_34, e193_35, e193_38, e193_39, e193_40, e193_42, e193_45, e193_46, e193_49, e193_50, e193_51, e193_52, e193_55, e193_56, e193_59, e193_60, e193_63, e193_64, e193_65, e193_66, e193_69, e193_70, e193_73, e193_74, e193_75, e193_76, e193_77, e193_80, e193_81, e193_82, e193_85, e193_88, e193_91, e193_92, e193_93, e193_96, e193_97, e193_99, e193_102, e193_103, e193_106, e193_107, e193_110, e193_111, e193_114, e193_117, e193_118, e193_121, e193_124, e193_125, e193_128, e193_129, e193_132, e193_135, e193_136, e193_139, e193_140, e193_143, e193_146, e193_147, e193_148, e193_151, e193_154, e193_155, e193_156, e193_159, e193_162, e193_163, e193_165, e193_166, e193_169, e193_172, e193_173, e193_176, e193_177, e193_178, e193_181, e193_182, e193_183, e193_184, e193_187, e193_191, e193_194, e193_195, e193_198, true_and, and_true, or_true, true_or, if_true, if_false, not_true_eq_false, not_false_eq_true, ne_eq, and_self, Option.toList_some, Option.toList_none, List.cons_append, List.nil_append, catS_0, catS_I, catS_L, catS_R, Option.map_some, Option.map_none, Option.some.injEq, Sum.inl.injEq, exists_eq_left', exists_eq', II, AA, RR, QQ, IA, IR, IQ, AI, AR, AQ, RI, RA, RQ, QI, QA, QR, LI, LA, LR, LQ, NI, NA, NR, NQ, HI, HA, HR, HQ, SI, SA, SR, SQ, p3, p21, p22, z1', z2, x1, B4, z3, N12 a1, N12 b1]
      · have z2 : ¬ nI m = gI ρ1 12 64 0 := fun z => hb2 (by rw [← B1, ← z, zm])
        simp +decide only [e193_0, e193_1, e193_2, e193_5, e193_6, e193_8, e193_9, e193_12, e193_15, e193_16, e193_19, e193_21, e193_24, e193_25, e193_28, e193_29, e193_30, e193_31, e193_34, e193_35, e193_38, e193_39, e193_40, e193_42, e193_45, e193_46, e193_49, e193_50, e193_51, e193_52, e193_55, e193_56, e193_59, e193_60, e193_63, e193_64, e193_65, e193_66, e193_69, e193_70, e193_73, e193_74, e193_75, e193_76, e193_77, e193_80, e193_81, e193_82, e193_85, e193_88, e193_91, e193_92, e193_93, e193_96, e193_97, e193_99, e193_102, e193_103, e193_106, e193_107, e193_110, e193_111, e193_114, e193_117, e193_118, e193_121, e193_124, e193_125, e193_128, e193_129, e193_132, e193_135, e193_136, e193_139, e193_140, e193_143, e193_146, e193_147, e193_148, e193_151, e193_154, e193_155, e193_156, e193_159, e193_162, e193_163, e193_165, e193_166, e193_169, e193_172, e193_173, e193_176, e193_177, e193_178, e193_181, e193_182, e193_183, e193_184, e193_187, e193_191, e193_194, e193_195, e193_198, true_and, and_true, or_true, true_or, if_true, if_false, not_true_eq_false, not_false_eq_true, ne_eq, and_self, Option.toList_some, Option.toList_none, List.cons_append, List.nil_append, catS_0, catS_I, catS_L, catS_R, Option.map_some, Option.map_none, Option.some.injEq, Sum.inl.injEq, exists_eq_left', exists_eq', II, AA, RR, QQ, IA, IR, IQ, AI, AR, AQ, RI, RA, RQ, QI, QA, QR, LI, LA, LR, LQ, NI, NA, NR, NQ, HI, HA, HR, HQ, SI, SA, SR, SQ, p3, p21, p22, z1, z2, x1, N12 a1, N12 b1]
/-- all ways below one beginning -/
theorem m_sub (hK : K ≤ 6) (hU : U ≤ 6) : ∀ (f at' : Nat) (v : Nat → Nat) (b : Int × Nat × (Nat → Nat)) (ρ : St) (l3 : Option AV), at' + f = K → SRr K U fit pace l0 L ρ → (∀ j, j < at' → v j ≤ U) → (∀ j, j < K → gA ρ 12 61 0 j = if j < at' then nI (v j) else 0) → BR K U b ρ → ∃ ρ' l3', frB PK RK ρ ρ' ∧ (∀ j, j < K → gA ρ' 12 61 0 j = if j < at' then nI (v j) else nI U) ∧ BR K U (allV K U fit pace l0 f at' v b) ρ' ∧ ∀ D Q, Rn (D + 3) Q (193, 98, [some (vR (some (12, 0, 0))), some (vI dy), some (vI 1), l3], [], ρ) = Rn (D + 3) Q (193, 190, [some (vR (some (12, 0, 0))), some (vI dy), some (vI 1), l3'], [], ρ') := by
  intro f
  induction f with
  | zero =>
    intro at' v b ρ l3 hk hC hvU hr hB
    obtain ⟨ρ', l3', p1, p2, p3, p4⟩ := m_leaf (v := v) (dy := dy) (l3 := l3) hK hU hC (fun j hj => ⟨by rw [hr j hj, if_pos (by omega)], hvU j (by omega)⟩) hB
    exact ⟨ρ', l3', p1, fun j hj => by rw [if_pos (by omega)]; exact p2 j hj, p3, p4⟩
  | succ f ih =>
    intro at' v b ρ l3 hk hC hvU hr hB
    have key : ∀ u, u ≤ U → ∃ ρ' l3', frB PK RK ρ ρ' ∧ (∀ j, j < K → gA ρ' 12 61 0 j = if j < at' then nI (v j) else if j = at' then nI u else nI U) ∧ BR K U (lpT (fun _ => true) (fun u b => allV K U fit pace l0 f (at' + 1) (va_up v at' u) b) (u + 1) b) ρ' ∧ ∀ D Q, Rn (D + 3) Q (193, 98, [some (vR (some (12, 0, 0))), some (vI dy), some (vI 1), l3], [], ρ) = Rn (D + 3) Q (193, 190, [some (vR (some (12, 0, 0))), some (vI dy), some (vI 1), l3'], [], ρ') := by
      have hup : ∀ u, u ≤ U → ∀ j, j < at' + 1 → va_up v at' u j ≤ U := by
        intro u hu j hj
        by_cases hja : j = at'
        · rw [hja, vaS]; exact hu
        · rw [va_up_ne _ _ hja]; exact hvU j (by omega)
      have hrow : ∀ u j, j < K → (if j < at' + 1 then nI (va_up v at' u j) else nI U) = if j < at' then nI (v j) else if j = at' then nI u else nI U := by
        intro u j hj
        by_cases h1 : j < at'
        · rw [if_pos (by omega), if_pos h1, va_up_ne _ _ (by omega)]
        · by_cases h2 : j = at'
          · rw [if_pos (by omega), if_neg h1, if_pos h2, h2, vaS]
          · rw [if_neg (by omega), if_neg h1, if_neg h2]
      intro u
      induction u with
      | zero =>
        intro _
        obtain ⟨ρ', l3', p1, p2, p3, p4⟩ := ih (at' + 1) (va_up v at' 0) b ρ l3 (by omega) hC (hup 0 (by omega)) (fun j hj => by
          rw [hr j hj]
          by_cases h1 : j < at'
          · rw [if_pos h1, if_pos (by omega), va_up_ne _ _ (by omega)]
          · rw [if_neg h1]
            by_cases h2 : j = at'
            · rw [if_pos (by omega), h2, vaS]; rfl
            · rw [if_neg (by omega)]) hB
        exact ⟨ρ', l3', p1, fun j hj => (p2 j hj).trans (hrow 0 j hj), p3, p4⟩
      | succ u ihu =>
        intro hu
        obtain ⟨ρ1, m3, p1, p2, p3, p4⟩ := ihu (by omega)
        have hC1 := SR_fr p1 hC
        have hpos : ∀ j, j < K → gA ρ1 12 61 0 j = nI (if j < at' then v j else if j = at' then u else U) := fun j hj => by
          rw [p2 j hj]
          by_cases h1 : j < at'
          · rw [if_pos h1, if_pos h1]
          · rw [if_neg h1, if_neg h1]
            by_cases h2 : j = at'
            · rw [if_pos h2, if_pos h2]
            · rw [if_neg h2, if_neg h2]
        have e1 : (if at' < at' then v at' else if at' = at' then u else U) = u := by rw [if_neg (by omega), if_pos rfl]
        obtain ⟨ρ2, s1, s2, s3⟩ := m_step (v := fun j => if j < at' then v j else if j = at' then u else U) (at' := at') hK hU (by omega) (by show (if at' < at' then v at' else if at' = at' then u else U) < U; rw [e1]; omega) (fun j hj => by
          show (if j < at' then v j else if j = at' then u else U) ≤ U
          by_cases h1 : j < at'
          · rw [if_pos h1]; exact hvU j h1
          · rw [if_neg h1]; split <;> omega) (fun j h1 h2 => by
          show (if j < at' then v j else if j = at' then u else U) = U
          rw [if_neg (by omega), if_neg (by omega)]) hC1 hpos
        have s2 : ∀ j, j < K → gA ρ2 12 61 0 j = if at' < j then 0 else if j = at' then nI (u + 1) else nI (if j < at' then v j else if j = at' then u else U) := by
          intro j hj
          have := s2 j hj
          rw [e1] at this
          exact this
        have hC2 := SR_fr (frB_w s1 PK1_w RN_w) hC1
        have hB2 : BR K U (lpT (fun _ => true) (fun u b => allV K U fit pace l0 f (at' + 1) (va_up v at' u) b) (u + 1) b) ρ2 := by
          unfold BR
          rw [s1.2.2.2.2.2.2.2 12 64 (by decide), s1.2.2.2.2.2.2.2 12 65 (by decide), s1.2.2.2.2.2.2.1 12 62 (by decide)]
          exact p3
        obtain ⟨ρ', l3', r1, r2, r3, r4⟩ := ih (at' + 1) (va_up v at' (u + 1)) _ ρ2 m3 (by omega) hC2 (hup (u + 1) (by omega)) (fun j hj => by
          rw [s2 j hj]
          by_cases h1 : j < at'
          · rw [if_neg (by omega), if_neg (by omega), if_pos h1, if_pos (by omega), va_up_ne _ _ (by omega)]
          · by_cases h2 : j = at'
            · rw [if_neg (by omega), if_pos h2, if_pos (by omega), h2, vaS]
            · rw [if_pos (by omega), if_neg (by omega)]) hB2
        refine ⟨ρ', l3', frB_t p1 (frB_t (frB_w s1 PK1_w RN_w) r1), fun j hj => (r2 j hj).trans (hrow (u + 1) j hj), r3, fun D Q => ?_⟩
        have b1 := hC1.1
        have s3 := fun D => s3 (D + 2)
        rw [p4 D Q, ← r4 D Q]
        simp +decide only [e193_0, e193_1, e193_2, e193_5, e193_6, e193_8, e193_9, e193_12, e193_15, e193_16, e193_19, e193_21, e193_24, e193_25, e193_28, e193_29, e193_30, e193_31, e193_34, e193_35, e193_38, e193_39, e193_40, e193_42, e193_45, e193_46, e193_49, e193_50, e193_51, e193_52, e193_55, e193_56, e193_59, e193_60, e193_63, e193_64, e193_65, e193_66, e193_69, e193_70, e193_73, e193_74, e193_75, e193_76, e193_77, e193_80, e193_81, e193_82, e193_85, e193_88, e193_91, e193_92, e193_93, e193_96, e193_97, e193_99, e193_102, e193_103, e193_106, e193_107, e193_110, e193_111, e193_114, e193_117, e193_118, e193_121, e193_124, e193_125, e193_128, e193_129, e193_132, e193_135, e193_136, e193_139, e193_140, e193_143, e193_146, e193_147, e193_148, e193_151, e193_154, e193_155, e193_156, e193_159, e193_162, e193_163, e193_165, e193_166, e193_169, e193_172, e193_173, e193_176, e193_177, e193_178, e193_181, e193_182, e193_183, e193_184, e193_187, e193_190, e193_191, e193_194, e193_195, e193_198, true_and, and_true, or_true, true_or, if_true, if_false, not_true_eq_false, not_false_eq_true, ne_eq, and_self, Option.toList_some, Option.toList_none, List.cons_append, List.nil_append, catS_0, catS_I, catS_L, catS_R, Option.map_some, Option.map_none, Option.some.injEq, Sum.inl.injEq, exists_eq_left', exists_eq', s3, N12 b1]
    obtain ⟨ρ', l3', p1, p2, p3, p4⟩ := key U (by omega)
    refine ⟨ρ', l3', p1, fun j hj => ?_, p3, p4⟩
    rw [p2 j hj]
    by_cases h1 : j < at'
    · rw [if_pos h1, if_pos h1]
    · rw [if_neg h1, if_neg h1]
      split <;> rfl
end ALL
