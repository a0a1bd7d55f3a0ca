def bC (b : Bool) (t : Nat) (C : List Nat) : List Nat := if b = true then t :: C else C
theorem bC_t {t : Nat} {C : List Nat} : bC true t C = t :: C := rfl
theorem bC_f {t : Nat} {C : List Nat} : bC false t C = C := rfl
theorem denC_b {b : Bool} {C : List Nat} : denC b C = bC b 1000 C := rfl
/-- a ( or the bottom -/
def bs4 (S : List Nat) : Prop := S = [] ∨ ∃ R, S = 1003 :: R
def bs3 (S : List Nat) : Prop := S = [] ∨ (∃ R, S = 1003 :: R) ∨ ∃ R, S = 1002 :: R
def noT (S : List Nat) : Prop := S = [] ∨ (∃ t R, S = t :: R ∧ ¬ wvT t = -2)
theorem bs4_3 {S : List Nat} (h : bs4 S) : bs3 S := by
  rcases h with h | h
  · exact Or.inl h
  · exact Or.inr (Or.inl h)
theorem bs4_n {S : List Nat} (h : bs4 S) : noT S := by
  rcases h with h | ⟨R, h⟩
  · exact Or.inl h
  · exact Or.inr ⟨1003, R, h, by decide⟩
section MCLAIM
variable {s T0 : Nat} {c : Nat → Int32} {n p : Nat} {C S : List Nat} {ρ : St}
theorem m_flush3 {b : Bool} (hS : bs3 S) (h : MS s T0 c n p C (bC b 1001 S) ρ) : ∃ ρ', frM s ρ ρ' ∧ MS s T0 c n p (bC b 1001 C) S ρ' ∧ ∀ D Q, Rn (D + 1) Q (140, 0, [some (vR (some (12, 0, 0))), some (vI (-3))], [], ρ) = Q none ρ' := by
  have hS0 : S = [] ∨ (∃ t R, S = t :: R ∧ (t = 1003 ∨ (t = 1002 ∧ (-3 : Int32) = -3))) := by
    rcases hS with hS | ⟨R, hS⟩ | ⟨R, hS⟩
    · exact Or.inl hS
    · exact Or.inr ⟨1003, R, hS, Or.inl rfl⟩
    · exact Or.inr ⟨1002, R, hS, Or.inr ⟨rfl, rfl⟩⟩
  cases b with
  | false => exact ⟨ρ, frM_0, h, m_come0 hS0 h⟩
  | true =>
    obtain ⟨ρ1, p1, p2, p3⟩ := m_come1 (kk := -3) (Or.inr (Or.inl rfl)) (Or.inr rfl) h
    exact ⟨ρ1, p1, p2, fun D Q => (p3 D Q).trans (m_come0 hS0 p2 D Q)⟩
theorem m_flush4 {b e : Bool} (hS : bs4 S) (h : MS s T0 c n p C (bC b 1001 (bC e 1002 S)) ρ) : ∃ ρ', frM s ρ ρ' ∧ MS s T0 c n p (bC e 1002 (bC b 1001 C)) S ρ' ∧ ∀ D Q, Rn (D + 1) Q (140, 0, [some (vR (some (12, 0, 0))), some (vI (-4))], [], ρ) = Q none ρ' := by
  have hS0 : S = [] ∨ (∃ t R, S = t :: R ∧ (t = 1003 ∨ (t = 1002 ∧ (-4 : Int32) = -3))) := by
    rcases hS with hS | ⟨R, hS⟩
    · exact Or.inl hS
    · exact Or.inr ⟨1003, R, hS, Or.inl rfl⟩
  have second : ∀ {C : List Nat} {ρ : St}, MS s T0 c n p C (bC e 1002 S) ρ → ∃ ρ', frM s ρ ρ' ∧ MS s T0 c n p (bC e 1002 C) S ρ' ∧ ∀ D Q, Rn (D + 1) Q (140, 0, [some (vR (some (12, 0, 0))), some (vI (-4))], [], ρ) = Q none ρ' := by
    intro C ρ h
    cases e with
    | false => exact ⟨ρ, frM_0, h, m_come0 hS0 h⟩
    | true =>
      obtain ⟨ρ1, p1, p2, p3⟩ := m_come1 (kk := -4) (Or.inr (Or.inr rfl)) (Or.inl rfl) h
      exact ⟨ρ1, p1, p2, fun D Q => (p3 D Q).trans (m_come0 hS0 p2 D Q)⟩
  cases b with
  | false => exact second h
  | true =>
    obtain ⟨ρ1, p1, p2, p3⟩ := m_come1 (kk := -4) (Or.inr (Or.inl rfl)) (Or.inl rfl) h
    obtain ⟨ρ2, q1, q2, q3⟩ := second p2
    exact ⟨ρ2, frM_t p1 q1, q2, fun D Q => (p3 D Q).trans (q3 D Q)⟩
theorem m_turn {b : Bool} (hS : noT S) (h : MS s T0 c n p C (bC b 1000 S) ρ) : ∃ ρ', frM s ρ ρ' ∧ MS s T0 c n p (bC b 1000 C) S ρ' ∧ ∀ D Q, Rn (D + 1) Q (139, 0, [some (vR (some (12, 0, 0)))], [], ρ) = Q none ρ' := by
  cases b with
  | false => exact ⟨ρ, frM_0, h, m_turn0 hS h⟩
  | true => exact m_turn1 h
theorem MS_clT {t : Nat} (h : MS s (T0 ||| 2 ^ (t % 8)) c n p C S ρ) (ht : t < 1000) (hl : s + C.length + S.length + 1 ≤ p) : MS s T0 c n p (t :: C) S (emS ρ (s + C.length) (rvT t)) := by
  obtain ⟨k1, k2, k3, k4, k5, k6, k7, k8, k9, k10, k11, k12, k13, k14⟩ := h
  unfold emS
  refine ⟨SH_I (SH_A k1), ?_⟩
  simp +decide only [II, AA, RR, QQ, IA, IR, IQ, AI, AR, AQ, RI, RA, RQ, QI, QA, QR, LI, LA, LR, LQ, NI, NA, NR, NQ, HI, HA, HR, HQ, SI, SA, SR, SQ, true_and, and_true, or_true, true_or, if_true, if_false, not_true_eq_false, not_false_eq_true, ne_eq, and_self]
  refine ⟨k2, k3, k4, k5, k6, k7, k8, updS0, ⟨updS0, RowL_up C (Nat.le_refl _) k10⟩, ?_, k12, k13, by show s + (C.length + 1) + S.length ≤ p; omega⟩
  rw [k11]
  show nI (T0 ||| 2 ^ (t % 8) ||| orC C) = nI (T0 ||| (orC C ||| if t < 1000 then 2 ^ (t % 8) else 0))
  rw [if_pos ht, Nat.or_assoc, Nat.or_comm (2 ^ (t % 8))]
theorem MS_st {on : Nat} (h : MS s T0 c n p C S ρ) : MS s (T0 ||| 2 ^ on) c n p C S (setI ρ 12 11 0 (nI (T0 ||| orC C ||| 2 ^ on))) := by
  obtain ⟨k1, k2, k3, k4, k5, k6, k7, k8, k9, k10, k11, k12, k13, k14⟩ := h
  refine ⟨SH_I k1, ?_⟩
  simp +decide only [II, AA, RR, QQ, IA, IR, IQ, AI, AR, AQ, RI, RA, RQ, QI, QA, QR, LI, LA, LR, LQ, NI, NA, NR, NQ, HI, HA, HR, HQ, SI, SA, SR, SQ, true_and, and_true, or_true, true_or, if_true, if_false, not_true_eq_false, not_false_eq_true, ne_eq, and_self]
  refine ⟨k2, k3, k4, k5, k6, k7, k8, k9, k10, ?_, k12, k13, k14⟩
  rw [updS0, Nat.or_assoc, Nat.or_comm (orC C), ← Nat.or_assoc]
/-- the '!' -/
theorem m_pre1 {o : Nat} {l1 l4 : Option AV} (h : MS s T0 c n p C S ρ) : ∃ ρ', frM s ρ ρ' ∧ MS s T0 c n (denP c n p) C (bC (denY c n p) 1000 S) ρ' ∧ ∀ D Q, Rn (D + 1) Q (141, 4, [some (vR (some (12, 0, 0))), l1, some (vI (nI o)), some (vI 1), l4], [], ρ) = Rn (D + 1) Q (141, 55, [some (vR (some (12, 0, 0))), l1, some (vI (nI o)), some (vI 1), l4], [], ρ') := by
  have a1 := h.1
  have h8 := h.2.2.2.2.2.2.2.1
  have h6 := h.2.2.2.2.2.1
  have k14 := h.2.2.2.2.2.2.2.2.2.2.2.2.2
  have sl := sk_le (c := c) h8
  have nx := fun {d : Nat} {Q : Option AV → St → Prop} => m_nx (d := d) (Q := Q) h
  have h2 := h.2.1
  unfold denP
  by_cases hd : sgn c n p = 33
  · have e : denY c n p = true := by unfold denY; rw [decide_eq_true hd]
    have hlt := sgn_n h8 hd (by decide)
    rw [e, if_pos rfl, bC_t]
    have hM := MS_p h (q := sk c n p + 1) (by omega) (by omega)
    obtain ⟨r1, r2⟩ := MS_push (t := 1000) hM (by omega)
    have w12 : gI ρ 12 14 0 = nI S.length := h.2.2.2.2.2.2.2.2.2.2.2.1
    have hv : wvT 1000 = -2 := by decide
    rw [hv] at r1 r2
    simp +decide only [II, AA, RR, QQ, IA, IR, IQ, AI, AR, AQ, RI, RA, RQ, QI, QA, QR, LI, LA, LR, LQ, NI, NA, NR, NQ, HI, HA, HR, HQ, SI, SA, SR, SQ, true_and, and_true, or_true, true_or, if_true, if_false, not_true_eq_false, not_false_eq_true, ne_eq, and_self] at r1 r2
    have y2 : (nI S.length).toInt = (S.length : Int) := nI_toInt (by omega)
    have y3 : (0 : Int) ≤ (S.length : Int) := by omega
    have y4 : (S.length : Int) < ((128 : Nat) : Int) := by omega
    have y5 : (nI S.length).toNatClampNeg = S.length := nI_clamp (by omega)
    refine ⟨_, frM_t (frM_I (by decide)) r2, r1, fun D Q => ?_⟩
    rw [e141_4]
    simp +decide only [e141_0, e141_1, e141_2, e141_3, e141_5, e141_8, e141_9, e141_12, e141_15, e141_16, e141_19, e141_21, e141_24, e141_25, e141_26, e141_29, e141_30, e141_31, e141_34, e141_35, e141_38, e141_39, e141_42, e141_44, e141_45, e141_46, e141_47, e141_50, e141_51, e141_52, e141_56, e141_59, e141_61, e141_64, e141_65, e141_67, e141_70, e141_71, e141_72, e141_75, e141_76, e141_77, e141_80, e141_81, e141_84, e141_85, e141_88, e141_89, e141_90, e141_91, e141_92, e141_95, e141_96, e141_97, e141_100, e141_103, e141_106, e141_107, e141_108, e141_111, e141_112, e141_115, e141_117, e141_119, e141_120, e141_123, e141_126, e141_129, e141_132, e141_133, e141_134, e141_137, e141_140, e141_141, e141_142, e141_143, e141_144, e141_147, e141_148, e141_149, e141_152, e141_153, e141_154, e141_157, e141_158, e141_160, e141_162, e141_163, e141_164, e141_165, e141_168, e141_169, e141_171, e141_174, e141_177, e141_178, e141_180, e141_182, e141_183, e141_185, e141_188, e141_189, e141_190, e141_192, e141_193, e141_195, e141_196, e141_199, e141_202, e141_203, e141_205, e141_207, e141_208, e141_211, e141_212, e141_215, e141_216, true_and, and_true, or_true, true_or, if_true, if_false, not_true_eq_false, not_false_eq_true, ne_eq, and_self, Option.toList_some, Option.toList_none, List.cons_append, List.nil_append, catS_0, catS_I, catS_L, catS_R, Option.map_some, Option.map_none, Option.some.injEq, Sum.inl.injEq, exists_eq_left', exists_eq', II, AA, RR, QQ, IA, IR, IQ, AI, AR, AQ, RI, RA, RQ, QI, QA, QR, LI, LA, LR, LQ, NI, NA, NR, NQ, HI, HA, HR, HQ, SI, SA, SR, SQ, h6, nx, hd, updS0, setI_I, nI_1 (sk c n p), nI_1 S.length, w12, y2, y3, y4, y5, N12 a1, L12_13 a1]
  · have e : denY c n p = false := by unfold denY; rw [decide_eq_false hd]
    rw [e, if_neg (by decide), bC_f]
    refine ⟨setI ρ 12 2 0 (nI (sk c n p)), frM_I (by decide), MS_p h sl.1 sl.2, fun D Q => ?_⟩
    rw [e141_4]
    simp +decide only [e141_0, e141_1, e141_2, e141_3, e141_5, e141_8, e141_9, e141_12, e141_15, e141_16, e141_19, e141_21, e141_24, e141_25, e141_26, e141_29, e141_30, e141_31, e141_34, e141_35, e141_38, e141_39, e141_42, e141_44, e141_45, e141_46, e141_47, e141_50, e141_51, e141_52, e141_56, e141_59, e141_61, e141_64, e141_65, e141_67, e141_70, e141_71, e141_72, e141_75, e141_76, e141_77, e141_80, e141_81, e141_84, e141_85, e141_88, e141_89, e141_90, e141_91, e141_92, e141_95, e141_96, e141_97, e141_100, e141_103, e141_106, e141_107, e141_108, e141_111, e141_112, e141_115, e141_117, e141_119, e141_120, e141_123, e141_126, e141_129, e141_132, e141_133, e141_134, e141_137, e141_140, e141_141, e141_142, e141_143, e141_144, e141_147, e141_148, e141_149, e141_152, e141_153, e141_154, e141_157, e141_158, e141_160, e141_162, e141_163, e141_164, e141_165, e141_168, e141_169, e141_171, e141_174, e141_177, e141_178, e141_180, e141_182, e141_183, e141_185, e141_188, e141_189, e141_190, e141_192, e141_193, e141_195, e141_196, e141_199, e141_202, e141_203, e141_205, e141_207, e141_208, e141_211, e141_212, e141_215, e141_216, true_and, and_true, or_true, true_or, if_true, if_false, not_true_eq_false, not_false_eq_true, ne_eq, and_self, Option.toList_some, Option.toList_none, List.cons_append, List.nil_append, catS_0, catS_I, catS_L, catS_R, Option.map_some, Option.map_none, Option.some.injEq, Sum.inl.injEq, exists_eq_left', exists_eq', II, AA, RR, QQ, IA, IR, IQ, AI, AR, AQ, RI, RA, RQ, QI, QA, QR, LI, LA, LR, LQ, NI, NA, NR, NQ, HI, HA, HR, HQ, SI, SA, SR, SQ, h6, nx, hd, N12 a1]
theorem m_preA {o : Nat} {l1 l4 : Option AV} (ho : o < 6) (h : MS s T0 c n p C S ρ) (hg : sgn c n (denP c n p) = 40) : ∃ ρ', frM s ρ ρ' ∧ MS s T0 c n (sk c n (denP c n p) + 1) C (1003 :: bC (denY c n p) 1000 S) ρ' ∧ ∀ D Q, Rn (D + 1) Q (141, 4, [some (vR (some (12, 0, 0))), l1, some (vI (nI o)), some (vI 1), l4], [], ρ) = Rn (D + 1) Q (141, 4, [some (vR (some (12, 0, 0))), l1, some (vI (nI (o + 1))), some (vI 1), l4], [], ρ') := by
  obtain ⟨ρ1, p1, p2, p3⟩ := m_pre1 (o := o) (l1 := l1) (l4 := l4) h
  have a1 := p2.1
  have h8 := p2.2.2.2.2.2.2.2.1
  have h2 := p2.2.1
  have k14 := p2.2.2.2.2.2.2.2.2.2.2.2.2.2
  have sl := sk_le (c := c) h8
  have nx := fun {d : Nat} {Q : Option AV → St → Prop} => m_nx (d := d) (Q := Q) p2
  have hlt := sgn_n h8 hg (by decide)
  have w12 : gI ρ1 12 14 0 = nI (bC (denY c n p) 1000 S).length := p2.2.2.2.2.2.2.2.2.2.2.2.1
  generalize bC (denY c n p) 1000 S = S' at *
  have hM := MS_p p2 (q := sk c n (denP c n p) + 1) (by omega) (by omega)
  obtain ⟨r1, r2⟩ := MS_push (t := 1003) hM (by omega)
  have hv : wvT 1003 = -1 := by decide
  rw [hv] at r1 r2
  simp +decide only [II, AA, RR, QQ, IA, IR, IQ, AI, AR, AQ, RI, RA, RQ, QI, QA, QR, LI, LA, LR, LQ, NI, NA, NR, NQ, HI, HA, HR, HQ, SI, SA, SR, SQ, true_and, and_true, or_true, true_or, if_true, if_false, not_true_eq_false, not_false_eq_true, ne_eq, and_self] at r1 r2
  have y2 : (nI S'.length).toInt = (S'.length : Int) := nI_toInt (by omega)
  have y3 : (0 : Int) ≤ (S'.length : Int) := by omega
  have y4 : (S'.length : Int) < ((128 : Nat) : Int) := by omega
  have y5 : (nI S'.length).toNatClampNeg = S'.length := nI_clamp (by omega)
  have y6 : ¬ (6 : Int32) ≤ nI o := nI_ge (b := 6) (by omega) (by omega)
  refine ⟨_, frM_t p1 (frM_t (frM_I (by decide)) r2), r1, fun D Q => ?_⟩
  rw [p3 D Q, ← nI_1 o]
  simp +decide only [e141_0, e141_1, e141_2, e141_3, e141_5, e141_8, e141_9, e141_12, e141_15, e141_16, e141_19, e141_21, e141_24, e141_25, e141_26, e141_29, e141_30, e141_31, e141_34, e141_35, e141_38, e141_39, e141_42, e141_44, e141_45, e141_46, e141_47, e141_50, e141_51, e141_52, e141_55, e141_56, e141_59, e141_61, e141_64, e141_65, e141_67, e141_70, e141_71, e141_72, e141_75, e141_76, e141_77, e141_80, e141_81, e141_84, e141_85, e141_88, e141_89, e141_90, e141_91, e141_92, e141_95, e141_96, e141_97, e141_100, e141_103, e141_106, e141_107, e141_108, e141_111, e141_112, e141_115, e141_117, e141_119, e141_120, e141_123, e141_126, e141_129, e141_132, e141_133, e141_134, e141_137, e141_140, e141_141, e141_142, e141_143, e141_144, e141_147, e141_148, e141_149, e141_152, e141_153, e141_154, e141_157, e141_158, e141_160, e141_162, e141_163, e141_164, e141_165, e141_168, e141_169, e141_171, e141_174, e141_177, e141_178, e141_180, e141_182, e141_183, e141_185, e141_188, e141_189, e141_190, e141_192, e141_193, e141_195, e141_196, e141_199, e141_202, e141_203, e141_205, e141_207, e141_208, e141_211, e141_212, e141_215, e141_216, true_and, and_true, or_true, true_or, if_true, if_false, not_true_eq_false, not_false_eq_true, ne_eq, and_self, Option.toList_some, Option.toList_none, List.cons_append, List.nil_append, catS_0, catS_I, catS_L, catS_R, Option.map_some, Option.map_none, Option.some.injEq, Sum.inl.injEq, exists_eq_left', exists_eq', II, AA, RR, QQ, IA, IR, IQ, AI, AR, AQ, RI, RA, RQ, QI, QA, QR, LI, LA, LR, LQ, NI, NA, NR, NQ, HI, HA, HR, HQ, SI, SA, SR, SQ, nx, hg, y6, updS0, setI_I, nI_1 (sk c n (denP c n p)), nI_1 S'.length, w12, y2, y3, y4, y5, N12 a1, L12_13 a1]
theorem m_preB {o : Nat} {l1 l4 : Option AV} (ho : o ≤ 6) (h : MS s T0 c n p C S ρ) (hg : ¬ (sgn c n (denP c n p) = 40 ∧ o < 6)) : ∃ ρ', frM s ρ ρ' ∧ MS s T0 c n (sk c n (denP c n p)) C (bC (denY c n p) 1000 S) ρ' ∧ ∀ D Q, Rn (D + 1) Q (141, 4, [some (vR (some (12, 0, 0))), l1, some (vI (nI o)), some (vI 1), l4], [], ρ) = Rn (D + 1) Q (141, 111, [some (vR (some (12, 0, 0))), l1, some (vI (nI o)), some (vI 0), l4], [], ρ') := by
  obtain ⟨ρ1, p1, p2, p3⟩ := m_pre1 (o := o) (l1 := l1) (l4 := l4) h
  have a1 := p2.1
  have h8 := p2.2.2.2.2.2.2.2.1
  have sl := sk_le (c := c) h8
  have nx := fun {d : Nat} {Q : Option AV → St → Prop} => m_nx (d := d) (Q := Q) p2
  refine ⟨setI ρ1 12 2 0 (nI (sk c n (denP c n p))), frM_t p1 (frM_I (by decide)), MS_p p2 sl.1 sl.2, fun D Q => ?_⟩
  rw [p3 D Q]
  by_cases h40 : sgn c n (denP c n p) = 40
  · have y6 : (6 : Int32) ≤ nI o := nI_le (a := 6) (Nat.le_of_not_lt (fun z => hg ⟨h40, z⟩)) (by omega)
    simp +decide only [e141_0, e141_1, e141_2, e141_3, e141_5, e141_8, e141_9, e141_12, e141_15, e141_16, e141_19, e141_21, e141_24, e141_25, e141_26, e141_29, e141_30, e141_31, e141_34, e141_35, e141_38, e141_39, e141_42, e141_44, e141_45, e141_46, e141_47, e141_50, e141_51, e141_52, e141_55, e141_56, e141_59, e141_61, e141_64, e141_65, e141_67, e141_70, e141_71, e141_72, e141_75, e141_76, e141_77, e141_80, e141_81, e141_84, e141_85, e141_88, e141_89, e141_90, e141_91, e141_92, e141_95, e141_96, e141_97, e141_100, e141_103, e141_106, e141_107, e141_108, e141_112, e141_115, e141_117, e141_119, e141_120, e141_123, e141_126, e141_129, e141_132, e141_133, e141_134, e141_137, e141_140, e141_141, e141_142, e141_143, e141_144, e141_147, e141_148, e141_149, e141_152, e141_153, e141_154, e141_157, e141_158, e141_160, e141_162, e141_163, e141_164, e141_165, e141_168, e141_169, e141_171, e141_174, e141_177, e141_178, e141_180, e141_182, e141_183, e141_185, e141_188, e141_189, e141_190, e141_192, e141_193, e141_195, e141_196, e141_199, e141_202, e141_203, e141_205, e141_207, e141_208, e141_211, e141_212, e141_215, e141_216, true_and, and_true, or_true, true_or, if_true, if_false, not_true_eq_false, not_false_eq_true, ne_eq, and_self, Option.toList_some, Option.toList_none, List.cons_append, List.nil_append, catS_0, catS_I, catS_L, catS_R, Option.map_some, Option.map_none, Option.some.injEq, Sum.inl.injEq, exists_eq_left', exists_eq', II, AA, RR, QQ, IA, IR, IQ, AI, AR, AQ, RI, RA, RQ, QI, QA, QR, LI, LA, LR, LQ, NI, NA, NR, NQ, HI, HA, HR, HQ, SI, SA, SR, SQ, nx, h40, y6, NI, N12 a1]
    rw [e141_4]
    simp +decide only [e141_0, e141_1, e141_2, e141_3, e141_5, e141_8, e141_9, e141_12, e141_15, e141_16, e141_19, e141_21, e141_24, e141_25, e141_26, e141_29, e141_30, e141_31, e141_34, e141_35, e141_38, e141_39, e141_42, e141_44, e141_45, e141_46, e141_47, e141_50, e141_51, e141_52, e141_55, e141_56, e141_59, e141_61, e141_64, e141_65, e141_67, e141_70, e141_71, e141_72, e141_75, e141_76, e141_77, e141_80, e141_81, e141_84, e141_85, e141_88, e141_89, e141_90, e141_91, e141_92, e141_95, e141_96, e141_97, e141_100, e141_103, e141_106, e141_107, e141_108, e141_112, e141_115, e141_117, e141_119, e141_120, e141_123, e141_126, e141_129, e141_132, e141_133, e141_134, e141_137, e141_140, e141_141, e141_142, e141_143, e141_144, e141_147, e141_148, e141_149, e141_152, e141_153, e141_154, e141_157, e141_158, e141_160, e141_162, e141_163, e141_164, e141_165, e141_168, e141_169, e141_171, e141_174, e141_177, e141_178, e141_180, e141_182, e141_183, e141_185, e141_188, e141_189, e141_190, e141_192, e141_193, e141_195, e141_196, e141_199, e141_202, e141_203, e141_205, e141_207, e141_208, e141_211, e141_212, e141_215, e141_216, true_and, and_true, or_true, true_or, if_true, if_false, not_true_eq_false, not_false_eq_true, ne_eq, and_self, Option.toList_some, Option.toList_none, List.cons_append, List.nil_append, catS_0, catS_I, catS_L, catS_R, Option.map_some, Option.map_none]
  · simp +decide only [e141_0, e141_1, e141_2, e141_3, e141_5, e141_8, e141_9, e141_12, e141_15, e141_16, e141_19, e141_21, e141_24, e141_25, e141_26, e141_29, e141_30, e141_31, e141_34, e141_35, e141_38, e141_39, e141_42, e141_44, e141_45, e141_46, e141_47, e141_50, e141_51, e141_52, e141_55, e141_56, e141_59, e141_61, e141_64, e141_65, e141_67, e141_70, e141_71, e141_72, e141_75, e141_76, e141_77, e141_80, e141_81, e141_84, e141_85, e141_88, e141_89, e141_90, e141_91, e141_92, e141_95, e141_96, e141_97, e141_100, e141_103, e141_106, e141_107, e141_108, e141_112, e141_115, e141_117, e141_119, e141_120, e141_123, e141_126, e141_129, e141_132, e141_133, e141_134, e141_137, e141_140, e141_141, e141_142, e141_143, e141_144, e141_147, e141_148, e141_149, e141_152, e141_153, e141_154, e141_157, e141_158, e141_160, e141_162, e141_163, e141_164, e141_165, e141_168, e141_169, e141_171, e141_174, e141_177, e141_178, e141_180, e141_182, e141_183, e141_185, e141_188, e141_189, e141_190, e141_192, e141_193, e141_195, e141_196, e141_199, e141_202, e141_203, e141_205, e141_207, e141_208, e141_211, e141_212, e141_215, e141_216, true_and, and_true, or_true, true_or, if_true, if_false, not_true_eq_false, not_false_eq_true, ne_eq, and_self, Option.toList_some, Option.toList_none, List.cons_append, List.nil_append, catS_0, catS_I, catS_L, catS_R, Option.map_some, Option.map_none, Option.some.injEq, Sum.inl.injEq, exists_eq_left', exists_eq', II, AA, RR, QQ, IA, IR, IQ, AI, AR, AQ, RI, RA, RQ, QI, QA, QR, LI, LA, LR, LQ, NI, NA, NR, NQ, HI, HA, HR, HQ, SI, SA, SR, SQ, nx, h40, NI, N12 a1]
    rw [e141_4]
    simp +decide only [e141_0, e141_1, e141_2, e141_3, e141_5, e141_8, e141_9, e141_12, e141_15, e141_16, e141_19, e141_21, e141_24, e141_25, e141_26, e141_29, e141_30, e141_31, e141_34, e141_35, e141_38, e141_39, e141_42, e141_44, e141_45, e141_46, e141_47, e141_50, e141_51, e141_52, e141_55, e141_56, e141_59, e141_61, e141_64, e141_65, e141_67, e141_70, e141_71, e141_72, e141_75, e141_76, e141_77, e141_80, e141_81, e141_84, e141_85, e141_88, e141_89, e141_90, e141_91, e141_92, e141_95, e141_96, e141_97, e141_100, e141_103, e141_106, e141_107, e141_108, e141_112, e141_115, e141_117, e141_119, e141_120, e141_123, e141_126, e141_129, e141_132, e141_133, e141_134, e141_137, e141_140, e141_141, e141_142, e141_143, e141_144, e141_147, e141_148, e141_149, e141_152, e141_153, e141_154, e141_157, e141_158, e141_160, e141_162, e141_163, e141_164, e141_165, e141_168, e141_169, e141_171, e141_174, e141_177, e141_178, e141_180, e141_182, e141_183, e141_185, e141_188, e141_189, e141_190, e141_192, e141_193, e141_195, e141_196, e141_199, e141_202, e141_203, e141_205, e141_207, e141_208, e141_211, e141_212, e141_215, e141_216, true_and, and_true, or_true, true_or, if_true, if_false, not_true_eq_false, not_false_eq_true, ne_eq, and_self, Option.toList_some, Option.toList_none, List.cons_append, List.nil_append, catS_0, catS_I, catS_L, catS_R, Option.map_some, Option.map_none]
/-- the leaning itself -/
def MLn (s T0 : Nat) (c : Nat → Int32) (n : Nat) (S : List Nat) (den : Bool) (o : Nat) (ρ : St) (x : Sum Nat (Nat × List Nat)) (run : Nat → (Option AV → St → Prop) → Prop) : Prop := match x with
  | .inl q => ∃ k' S' ρ', frB PMc RMc ρ ρ' ∧ MWr k' q S' ρ' ∧ ∀ D Q, run D Q = Q (some (vI (nI o))) ρ'
  | .inr y => ∃ ρ', frM s ρ ρ' ∧ MS s T0 c n y.1 (bC den 1000 y.2) S ρ' ∧ ∀ D Q, run D Q = Q (some (vI (nI o))) ρ'
theorem m_lean1 {o : Nat} {den : Bool} {l1 l3 l4 : Option AV} (hS : noT S) (h : MS s T0 c n p C (bC den 1000 S) ρ) : MLn s T0 c n S den o ρ (leanP c n p C) (fun D Q => Rn (D + 3) Q (141, 111, [some (vR (some (12, 0, 0))), l1, some (vI (nI o)), l3, l4], [], ρ)) := by
  have a1 := h.1
  have h8 := h.2.2.2.2.2.2.2.1
  have h2 := h.2.1
  have k5 := h.2.2.2.2.1
  have k14 := h.2.2.2.2.2.2.2.2.2.2.2.2.2
  have sl := sk_le (c := c) h8
  have nx := fun {d : Nat} {Q : Option AV → St → Prop} => m_nx (d := d) (Q := Q) h
  obtain ⟨s1, s2, s3⟩ := sgn_sub (c := c) (p := p) h2 k5
  unfold leanP
  by_cases hl : 97 ≤ (sgn c n p).toInt ∧ (sgn c n p).toInt ≤ 104
  · rw [if_pos hl]
    have hlt := sgn_lt (c := c) h8 (by omega)
    obtain ⟨on, o1, o2, o3⟩ := nI_ex (a := sgn c n p - 97) (n := 8) ⟨by omega, by omega⟩
    have o5 : (nI on).toInt = (on : Int) := nI_toInt (by omega)
    have o4 : (sgn c n p).toInt.toNat - 97 = on := by
      rw [o2, o5] at s1
      omega
    have o8 : sgn c n p = nI (on + 97) := Int32.toInt_inj.mp (by rw [nI_toInt (by omega)]; rw [o2, o5] at s1; omega)
    have o9 : (nI (on + 97)).toInt = ((on + 97 : Nat) : Int) := nI_toInt (by omega)
    have o10 : (97 : Int) ≤ ((on + 97 : Nat) : Int) ∧ ((on + 97 : Nat) : Int) ≤ 104 := by omega
    have o11 : nI (on + 97) - 97 = nI on := by rw [← o8]; exact o2
    rw [o4]
    have os : (1 : Int32) <<< (nI on &&& 31) = nI (2 ^ on) := one_sh (by omega)
    have k11 := h.2.2.2.2.2.2.2.2.2.2.1
    have oo : nI (T0 ||| orC C) ||| nI (2 ^ on) = nI (T0 ||| orC C ||| 2 ^ on) := nI_or _ _
    rw [o8] at nx
    have h3 := sk_le (c := c) (n := n) (p := sk c n p + 1) (by omega)
    have hM := MS_st (on := on) (MS_p h (q := sk c n p + 1) (by omega) (by omega))
    have tk := fun {d : Nat} {Q : Option AV → St → Prop} {ch : Int32} => m_tk (d := d) (Q := Q) (ch := ch) hM
    generalize hq : sk c n p = q at *
    generalize hq1 : sk c n (q + 1) = q1 at *
    by_cases hg : sgn c n (q + 1) = 62
    · rw [if_pos hg]
      have h4 := sgn_n (p := q + 1) (by omega) hg (by decide)
      rw [hq1] at h4
      have h5 := sk_le (c := c) (n := n) (p := q1 + 1) (by omega)
      have hM2 := MS_p hM (q := q1 + 1) (by omega) (by omega)
      have nm := fun {d : Nat} {Q : Option AV → St → Prop} => m_nm (d := d) (Q := Q) (H := 100) (by omega) hM2
      have n100 : nI 100 = 100 := rfl
      rw [n100] at nm
      generalize hr : sk c n (q1 + 1) = r at *
      by_cases hy : nuY c n 100 r = true
      · rw [if_pos hy]
        obtain ⟨n1, n2, n3⟩ := nuP_go h5.2 hy
        simp only [if_pos hy] at nm
        generalize nuV c n 100 r = v at *
        generalize nuP c n r = pp at *
        have hM3 := MS_p hM (q := pp) (by omega) n2
        have hM4 := MS_clT (t := 8 * (v + 1) + on) (T0 := T0) (by rw [show (8 * (v + 1) + on) % 8 = on by omega]; exact hM3) (by omega) (by omega)
        have rv : rvT (8 * (v + 1) + on) = nI (8 * (v + 1) + on) := if_pos (by omega)
        rw [rv] at hM4
        have ev : 8 + 8 * nI v + nI (on + 97) - 97 = nI (8 * (v + 1) + on) := by
          rw [lN8, pk_mul, nI_add, nI_add]
          show nI (8 + 8 * v + (on + 97)) - nI 97 = _
          rw [pk_sub (by omega)]
          congr 1
          omega
        obtain ⟨ρ', t1, t2, t3⟩ := m_turn hS hM4
        have em := fun {d : Nat} {Q : Option AV → St → Prop} {w : Int32} => m_emit (d := d) (Q := Q) (v := w) (k := s + C.length) hM3.1 (by omega) hM3.2.2.2.2.2.2.2.2.1
        have b3 := hM3.1
        have b4 := hM4.1
        refine ⟨ρ', frM_t (frM_t (frM_t (frM_t (frM_I (by decide)) (frM_I (by decide))) (frM_I (by decide))) (frM_em (by omega))) t1, t2, fun D Q => ?_⟩
        have t3 := fun D => t3 (D + 1)
        simp +decide only [e141_0, e141_1, e141_2, e141_3, e141_5, e141_8, e141_9, e141_12, e141_15, e141_16, e141_19, e141_21, e141_24, e141_25, e141_26, e141_29, e141_30, e141_31, e141_34, e141_35, e141_38, e141_39, e141_42, e141_44, e141_45, e141_46, e141_47, e141_50, e141_51, e141_52, e141_55, e141_56, e141_59, e141_61, e141_64, e141_65, e141_67, e141_70, e141_71, e141_72, e141_75, e141_76, e141_77, e141_80, e141_81, e141_84, e141_85, e141_88, e141_89, e141_90, e141_91, e141_92, e141_95, e141_96, e141_97, e141_100, e141_103, e141_106, e141_107, e141_108, e141_111, e141_112, e141_115, e141_117, e141_119, e141_120, e141_123, e141_126, e141_129, e141_132, e141_133, e141_134, e141_137, e141_140, e141_141, e141_142, e141_143, e141_144, e141_147, e141_148, e141_149, e141_152, e141_153, e141_154, e141_157, e141_158, e141_160, e141_162, e141_163, e141_164, e141_165, e141_168, e141_169, e141_171, e141_174, e141_177, e141_178, e141_180, e141_182, e141_183, e141_185, e141_188, e141_189, e141_190, e141_192, e141_193, e141_195, e141_196, e141_199, e141_202, e141_203, e141_205, e141_207, e141_208, e141_211, e141_212, e141_215, e141_216, true_and, and_true, or_true, true_or, if_true, if_false, not_true_eq_false, not_false_eq_true, ne_eq, and_self, Option.toList_some, Option.toList_none, List.cons_append, List.nil_append, catS_0, catS_I, catS_L, catS_R, Option.map_some, Option.map_none, c_isIn, m_in, wide_toInt, c_isDay, m_isDay, m_isCourse, c_areParts, tI_m1000, tI_m20, tI_m14, tI_m13, tI_m12, tI_m11, tI_m4, tI_m3, tI_m2, tI_m1, tI_0, tI_1, tI_2, tI_3, tI_4, tI_5, tI_6, tI_7, tI_8, tI_9, tI_10, tI_11, tI_12, tI_14, tI_15, tI_16, tI_19, tI_20, tI_21, tI_30, tI_31, tI_32, tI_40, tI_60, tI_61, tI_80, tI_90, tI_97, tI_100, tI_101, tI_119, tI_120, tI_121, tI_126, tI_128, tI_255, tI_256, tI_500, tI_512, tI_600, tI_999, tI_1000, tI_3999, tI_4000, tI_4095, tI_4096, tI_99999, tI_100000, tL_0, tL_1, tL_2, tL_3, tL_4, tL_5, tL_7, tL_8, tL_9, tL_15, tL_19, tL_20, tL_32, tL_39, tL_48, tL_57, tL_60, tL_97, tL_100, tL_104, tL_126, tL_255, tL_3999, tL_4095, tL_99999, Option.some.injEq, Sum.inl.injEq, exists_eq_left', exists_eq', II, AA, RR, QQ, IA, IR, IQ, AI, AR, AQ, RI, RA, RQ, QI, QA, QR, LI, LA, LR, LQ, NI, NA, NR, NQ, HI, HA, HR, HQ, SI, SA, SR, SQ, nx, tk, nm, em, t3, hg, o9, o10, o11, os, oo, k11, ev, updS0, setI_I, nI_1 q, N12 a1, N12 b4]
      · rw [if_neg hy]
        simp only [if_neg hy] at nm
        have hW := MS_wr (q := r) hM2
        rw [setI_c (c := 12) (k := 2) (i := 0) (c' := 12) (k' := 3) (i' := 0) (by decide), setI_I] at hW
        generalize nuV c n 100 r = v at *
        have em := fun {d : Nat} {Q : Option AV → St → Prop} {w : Int32} => m_emit (d := d) (Q := Q) (v := w) (k := s + C.length) hW.1 (by omega) hW.2.2.2.1
        obtain ⟨w1, w2, w3, w4, w5, w6, w7⟩ := hW
        have hW2 : MWr (s + C.length + 1) r (bC den 1000 S) (emS (setI (setI (setI (setI ρ 12 2 0 (nI (q + 1))) 12 11 0 (nI (T0 ||| orC C ||| 2 ^ on))) 12 3 0 1) 12 2 0 (nI r)) (s + C.length) (8 + 8 * nI v + nI (on + 97) - 97)) := by
          unfold emS
          refine ⟨SH_I (SH_A w1), ?_⟩
          simp +decide only [II, AA, RR, QQ, IA, IR, IQ, AI, AR, AQ, RI, RA, RQ, QI, QA, QR, LI, LA, LR, LQ, NI, NA, NR, NQ, HI, HA, HR, HQ, SI, SA, SR, SQ, true_and, and_true, or_true, true_or, if_true, if_false, not_true_eq_false, not_false_eq_true, ne_eq, and_self] at *
          exact ⟨w2, w3, updS0, w5, w6, by omega⟩
        have b4 := hW2.1
        obtain ⟨k', S', ρ', t1, t2, t3⟩ := m_turnD hW2 (by omega)
        refine ⟨k', S', ρ', frB_t (frB_t (frB_t (frB_t (frB_t (frB_I (by decide)) (frB_I (by decide))) (frB_I (by decide))) (frB_I (by decide))) (frM_em (s := 0) (by omega)).1) t1, t2, fun D Q => ?_⟩
        have t3 := fun D => t3 (D + 1)
        have sw : setI (setI (setI (setI ρ 12 2 0 (nI (q + 1))) 12 11 0 (nI (T0 ||| orC C ||| 2 ^ on))) 12 2 0 (nI (q1 + 1))) 12 3 0 1 = setI (setI (setI (setI ρ 12 2 0 (nI (q + 1))) 12 11 0 (nI (T0 ||| orC C ||| 2 ^ on))) 12 3 0 1) 12 2 0 (nI (q1 + 1)) := setI_c (by decide)
        simp +decide only [e141_0, e141_1, e141_2, e141_3, e141_5, e141_8, e141_9, e141_12, e141_15, e141_16, e141_19, e141_21, e141_24, e141_25, e141_26, e141_29, e141_30, e141_31, e141_34, e141_35, e141_38, e141_39, e141_42, e141_44, e141_45, e141_46, e141_47, e141_50, e141_51, e141_52, e141_55, e141_56, e141_59, e141_61, e141_64, e141_65, e141_67, e141_70, e141_71, e141_72, e141_75, e141_76, e141_77, e141_80, e141_81, e141_84, e141_85, e141_88, e141_89, e141_90, e141_91, e141_92, e141_95, e141_96, e141_97, e141_100, e141_103, e141_106, e141_107, e141_108, e141_111, e141_112, e141_115, e141_117, e141_119, e141_120, e141_123, e141_126, e141_129, e141_132, e141_133, e141_134, e141_137, e141_140, e141_141, e141_142, e141_143, e141_144, e141_147, e141_148, e141_149, e141_152, e141_153, e141_154, e141_157, e141_158, e141_160, e141_162, e141_163, e141_164, e141_165, e141_168, e141_169, e141_171, e141_174, e141_177, e141_178, e141_180, e141_182, e141_183, e141_185, e141_188, e141_189, e141_190, e141_192, e141_193, e141_195, e141_196, e141_199, e141_202, e141_203, e141_205, e141_207, e141_208, e141_211, e141_212, e141_215, e141_216, true_and, and_true, or_true, true_or, if_true, if_false, not_true_eq_false, not_false_eq_true, ne_eq, and_self, Option.toList_some, Option.toList_none, List.cons_append, List.nil_append, catS_0, catS_I, catS_L, catS_R, Option.map_some, Option.map_none, c_isIn, m_in, wide_toInt, c_isDay, m_isDay, m_isCourse, c_areParts, tI_m1000, tI_m20, tI_m14, tI_m13, tI_m12, tI_m11, tI_m4, tI_m3, tI_m2, tI_m1, tI_0, tI_1, tI_2, tI_3, tI_4, tI_5, tI_6, tI_7, tI_8, tI_9, tI_10, tI_11, tI_12, tI_14, tI_15, tI_16, tI_19, tI_20, tI_21, tI_30, tI_31, tI_32, tI_40, tI_60, tI_61, tI_80, tI_90, tI_97, tI_100, tI_101, tI_119, tI_120, tI_121, tI_126, tI_128, tI_255, tI_256, tI_500, tI_512, tI_600, tI_999, tI_1000, tI_3999, tI_4000, tI_4095, tI_4096, tI_99999, tI_100000, tL_0, tL_1, tL_2, tL_3, tL_4, tL_5, tL_7, tL_8, tL_9, tL_15, tL_19, tL_20, tL_32, tL_39, tL_48, tL_57, tL_60, tL_97, tL_100, tL_104, tL_126, tL_255, tL_3999, tL_4095, tL_99999, Option.some.injEq, Sum.inl.injEq, exists_eq_left', exists_eq', II, AA, RR, QQ, IA, IR, IQ, AI, AR, AQ, RI, RA, RQ, QI, QA, QR, LI, LA, LR, LQ, NI, NA, NR, NQ, HI, HA, HR, HQ, SI, SA, SR, SQ, nx, tk, nm, sw, em, t3, hg, o9, o10, o11, os, oo, k11, updS0, setI_I, nI_1 q, N12 a1, N12 b4]
    · rw [if_neg hg]
      have hM3 := MS_p hM (q := q1) (by omega) (by omega)
      have hM4 := MS_clT (t := on) (T0 := T0) (by rw [show on % 8 = on by omega]; exact hM3) (by omega) (by omega)
      have rv : rvT on = nI on := if_pos (by omega)
      rw [rv] at hM4
      obtain ⟨ρ', t1, t2, t3⟩ := m_turn hS hM4
      have em := fun {d : Nat} {Q : Option AV → St → Prop} {w : Int32} => m_emit (d := d) (Q := Q) (v := w) (k := s + C.length) hM3.1 (by omega) hM3.2.2.2.2.2.2.2.2.1
      have b4 := hM4.1
      refine ⟨ρ', frM_t (frM_t (frM_t (frM_t (frM_I (by decide)) (frM_I (by decide))) (frM_I (by decide))) (frM_em (by omega))) t1, t2, fun D Q => ?_⟩
      have t3 := fun D => t3 (D + 1)
      simp +decide only [e141_0, e141_1, e141_2, e141_3, e141_5, e141_8, e141_9, e141_12, e141_15, e141_16, e141_19, e141_21, e141_24, e141_25, e141_26, e141_29, e141_30, e141_31, e141_34, e141_35, e141_38, e141_39, e141_42, e141_44, e141_45, e141_46, e141_47, e141_50, e141_51, e141_52, e141_55, e141_56, e141_59, e141_61, e141_64, e141_65, e141_67, e141_70, e141_71, e141_72, e141_75, e141_76, e141_77, e141_80, e141_81, e141_84, e141_85, e141_88, e141_89, e141_90, e141_91, e141_92, e141_95, e141_96, e141_97, e141_100, e141_103, e141_106, e141_107, e141_108, e141_111, e141_112, e141_115, e141_117, e141_119, e141_120, e141_123, e141_126, e141_129, e141_132, e141_133, e141_134, e141_137, e141_140, e141_141, e141_142, e141_143, e141_144, e141_147, e141_148, e141_149, e141_152, e141_153, e141_154, e141_157, e141_158, e141_160, e141_162, e141_163, e141_164, e141_165, e141_168, e141_169, e141_171, e141_174, e141_177, e141_178, e141_180, e141_182, e141_183, e141_185, e141_188, e141_189, e141_190, e141_192, e141_193, e141_195, e141_196, e141_199, e141_202, e141_203, e141_205, e141_207, e141_208, e141_211, e141_212, e141_215, e141_216, true_and, and_true, or_true, true_or, if_true, if_false, not_true_eq_false, not_false_eq_true, ne_eq, and_self, Option.toList_some, Option.toList_none, List.cons_append, List.nil_append, catS_0, catS_I, catS_L, catS_R, Option.map_some, Option.map_none, c_isIn, m_in, wide_toInt, c_isDay, m_isDay, m_isCourse, c_areParts, tI_m1000, tI_m20, tI_m14, tI_m13, tI_m12, tI_m11, tI_m4, tI_m3, tI_m2, tI_m1, tI_0, tI_1, tI_2, tI_3, tI_4, tI_5, tI_6, tI_7, tI_8, tI_9, tI_10, tI_11, tI_12, tI_14, tI_15, tI_16, tI_19, tI_20, tI_21, tI_30, tI_31, tI_32, tI_40, tI_60, tI_61, tI_80, tI_90, tI_97, tI_100, tI_101, tI_119, tI_120, tI_121, tI_126, tI_128, tI_255, tI_256, tI_500, tI_512, tI_600, tI_999, tI_1000, tI_3999, tI_4000, tI_4095, tI_4096, tI_99999, tI_100000, tL_0, tL_1, tL_2, tL_3, tL_4, tL_5, tL_7, tL_8, tL_9, tL_15, tL_19, tL_20, tL_32, tL_39, tL_48, tL_57, tL_60, tL_97, tL_100, tL_104, tL_126, tL_255, tL_3999, tL_4095, tL_99999, Option.some.injEq, Sum.inl.injEq, exists_eq_left', exists_eq', II, AA, RR, QQ, IA, IR, IQ, AI, AR, AQ, RI, RA, RQ, QI, QA, QR, LI, LA, LR, LQ, NI, NA, NR, NQ, HI, HA, HR, HQ, SI, SA, SR, SQ, nx, tk, em, t3, hg, o9, o10, o11, os, oo, k11, updS0, setI_I, nI_1 q, N12 a1, N12 b4]
  · rw [if_neg hl]
    have fl := fun {d : Nat} {Q : Option AV → St → Prop} {x : Nat} => m_fl (d := d) (Q := Q) (q := x) (MS_p h sl.1 sl.2)
    have hW := MS_wr (q := sk c n p) (MS_p h sl.1 sl.2)
    refine ⟨_, _, _, frB_t (frB_t (frB_I (by decide)) (frB_I (by decide))) (frB_I (by decide)), hW, fun D Q => ?_⟩
    simp +decide only [e141_0, e141_1, e141_2, e141_3, e141_5, e141_8, e141_9, e141_12, e141_15, e141_16, e141_19, e141_21, e141_24, e141_25, e141_26, e141_29, e141_30, e141_31, e141_34, e141_35, e141_38, e141_39, e141_42, e141_44, e141_45, e141_46, e141_47, e141_50, e141_51, e141_52, e141_55, e141_56, e141_59, e141_61, e141_64, e141_65, e141_67, e141_70, e141_71, e141_72, e141_75, e141_76, e141_77, e141_80, e141_81, e141_84, e141_85, e141_88, e141_89, e141_90, e141_91, e141_92, e141_95, e141_96, e141_97, e141_100, e141_103, e141_106, e141_107, e141_108, e141_111, e141_112, e141_115, e141_117, e141_119, e141_120, e141_123, e141_126, e141_129, e141_132, e141_133, e141_134, e141_137, e141_140, e141_141, e141_142, e141_143, e141_144, e141_147, e141_148, e141_149, e141_152, e141_153, e141_154, e141_157, e141_158, e141_160, e141_162, e141_163, e141_164, e141_165, e141_168, e141_169, e141_171, e141_174, e141_177, e141_178, e141_180, e141_182, e141_183, e141_185, e141_188, e141_189, e141_190, e141_192, e141_193, e141_195, e141_196, e141_199, e141_202, e141_203, e141_205, e141_207, e141_208, e141_211, e141_212, e141_215, e141_216, true_and, and_true, or_true, true_or, if_true, if_false, not_true_eq_false, not_false_eq_true, ne_eq, and_self, Option.toList_some, Option.toList_none, List.cons_append, List.nil_append, catS_0, catS_I, catS_L, catS_R, Option.map_some, Option.map_none, c_isIn, m_in, wide_toInt, c_isDay, m_isDay, m_isCourse, c_areParts, tI_m1000, tI_m20, tI_m14, tI_m13, tI_m12, tI_m11, tI_m4, tI_m3, tI_m2, tI_m1, tI_0, tI_1, tI_2, tI_3, tI_4, tI_5, tI_6, tI_7, tI_8, tI_9, tI_10, tI_11, tI_12, tI_14, tI_15, tI_16, tI_19, tI_20, tI_21, tI_30, tI_31, tI_32, tI_40, tI_60, tI_61, tI_80, tI_90, tI_97, tI_100, tI_101, tI_119, tI_120, tI_121, tI_126, tI_128, tI_255, tI_256, tI_500, tI_512, tI_600, tI_999, tI_1000, tI_3999, tI_4000, tI_4095, tI_4096, tI_99999, tI_100000, tL_0, tL_1, tL_2, tL_3, tL_4, tL_5, tL_7, tL_8, tL_9, tL_15, tL_19, tL_20, tL_32, tL_39, tL_48, tL_57, tL_60, tL_97, tL_100, tL_104, tL_126, tL_255, tL_3999, tL_4095, tL_99999, Option.some.injEq, Sum.inl.injEq, exists_eq_left', exists_eq', II, AA, RR, QQ, IA, IR, IQ, AI, AR, AQ, RI, RA, RQ, QI, QA, QR, LI, LA, LR, LQ, NI, NA, NR, NQ, HI, HA, HR, HQ, SI, SA, SR, SQ, nx, fl, hl, updS0, NI, N12 a1]
end MCLAIM
