def MT (c : Nat → Int32) (n p : Nat) (ρ : St) : Prop := SH ρ ∧ n ≤ 120 ∧ gI ρ 12 1 0 = nI n ∧ (∀ j, j < n → gA ρ 12 0 0 j = c j) ∧ (∀ j, j < n → 32 ≤ (c j).toInt ∧ (c j).toInt ≤ 126) ∧ gI ρ 12 3 0 = 0 ∧ gI ρ 12 2 0 = nI p ∧ p ≤ n
def Ww (q : Nat) (ρ : St) : Prop := SH ρ ∧ gI ρ 12 3 0 = 1 ∧ gI ρ 12 2 0 = nI q
def PMl (c k : Nat) : Bool := decide (c = 12 ∧ ((4 ≤ k ∧ k ≤ 8) ∨ k = 13))
def RMl (c k : Nat) : Bool := decide (c = 12 ∧ (k = 2 ∨ k = 3 ∨ (9 ≤ k ∧ k ≤ 11) ∨ k = 14))
theorem frB_cl {σ σ' : St} (h : frB PMc RMc σ σ') : frB PMl RMl σ σ' := frB_w h (fun c k hc => by unfold PMl at hc; unfold PMc; rw [decide_eq_false_iff_not] at *; omega) (fun c k hc => by unfold RMl at hc; unfold RMc; rw [decide_eq_false_iff_not] at *; omega)
section MLESS
variable {c : Nat → Int32} {n p : Nat} {ρ : St}
theorem MT_p {q : Nat} (h : MT c n p ρ) (h2 : q ≤ n) : MT c n q (setI ρ 12 2 0 (nI q)) := by
  obtain ⟨k1, k2, k3, k4, k5, k6, k7, k8⟩ := h
  refine ⟨SH_I k1, ?_⟩
  simp +decide only [II, AA, RR, QQ, IA, IR, IQ, AI, AR, AQ, RI, RA, RQ, QI, QA, QR, LI, LA, LR, LQ, NI, NA, NR, NQ, HI, HA, HR, HQ, SI, SA, SR, SQ, true_and, and_true, or_true, true_or, if_true, if_false, not_true_eq_false, not_false_eq_true, ne_eq, and_self]
  exact ⟨k2, k3, k4, k5, k6, updS0, h2⟩
theorem MT_fr {σ : St} (h : MT c n p σ) (hf : frB PMl RMl σ ρ) (h6 : gI ρ 12 3 0 = 0) {q : Nat} (h7 : gI ρ 12 2 0 = nI q) (h8 : q ≤ n) : MT c n q ρ := by
  obtain ⟨k1, k2, k3, k4, k5, -⟩ := h
  refine ⟨SH_frB hf k1, k2, ?_, ?_, k5, h6, h7, h8⟩
  · rw [hf.2.2.2.2.2.2.2 12 1 (by decide)]; exact k3
  · rw [hf.2.2.2.2.2.2.1 12 0 (by decide)]; exact k4
theorem t_nx {d : Nat} {Q : Option AV → St → Prop} (h : MT c n p ρ) : Rn d Q (133, 0, [some (vR (some (12, 0, 0)))], [], ρ) = Q (some (vI (sgn c n p))) (setI ρ 12 2 0 (nI (sk c n p))) := by
  obtain ⟨k1, k2, k3, k4, k5, k6, k7, k8⟩ := h
  have h3 : setI ρ 12 3 0 0 = ρ := by rw [← k6, setI_self]
  have h2 : setI ρ 12 2 0 (nI p) = ρ := by rw [← k7, setI_self]
  have ct := m_next (d := d) (Q := Q) (σ := ρ) (c := c) (w := 0) k1 k2 k3 k4 k8
  rw [h3, h2] at ct
  exact ct
theorem t_tk {d : Nat} {Q : Option AV → St → Prop} {ch : Int32} (h : MT c n p ρ) : Rn (d + 1) Q (135, 0, [some (vR (some (12, 0, 0))), some (vI ch), none], [], ρ) = if sgn c n p = ch then Q (some (vI 1)) (setI ρ 12 2 0 (nI (sk c n p + 1))) else Q (some (vI 0)) (setI ρ 12 2 0 (nI (sk c n p))) := by
  obtain ⟨k1, k2, k3, k4, k5, k6, k7, k8⟩ := h
  have h3 : setI ρ 12 3 0 0 = ρ := by rw [← k6, setI_self]
  have h2 : setI ρ 12 2 0 (nI p) = ρ := by rw [← k7, setI_self]
  have ct := m_takes (d := d) (Q := Q) (σ := ρ) (c := c) (ch := ch) k1 k2 k3 k4 k8
  rw [h3, h2] at ct
  exact ct
theorem t_nd {d : Nat} {Q : Option AV → St → Prop} {ch : Int32} (h : MT c n p ρ) : Rn (d + 2) Q (136, 0, [some (vR (some (12, 0, 0))), some (vI ch)], [], ρ) = if sgn c n p = ch then Q none (setI ρ 12 2 0 (nI (sk c n p + 1))) else Q none (setI (setI ρ 12 3 0 1) 12 2 0 (nI (sk c n p))) := by
  obtain ⟨k1, k2, k3, k4, k5, k6, k7, k8⟩ := h
  have h3 : setI ρ 12 3 0 0 = ρ := by rw [← k6, setI_self]
  have h2 : setI ρ 12 2 0 (nI p) = ρ := by rw [← k7, setI_self]
  have ct := m_need0 (d := d) (Q := Q) (σ := ρ) (c := c) (ch := ch) k1 k2 k3 k4 k8
  rw [h3, h2] at ct
  exact ct
theorem t_nm {d : Nat} {Q : Option AV → St → Prop} {H : Nat} (hH : H ≤ 99999) (h : MT c n p ρ) : Rn (d + 2) Q (137, 0, [some (vR (some (12, 0, 0))), some (vI (nI H)), none, none, none], [], ρ) = if nuY c n H (sk c n p) = true then Q (some (vI (nI (nuV c n H (sk c n p))))) (setI ρ 12 2 0 (nI (nuP c n (sk c n p)))) else Q (some (vI (nI (nuV c n H (sk c n p))))) (setI (setI ρ 12 3 0 1) 12 2 0 (nI (sk c n p))) := by
  obtain ⟨k1, k2, k3, k4, k5, k6, k7, k8⟩ := h
  have h3 : setI ρ 12 3 0 0 = ρ := by rw [← k6, setI_self]
  have h2 : setI ρ 12 2 0 (nI p) = ρ := by rw [← k7, setI_self]
  have ct := m_num (d := d) (Q := Q) (σ := ρ) (c := c) (H := H) k1 k2 k3 k4 hH k8 (fun j hj => (k5 j hj).1)
  rw [h3, h2] at ct
  rw [ct]
  unfold nuY nuV nuP
  by_cases hy : (48 ≤ (pkv c n (sk c n p)).toInt ∧ (pkv c n (sk c n p)).toInt ≤ 57) ∧ numV c n H 120 (sk c n p) 0 ≤ H
  · rw [if_pos hy, if_pos (decide_eq_true hy)]
  · rw [if_neg hy, if_neg (by rw [decide_eq_false hy]; decide)]
theorem t_fl {d : Nat} {Q : Option AV → St → Prop} {q : Nat} (h : MT c n p ρ) : Rn d Q (134, 0, [some (vR (some (12, 0, 0))), some (vI (nI q))], [], ρ) = Q none (setI (setI ρ 12 3 0 1) 12 2 0 (nI q)) := by
  obtain ⟨k1, k2, k3, k4, k5, k6, k7, k8⟩ := h
  have h3 : setI ρ 12 3 0 0 = ρ := by rw [← k6, setI_self]
  have h2 : setI ρ 12 2 0 (nI p) = ρ := by rw [← k7, setI_self]
  have ct := m_fail0 (d := d) (Q := Q) (σ := ρ) (p := p) (q := q) k1
  rw [h3, h2] at ct
  exact ct
theorem Ww_0 {q : Nat} (a1 : SH ρ) : Ww q (setI (setI ρ 12 3 0 1) 12 2 0 (nI q)) := by
  refine ⟨SH_I (SH_I a1), ?_⟩
  simp +decide only [II, AA, RR, QQ, IA, IR, IQ, AI, AR, AQ, RI, RA, RQ, QI, QA, QR, LI, LA, LR, LQ, NI, NA, NR, NQ, HI, HA, HR, HQ, SI, SA, SR, SQ, true_and, and_true, or_true, true_or, if_true, if_false, not_true_eq_false, not_false_eq_true, ne_eq, and_self]
  exact ⟨updS0, updS0⟩
theorem w_tk {d q : Nat} {Q : Option AV → St → Prop} {ch : Int32} (h : Ww q ρ) : Rn (d + 1) Q (135, 0, [some (vR (some (12, 0, 0))), some (vI ch), none], [], ρ) = Q (some (vI 0)) ρ := by
  obtain ⟨a1, w1, w2⟩ := h
  have h3 : setI ρ 12 3 0 1 = ρ := by rw [← w1, setI_self]
  have h2 : setI ρ 12 2 0 (nI q) = ρ := by rw [← w2, setI_self]
  have ct := m_takes1 (d := d) (Q := Q) (σ := ρ) (p := q) (ch := ch) a1
  rw [h3, h2] at ct
  exact ct
theorem w_nd {d q : Nat} {Q : Option AV → St → Prop} {ch : Int32} (h : Ww q ρ) : Rn (d + 2) Q (136, 0, [some (vR (some (12, 0, 0))), some (vI ch)], [], ρ) = Q none ρ := by
  obtain ⟨a1, w1, w2⟩ := h
  have h3 : setI ρ 12 3 0 1 = ρ := by rw [← w1, setI_self]
  have h2 : setI ρ 12 2 0 (nI q) = ρ := by rw [← w2, setI_self]
  have ct := m_need1 (d := d) (Q := Q) (σ := ρ) (p := q) (ch := ch) a1
  rw [h3, h2] at ct
  exact ct
theorem w_nm {d q : Nat} {Q : Option AV → St → Prop} {h' : Int32} (h : Ww q ρ) : Rn (d + 2) Q (137, 0, [some (vR (some (12, 0, 0))), some (vI h'), none, none, none], [], ρ) = Q (some (vI 0)) ρ := by
  obtain ⟨a1, w1, w2⟩ := h
  have h3 : setI ρ 12 3 0 1 = ρ := by rw [← w1, setI_self]
  have h2 : setI ρ 12 2 0 (nI q) = ρ := by rw [← w2, setI_self]
  have ct := m_num1 (d := d) (Q := Q) (σ := ρ) (p := q) (h := h') a1
  rw [h3, h2] at ct
  exact ct
theorem Ww_A {q k : Nat} {f : Nat → Int32} (h : Ww q ρ) : Ww q (setA ρ 12 k 0 f) := h
def DdR (q : Nat) (ρ : St) (run : Nat → (Option AV → St → Prop) → Prop) : Prop := ∃ ρ', frB PMl RMl ρ ρ' ∧ Ww q ρ' ∧ ∀ D Q, run D Q = Q none ρ'
theorem w_E {l q : Nat} {l1 : Option AV} (hl : l < 8) (h : Ww q ρ) : DdR q ρ (fun D Q => Rn (D + 6) Q (143, 89, [some (vR (some (12, 0, 0))), l1, some (vI (nI l))], [], ρ)) := by
  have a1 := h.1
  have x2 : (nI l).toInt = (l : Int) := nI_toInt (by omega)
  have x3 : (0 : Int) ≤ (l : Int) := by omega
  have x4 : (l : Int) < ((8 : Nat) : Int) := by omega
  have x5 : (nI l).toNatClampNeg = l := nI_clamp (by omega)
  have hW : Ww q (setA (setI ρ 12 10 0 (gI ρ 12 10 0 ||| 1 <<< (nI l &&& 31))) 12 6 0 (upd (gA ρ 12 6 0) l (gI ρ 12 9 0))) := by
    obtain ⟨w1, w2, w3⟩ := h
    refine ⟨SH_A (SH_I w1), ?_⟩
    simp +decide only [II, AA, RR, QQ, IA, IR, IQ, AI, AR, AQ, RI, RA, RQ, QI, QA, QR, LI, LA, LR, LQ, NI, NA, NR, NQ, HI, HA, HR, HQ, SI, SA, SR, SQ, true_and, and_true, or_true, true_or, if_true, if_false, not_true_eq_false, not_false_eq_true, ne_eq, and_self]
    exact ⟨w2, w3⟩
  have tk := fun {d : Nat} {Q : Option AV → St → Prop} {ch : Int32} => w_tk (d := d) (Q := Q) (ch := ch) hW
  refine ⟨setA (setA (setI ρ 12 10 0 (gI ρ 12 10 0 ||| 1 <<< (nI l &&& 31))) 12 6 0 (upd (gA ρ 12 6 0) l (gI ρ 12 9 0))) 12 7 0 (upd (gA ρ 12 7 0) l (gI ρ 12 9 0)), frB_t (frB_t (frB_I (by decide)) (frB_A (by decide))) (frB_A (by decide)), Ww_A hW, fun D Q => ?_⟩
  simp +decide only [e143_0, e143_1, e143_4, e143_5, e143_6, e143_8, e143_9, e143_10, e143_11, e143_12, e143_13, e143_16, e143_19, e143_22, e143_23, e143_26, e143_27, e143_28, e143_29, e143_30, e143_31, e143_34, e143_35, e143_36, e143_39, e143_42, e143_43, e143_44, e143_45, e143_48, e143_49, e143_50, e143_53, e143_54, e143_56, e143_59, e143_60, e143_63, e143_64, e143_65, e143_67, e143_70, e143_71, e143_72, e143_74, e143_77, e143_78, e143_81, e143_82, e143_83, e143_85, e143_88, e143_89, e143_90, e143_91, e143_94, e143_95, e143_96, e143_97, e143_98, e143_101, e143_102, e143_105, e143_106, e143_107, e143_110, e143_111, e143_112, e143_114, e143_117, e143_120, e143_121, e143_124, e143_125, e143_128, e143_129, e143_130, e143_133, e143_134, true_and, and_true, or_true, true_or, if_true, if_false, not_true_eq_false, not_false_eq_true, ne_eq, and_self, Option.toList_some, Option.toList_none, List.cons_append, List.nil_append, catS_0, catS_I, catS_L, catS_R, Option.map_some, Option.map_none, Option.some.injEq, Sum.inl.injEq, exists_eq_left', exists_eq', II, AA, RR, QQ, IA, IR, IQ, AI, AR, AQ, RI, RA, RQ, QI, QA, QR, LI, LA, LR, LQ, NI, NA, NR, NQ, HI, HA, HR, HQ, SI, SA, SR, SQ, tk, x2, x3, x4, x5, N12 a1, L12_6 a1, L12_7 a1]
theorem DdR_ch {q : Nat} {ρ ρ1 : St} {run run1 : Nat → (Option AV → St → Prop) → Prop} (hf : frB PMl RMl ρ ρ1) (h : DdR q ρ1 run1) (he : ∀ D Q, run D Q = run1 D Q) : DdR q ρ run := by
  obtain ⟨ρ', r1, r2, r3⟩ := h
  exact ⟨ρ', frB_t hf r1, r2, fun D Q => (he D Q).trans (r3 D Q)⟩
theorem w_D {l q : Nat} {l1 : Option AV} (hl : l < 8) (h : Ww q ρ) : DdR q ρ (fun D Q => Rn (D + 6) Q (143, 77, [some (vR (some (12, 0, 0))), l1, some (vI (nI l))], [], ρ)) := by
  have a1 := h.1
  have x2 : (nI l).toInt = (l : Int) := nI_toInt (by omega)
  have x3 : (0 : Int) ≤ (l : Int) := by omega
  have x4 : (l : Int) < ((8 : Nat) : Int) := by omega
  have x5 : (nI l).toNatClampNeg = l := nI_clamp (by omega)
  have nm := fun {d : Nat} {Q : Option AV → St → Prop} {h' : Int32} => w_nm (d := d) (Q := Q) (h' := h') h
  refine DdR_ch (ρ1 := setA ρ 12 5 0 (upd (gA ρ 12 5 0) l 0)) (frB_A (by decide)) (w_E (l1 := l1) hl (Ww_A h)) (fun D Q => ?_)
  simp +decide only [e143_0, e143_1, e143_4, e143_5, e143_6, e143_8, e143_9, e143_10, e143_11, e143_12, e143_13, e143_16, e143_19, e143_22, e143_23, e143_26, e143_27, e143_28, e143_29, e143_30, e143_31, e143_34, e143_35, e143_36, e143_39, e143_42, e143_43, e143_44, e143_45, e143_48, e143_49, e143_50, e143_53, e143_54, e143_56, e143_59, e143_60, e143_63, e143_64, e143_65, e143_67, e143_70, e143_71, e143_72, e143_74, e143_77, e143_78, e143_81, e143_82, e143_83, e143_85, e143_88, e143_90, e143_91, e143_94, e143_95, e143_96, e143_97, e143_98, e143_101, e143_102, e143_105, e143_106, e143_107, e143_110, e143_111, e143_112, e143_114, e143_117, e143_120, e143_121, e143_124, e143_125, e143_128, e143_129, e143_130, e143_133, e143_134, true_and, and_true, or_true, true_or, if_true, if_false, not_true_eq_false, not_false_eq_true, ne_eq, and_self, Option.toList_some, Option.toList_none, List.cons_append, List.nil_append, catS_0, catS_I, catS_L, catS_R, Option.map_some, Option.map_none, Option.some.injEq, Sum.inl.injEq, exists_eq_left', exists_eq', II, AA, RR, QQ, IA, IR, IQ, AI, AR, AQ, RI, RA, RQ, QI, QA, QR, LI, LA, LR, LQ, NI, NA, NR, NQ, HI, HA, HR, HQ, SI, SA, SR, SQ, nm, x2, x3, x4, x5, N12 a1, L12_5 a1]
theorem w_B {l q : Nat} {l1 : Option AV} (hl : l < 8) (h : Ww q ρ) : DdR q ρ (fun D Q => Rn (D + 6) Q (143, 59, [some (vR (some (12, 0, 0))), l1, some (vI (nI l))], [], ρ)) := by
  have a1 := h.1
  have x2 : (nI l).toInt = (l : Int) := nI_toInt (by omega)
  have x3 : (0 : Int) ≤ (l : Int) := by omega
  have x4 : (l : Int) < ((8 : Nat) : Int) := by omega
  have x5 : (nI l).toNatClampNeg = l := nI_clamp (by omega)
  have nm := fun {d : Nat} {Q : Option AV → St → Prop} {h' : Int32} => w_nm (d := d) (Q := Q) (h' := h') h
  have hW := Ww_A (k := 4) (f := upd (gA ρ 12 4 0) l 0) h
  have nd := fun {d : Nat} {Q : Option AV → St → Prop} {ch : Int32} => w_nd (d := d) (Q := Q) (ch := ch) hW
  refine DdR_ch (ρ1 := setA ρ 12 4 0 (upd (gA ρ 12 4 0) l 0)) (frB_A (by decide)) (w_D (l1 := l1) hl hW) (fun D Q => ?_)
  simp +decide only [e143_0, e143_1, e143_4, e143_5, e143_6, e143_8, e143_9, e143_10, e143_11, e143_12, e143_13, e143_16, e143_19, e143_22, e143_23, e143_26, e143_27, e143_28, e143_29, e143_30, e143_31, e143_34, e143_35, e143_36, e143_39, e143_42, e143_43, e143_44, e143_45, e143_48, e143_49, e143_50, e143_53, e143_54, e143_56, e143_59, e143_60, e143_63, e143_64, e143_65, e143_67, e143_70, e143_71, e143_72, e143_74, e143_78, e143_81, e143_82, e143_83, e143_85, e143_88, e143_89, e143_90, e143_91, e143_94, e143_95, e143_96, e143_97, e143_98, e143_101, e143_102, e143_105, e143_106, e143_107, e143_110, e143_111, e143_112, e143_114, e143_117, e143_120, e143_121, e143_124, e143_125, e143_128, e143_129, e143_130, e143_133, e143_134, true_and, and_true, or_true, true_or, if_true, if_false, not_true_eq_false, not_false_eq_true, ne_eq, and_self, Option.toList_some, Option.toList_none, List.cons_append, List.nil_append, catS_0, catS_I, catS_L, catS_R, Option.map_some, Option.map_none, Option.some.injEq, Sum.inl.injEq, exists_eq_left', exists_eq', II, AA, RR, QQ, IA, IR, IQ, AI, AR, AQ, RI, RA, RQ, QI, QA, QR, LI, LA, LR, LQ, NI, NA, NR, NQ, HI, HA, HR, HQ, SI, SA, SR, SQ, nm, nd, x2, x3, x4, x5, N12 a1, L12_4 a1]
theorem w_C {l q : Nat} {l1 : Option AV} (hl : l < 8) (h : Ww q ρ) : DdR q ρ (fun D Q => Rn (D + 6) Q (143, 71, [some (vR (some (12, 0, 0))), l1, some (vI (nI l))], [], ρ)) := by
  have a1 := h.1
  have nd := fun {d : Nat} {Q : Option AV → St → Prop} {ch : Int32} => w_nd (d := d) (Q := Q) (ch := ch) h
  refine DdR_ch frB_0 (w_D (l1 := l1) hl h) (fun D Q => ?_)
  simp +decide only [e143_0, e143_1, e143_4, e143_5, e143_6, e143_8, e143_9, e143_10, e143_11, e143_12, e143_13, e143_16, e143_19, e143_22, e143_23, e143_26, e143_27, e143_28, e143_29, e143_30, e143_31, e143_34, e143_35, e143_36, e143_39, e143_42, e143_43, e143_44, e143_45, e143_48, e143_49, e143_50, e143_53, e143_54, e143_56, e143_59, e143_60, e143_63, e143_64, e143_65, e143_67, e143_70, e143_71, e143_72, e143_74, e143_78, e143_81, e143_82, e143_83, e143_85, e143_88, e143_89, e143_90, e143_91, e143_94, e143_95, e143_96, e143_97, e143_98, e143_101, e143_102, e143_105, e143_106, e143_107, e143_110, e143_111, e143_112, e143_114, e143_117, e143_120, e143_121, e143_124, e143_125, e143_128, e143_129, e143_130, e143_133, e143_134, true_and, and_true, or_true, true_or, if_true, if_false, not_true_eq_false, not_false_eq_true, ne_eq, and_self, Option.toList_some, Option.toList_none, List.cons_append, List.nil_append, catS_0, catS_I, catS_L, catS_R, Option.map_some, Option.map_none, Option.some.injEq, Sum.inl.injEq, exists_eq_left', exists_eq', II, AA, RR, QQ, IA, IR, IQ, AI, AR, AQ, RI, RA, RQ, QI, QA, QR, LI, LA, LR, LQ, NI, NA, NR, NQ, HI, HA, HR, HQ, SI, SA, SR, SQ, nd, N12 a1]
/-- the reference between two lessons -/
def ME (c : Nat → Int32) (n p : Nat) (L : List Ent) (ρ : St) : Prop := MT c n p ρ ∧ gI ρ 12 10 0 = nI (bitsL L) ∧ gI ρ 12 9 0 = nI (totL L) ∧ gI ρ 12 11 0 = nI (orL L) ∧ totL L ≤ p ∧ GdL L ∧ EntR rvT (gA ρ 12 4 0) (gA ρ 12 5 0) (gA ρ 12 6 0) (gA ρ 12 7 0) (gA ρ 12 8 0) L
def MLr (c : Nat → Int32) (n : Nat) (L : List Ent) (ρ : St) (x : Sum Nat (Nat × Ent)) (run : Nat → (Option AV → St → Prop) → Prop) : Prop := match x with
  | .inl q => DdR q ρ run
  | .inr y => ∃ ρ', frB PMl RMl ρ ρ' ∧ ME c n (sk c n y.1) (y.2 :: L) ρ' ∧ ∀ D Q, run D Q = Q none ρ'
theorem ME_p {L : List Ent} {q : Nat} (h : ME c n p L ρ) (h1 : p ≤ q) (h2 : q ≤ n) : ME c n q L (setI ρ 12 2 0 (nI q)) := by
  obtain ⟨k1, k2, k3, k4, k5, k6, k7⟩ := h
  refine ⟨MT_p k1 h2, ?_⟩
  simp +decide only [II, AA, RR, QQ, IA, IR, IQ, AI, AR, AQ, RI, RA, RQ, QI, QA, QR, LI, LA, LR, LQ, NI, NA, NR, NQ, HI, HA, HR, HQ, SI, SA, SR, SQ, true_and, and_true, or_true, true_or, if_true, if_false, not_true_eq_false, not_false_eq_true, ne_eq, and_self]
  exact ⟨k2, k3, k4, by omega, k6, k7⟩
theorem MLr_ch {L : List Ent} {ρ1 : St} {x : Sum Nat (Nat × Ent)} {run run1 : Nat → (Option AV → St → Prop) → Prop} (hf : frB PMl RMl ρ ρ1) (h : MLr c n L ρ1 x run1) (he : ∀ D Q, run D Q = run1 D Q) : MLr c n L ρ x run := by
  cases x with
  | inl q => exact DdR_ch hf h he
  | inr y =>
    obtain ⟨ρ', r1, r2, r3⟩ := h
    exact ⟨ρ', frB_t hf r1, r2, fun D Q => (he D Q).trans (r3 D Q)⟩
theorem m_lE {L : List Ent} {l nm ps : Nat} {l1 : Option AV} (h : ME c n p L ρ) (hl : l < 8) (hb : (bitsL L).testBit l = false) (hnm : nm ≤ 39) (hps : ps ≤ 100) (g4 : gA ρ 12 4 0 l = nI nm) (g5 : gA ρ 12 5 0 l = nI ps) : MLr c n L ρ (lesE c n l nm ps p) (fun D Q => Rn (D + 6) Q (143, 89, [some (vR (some (12, 0, 0))), l1, some (vI (nI l))], [], ρ)) := by
  obtain ⟨k1, k2, k3, k4, k5, k6, k7⟩ := h
  have a1 := k1.1
  have n120 := k1.2.1
  have x2 : (nI l).toInt = (l : Int) := nI_toInt (by omega)
  have x3 : (0 : Int) ≤ (l : Int) := by omega
  have x4 : (l : Int) < ((8 : Nat) : Int) := by omega
  have x5 : (nI l).toNatClampNeg = l := nI_clamp (by omega)
  have os : (1 : Int32) <<< (nI l &&& 31) = nI (2 ^ l) := one_sh (by omega)
  have oo : nI (bitsL L) ||| nI (2 ^ l) = nI (bitsL L ||| 2 ^ l) := nI_or _ _
  have hni := bits_not L hb
  have p8 := k1.2.2.2.2.2.2.2
  have sl := sk_le (c := c) p8
  have f1 : frB PMl RMl ρ (setA (setI ρ 12 10 0 (nI (bitsL L ||| 2 ^ l))) 12 6 0 (upd (gA ρ 12 6 0) l (nI (totL L)))) := frB_t (frB_I (by decide)) (frB_A (by decide))
  have hT1 : MT c n p (setA (setI ρ 12 10 0 (nI (bitsL L ||| 2 ^ l))) 12 6 0 (upd (gA ρ 12 6 0) l (nI (totL L)))) := MT_fr k1 f1 (by simp +decide only [II, AA, RR, QQ, IA, IR, IQ, AI, AR, AQ, RI, RA, RQ, QI, QA, QR, LI, LA, LR, LQ, NI, NA, NR, NQ, HI, HA, HR, HQ, SI, SA, SR, SQ, true_and, and_true, or_true, true_or, if_true, if_false, not_true_eq_false, not_false_eq_true, ne_eq, and_self]; exact k1.2.2.2.2.2.1) (by simp +decide only [II, AA, RR, QQ, IA, IR, IQ, AI, AR, AQ, RI, RA, RQ, QI, QA, QR, LI, LA, LR, LQ, NI, NA, NR, NQ, HI, HA, HR, HQ, SI, SA, SR, SQ, true_and, and_true, or_true, true_or, if_true, if_false, not_true_eq_false, not_false_eq_true, ne_eq, and_self]; exact k1.2.2.2.2.2.2.1) p8
  have r10 : gI (setA (setI ρ 12 10 0 (nI (bitsL L ||| 2 ^ l))) 12 6 0 (upd (gA ρ 12 6 0) l (nI (totL L)))) 12 10 0 = nI (bitsL L ||| 2 ^ l) := by simp +decide only [II, AA, RR, QQ, IA, IR, IQ, AI, AR, AQ, RI, RA, RQ, QI, QA, QR, LI, LA, LR, LQ, NI, NA, NR, NQ, HI, HA, HR, HQ, SI, SA, SR, SQ, true_and, and_true, or_true, true_or, if_true, if_false, not_true_eq_false, not_false_eq_true, ne_eq, and_self]; exact updS0
  have r9 : gI (setA (setI ρ 12 10 0 (nI (bitsL L ||| 2 ^ l))) 12 6 0 (upd (gA ρ 12 6 0) l (nI (totL L)))) 12 9 0 = nI (totL L) := by simp +decide only [II, AA, RR, QQ, IA, IR, IQ, AI, AR, AQ, RI, RA, RQ, QI, QA, QR, LI, LA, LR, LQ, NI, NA, NR, NQ, HI, HA, HR, HQ, SI, SA, SR, SQ, true_and, and_true, or_true, true_or, if_true, if_false, not_true_eq_false, not_false_eq_true, ne_eq, and_self]; exact k3
  have r11 : gI (setA (setI ρ 12 10 0 (nI (bitsL L ||| 2 ^ l))) 12 6 0 (upd (gA ρ 12 6 0) l (nI (totL L)))) 12 11 0 = nI (orL L) := by simp +decide only [II, AA, RR, QQ, IA, IR, IQ, AI, AR, AQ, RI, RA, RQ, QI, QA, QR, LI, LA, LR, LQ, NI, NA, NR, NQ, HI, HA, HR, HQ, SI, SA, SR, SQ, true_and, and_true, or_true, true_or, if_true, if_false, not_true_eq_false, not_false_eq_true, ne_eq, and_self]; exact k4
  have r4 : gA (setA (setI ρ 12 10 0 (nI (bitsL L ||| 2 ^ l))) 12 6 0 (upd (gA ρ 12 6 0) l (nI (totL L)))) 12 4 0 = gA ρ 12 4 0 := by simp +decide only [II, AA, RR, QQ, IA, IR, IQ, AI, AR, AQ, RI, RA, RQ, QI, QA, QR, LI, LA, LR, LQ, NI, NA, NR, NQ, HI, HA, HR, HQ, SI, SA, SR, SQ, true_and, and_true, or_true, true_or, if_true, if_false, not_true_eq_false, not_false_eq_true, ne_eq, and_self]
  have r5 : gA (setA (setI ρ 12 10 0 (nI (bitsL L ||| 2 ^ l))) 12 6 0 (upd (gA ρ 12 6 0) l (nI (totL L)))) 12 5 0 = gA ρ 12 5 0 := by simp +decide only [II, AA, RR, QQ, IA, IR, IQ, AI, AR, AQ, RI, RA, RQ, QI, QA, QR, LI, LA, LR, LQ, NI, NA, NR, NQ, HI, HA, HR, HQ, SI, SA, SR, SQ, true_and, and_true, or_true, true_or, if_true, if_false, not_true_eq_false, not_false_eq_true, ne_eq, and_self]
  have r6 : gA (setA (setI ρ 12 10 0 (nI (bitsL L ||| 2 ^ l))) 12 6 0 (upd (gA ρ 12 6 0) l (nI (totL L)))) 12 6 0 = upd (gA ρ 12 6 0) l (nI (totL L)) := by simp +decide only [II, AA, RR, QQ, IA, IR, IQ, AI, AR, AQ, RI, RA, RQ, QI, QA, QR, LI, LA, LR, LQ, NI, NA, NR, NQ, HI, HA, HR, HQ, SI, SA, SR, SQ, true_and, and_true, or_true, true_or, if_true, if_false, not_true_eq_false, not_false_eq_true, ne_eq, and_self]
  have r7 : gA (setA (setI ρ 12 10 0 (nI (bitsL L ||| 2 ^ l))) 12 6 0 (upd (gA ρ 12 6 0) l (nI (totL L)))) 12 7 0 = gA ρ 12 7 0 := by simp +decide only [II, AA, RR, QQ, IA, IR, IQ, AI, AR, AQ, RI, RA, RQ, QI, QA, QR, LI, LA, LR, LQ, NI, NA, NR, NQ, HI, HA, HR, HQ, SI, SA, SR, SQ, true_and, and_true, or_true, true_or, if_true, if_false, not_true_eq_false, not_false_eq_true, ne_eq, and_self]
  have r8 : gA (setA (setI ρ 12 10 0 (nI (bitsL L ||| 2 ^ l))) 12 6 0 (upd (gA ρ 12 6 0) l (nI (totL L)))) 12 8 0 = gA ρ 12 8 0 := by simp +decide only [II, AA, RR, QQ, IA, IR, IQ, AI, AR, AQ, RI, RA, RQ, QI, QA, QR, LI, LA, LR, LQ, NI, NA, NR, NQ, HI, HA, HR, HQ, SI, SA, SR, SQ, true_and, and_true, or_true, true_or, if_true, if_false, not_true_eq_false, not_false_eq_true, ne_eq, and_self]
  have head : ∀ D Q, Rn (D + 6) Q (143, 89, [some (vR (some (12, 0, 0))), l1, some (vI (nI l))], [], ρ) = Rn (D + 6) Q (143, 111, [some (vR (some (12, 0, 0))), l1, some (vI (nI l))], [], setA (setI ρ 12 10 0 (nI (bitsL L ||| 2 ^ l))) 12 6 0 (upd (gA ρ 12 6 0) l (nI (totL L)))) := by
    intro D Q
    simp +decide only [e143_0, e143_1, e143_4, e143_5, e143_6, e143_8, e143_9, e143_10, e143_11, e143_12, e143_13, e143_16, e143_19, e143_22, e143_23, e143_26, e143_27, e143_28, e143_29, e143_30, e143_31, e143_34, e143_35, e143_36, e143_39, e143_42, e143_43, e143_44, e143_45, e143_48, e143_49, e143_50, e143_53, e143_54, e143_56, e143_59, e143_60, e143_63, e143_64, e143_65, e143_67, e143_70, e143_71, e143_72, e143_74, e143_77, e143_78, e143_81, e143_82, e143_83, e143_85, e143_88, e143_89, e143_90, e143_91, e143_94, e143_95, e143_96, e143_97, e143_98, e143_101, e143_102, e143_105, e143_106, e143_107, e143_110, e143_112, e143_114, e143_117, e143_120, e143_121, e143_124, e143_125, e143_128, e143_129, e143_130, e143_133, e143_134, true_and, and_true, or_true, true_or, if_true, if_false, not_true_eq_false, not_false_eq_true, ne_eq, and_self, Option.toList_some, Option.toList_none, List.cons_append, List.nil_append, catS_0, catS_I, catS_L, catS_R, Option.map_some, Option.map_none, Option.some.injEq, Sum.inl.injEq, exists_eq_left', exists_eq', II, AA, RR, QQ, IA, IR, IQ, AI, AR, AQ, RI, RA, RQ, QI, QA, QR, LI, LA, LR, LQ, NI, NA, NR, NQ, HI, HA, HR, HQ, SI, SA, SR, SQ, k2, k3, os, oo, x2, x3, x4, x5, N12 a1, L12_6 a1]
  generalize hρ1 : setA (setI ρ 12 10 0 (nI (bitsL L ||| 2 ^ l))) 12 6 0 (upd (gA ρ 12 6 0) l (nI (totL L))) = ρ1 at *
  have b1 := hT1.1
  have tk := fun {d : Nat} {Q : Option AV → St → Prop} {ch : Int32} => t_tk (d := d) (Q := Q) (ch := ch) hT1
  -- the end: readTo is written
  have fin : ∀ (ρ' : St) (q : Nat) (C : List Nat), frB PMc RMc ρ1 ρ' → (∀ j, j < totL L → gA ρ' 12 8 0 j = gA ρ1 12 8 0 j) → MT c n q ρ' → gI ρ' 12 9 0 = nI (totL L + C.length) → gI ρ' 12 11 0 = nI (orL L ||| orC C) → RowL rvT (gA ρ' 12 8 0) (totL L) C → totL L + C.length ≤ q → WFc C → dep C ≤ 1 → ME c n q ((l, nm, ps, C) :: L) (setA ρ' 12 7 0 (upd (gA ρ' 12 7 0) l (nI (totL L + C.length)))) := by
    intro ρ' q C hf hj hT h9 h11 hR hq hw hd
    have e4 : gA ρ' 12 4 0 = gA ρ 12 4 0 := by rw [hf.2.2.2.2.2.2.1 12 4 (by decide), r4]
    have e5 : gA ρ' 12 5 0 = gA ρ 12 5 0 := by rw [hf.2.2.2.2.2.2.1 12 5 (by decide), r5]
    have e6 : gA ρ' 12 6 0 = upd (gA ρ 12 6 0) l (nI (totL L)) := by rw [hf.2.2.2.2.2.2.1 12 6 (by decide), r6]
    have e7 : gA ρ' 12 7 0 = gA ρ 12 7 0 := by rw [hf.2.2.2.2.2.2.1 12 7 (by decide), r7]
    refine ⟨MT_fr hT (frB_A (by decide)) (by simp +decide only [II, AA, RR, QQ, IA, IR, IQ, AI, AR, AQ, RI, RA, RQ, QI, QA, QR, LI, LA, LR, LQ, NI, NA, NR, NQ, HI, HA, HR, HQ, SI, SA, SR, SQ, true_and, and_true, or_true, true_or, if_true, if_false, not_true_eq_false, not_false_eq_true, ne_eq, and_self]; exact hT.2.2.2.2.2.1) (by simp +decide only [II, AA, RR, QQ, IA, IR, IQ, AI, AR, AQ, RI, RA, RQ, QI, QA, QR, LI, LA, LR, LQ, NI, NA, NR, NQ, HI, HA, HR, HQ, SI, SA, SR, SQ, true_and, and_true, or_true, true_or, if_true, if_false, not_true_eq_false, not_false_eq_true, ne_eq, and_self]; exact hT.2.2.2.2.2.2.1) hT.2.2.2.2.2.2.2, ?_⟩
    simp +decide only [II, AA, RR, QQ, IA, IR, IQ, AI, AR, AQ, RI, RA, RQ, QI, QA, QR, LI, LA, LR, LQ, NI, NA, NR, NQ, HI, HA, HR, HQ, SI, SA, SR, SQ, true_and, and_true, or_true, true_or, if_true, if_false, not_true_eq_false, not_false_eq_true, ne_eq, and_self]
    refine ⟨?_, h9, h11, hq, ⟨⟨hl, hb, hnm, hps, hw, hd⟩, k6⟩, ?_, ?_, ?_, updS0, hR, ?_⟩
    · rw [hf.2.2.2.2.2.2.2 12 10 (by decide), r10]; rfl
    · rw [e4]; exact g4
    · rw [e5]; exact g5
    · rw [e6]; exact updS0
    · refine EntR_ext (l := l) (fun j hj => by rw [e4]) (fun j hj => by rw [e5]) (fun j hj => by rw [e6, pk_un hj]) (fun j hj => by rw [pk_un hj, e7]) L hni (fun j hj' => by rw [hj j hj', r8]) k7
  unfold lesE
  by_cases he : sgn c n p = 58
  · rw [if_pos he]
    have hlt := sgn_n p8 he (by decide)
    have hM : MS (totL L) (orL L) c n (sk c n p + 1) [] [] (setI (setI ρ1 12 2 0 (nI (sk c n p + 1))) 12 14 0 0) := by
      obtain ⟨q1, q2, q3, q4, q5, q6, q7, q8⟩ := hT1
      refine ⟨SH_I (SH_I q1), ?_⟩
      simp +decide only [II, AA, RR, QQ, IA, IR, IQ, AI, AR, AQ, RI, RA, RQ, QI, QA, QR, LI, LA, LR, LQ, NI, NA, NR, NQ, HI, HA, HR, HQ, SI, SA, SR, SQ, true_and, and_true, or_true, true_or, if_true, if_false, not_true_eq_false, not_false_eq_true, ne_eq, and_self]
      refine ⟨q2, q3, q4, q5, q6, updS0, by omega, r9, True.intro, ?_, updS0, True.intro, by show totL L + 0 + 0 ≤ sk c n p + 1; omega⟩
      rw [r11]
      show nI (orL L) = nI (orL L ||| 0)
      rw [Nat.or_zero]
    have hx := m_leans (SH_I b1) hM
    have hgo := cases_go (c := c) (n := n) (b := 13) (by omega) (fun p C hp => claim_go (c := c) 6 p C hp) (sk c n p + 1) [] (by omega)
    cases hy : casesP c n (claimP c n 6) (sk c n p + 1) [] with
    | inl q =>
      rw [hy] at hx
      obtain ⟨ρ', t1, t2, t3, t4⟩ := hx
      have b2 : SH ρ' := SH_frB t1 (SH_I b1)
      refine ⟨setA ρ' 12 7 0 (upd (gA ρ' 12 7 0) l (gI ρ' 12 9 0)), frB_t f1 (frB_t (frB_I (by decide)) (frB_t (frB_cl t1) (frB_A (by decide)))), ⟨SH_A b2, t2, t3⟩, fun D Q => ?_⟩
      have t4 := fun Q => t4 D Q
      refine (head D Q).trans ?_
      simp +decide only [e143_0, e143_1, e143_4, e143_5, e143_6, e143_8, e143_9, e143_10, e143_11, e143_12, e143_13, e143_16, e143_19, e143_22, e143_23, e143_26, e143_27, e143_28, e143_29, e143_30, e143_31, e143_34, e143_35, e143_36, e143_39, e143_42, e143_43, e143_44, e143_45, e143_48, e143_49, e143_50, e143_53, e143_54, e143_56, e143_59, e143_60, e143_63, e143_64, e143_65, e143_67, e143_70, e143_71, e143_72, e143_74, e143_77, e143_78, e143_81, e143_82, e143_83, e143_85, e143_88, e143_90, e143_91, e143_94, e143_95, e143_96, e143_97, e143_98, e143_101, e143_102, e143_105, e143_106, e143_107, e143_110, e143_111, e143_112, e143_114, e143_117, e143_120, e143_121, e143_124, e143_125, e143_128, e143_129, e143_130, e143_133, e143_134, true_and, and_true, or_true, true_or, if_true, if_false, not_true_eq_false, not_false_eq_true, ne_eq, and_self, Option.toList_some, Option.toList_none, List.cons_append, List.nil_append, catS_0, catS_I, catS_L, catS_R, Option.map_some, Option.map_none, Option.some.injEq, Sum.inl.injEq, exists_eq_left', exists_eq', II, AA, RR, QQ, IA, IR, IQ, AI, AR, AQ, RI, RA, RQ, QI, QA, QR, LI, LA, LR, LQ, NI, NA, NR, NQ, HI, HA, HR, HQ, SI, SA, SR, SQ, tk, he, t4, x2, x3, x4, x5, N12 b1, N12 b2, L12_7 b2]
    | inr y =>
      rw [hy] at hx hgo
      obtain ⟨ρ', t1, t2, t3⟩ := hx
      obtain ⟨x1', x2', x3', x4'⟩ := hgo
      obtain ⟨w1, w2⟩ := x4' True.intro (by show 0 + (13 + 2) ≤ 20; omega)
      have w2 : dep y.2 = 0 + 1 := w2
      obtain ⟨q1, q2, q3, q4, q5, q6, q7, q8, q9, q10, q11, q12, q13, q14⟩ := t2
      have q14 : totL L + y.2.length + 0 ≤ sk c n y.1 := q14
      refine ⟨setA ρ' 12 7 0 (upd (gA ρ' 12 7 0) l (nI (totL L + y.2.length))), frB_t f1 (frB_t (frB_I (by decide)) (frB_t (frB_cl t1.1) (frB_A (by decide)))), fin ρ' _ y.2 (frB_t (frB_I (by decide)) t1.1) (fun j hj => by rw [t1.2 j hj]; simp +decide only [II, AA, RR, QQ, IA, IR, IQ, AI, AR, AQ, RI, RA, RQ, QI, QA, QR, LI, LA, LR, LQ, NI, NA, NR, NQ, HI, HA, HR, HQ, SI, SA, SR, SQ, true_and, and_true, or_true, true_or, if_true, if_false, not_true_eq_false, not_false_eq_true, ne_eq, and_self]) ⟨q1, q2, q3, q4, q5, q6, q7, q8⟩ q9 q11 q10 (by omega) w1 (by omega), fun D Q => ?_⟩
      have t3 := fun Q => t3 D Q
      refine (head D Q).trans ?_
      simp +decide only [e143_0, e143_1, e143_4, e143_5, e143_6, e143_8, e143_9, e143_10, e143_11, e143_12, e143_13, e143_16, e143_19, e143_22, e143_23, e143_26, e143_27, e143_28, e143_29, e143_30, e143_31, e143_34, e143_35, e143_36, e143_39, e143_42, e143_43, e143_44, e143_45, e143_48, e143_49, e143_50, e143_53, e143_54, e143_56, e143_59, e143_60, e143_63, e143_64, e143_65, e143_67, e143_70, e143_71, e143_72, e143_74, e143_77, e143_78, e143_81, e143_82, e143_83, e143_85, e143_88, e143_90, e143_91, e143_94, e143_95, e143_96, e143_97, e143_98, e143_101, e143_102, e143_105, e143_106, e143_107, e143_110, e143_111, e143_112, e143_114, e143_117, e143_120, e143_121, e143_124, e143_125, e143_128, e143_129, e143_130, e143_133, e143_134, true_and, and_true, or_true, true_or, if_true, if_false, not_true_eq_false, not_false_eq_true, ne_eq, and_self, Option.toList_some, Option.toList_none, List.cons_append, List.nil_append, catS_0, catS_I, catS_L, catS_R, Option.map_some, Option.map_none, Option.some.injEq, Sum.inl.injEq, exists_eq_left', exists_eq', II, AA, RR, QQ, IA, IR, IQ, AI, AR, AQ, RI, RA, RQ, QI, QA, QR, LI, LA, LR, LQ, NI, NA, NR, NQ, HI, HA, HR, HQ, SI, SA, SR, SQ, tk, he, t3, q9, x2, x3, x4, x5, N12 b1, N12 q1, L12_7 q1]
  · rw [if_neg he]
    refine ⟨setA (setI ρ1 12 2 0 (nI (sk c n p))) 12 7 0 (upd (gA ρ1 12 7 0) l (nI (totL L))), frB_t f1 (frB_t (frB_I (by decide)) (frB_A (by decide))), ?_, fun D Q => ?_⟩
    · have hh := fin (setI ρ1 12 2 0 (nI (sk c n p))) (sk c n p) [] (frB_I (by decide)) (fun j _ => by simp +decide only [II, AA, RR, QQ, IA, IR, IQ, AI, AR, AQ, RI, RA, RQ, QI, QA, QR, LI, LA, LR, LQ, NI, NA, NR, NQ, HI, HA, HR, HQ, SI, SA, SR, SQ, true_and, and_true, or_true, true_or, if_true, if_false, not_true_eq_false, not_false_eq_true, ne_eq, and_self]) (MT_p hT1 sl.2) (by simp +decide only [II, AA, RR, QQ, IA, IR, IQ, AI, AR, AQ, RI, RA, RQ, QI, QA, QR, LI, LA, LR, LQ, NI, NA, NR, NQ, HI, HA, HR, HQ, SI, SA, SR, SQ, true_and, and_true, or_true, true_or, if_true, if_false, not_true_eq_false, not_false_eq_true, ne_eq, and_self]; exact r9) (by simp +decide only [II, AA, RR, QQ, IA, IR, IQ, AI, AR, AQ, RI, RA, RQ, QI, QA, QR, LI, LA, LR, LQ, NI, NA, NR, NQ, HI, HA, HR, HQ, SI, SA, SR, SQ, true_and, and_true, or_true, true_or, if_true, if_false, not_true_eq_false, not_false_eq_true, ne_eq, and_self]; rw [r11]; show nI (orL L) = nI (orL L ||| 0); rw [Nat.or_zero]) True.intro (by show totL L + 0 ≤ sk c n p; omega) True.intro (Nat.zero_le _)
      show ME c n (sk c n (sk c n p)) _ _
      rw [sk_sk n120]
      simp +decide only [II, AA, RR, QQ, IA, IR, IQ, AI, AR, AQ, RI, RA, RQ, QI, QA, QR, LI, LA, LR, LQ, NI, NA, NR, NQ, HI, HA, HR, HQ, SI, SA, SR, SQ, true_and, and_true, or_true, true_or, if_true, if_false, not_true_eq_false, not_false_eq_true, ne_eq, and_self] at hh
      exact hh
    · refine (head D Q).trans ?_
      simp +decide only [e143_0, e143_1, e143_4, e143_5, e143_6, e143_8, e143_9, e143_10, e143_11, e143_12, e143_13, e143_16, e143_19, e143_22, e143_23, e143_26, e143_27, e143_28, e143_29, e143_30, e143_31, e143_34, e143_35, e143_36, e143_39, e143_42, e143_43, e143_44, e143_45, e143_48, e143_49, e143_50, e143_53, e143_54, e143_56, e143_59, e143_60, e143_63, e143_64, e143_65, e143_67, e143_70, e143_71, e143_72, e143_74, e143_77, e143_78, e143_81, e143_82, e143_83, e143_85, e143_88, e143_90, e143_91, e143_94, e143_95, e143_96, e143_97, e143_98, e143_101, e143_102, e143_105, e143_106, e143_107, e143_110, e143_111, e143_112, e143_114, e143_117, e143_120, e143_121, e143_124, e143_125, e143_128, e143_129, e143_130, e143_133, e143_134, true_and, and_true, or_true, true_or, if_true, if_false, not_true_eq_false, not_false_eq_true, ne_eq, and_self, Option.toList_some, Option.toList_none, List.cons_append, List.nil_append, catS_0, catS_I, catS_L, catS_R, Option.map_some, Option.map_none, Option.some.injEq, Sum.inl.injEq, exists_eq_left', exists_eq', II, AA, RR, QQ, IA, IR, IQ, AI, AR, AQ, RI, RA, RQ, QI, QA, QR, LI, LA, LR, LQ, NI, NA, NR, NQ, HI, HA, HR, HQ, SI, SA, SR, SQ, tk, he, r9, x2, x3, x4, x5, N12 b1, L12_7 b1]
end MLESS
