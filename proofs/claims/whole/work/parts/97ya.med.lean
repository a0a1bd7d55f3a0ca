section MED
variable {c : Nat → Int32} {n : Nat}
theorem ME_r4 {p l : Nat} {L : List Ent} {ρ : St} {v : Int32} (h : ME c n p L ρ) (hb : (bitsL L).testBit l = false) : ME c n p L (setA ρ 12 4 0 (upd (gA ρ 12 4 0) l v)) := by
  obtain ⟨k1, k2, k3, k4, k5, k6, k7⟩ := h
  refine ⟨MT_fr k1 (frB_A (by decide)) (by simp +decide only [II, AA, RR, QQ, IA, IR, IQ, AI, AR, AQ, RI, RA, RQ, QI, QA, QR, LI, LA, LR, LQ, NI, NA, NR, NQ, HI, HA, HR, HQ, SI, SA, SR, SQ, true_and, and_true, or_true, true_or, if_true, if_false, not_true_eq_false, not_false_eq_true, ne_eq, and_self]; exact k1.2.2.2.2.2.1) (by simp +decide only [II, AA, RR, QQ, IA, IR, IQ, AI, AR, AQ, RI, RA, RQ, QI, QA, QR, LI, LA, LR, LQ, NI, NA, NR, NQ, HI, HA, HR, HQ, SI, SA, SR, SQ, true_and, and_true, or_true, true_or, if_true, if_false, not_true_eq_false, not_false_eq_true, ne_eq, and_self]; exact k1.2.2.2.2.2.2.1) k1.2.2.2.2.2.2.2, ?_⟩
  simp +decide only [II, AA, RR, QQ, IA, IR, IQ, AI, AR, AQ, RI, RA, RQ, QI, QA, QR, LI, LA, LR, LQ, NI, NA, NR, NQ, HI, HA, HR, HQ, SI, SA, SR, SQ, true_and, and_true, or_true, true_or, if_true, if_false, not_true_eq_false, not_false_eq_true, ne_eq, and_self]
  exact ⟨k2, k3, k4, k5, k6, EntR_ext (l := l) (fun j hj => pk_un hj) (fun _ _ => rfl) (fun _ _ => rfl) (fun _ _ => rfl) L (bits_not L hb) (fun _ _ => rfl) k7⟩
theorem ME_r5 {p l : Nat} {L : List Ent} {ρ : St} {v : Int32} (h : ME c n p L ρ) (hb : (bitsL L).testBit l = false) : ME c n p L (setA ρ 12 5 0 (upd (gA ρ 12 5 0) l v)) := by
  obtain ⟨k1, k2, k3, k4, k5, k6, k7⟩ := h
  refine ⟨MT_fr k1 (frB_A (by decide)) (by simp +decide only [II, AA, RR, QQ, IA, IR, IQ, AI, AR, AQ, RI, RA, RQ, QI, QA, QR, LI, LA, LR, LQ, NI, NA, NR, NQ, HI, HA, HR, HQ, SI, SA, SR, SQ, true_and, and_true, or_true, true_or, if_true, if_false, not_true_eq_false, not_false_eq_true, ne_eq, and_self]; exact k1.2.2.2.2.2.1) (by simp +decide only [II, AA, RR, QQ, IA, IR, IQ, AI, AR, AQ, RI, RA, RQ, QI, QA, QR, LI, LA, LR, LQ, NI, NA, NR, NQ, HI, HA, HR, HQ, SI, SA, SR, SQ, true_and, and_true, or_true, true_or, if_true, if_false, not_true_eq_false, not_false_eq_true, ne_eq, and_self]; exact k1.2.2.2.2.2.2.1) k1.2.2.2.2.2.2.2, ?_⟩
  simp +decide only [II, AA, RR, QQ, IA, IR, IQ, AI, AR, AQ, RI, RA, RQ, QI, QA, QR, LI, LA, LR, LQ, NI, NA, NR, NQ, HI, HA, HR, HQ, SI, SA, SR, SQ, true_and, and_true, or_true, true_or, if_true, if_false, not_true_eq_false, not_false_eq_true, ne_eq, and_self]
  exact ⟨k2, k3, k4, k5, k6, EntR_ext (l := l) (fun _ _ => rfl) (fun j hj => pk_un hj) (fun _ _ => rfl) (fun _ _ => rfl) L (bits_not L hb) (fun _ _ => rfl) k7⟩
theorem m_lD {p l nm : Nat} {L : List Ent} {ρ : St} {l1 : Option AV} (h : ME c n p L ρ) (hl : l < 8) (hb : (bitsL L).testBit l = false) (hnm : nm ≤ 39) (g4 : gA ρ 12 4 0 l = nI nm) : MLr c n L ρ (lesD c n l nm p) (fun D Q => Rn (D + 6) Q (143, 77, [some (vR (some (12, 0, 0))), l1, some (vI (nI l))], [], ρ)) := by
  have a1 := h.1.1
  have k8 := h.1.2.2.2.2.2.2.2
  have sl := sk_le (c := c) k8
  have x2 : (nI l).toInt = (l : Int) := nI_toInt (by omega)
  have x3 : (0 : Int) ≤ (l : Int) := by omega
  have x4 : (l : Int) < ((8 : Nat) : Int) := by omega
  have x5 : (nI l).toNatClampNeg = l := nI_clamp (by omega)
  have nm' := fun {d : Nat} {Q : Option AV → St → Prop} => t_nm (d := d) (Q := Q) (H := 100) (by omega) h.1
  have n100 : nI 100 = 100 := rfl
  rw [n100] at nm'
  unfold lesD
  by_cases hy : nuY c n 100 (sk c n p) = true
  · rw [if_pos hy]
    obtain ⟨n1, n2, n3⟩ := nuP_go sl.2 hy
    simp only [if_pos hy] at nm'
    generalize nuV c n 100 (sk c n p) = v at *
    generalize nuP c n (sk c n p) = pp at *
    have hM := ME_r5 (v := nI v) (ME_p h (q := pp) (by omega) n2) hb
    have e := m_lE (l1 := l1) (nm := nm) (ps := v) hM hl hb hnm n3 (by simp +decide only [II, AA, RR, QQ, IA, IR, IQ, AI, AR, AQ, RI, RA, RQ, QI, QA, QR, LI, LA, LR, LQ, NI, NA, NR, NQ, HI, HA, HR, HQ, SI, SA, SR, SQ, true_and, and_true, or_true, true_or, if_true, if_false, not_true_eq_false, not_false_eq_true, ne_eq, and_self]; exact g4) (by simp +decide only [II, AA, RR, QQ, IA, IR, IQ, AI, AR, AQ, RI, RA, RQ, QI, QA, QR, LI, LA, LR, LQ, NI, NA, NR, NQ, HI, HA, HR, HQ, SI, SA, SR, SQ, true_and, and_true, or_true, true_or, if_true, if_false, not_true_eq_false, not_false_eq_true, ne_eq, and_self]; exact updS0)
    refine MLr_ch (frB_t (frB_I (by decide)) (frB_A (by decide))) e (fun D Q => ?_)
    simp +decide only [e143_0, e143_1, e143_4, e143_5, e143_6, e143_8, e143_9, e143_10, e143_11, e143_12, e143_13, e143_16, e143_19, e143_22, e143_23, e143_26, e143_27, e143_28, e143_29, e143_30, e143_31, e143_34, e143_35, e143_36, e143_39, e143_42, e143_43, e143_44, e143_45, e143_48, e143_49, e143_50, e143_53, e143_54, e143_56, e143_59, e143_60, e143_63, e143_64, e143_65, e143_67, e143_70, e143_71, e143_72, e143_74, e143_77, e143_78, e143_81, e143_82, e143_83, e143_85, e143_88, e143_90, e143_91, e143_94, e143_95, e143_96, e143_97, e143_98, e143_101, e143_102, e143_105, e143_106, e143_107, e143_110, e143_111, e143_112, e143_114, e143_117, e143_120, e143_121, e143_124, e143_125, e143_128, e143_129, e143_130, e143_133, e143_134, true_and, and_true, or_true, true_or, if_true, if_false, not_true_eq_false, not_false_eq_true, ne_eq, and_self, Option.toList_some, Option.toList_none, List.cons_append, List.nil_append, catS_0, catS_I, catS_L, catS_R, Option.map_some, Option.map_none, Option.some.injEq, Sum.inl.injEq, exists_eq_left', exists_eq', II, AA, RR, QQ, IA, IR, IQ, AI, AR, AQ, RI, RA, RQ, QI, QA, QR, LI, LA, LR, LQ, NI, NA, NR, NQ, HI, HA, HR, HQ, SI, SA, SR, SQ, nm', x2, x3, x4, x5, N12 a1, L12_5 a1]
  · rw [if_neg hy]
    simp only [if_neg hy] at nm'
    generalize nuV c n 100 (sk c n p) = v at *
    have hW : Ww (sk c n p) (setA (setI (setI ρ 12 3 0 1) 12 2 0 (nI (sk c n p))) 12 5 0 (upd (gA ρ 12 5 0) l (nI v))) := Ww_A (Ww_0 a1)
    refine DdR_ch (frB_t (frB_t (frB_I (by decide)) (frB_I (by decide))) (frB_A (by decide))) (w_E (l1 := l1) hl hW) (fun D Q => ?_)
    simp +decide only [e143_0, e143_1, e143_4, e143_5, e143_6, e143_8, e143_9, e143_10, e143_11, e143_12, e143_13, e143_16, e143_19, e143_22, e143_23, e143_26, e143_27, e143_28, e143_29, e143_30, e143_31, e143_34, e143_35, e143_36, e143_39, e143_42, e143_43, e143_44, e143_45, e143_48, e143_49, e143_50, e143_53, e143_54, e143_56, e143_59, e143_60, e143_63, e143_64, e143_65, e143_67, e143_70, e143_71, e143_72, e143_74, e143_77, e143_78, e143_81, e143_82, e143_83, e143_85, e143_88, e143_90, e143_91, e143_94, e143_95, e143_96, e143_97, e143_98, e143_101, e143_102, e143_105, e143_106, e143_107, e143_110, e143_111, e143_112, e143_114, e143_117, e143_120, e143_121, e143_124, e143_125, e143_128, e143_129, e143_130, e143_133, e143_134, true_and, and_true, or_true, true_or, if_true, if_false, not_true_eq_false, not_false_eq_true, ne_eq, and_self, Option.toList_some, Option.toList_none, List.cons_append, List.nil_append, catS_0, catS_I, catS_L, catS_R, Option.map_some, Option.map_none, Option.some.injEq, Sum.inl.injEq, exists_eq_left', exists_eq', II, AA, RR, QQ, IA, IR, IQ, AI, AR, AQ, RI, RA, RQ, QI, QA, QR, LI, LA, LR, LQ, NI, NA, NR, NQ, HI, HA, HR, HQ, SI, SA, SR, SQ, nm', x2, x3, x4, x5, N12 a1, L12_5 a1]
theorem m_lC {p l nm : Nat} {L : List Ent} {ρ : St} {l1 : Option AV} (h : ME c n p L ρ) (hl : l < 8) (hb : (bitsL L).testBit l = false) (hnm : nm ≤ 39) (g4 : gA ρ 12 4 0 l = nI nm) : MLr c n L ρ (lesC c n l nm p) (fun D Q => Rn (D + 6) Q (143, 71, [some (vR (some (12, 0, 0))), l1, some (vI (nI l))], [], ρ)) := by
  have a1 := h.1.1
  have k8 := h.1.2.2.2.2.2.2.2
  have sl := sk_le (c := c) k8
  have nd := fun {d : Nat} {Q : Option AV → St → Prop} {ch : Int32} => t_nd (d := d) (Q := Q) (ch := ch) h.1
  unfold lesC
  by_cases hy : sgn c n p = 47
  · rw [if_pos hy]
    have hlt := sgn_n k8 hy (by decide)
    have e := m_lD (l1 := l1) (nm := nm) (ME_p h (q := sk c n p + 1) (by omega) (by omega)) hl hb hnm (by simp +decide only [II, AA, RR, QQ, IA, IR, IQ, AI, AR, AQ, RI, RA, RQ, QI, QA, QR, LI, LA, LR, LQ, NI, NA, NR, NQ, HI, HA, HR, HQ, SI, SA, SR, SQ, true_and, and_true, or_true, true_or, if_true, if_false, not_true_eq_false, not_false_eq_true, ne_eq, and_self]; exact g4)
    refine MLr_ch (frB_I (by decide)) e (fun D Q => ?_)
    simp +decide only [e143_0, e143_1, e143_4, e143_5, e143_6, e143_8, e143_9, e143_10, e143_11, e143_12, e143_13, e143_16, e143_19, e143_22, e143_23, e143_26, e143_27, e143_28, e143_29, e143_30, e143_31, e143_34, e143_35, e143_36, e143_39, e143_42, e143_43, e143_44, e143_45, e143_48, e143_49, e143_50, e143_53, e143_54, e143_56, e143_59, e143_60, e143_63, e143_64, e143_65, e143_67, e143_70, e143_71, e143_72, e143_74, e143_78, e143_81, e143_82, e143_83, e143_85, e143_88, e143_89, e143_90, e143_91, e143_94, e143_95, e143_96, e143_97, e143_98, e143_101, e143_102, e143_105, e143_106, e143_107, e143_110, e143_111, e143_112, e143_114, e143_117, e143_120, e143_121, e143_124, e143_125, e143_128, e143_129, e143_130, e143_133, e143_134, true_and, and_true, or_true, true_or, if_true, if_false, not_true_eq_false, not_false_eq_true, ne_eq, and_self, Option.toList_some, Option.toList_none, List.cons_append, List.nil_append, catS_0, catS_I, catS_L, catS_R, Option.map_some, Option.map_none, Option.some.injEq, Sum.inl.injEq, exists_eq_left', exists_eq', nd, hy, N12 a1]
  · rw [if_neg hy]
    refine DdR_ch (frB_t (frB_I (by decide)) (frB_I (by decide))) (w_D (l1 := l1) hl (Ww_0 (q := sk c n p) a1)) (fun D Q => ?_)
    simp +decide only [e143_0, e143_1, e143_4, e143_5, e143_6, e143_8, e143_9, e143_10, e143_11, e143_12, e143_13, e143_16, e143_19, e143_22, e143_23, e143_26, e143_27, e143_28, e143_29, e143_30, e143_31, e143_34, e143_35, e143_36, e143_39, e143_42, e143_43, e143_44, e143_45, e143_48, e143_49, e143_50, e143_53, e143_54, e143_56, e143_59, e143_60, e143_63, e143_64, e143_65, e143_67, e143_70, e143_71, e143_72, e143_74, e143_78, e143_81, e143_82, e143_83, e143_85, e143_88, e143_89, e143_90, e143_91, e143_94, e143_95, e143_96, e143_97, e143_98, e143_101, e143_102, e143_105, e143_106, e143_107, e143_110, e143_111, e143_112, e143_114, e143_117, e143_120, e143_121, e143_124, e143_125, e143_128, e143_129, e143_130, e143_133, e143_134, true_and, and_true, or_true, true_or, if_true, if_false, not_true_eq_false, not_false_eq_true, ne_eq, and_self, Option.toList_some, Option.toList_none, List.cons_append, List.nil_append, catS_0, catS_I, catS_L, catS_R, Option.map_some, Option.map_none, Option.some.injEq, Sum.inl.injEq, exists_eq_left', exists_eq', nd, hy, N12 a1]
theorem m_lB {p l : Nat} {L : List Ent} {ρ : St} {l1 : Option AV} (h : ME c n p L ρ) (hl : l < 8) (hb : (bitsL L).testBit l = false) : MLr c n L ρ (lesB c n l p) (fun D Q => Rn (D + 6) Q (143, 59, [some (vR (some (12, 0, 0))), l1, some (vI (nI l))], [], ρ)) := by
  have a1 := h.1.1
  have k8 := h.1.2.2.2.2.2.2.2
  have sl := sk_le (c := c) k8
  have x2 : (nI l).toInt = (l : Int) := nI_toInt (by omega)
  have x3 : (0 : Int) ≤ (l : Int) := by omega
  have x4 : (l : Int) < ((8 : Nat) : Int) := by omega
  have x5 : (nI l).toNatClampNeg = l := nI_clamp (by omega)
  have nm' := fun {d : Nat} {Q : Option AV → St → Prop} => t_nm (d := d) (Q := Q) (H := 39) (by omega) h.1
  have n39 : nI 39 = 39 := rfl
  rw [n39] at nm'
  unfold lesB
  by_cases hy : nuY c n 39 (sk c n p) = true
  · rw [if_pos hy]
    obtain ⟨n1, n2, n3⟩ := nuP_go sl.2 hy
    simp only [if_pos hy] at nm'
    generalize nuV c n 39 (sk c n p) = v at *
    generalize nuP c n (sk c n p) = pp at *
    have hM := ME_r4 (v := nI v) (ME_p h (q := pp) (by omega) n2) hb
    have e := m_lC (l1 := l1) (nm := v) hM hl hb n3 (by simp +decide only [II, AA, RR, QQ, IA, IR, IQ, AI, AR, AQ, RI, RA, RQ, QI, QA, QR, LI, LA, LR, LQ, NI, NA, NR, NQ, HI, HA, HR, HQ, SI, SA, SR, SQ, true_and, and_true, or_true, true_or, if_true, if_false, not_true_eq_false, not_false_eq_true, ne_eq, and_self]; exact updS0)
    refine MLr_ch (frB_t (frB_I (by decide)) (frB_A (by decide))) e (fun D Q => ?_)
    simp +decide only [e143_0, e143_1, e143_4, e143_5, e143_6, e143_8, e143_9, e143_10, e143_11, e143_12, e143_13, e143_16, e143_19, e143_22, e143_23, e143_26, e143_27, e143_28, e143_29, e143_30, e143_31, e143_34, e143_35, e143_36, e143_39, e143_42, e143_43, e143_44, e143_45, e143_48, e143_49, e143_50, e143_53, e143_54, e143_56, e143_59, e143_60, e143_63, e143_64, e143_65, e143_67, e143_70, e143_72, e143_74, e143_77, e143_78, e143_81, e143_82, e143_83, e143_85, e143_88, e143_89, e143_90, e143_91, e143_94, e143_95, e143_96, e143_97, e143_98, e143_101, e143_102, e143_105, e143_106, e143_107, e143_110, e143_111, e143_112, e143_114, e143_117, e143_120, e143_121, e143_124, e143_125, e143_128, e143_129, e143_130, e143_133, e143_134, true_and, and_true, or_true, true_or, if_true, if_false, not_true_eq_false, not_false_eq_true, ne_eq, and_self, Option.toList_some, Option.toList_none, List.cons_append, List.nil_append, catS_0, catS_I, catS_L, catS_R, Option.map_some, Option.map_none, Option.some.injEq, Sum.inl.injEq, exists_eq_left', exists_eq', II, AA, RR, QQ, IA, IR, IQ, AI, AR, AQ, RI, RA, RQ, QI, QA, QR, LI, LA, LR, LQ, NI, NA, NR, NQ, HI, HA, HR, HQ, SI, SA, SR, SQ, nm', x2, x3, x4, x5, N12 a1, L12_4 a1]
  · rw [if_neg hy]
    simp only [if_neg hy] at nm'
    generalize nuV c n 39 (sk c n p) = v at *
    have hW : Ww (sk c n p) (setA (setI (setI ρ 12 3 0 1) 12 2 0 (nI (sk c n p))) 12 4 0 (upd (gA ρ 12 4 0) l (nI v))) := Ww_A (Ww_0 a1)
    refine DdR_ch (frB_t (frB_t (frB_I (by decide)) (frB_I (by decide))) (frB_A (by decide))) (w_C (l1 := l1) hl hW) (fun D Q => ?_)
    simp +decide only [e143_0, e143_1, e143_4, e143_5, e143_6, e143_8, e143_9, e143_10, e143_11, e143_12, e143_13, e143_16, e143_19, e143_22, e143_23, e143_26, e143_27, e143_28, e143_29, e143_30, e143_31, e143_34, e143_35, e143_36, e143_39, e143_42, e143_43, e143_44, e143_45, e143_48, e143_49, e143_50, e143_53, e143_54, e143_56, e143_59, e143_60, e143_63, e143_64, e143_65, e143_67, e143_70, e143_72, e143_74, e143_77, e143_78, e143_81, e143_82, e143_83, e143_85, e143_88, e143_89, e143_90, e143_91, e143_94, e143_95, e143_96, e143_97, e143_98, e143_101, e143_102, e143_105, e143_106, e143_107, e143_110, e143_111, e143_112, e143_114, e143_117, e143_120, e143_121, e143_124, e143_125, e143_128, e143_129, e143_130, e143_133, e143_134, true_and, and_true, or_true, true_or, if_true, if_false, not_true_eq_false, not_false_eq_true, ne_eq, and_self, Option.toList_some, Option.toList_none, List.cons_append, List.nil_append, catS_0, catS_I, catS_L, catS_R, Option.map_some, Option.map_none, Option.some.injEq, Sum.inl.injEq, exists_eq_left', exists_eq', II, AA, RR, QQ, IA, IR, IQ, AI, AR, AQ, RI, RA, RQ, QI, QA, QR, LI, LA, LR, LQ, NI, NA, NR, NQ, HI, HA, HR, HQ, SI, SA, SR, SQ, nm', x2, x3, x4, x5, N12 a1, L12_4 a1]
theorem m_lA {p l : Nat} {L : List Ent} {ρ : St} {l1 : Option AV} (h : ME c n p L ρ) (hl : l < 8) (hb : (bitsL L).testBit l = false) : MLr c n L ρ (lesA c n l p) (fun D Q => Rn (D + 6) Q (143, 53, [some (vR (some (12, 0, 0))), l1, some (vI (nI l))], [], ρ)) := by
  have a1 := h.1.1
  have k8 := h.1.2.2.2.2.2.2.2
  have sl := sk_le (c := c) k8
  have nd := fun {d : Nat} {Q : Option AV → St → Prop} {ch : Int32} => t_nd (d := d) (Q := Q) (ch := ch) h.1
  unfold lesA
  by_cases hy : sgn c n p = 61
  · rw [if_pos hy]
    have hlt := sgn_n k8 hy (by decide)
    have e := m_lB (l1 := l1) (ME_p h (q := sk c n p + 1) (by omega) (by omega)) hl hb
    refine MLr_ch (frB_I (by decide)) e (fun D Q => ?_)
    simp +decide only [e143_0, e143_1, e143_4, e143_5, e143_6, e143_8, e143_9, e143_10, e143_11, e143_12, e143_13, e143_16, e143_19, e143_22, e143_23, e143_26, e143_27, e143_28, e143_29, e143_30, e143_31, e143_34, e143_35, e143_36, e143_39, e143_42, e143_43, e143_44, e143_45, e143_48, e143_49, e143_50, e143_53, e143_54, e143_56, e143_60, e143_63, e143_64, e143_65, e143_67, e143_70, e143_71, e143_72, e143_74, e143_77, e143_78, e143_81, e143_82, e143_83, e143_85, e143_88, e143_89, e143_90, e143_91, e143_94, e143_95, e143_96, e143_97, e143_98, e143_101, e143_102, e143_105, e143_106, e143_107, e143_110, e143_111, e143_112, e143_114, e143_117, e143_120, e143_121, e143_124, e143_125, e143_128, e143_129, e143_130, e143_133, e143_134, true_and, and_true, or_true, true_or, if_true, if_false, not_true_eq_false, not_false_eq_true, ne_eq, and_self, Option.toList_some, Option.toList_none, List.cons_append, List.nil_append, catS_0, catS_I, catS_L, catS_R, Option.map_some, Option.map_none, Option.some.injEq, Sum.inl.injEq, exists_eq_left', exists_eq', nd, hy, N12 a1]
  · rw [if_neg hy]
    refine DdR_ch (frB_t (frB_I (by decide)) (frB_I (by decide))) (w_B (l1 := l1) hl (Ww_0 (q := sk c n p) a1)) (fun D Q => ?_)
    simp +decide only [e143_0, e143_1, e143_4, e143_5, e143_6, e143_8, e143_9, e143_10, e143_11, e143_12, e143_13, e143_16, e143_19, e143_22, e143_23, e143_26, e143_27, e143_28, e143_29, e143_30, e143_31, e143_34, e143_35, e143_36, e143_39, e143_42, e143_43, e143_44, e143_45, e143_48, e143_49, e143_50, e143_53, e143_54, e143_56, e143_60, e143_63, e143_64, e143_65, e143_67, e143_70, e143_71, e143_72, e143_74, e143_77, e143_78, e143_81, e143_82, e143_83, e143_85, e143_88, e143_89, e143_90, e143_91, e143_94, e143_95, e143_96, e143_97, e143_98, e143_101, e143_102, e143_105, e143_106, e143_107, e143_110, e143_111, e143_112, e143_114, e143_117, e143_120, e143_121, e143_124, e143_125, e143_128, e143_129, e143_130, e143_133, e143_134, true_and, and_true, or_true, true_or, if_true, if_false, not_true_eq_false, not_false_eq_true, ne_eq, and_self, Option.toList_some, Option.toList_none, List.cons_append, List.nil_append, catS_0, catS_I, catS_L, catS_R, Option.map_some, Option.map_none, Option.some.injEq, Sum.inl.injEq, exists_eq_left', exists_eq', nd, hy, N12 a1]
theorem m_less {p : Nat} {L : List Ent} {ρ : St} (h : ME c n p L ρ) : MLr c n L ρ (lesP c n (bitsL L) p) (fun D Q => Rn (D + 6) Q (143, 0, [some (vR (some (12, 0, 0))), none, none], [], ρ)) := by
  have a1 := h.1.1
  have k3 := h.1.2.1
  have k5 := h.1.2.2.2.2.1
  have k8 := h.1.2.2.2.2.2.2.2
  have k10 := h.2.1
  have k12 := h.2.2.2.2.2.1
  have sl := sk_le (c := c) k8
  have nx := fun {d : Nat} {Q : Option AV → St → Prop} => t_nx (d := d) (Q := Q) h.1
  have fl := fun {d : Nat} {Q : Option AV → St → Prop} {x : Nat} => t_fl (d := d) (Q := Q) (q := x) (MT_p h.1 sl.2)
  obtain ⟨s1, s2, s3⟩ := sgn_sub (c := c) (p := p) k3 k5
  have hbl := bits_lt L k12
  have wr : setI (setI (setI ρ 12 2 0 (nI (sk c n p))) 12 3 0 1) 12 2 0 (nI (sk c n p)) = setI (setI ρ 12 3 0 1) 12 2 0 (nI (sk c n p)) := by
    rw [setI_c (c := 12) (k := 2) (i := 0) (c' := 12) (k' := 3) (i' := 0) (by decide), setI_I]
  unfold lesP
  by_cases hl : 97 ≤ (sgn c n p).toInt ∧ (sgn c n p).toInt ≤ 104
  · have hlt := sgn_lt (c := c) k8 (by omega)
    obtain ⟨l, o1, o2, o3⟩ := nI_ex (a := sgn c n p - 97) (n := 8) ⟨by omega, by omega⟩
    have o5 : (nI l).toInt = (l : Int) := nI_toInt (by omega)
    have o4 : (sgn c n p).toInt.toNat - 97 = l := by
      rw [o2, o5] at s1
      omega
    have o6 : (0 : Int) ≤ (l : Int) ∧ (l : Int) ≤ 7 := by omega
    rw [o4]
    by_cases hb : (bitsL L).testBit l = false
    · rw [if_pos ⟨hl, hb⟩]
      have t0 : ¬ nI (bitsL L) >>> (nI l &&& 31) &&& 1 = 1 := by rw [bitI (by omega) (by omega), hb]; decide
      have e := m_lA (l1 := some (vI (sgn c n p))) (ME_p h (q := sk c n p + 1) (by omega) (by omega)) o1 hb
      refine MLr_ch (frB_I (by decide)) e (fun D Q => ?_)
      simp +decide only [e143_0, e143_1, e143_4, e143_5, e143_6, e143_8, e143_9, e143_10, e143_11, e143_12, e143_13, e143_16, e143_19, e143_22, e143_23, e143_26, e143_27, e143_28, e143_29, e143_30, e143_31, e143_34, e143_35, e143_36, e143_39, e143_42, e143_43, e143_44, e143_45, e143_48, e143_49, e143_50, e143_54, e143_56, e143_59, e143_60, e143_63, e143_64, e143_65, e143_67, e143_70, e143_71, e143_72, e143_74, e143_77, e143_78, e143_81, e143_82, e143_83, e143_85, e143_88, e143_89, e143_90, e143_91, e143_94, e143_95, e143_96, e143_97, e143_98, e143_101, e143_102, e143_105, e143_106, e143_107, e143_110, e143_111, e143_112, e143_114, e143_117, e143_120, e143_121, e143_124, e143_125, e143_128, e143_129, e143_130, e143_133, e143_134, true_and, and_true, or_true, true_or, if_true, if_false, not_true_eq_false, not_false_eq_true, ne_eq, and_self, Option.toList_some, Option.toList_none, List.cons_append, List.nil_append, catS_0, catS_I, catS_L, catS_R, Option.map_some, Option.map_none, c_isIn, m_in, wide_toInt, c_isDay, m_isDay, m_isCourse, c_areParts, tI_m1000, tI_m20, tI_m14, tI_m13, tI_m12, tI_m11, tI_m4, tI_m3, tI_m2, tI_m1, tI_0, tI_1, tI_2, tI_3, tI_4, tI_5, tI_6, tI_7, tI_8, tI_9, tI_10, tI_11, tI_12, tI_14, tI_15, tI_16, tI_19, tI_20, tI_21, tI_30, tI_31, tI_32, tI_40, tI_60, tI_61, tI_80, tI_90, tI_97, tI_100, tI_101, tI_119, tI_120, tI_121, tI_126, tI_128, tI_255, tI_256, tI_500, tI_512, tI_600, tI_999, tI_1000, tI_3999, tI_4000, tI_4095, tI_4096, tI_99999, tI_100000, tL_0, tL_1, tL_2, tL_3, tL_4, tL_5, tL_7, tL_8, tL_9, tL_15, tL_19, tL_20, tL_32, tL_39, tL_48, tL_57, tL_60, tL_97, tL_100, tL_104, tL_126, tL_255, tL_3999, tL_4095, tL_99999, Option.some.injEq, Sum.inl.injEq, exists_eq_left', exists_eq', II, AA, RR, QQ, IA, IR, IQ, AI, AR, AQ, RI, RA, RQ, QI, QA, QR, LI, LA, LR, LQ, NI, NA, NR, NQ, HI, HA, HR, HQ, SI, SA, SR, SQ, nx, k10, t0, o2, o5, o6, updS0, setI_I, nI_1 (sk c n p), N12 a1]
    · rw [if_neg (fun w => hb w.2)]
      have hb' : (bitsL L).testBit l = true := by cases hq : (bitsL L).testBit l with
        | false => exact absurd hq hb
        | true => rfl
      have t0 : nI (bitsL L) >>> (nI l &&& 31) &&& 1 = 1 := by rw [bitI (by omega) (by omega), hb']
      refine ⟨_, frB_t (frB_I (by decide)) (frB_I (by decide)), Ww_0 (q := sk c n p) a1, fun D Q => ?_⟩
      simp +decide only [e143_0, e143_1, e143_4, e143_5, e143_6, e143_8, e143_9, e143_10, e143_11, e143_12, e143_13, e143_16, e143_19, e143_22, e143_23, e143_26, e143_27, e143_28, e143_29, e143_30, e143_31, e143_34, e143_35, e143_36, e143_39, e143_42, e143_43, e143_44, e143_45, e143_48, e143_49, e143_50, e143_54, e143_56, e143_59, e143_60, e143_63, e143_64, e143_65, e143_67, e143_70, e143_71, e143_72, e143_74, e143_77, e143_78, e143_81, e143_82, e143_83, e143_85, e143_88, e143_89, e143_90, e143_91, e143_94, e143_95, e143_96, e143_97, e143_98, e143_101, e143_102, e143_105, e143_106, e143_107, e143_110, e143_111, e143_112, e143_114, e143_117, e143_120, e143_121, e143_124, e143_125, e143_128, e143_129, e143_130, e143_133, e143_134, true_and, and_true, or_true, true_or, if_true, if_false, not_true_eq_false, not_false_eq_true, ne_eq, and_self, Option.toList_some, Option.toList_none, List.cons_append, List.nil_append, catS_0, catS_I, catS_L, catS_R, Option.map_some, Option.map_none, c_isIn, m_in, wide_toInt, c_isDay, m_isDay, m_isCourse, c_areParts, tI_m1000, tI_m20, tI_m14, tI_m13, tI_m12, tI_m11, tI_m4, tI_m3, tI_m2, tI_m1, tI_0, tI_1, tI_2, tI_3, tI_4, tI_5, tI_6, tI_7, tI_8, tI_9, tI_10, tI_11, tI_12, tI_14, tI_15, tI_16, tI_19, tI_20, tI_21, tI_30, tI_31, tI_32, tI_40, tI_60, tI_61, tI_80, tI_90, tI_97, tI_100, tI_101, tI_119, tI_120, tI_121, tI_126, tI_128, tI_255, tI_256, tI_500, tI_512, tI_600, tI_999, tI_1000, tI_3999, tI_4000, tI_4095, tI_4096, tI_99999, tI_100000, tL_0, tL_1, tL_2, tL_3, tL_4, tL_5, tL_7, tL_8, tL_9, tL_15, tL_19, tL_20, tL_32, tL_39, tL_48, tL_57, tL_60, tL_97, tL_100, tL_104, tL_126, tL_255, tL_3999, tL_4095, tL_99999, Option.some.injEq, Sum.inl.injEq, exists_eq_left', exists_eq', II, AA, RR, QQ, IA, IR, IQ, AI, AR, AQ, RI, RA, RQ, QI, QA, QR, LI, LA, LR, LQ, NI, NA, NR, NQ, HI, HA, HR, HQ, SI, SA, SR, SQ, nx, fl, wr, k10, t0, o2, o5, o6, updS0, N12 a1]
  · rw [if_neg (fun w => hl w.1)]
    have hl' : ¬ (0 ≤ (sgn c n p - 97).toInt ∧ (sgn c n p - 97).toInt ≤ 7) := by omega
    refine ⟨_, frB_t (frB_I (by decide)) (frB_I (by decide)), Ww_0 (q := sk c n p) a1, fun D Q => ?_⟩
    simp +decide only [e143_0, e143_1, e143_4, e143_5, e143_6, e143_8, e143_9, e143_10, e143_11, e143_12, e143_13, e143_16, e143_19, e143_22, e143_23, e143_26, e143_27, e143_28, e143_29, e143_30, e143_31, e143_34, e143_35, e143_36, e143_39, e143_42, e143_43, e143_44, e143_45, e143_48, e143_49, e143_50, e143_54, e143_56, e143_59, e143_60, e143_63, e143_64, e143_65, e143_67, e143_70, e143_71, e143_72, e143_74, e143_77, e143_78, e143_81, e143_82, e143_83, e143_85, e143_88, e143_89, e143_90, e143_91, e143_94, e143_95, e143_96, e143_97, e143_98, e143_101, e143_102, e143_105, e143_106, e143_107, e143_110, e143_111, e143_112, e143_114, e143_117, e143_120, e143_121, e143_124, e143_125, e143_128, e143_129, e143_130, e143_133, e143_134, true_and, and_true, or_true, true_or, if_true, if_false, not_true_eq_false, not_false_eq_true, ne_eq, and_self, Option.toList_some, Option.toList_none, List.cons_append, List.nil_append, catS_0, catS_I, catS_L, catS_R, Option.map_some, Option.map_none, c_isIn, m_in, wide_toInt, c_isDay, m_isDay, m_isCourse, c_areParts, tI_m1000, tI_m20, tI_m14, tI_m13, tI_m12, tI_m11, tI_m4, tI_m3, tI_m2, tI_m1, tI_0, tI_1, tI_2, tI_3, tI_4, tI_5, tI_6, tI_7, tI_8, tI_9, tI_10, tI_11, tI_12, tI_14, tI_15, tI_16, tI_19, tI_20, tI_21, tI_30, tI_31, tI_32, tI_40, tI_60, tI_61, tI_80, tI_90, tI_97, tI_100, tI_101, tI_119, tI_120, tI_121, tI_126, tI_128, tI_255, tI_256, tI_500, tI_512, tI_600, tI_999, tI_1000, tI_3999, tI_4000, tI_4095, tI_4096, tI_99999, tI_100000, tL_0, tL_1, tL_2, tL_3, tL_4, tL_5, tL_7, tL_8, tL_9, tL_15, tL_19, tL_20, tL_32, tL_39, tL_48, tL_57, tL_60, tL_97, tL_100, tL_104, tL_126, tL_255, tL_3999, tL_4095, tL_99999, Option.some.injEq, Sum.inl.injEq, exists_eq_left', exists_eq', II, AA, RR, QQ, IA, IR, IQ, AI, AR, AQ, RI, RA, RQ, QI, QA, QR, LI, LA, LR, LQ, NI, NA, NR, NQ, HI, HA, HR, HQ, SI, SA, SR, SQ, nx, fl, wr, hl', updS0, N12 a1]
def RMe (c k : Nat) : Bool := decide (c = 12 ∧ (k = 2 ∨ k = 3 ∨ (9 ≤ k ∧ k ≤ 12) ∨ k = 14))
theorem frB_el {σ σ' : St} (h : frB PMl RMl σ σ') : frB PMl RMe σ σ' := frB_w h (fun _ _ h => h) (fun c k hc => by unfold RMe at hc; unfold RMl; rw [decide_eq_false_iff_not] at *; omega)
def MEr (c : Nat → Int32) (n : Nat) (ρ : St) (x : Sum Nat (List Ent)) (run : Nat → (Option AV → St → Prop) → Prop) : Prop := match x with
  | .inl q => ∃ ρ', frB PMl RMe ρ ρ' ∧ Ww q ρ' ∧ ∀ D Q, run D Q = Q none ρ'
  | .inr L => ∃ ρ' p, frB PMl RMe ρ ρ' ∧ ME c n p L ρ' ∧ ∀ D Q, run D Q = Q none ρ'
theorem ME_m {p : Nat} {L : List Ent} {ρ : St} {v : Int32} (h : ME c n p L ρ) : ME c n p L (setI ρ 12 12 0 v) := by
  obtain ⟨⟨q1, q2, q3, q4, q5, q6, q7, q8⟩, k2, k3, k4, k5, k6, k7⟩ := h
  refine ⟨⟨SH_I q1, ?_⟩, ?_⟩
  · simp +decide only [II, AA, RR, QQ, IA, IR, IQ, AI, AR, AQ, RI, RA, RQ, QI, QA, QR, LI, LA, LR, LQ, NI, NA, NR, NQ, HI, HA, HR, HQ, SI, SA, SR, SQ, true_and, and_true, or_true, true_or, if_true, if_false, not_true_eq_false, not_false_eq_true, ne_eq, and_self]
    exact ⟨q2, q3, q4, q5, q6, q7, q8⟩
  · simp +decide only [II, AA, RR, QQ, IA, IR, IQ, AI, AR, AQ, RI, RA, RQ, QI, QA, QR, LI, LA, LR, LQ, NI, NA, NR, NQ, HI, HA, HR, HQ, SI, SA, SR, SQ, true_and, and_true, or_true, true_or, if_true, if_false, not_true_eq_false, not_false_eq_true, ne_eq, and_self]
    exact ⟨k2, k3, k4, k5, k6, k7⟩
theorem sgn_end {p : Nat} (hp : p ≤ n) (hc : ∀ j, j < n → 32 ≤ (c j).toInt ∧ (c j).toInt ≤ 126) (h : sgn c n p = -1) : sk c n p = n := by
  have h1 := sk_le (c := c) hp
  by_cases hq : sk c n p < n
  · unfold sgn pkv at h
    rw [if_pos hq] at h
    have := hc _ hq
    rw [h] at this
    exact absurd this.1 (by decide)
  · omega
/-- behind the last lesson -/
theorem m_edE {p : Nat} {L : List Ent} {ρ : St} (h : ME c n p L ρ) : MEr c n ρ (if sgn c n p = -1 then (if tdO L = true then .inr L else .inl (sk c n p)) else .inl (sk c n p)) (fun D Q => Rn (D + 7) Q (144, 32, [some (vR (some (12, 0, 0))), some (vI 0)], [], ρ)) := by
  have a1 := h.1.1
  have k3 := h.1.2.1
  have k1n := h.1.2.2.1
  have k5 := h.1.2.2.2.2.1
  have k6 := h.1.2.2.2.2.2.1
  have k8 := h.1.2.2.2.2.2.2.2
  have k10 := h.2.1
  have k11 := h.2.2.2.1
  have sl := sk_le (c := c) k8
  have nx := fun {d : Nat} {Q : Option AV → St → Prop} => t_nx (d := d) (Q := Q) h.1
  have h1 := ME_p h sl.1 sl.2
  have nx2 := fun {d : Nat} {Q : Option AV → St → Prop} => t_nx (d := d) (Q := Q) h1.1
  rw [sgn_sk k3, sk_sk k3, setI_I] at nx2
  have fl := fun {d : Nat} {Q : Option AV → St → Prop} {x : Nat} => t_fl (d := d) (Q := Q) (q := x) h1.1
  obtain ⟨s1, s2, s3⟩ := sgn_sub (c := c) (p := p) k3 k5
  have b1 : SH (setI ρ 12 2 0 (nI (sk c n p))) := SH_I a1
  by_cases he : sgn c n p = -1
  · rw [if_pos he]
    rw [he] at nx nx2
    have hn := sgn_end k8 k5 he
    cases ht : tdO L with
    | true =>
      have ht' : nI (orL L) &&& (nI (bitsL L) ^^^ -1) = 0 := by unfold tdO at ht; rw [decide_eq_true_iff] at ht; exact ht
      rw [if_pos rfl]
      refine ⟨_, _, frB_I (by decide), h1, fun D Q => ?_⟩
      show Rn (D + 7) Q _ = _
      rw [e144_32]
      simp +decide only [e144_0, e144_1, e144_2, e144_5, e144_6, e144_7, e144_10, e144_11, e144_12, e144_15, e144_16, e144_17, e144_20, e144_21, e144_22, e144_25, e144_26, e144_27, e144_30, e144_31, e144_33, e144_36, e144_37, e144_40, e144_43, e144_44, e144_47, e144_48, e144_49, e144_52, e144_53, e144_54, e144_57, e144_58, e144_61, e144_63, e144_66, e144_67, e144_69, e144_72, e144_75, e144_76, e144_79, e144_80, e144_81, e144_84, e144_85, e144_88, e144_91, e144_92, e144_95, e144_98, e144_99, e144_102, e144_103, e144_106, e144_107, e144_108, e144_109, e144_112, e144_113, e144_114, e144_117, e144_120, e144_121, e144_124, e144_127, e144_128, e144_131, e144_134, true_and, and_true, or_true, true_or, if_true, if_false, not_true_eq_false, not_false_eq_true, ne_eq, and_self, Option.toList_some, Option.toList_none, List.cons_append, List.nil_append, catS_0, catS_I, catS_L, catS_R, Option.map_some, Option.map_none, Option.some.injEq, Sum.inl.injEq, exists_eq_left', exists_eq', II, AA, RR, QQ, IA, IR, IQ, AI, AR, AQ, RI, RA, RQ, QI, QA, QR, LI, LA, LR, LQ, NI, NA, NR, NQ, HI, HA, HR, HQ, SI, SA, SR, SQ, nx, k6, k10, k11, ht', N12 a1]
    | false =>
      have ht' : ¬ nI (orL L) &&& (nI (bitsL L) ^^^ -1) = 0 := by unfold tdO at ht; rw [decide_eq_false_iff_not] at ht; exact ht
      rw [if_neg (by decide)]
      refine ⟨_, frB_t (frB_t (frB_I (by decide)) (frB_I (by decide))) (frB_I (by decide)), Ww_0 (q := sk c n p) b1, fun D Q => ?_⟩
      show Rn (D + 7) Q _ = _
      rw [e144_32]
      have k1n' : gI ρ 12 1 0 = nI (sk c n p) := by rw [hn]; exact k1n
      simp +decide only [e144_0, e144_1, e144_2, e144_5, e144_6, e144_7, e144_10, e144_11, e144_12, e144_15, e144_16, e144_17, e144_20, e144_21, e144_22, e144_25, e144_26, e144_27, e144_30, e144_31, e144_33, e144_36, e144_37, e144_40, e144_43, e144_44, e144_47, e144_48, e144_49, e144_52, e144_53, e144_54, e144_57, e144_58, e144_61, e144_63, e144_66, e144_67, e144_69, e144_72, e144_75, e144_76, e144_79, e144_80, e144_81, e144_84, e144_85, e144_88, e144_91, e144_92, e144_95, e144_98, e144_99, e144_102, e144_103, e144_106, e144_107, e144_108, e144_109, e144_112, e144_113, e144_114, e144_117, e144_120, e144_121, e144_124, e144_127, e144_128, e144_131, e144_134, true_and, and_true, or_true, true_or, if_true, if_false, not_true_eq_false, not_false_eq_true, ne_eq, and_self, Option.toList_some, Option.toList_none, List.cons_append, List.nil_append, catS_0, catS_I, catS_L, catS_R, Option.map_some, Option.map_none, Option.some.injEq, Sum.inl.injEq, exists_eq_left', exists_eq', II, AA, RR, QQ, IA, IR, IQ, AI, AR, AQ, RI, RA, RQ, QI, QA, QR, LI, LA, LR, LQ, NI, NA, NR, NQ, HI, HA, HR, HQ, SI, SA, SR, SQ, nx, nx2, fl, k1n', k6, k10, k11, ht', N12 a1]
  · rw [if_neg he]
    have hp : ¬ sgn c n p < 0 := by
      rw [ltI]
      have e0 : (0 : Int32).toInt = 0 := by decide
      have e1 : (sgn c n p).toInt ≠ -1 := fun w => he (Int32.toInt_inj.mp (w.trans (by decide)))
      omega
    have hp' : 0 ≤ sgn c n p := by
      rw [leI]
      have e0 : (0 : Int32).toInt = 0 := by decide
      have e1 : (sgn c n p).toInt ≠ -1 := fun w => he (Int32.toInt_inj.mp (w.trans (by decide)))
      omega
    refine ⟨_, frB_t (frB_t (frB_I (by decide)) (frB_I (by decide))) (frB_I (by decide)), Ww_0 (q := sk c n p) b1, fun D Q => ?_⟩
    show Rn (D + 7) Q _ = _
    rw [e144_32]
    simp +decide only [e144_0, e144_1, e144_2, e144_5, e144_6, e144_7, e144_10, e144_11, e144_12, e144_15, e144_16, e144_17, e144_20, e144_21, e144_22, e144_25, e144_26, e144_27, e144_30, e144_31, e144_33, e144_36, e144_37, e144_40, e144_43, e144_44, e144_47, e144_48, e144_49, e144_52, e144_53, e144_54, e144_57, e144_58, e144_61, e144_63, e144_66, e144_67, e144_69, e144_72, e144_75, e144_76, e144_79, e144_80, e144_81, e144_84, e144_85, e144_88, e144_91, e144_92, e144_95, e144_98, e144_99, e144_102, e144_103, e144_106, e144_107, e144_108, e144_109, e144_112, e144_113, e144_114, e144_117, e144_120, e144_121, e144_124, e144_127, e144_128, e144_131, e144_134, true_and, and_true, or_true, true_or, if_true, if_false, not_true_eq_false, not_false_eq_true, ne_eq, and_self, Option.toList_some, Option.toList_none, List.cons_append, List.nil_append, catS_0, catS_I, catS_L, catS_R, Option.map_some, Option.map_none, Option.some.injEq, Sum.inl.injEq, exists_eq_left', exists_eq', II, AA, RR, QQ, IA, IR, IQ, AI, AR, AQ, RI, RA, RQ, QI, QA, QR, LI, LA, LR, LQ, NI, NA, NR, NQ, HI, HA, HR, HQ, SI, SA, SR, SQ, nx, nx2, fl, k6, hp, hp', updS0, N12 a1]
theorem MEr_ch {ρ ρ1 : St} {x : Sum Nat (List Ent)} {run run1 : Nat → (Option AV → St → Prop) → Prop} (hf : frB PMl RMe ρ ρ1) (h : MEr c n ρ1 x run1) (he : ∀ D Q, run D Q = run1 D Q) : MEr c n ρ x run := by
  cases x with
  | inl q =>
    obtain ⟨ρ', r1, r2, r3⟩ := h
    exact ⟨ρ', frB_t hf r1, r2, fun D Q => (he D Q).trans (r3 D Q)⟩
  | inr y =>
    obtain ⟨ρ', p, r1, r2, r3⟩ := h
    exact ⟨ρ', p, frB_t hf r1, r2, fun D Q => (he D Q).trans (r3 D Q)⟩
theorem m_edD {q m : Nat} {ρ : St} (hm : m ≤ 7) (h : Ww q ρ) (hg : gI ρ 12 12 0 = nI m) (hn : n ≤ 120) (h1 : gI ρ 12 1 0 = nI n) (h2 : ∀ j, j < n → gA ρ 12 0 0 j = c j) (hq : sk c n q = q) (hqn : q ≤ n) : ∃ ρ', frB PMl RMe ρ ρ' ∧ Ww q ρ' ∧ ∀ D Q, Rn (D + 7) Q (144, 47, [some (vR (some (12, 0, 0))), some (vI 1)], [], ρ) = Q none ρ' := by
  have a1 := h.1
  have hW : Ww q (setI ρ 12 12 0 (nI (m + 1))) := by
    obtain ⟨w1, w2, w3⟩ := h
    refine ⟨SH_I w1, ?_⟩
    simp +decide only [II, AA, RR, QQ, IA, IR, IQ, AI, AR, AQ, RI, RA, RQ, QI, QA, QR, LI, LA, LR, LQ, NI, NA, NR, NQ, HI, HA, HR, HQ, SI, SA, SR, SQ, true_and, and_true, or_true, true_or, if_true, if_false, not_true_eq_false, not_false_eq_true, ne_eq, and_self]
    exact ⟨w2, w3⟩
  have w3 := hW.2.1
  have w2 := hW.2.2
  have tk := fun {d : Nat} {Q : Option AV → St → Prop} {ch : Int32} => w_tk (d := d) (Q := Q) (ch := ch) hW
  have p3 : setI (setI ρ 12 12 0 (nI (m + 1))) 12 3 0 1 = setI ρ 12 12 0 (nI (m + 1)) := by rw [← w3, setI_self]
  have p2 : setI (setI ρ 12 12 0 (nI (m + 1))) 12 2 0 (nI q) = setI ρ 12 12 0 (nI (m + 1)) := by rw [← w2, setI_self]
  have nx := fun {d : Nat} {Q : Option AV → St → Prop} => m_next (d := d) (Q := Q) (σ := setI ρ 12 12 0 (nI (m + 1))) (c := c) (n := n) (p := q) (w := 1) (SH_I a1) hn (by simp +decide only [II, AA, RR, QQ, IA, IR, IQ, AI, AR, AQ, RI, RA, RQ, QI, QA, QR, LI, LA, LR, LQ, NI, NA, NR, NQ, HI, HA, HR, HQ, SI, SA, SR, SQ, true_and, and_true, or_true, true_or, if_true, if_false, not_true_eq_false, not_false_eq_true, ne_eq, and_self]; exact h1) (by simp +decide only [II, AA, RR, QQ, IA, IR, IQ, AI, AR, AQ, RI, RA, RQ, QI, QA, QR, LI, LA, LR, LQ, NI, NA, NR, NQ, HI, HA, HR, HQ, SI, SA, SR, SQ, true_and, and_true, or_true, true_or, if_true, if_false, not_true_eq_false, not_false_eq_true, ne_eq, and_self]; exact h2) hqn
  have fl := fun {d : Nat} {Q : Option AV → St → Prop} {x : Int32} => m_fail1 (d := d) (Q := Q) (σ := setI ρ 12 12 0 (nI (m + 1))) (p := q) (q := x) (SH_I a1)
  rw [hq, p3, p2] at nx
  rw [p3, p2] at fl
  refine ⟨_, frB_I (by decide), hW, fun D Q => ?_⟩
  simp +decide only [II, AA, RR, QQ, IA, IR, IQ, AI, AR, AQ, RI, RA, RQ, QI, QA, QR, LI, LA, LR, LQ, NI, NA, NR, NQ, HI, HA, HR, HQ, SI, SA, SR, SQ, true_and, and_true, or_true, true_or, if_true, if_false, not_true_eq_false, not_false_eq_true, ne_eq, and_self] at w3
  generalize pkv c n q = sv at *
  have tail : Rn (D + 7) Q (144, 32, [some (vR (some (12, 0, 0))), some (vI 0)], [], setI ρ 12 12 0 (nI (m + 1))) = Q none (setI ρ 12 12 0 (nI (m + 1))) := by
    rw [e144_32]
    by_cases hc : gI ρ 12 11 0 &&& (gI ρ 12 10 0 ^^^ -1) = 0
    · simp +decide only [e144_0, e144_1, e144_2, e144_5, e144_6, e144_7, e144_10, e144_11, e144_12, e144_15, e144_16, e144_17, e144_20, e144_21, e144_22, e144_25, e144_26, e144_27, e144_30, e144_31, e144_33, e144_36, e144_37, e144_40, e144_43, e144_44, e144_47, e144_48, e144_49, e144_52, e144_53, e144_54, e144_57, e144_58, e144_61, e144_63, e144_66, e144_67, e144_69, e144_72, e144_75, e144_76, e144_79, e144_80, e144_81, e144_84, e144_85, e144_88, e144_91, e144_92, e144_95, e144_98, e144_99, e144_102, e144_103, e144_106, e144_107, e144_108, e144_109, e144_112, e144_113, e144_114, e144_117, e144_120, e144_121, e144_124, e144_127, e144_128, e144_131, e144_134, true_and, and_true, or_true, true_or, if_true, if_false, not_true_eq_false, not_false_eq_true, ne_eq, and_self, Option.toList_some, Option.toList_none, List.cons_append, List.nil_append, catS_0, catS_I, catS_L, catS_R, Option.map_some, Option.map_none, Option.some.injEq, Sum.inl.injEq, exists_eq_left', exists_eq', II, AA, RR, QQ, IA, IR, IQ, AI, AR, AQ, RI, RA, RQ, QI, QA, QR, LI, LA, LR, LQ, NI, NA, NR, NQ, HI, HA, HR, HQ, SI, SA, SR, SQ, w3, hc, N12 a1]
    · by_cases hs : sv < 0
      · simp +decide only [e144_0, e144_1, e144_2, e144_5, e144_6, e144_7, e144_10, e144_11, e144_12, e144_15, e144_16, e144_17, e144_20, e144_21, e144_22, e144_25, e144_26, e144_27, e144_30, e144_31, e144_33, e144_36, e144_37, e144_40, e144_43, e144_44, e144_47, e144_48, e144_49, e144_52, e144_53, e144_54, e144_57, e144_58, e144_61, e144_63, e144_66, e144_67, e144_69, e144_72, e144_75, e144_76, e144_79, e144_80, e144_81, e144_84, e144_85, e144_88, e144_91, e144_92, e144_95, e144_98, e144_99, e144_102, e144_103, e144_106, e144_107, e144_108, e144_109, e144_112, e144_113, e144_114, e144_117, e144_120, e144_121, e144_124, e144_127, e144_128, e144_131, e144_134, true_and, and_true, or_true, true_or, if_true, if_false, not_true_eq_false, not_false_eq_true, ne_eq, and_self, Option.toList_some, Option.toList_none, List.cons_append, List.nil_append, catS_0, catS_I, catS_L, catS_R, Option.map_some, Option.map_none, Option.some.injEq, Sum.inl.injEq, exists_eq_left', exists_eq', II, AA, RR, QQ, IA, IR, IQ, AI, AR, AQ, RI, RA, RQ, QI, QA, QR, LI, LA, LR, LQ, NI, NA, NR, NQ, HI, HA, HR, HQ, SI, SA, SR, SQ, w3, hc, nx, fl, hs, N12 a1]
      · simp +decide only [e144_0, e144_1, e144_2, e144_5, e144_6, e144_7, e144_10, e144_11, e144_12, e144_15, e144_16, e144_17, e144_20, e144_21, e144_22, e144_25, e144_26, e144_27, e144_30, e144_31, e144_33, e144_36, e144_37, e144_40, e144_43, e144_44, e144_47, e144_48, e144_49, e144_52, e144_53, e144_54, e144_57, e144_58, e144_61, e144_63, e144_66, e144_67, e144_69, e144_72, e144_75, e144_76, e144_79, e144_80, e144_81, e144_84, e144_85, e144_88, e144_91, e144_92, e144_95, e144_98, e144_99, e144_102, e144_103, e144_106, e144_107, e144_108, e144_109, e144_112, e144_113, e144_114, e144_117, e144_120, e144_121, e144_124, e144_127, e144_128, e144_131, e144_134, true_and, and_true, or_true, true_or, if_true, if_false, not_true_eq_false, not_false_eq_true, ne_eq, and_self, Option.toList_some, Option.toList_none, List.cons_append, List.nil_append, catS_0, catS_I, catS_L, catS_R, Option.map_some, Option.map_none, Option.some.injEq, Sum.inl.injEq, exists_eq_left', exists_eq', II, AA, RR, QQ, IA, IR, IQ, AI, AR, AQ, RI, RA, RQ, QI, QA, QR, LI, LA, LR, LQ, NI, NA, NR, NQ, HI, HA, HR, HQ, SI, SA, SR, SQ, w3, hc, nx, fl, hs, N12 a1]
  by_cases hm7 : m = 7
  · subst hm7
    have y1 : (8 : Int32) ≤ nI (7 + 1) := by decide
    rw [← tail]
    simp +decide only [e144_0, e144_1, e144_2, e144_5, e144_6, e144_7, e144_10, e144_11, e144_12, e144_15, e144_16, e144_17, e144_20, e144_21, e144_22, e144_25, e144_26, e144_27, e144_30, e144_31, e144_33, e144_36, e144_37, e144_40, e144_43, e144_44, e144_47, e144_48, e144_49, e144_52, e144_53, e144_54, e144_57, e144_58, e144_61, e144_63, e144_66, e144_67, e144_69, e144_72, e144_75, e144_76, e144_79, e144_80, e144_81, e144_84, e144_85, e144_88, e144_91, e144_92, e144_95, e144_98, e144_99, e144_102, e144_103, e144_106, e144_107, e144_108, e144_109, e144_112, e144_113, e144_114, e144_117, e144_120, e144_121, e144_124, e144_127, e144_128, e144_131, e144_134, true_and, and_true, or_true, true_or, if_true, if_false, not_true_eq_false, not_false_eq_true, ne_eq, and_self, Option.toList_some, Option.toList_none, List.cons_append, List.nil_append, catS_0, catS_I, catS_L, catS_R, Option.map_some, Option.map_none, Option.some.injEq, Sum.inl.injEq, exists_eq_left', exists_eq', II, AA, RR, QQ, IA, IR, IQ, AI, AR, AQ, RI, RA, RQ, QI, QA, QR, LI, LA, LR, LQ, NI, NA, NR, NQ, HI, HA, HR, HQ, SI, SA, SR, SQ, hg, nI_1 7, updS0, y1, N12 a1]
  · have y1 : ¬ (8 : Int32) ≤ nI (m + 1) := nI_ge (b := 8) (by omega) (by omega)
    rw [← tail]
    simp +decide only [e144_0, e144_1, e144_2, e144_5, e144_6, e144_7, e144_10, e144_11, e144_12, e144_15, e144_16, e144_17, e144_20, e144_21, e144_22, e144_25, e144_26, e144_27, e144_30, e144_31, e144_33, e144_36, e144_37, e144_40, e144_43, e144_44, e144_47, e144_48, e144_49, e144_52, e144_53, e144_54, e144_57, e144_58, e144_61, e144_63, e144_66, e144_67, e144_69, e144_72, e144_75, e144_76, e144_79, e144_80, e144_81, e144_84, e144_85, e144_88, e144_91, e144_92, e144_95, e144_98, e144_99, e144_102, e144_103, e144_106, e144_107, e144_108, e144_109, e144_112, e144_113, e144_114, e144_117, e144_120, e144_121, e144_124, e144_127, e144_128, e144_131, e144_134, true_and, and_true, or_true, true_or, if_true, if_false, not_true_eq_false, not_false_eq_true, ne_eq, and_self, Option.toList_some, Option.toList_none, List.cons_append, List.nil_append, catS_0, catS_I, catS_L, catS_R, Option.map_some, Option.map_none, Option.some.injEq, Sum.inl.injEq, exists_eq_left', exists_eq', II, AA, RR, QQ, IA, IR, IQ, AI, AR, AQ, RI, RA, RQ, QI, QA, QR, LI, LA, LR, LQ, NI, NA, NR, NQ, HI, HA, HR, HQ, SI, SA, SR, SQ, hg, nI_1 m, updS0, y1, tk, N12 a1]
/-- where a reading fails no blank stands -/
def FP (c : Nat → Int32) (n : Nat) (x : Sum Nat (Nat × List Nat)) : Prop := match x with
  | .inl q => sk c n q = q
  | .inr _ => True
theorem FP_b {x : Sum Nat (Nat × List Nat)} {k : Nat → List Nat → Sum Nat (Nat × List Nat)} (h : FP c n x) (hk : ∀ p C, x = .inr (p, C) → FP c n (k p C)) : FP c n (bnd x k) := by
  cases x with
  | inl q => exact h
  | inr y => exact hk y.1 y.2 rfl
theorem FP_lean {p : Nat} {C : List Nat} (hn : n ≤ 120) : FP c n (leanP c n p C) := by
  unfold leanP
  by_cases h1 : 97 ≤ (sgn c n p).toInt ∧ (sgn c n p).toInt ≤ 104
  · rw [if_pos h1]
    by_cases h2 : sgn c n (sk c n p + 1) = 62
    · rw [if_pos h2]
      by_cases h3 : nuY c n 100 (sk c n (sk c n (sk c n p + 1) + 1)) = true
      · rw [if_pos h3]; exact True.intro
      · rw [if_neg h3]; exact sk_sk hn
    · rw [if_neg h2]; exact True.intro
  · rw [if_neg h1]; exact sk_sk hn
theorem FP_ands {cl : Nat → List Nat → Sum Nat (Nat × List Nat)} (hcl : ∀ p C, p ≤ n → FP c n (cl p C) ∧ GO n 1 p C (cl p C) ∨ (FP c n (cl p C) ∧ ∀ y, cl p C = .inr y → y.1 ≤ n)) : ∀ k p C, p ≤ n → FP c n (andsP c n cl k p C) := by
  intro k
  induction k with
  | zero => intro p C _; exact True.intro
  | succ k ih =>
    intro p C hp
    show FP c n (if sgn c n p = 38 then bnd (cl (sk c n p + 1) C) (fun p' C' => andsP c n cl k p' (1001 :: C')) else .inr (sk c n p, C))
    by_cases hg : sgn c n p = 38
    · rw [if_pos hg]
      have hlt := sgn_n hp hg (by decide)
      rcases hcl (sk c n p + 1) C (by omega) with ⟨h1, h2⟩ | ⟨h1, h2⟩
      · refine FP_b h1 (fun p' C' he => ih _ _ ?_)
        rw [he] at h2
        exact h2.2.1
      · exact FP_b h1 (fun p' C' he => ih _ _ (h2 _ he))
    · rw [if_neg hg]; exact True.intro
theorem FP_claim (hn : n ≤ 120) : ∀ f p C, p ≤ n → FP c n (claimP c n f p C) := by
  intro f
  have lD : ∀ p C, FP c n (bnd (leanP c n (denP c n p) C) (fun p' C' => .inr (p', denC (denY c n p) C'))) := fun p C => FP_b (FP_lean hn) (fun _ _ _ => True.intro)
  induction f with
  | zero => intro p C _; exact lD p C
  | succ f ih =>
    intro p C hp
    show FP c n (if sgn c n (denP c n p) = 40 then bnd (casesP c n (claimP c n f) (sk c n (denP c n p) + 1) C) (fun p' C' => if sgn c n p' = 41 then .inr (sk c n p' + 1, denC (denY c n p) C') else .inl (sk c n p')) else bnd (leanP c n (denP c n p) C) (fun p' C' => .inr (p', denC (denY c n p) C')))
    by_cases hg : sgn c n (denP c n p) = 40
    · rw [if_pos hg]
      obtain ⟨d1, d2, d3⟩ := den_le (c := c) hp
      have hlt := sgn_n d2 hg (by decide)
      have hgr : ∀ p C, p ≤ n → FP c n (groupP c n (claimP c n f) p C) := fun p C hp => by
        have hg1 := claim_go (c := c) f p C hp
        refine FP_b (ih p C hp) (fun p' C' he => ?_)
        rw [he] at hg1
        exact FP_ands (fun p C hp => Or.inr ⟨ih p C hp, fun y hy => by
          have := claim_go (c := c) f p C hp
          rw [hy] at this
          exact this.2.1⟩) 120 p' C' hg1.2.1
      have hal : ∀ k p C, n - p ≤ k → p ≤ n → FP c n (altsP c n (claimP c n f) k p C) := by
        intro k
        induction k with
        | zero =>
          intro p C hk hp
          show FP c n (if sgn c n p = 124 then .inl (sk c n p + 1) else .inr (sk c n p, C))
          have h124 : ¬ sgn c n p = 124 := fun w => by
            have := sgn_n hp w (by decide)
            have := sk_le (c := c) hp
            omega
          rw [if_neg h124]; exact True.intro
        | succ k ihk =>
          intro p C hk hp
          show FP c n (if sgn c n p = 124 then bnd (groupP c n (claimP c n f) (sk c n p + 1) C) (fun p' C' => altsP c n (claimP c n f) k p' (1002 :: C')) else .inr (sk c n p, C))
          by_cases h124 : sgn c n p = 124
          · rw [if_pos h124]
            have h1 := sgn_n hp h124 (by decide)
            have h0 := sk_le (c := c) hp
            have hgo := group_go (c := c) (n := n) (b := 2 * f + 1) (by omega) (fun p C hp => claim_go (c := c) f p C hp) (sk c n p + 1) C (by omega)
            refine FP_b (hgr _ _ (by omega)) (fun p' C' he => ?_)
            rw [he] at hgo
            have g1 : sk c n p + 1 < p' := hgo.1
            exact ihk _ _ (by omega) hgo.2.1
          · rw [if_neg h124]; exact True.intro
      have hgo := group_go (c := c) (n := n) (b := 2 * f + 1) (by omega) (fun p C hp => claim_go (c := c) f p C hp) (sk c n (denP c n p) + 1) C (by omega)
      have hca : FP c n (casesP c n (claimP c n f) (sk c n (denP c n p) + 1) C) := by
        refine FP_b (hgr _ _ (by omega)) (fun p' C' he => ?_)
        rw [he] at hgo
        have g1 : sk c n (denP c n p) + 1 < p' := hgo.1
        exact hal _ _ _ (by omega) hgo.2.1
      refine FP_b hca (fun p' C' _ => ?_)
      by_cases hr : sgn c n p' = 41
      · rw [if_pos hr]; exact True.intro
      · rw [if_neg hr]; exact sk_sk hn
    · rw [if_neg hg]; exact lD p C
theorem FP_cases (hn : n ≤ 120) {p : Nat} {C : List Nat} {q : Nat} (hp : p ≤ n) (h : casesP c n (claimP c n 6) p C = .inl q) : sk c n q = q := by
  have hgr : ∀ p C, p ≤ n → FP c n (groupP c n (claimP c n 6) p C) := fun p C hp => by
    have hg1 := claim_go (c := c) 6 p C hp
    refine FP_b (FP_claim hn 6 p C hp) (fun p' C' he => ?_)
    rw [he] at hg1
    exact FP_ands (fun p C hp => Or.inr ⟨FP_claim hn 6 p C hp, fun y hy => by
      have := claim_go (c := c) 6 p C hp
      rw [hy] at this
      exact this.2.1⟩) 120 p' C' hg1.2.1
  have hal : ∀ k p C, n - p ≤ k → p ≤ n → FP c n (altsP c n (claimP c n 6) k p C) := by
    intro k
    induction k with
    | zero =>
      intro p C hk hp
      show FP c n (if sgn c n p = 124 then .inl (sk c n p + 1) else .inr (sk c n p, C))
      have h124 : ¬ sgn c n p = 124 := fun w => by
        have := sgn_n hp w (by decide)
        have := sk_le (c := c) hp
        omega
      rw [if_neg h124]; exact True.intro
    | succ k ihk =>
      intro p C hk hp
      show FP c n (if sgn c n p = 124 then bnd (groupP c n (claimP c n 6) (sk c n p + 1) C) (fun p' C' => altsP c n (claimP c n 6) k p' (1002 :: C')) else .inr (sk c n p, C))
      by_cases h124 : sgn c n p = 124
      · rw [if_pos h124]
        have h1 := sgn_n hp h124 (by decide)
        have h0 := sk_le (c := c) hp
        have hgo := group_go (c := c) (n := n) (b := 13) (by omega) (fun p C hp => claim_go (c := c) 6 p C hp) (sk c n p + 1) C (by omega)
        refine FP_b (hgr _ _ (by omega)) (fun p' C' he => ?_)
        rw [he] at hgo
        have g1 : sk c n p + 1 < p' := hgo.1
        exact ihk _ _ (by omega) hgo.2.1
      · rw [if_neg h124]; exact True.intro
  have hgo := group_go (c := c) (n := n) (b := 13) (by omega) (fun p C hp => claim_go (c := c) 6 p C hp) p C hp
  have hca : FP c n (casesP c n (claimP c n 6) p C) := by
    refine FP_b (hgr _ _ hp) (fun p' C' he => ?_)
    rw [he] at hgo
    have g1 : p < p' := hgo.1
    exact hal _ _ _ (by omega) hgo.2.1
  rw [h] at hca
  exact hca
theorem FP_les (hn : n ≤ 120) {b p q : Nat} (hp : p ≤ n) (h : lesP c n b p = .inl q) : sk c n q = q := by
  have h0 := sk_le (c := c) hp
  unfold lesP at h
  by_cases hl : (97 ≤ (sgn c n p).toInt ∧ (sgn c n p).toInt ≤ 104) ∧ b.testBit ((sgn c n p).toInt.toNat - 97) = false
  · rw [if_pos hl] at h
    have hlt := sgn_lt (c := c) hp (by omega)
    generalize (sgn c n p).toInt.toNat - 97 = l at *
    unfold lesA at h
    have h1 := sk_le (c := c) (n := n) (p := sk c n p + 1) (by omega)
    by_cases ha : sgn c n (sk c n p + 1) = 61
    · rw [if_pos ha] at h
      have h2 := sgn_n (p := sk c n p + 1) (by omega) ha (by decide)
      generalize hp2 : sk c n (sk c n p + 1) + 1 = p2 at *
      unfold lesB at h
      have h3 := sk_le (c := c) (n := n) (p := p2) (by omega)
      by_cases hb : nuY c n 39 (sk c n p2) = true
      · rw [if_pos hb] at h
        obtain ⟨n1, n2, n3⟩ := nuP_go h3.2 hb
        generalize nuV c n 39 (sk c n p2) = nm at *
        generalize nuP c n (sk c n p2) = p3 at *
        unfold lesC at h
        by_cases hc : sgn c n p3 = 47
        · rw [if_pos hc] at h
          have h5 := sgn_n n2 hc (by decide)
          generalize hp4 : sk c n p3 + 1 = p4 at *
          unfold lesD at h
          have h6 := sk_le (c := c) (n := n) (p := p4) (by omega)
          by_cases hd : nuY c n 100 (sk c n p4) = true
          · rw [if_pos hd] at h
            obtain ⟨m1, m2, m3⟩ := nuP_go h6.2 hd
            generalize nuV c n 100 (sk c n p4) = ps at *
            generalize nuP c n (sk c n p4) = p5 at *
            unfold lesE at h
            by_cases he : sgn c n p5 = 58
            · rw [if_pos he] at h
              have h8 := sgn_n m2 he (by decide)
              cases hy : casesP c n (claimP c n 6) (sk c n p5 + 1) [] with
              | inl q' =>
                rw [hy] at h
                cases h
                exact FP_cases hn (by omega) hy
              | inr y => rw [hy] at h; cases h
            · rw [if_neg he] at h; cases h
          · rw [if_neg hd] at h; cases h; exact sk_sk hn
        · rw [if_neg hc] at h; cases h; exact sk_sk hn
      · rw [if_neg hb] at h; cases h; exact sk_sk hn
    · rw [if_neg ha] at h; cases h; exact sk_sk hn
  · rw [if_neg hl] at h; cases h; exact sk_sk hn
theorem m_edL : ∀ k p L ρ, k ≤ 7 → ME c n p L ρ → gI ρ 12 12 0 = nI (7 - k) → MEr c n ρ (edP c n (k + 1) p L) (fun D Q => Rn (D + 7) Q (144, 32, [some (vR (some (12, 0, 0))), some (vI 1)], [], ρ)) := by
  intro k
  induction k with
  | zero =>
    intro p L ρ hk h hg
    have a1 := h.1.1
    have k6 := h.1.2.2.2.2.2.1
    have hx := m_less h
    show MEr c n ρ (match lesP c n (bitsL L) p with
      | .inl q => .inl q
      | .inr y => if sgn c n y.1 = -1 then (if tdO (y.2 :: L) = true then .inr (y.2 :: L) else .inl (sk c n y.1)) else if 0 = 0 then .inl (sk c n y.1) else if sgn c n y.1 = 59 then edP c n 0 (sk c n y.1 + 1) (y.2 :: L) else .inl (sk c n y.1)) _
    cases hy : lesP c n (bitsL L) p with
    | inl q =>
      rw [hy] at hx
      obtain ⟨ρ', r1, r2, r3⟩ := hx
      obtain ⟨ρ2, t1, t2, t3⟩ := m_edD (m := 7) (by omega) r2 (by rw [r1.2.2.2.2.2.2.2 12 12 (by decide)]; exact hg) h.1.2.1 (by rw [r1.2.2.2.2.2.2.2 12 1 (by decide)]; exact h.1.2.2.1) (by rw [r1.2.2.2.2.2.2.1 12 0 (by decide)]; exact h.1.2.2.2.1) (FP_les h.1.2.1 h.1.2.2.2.2.2.2.2 hy) (by have := les_go (c := c) (b := bitsL L) h.1.2.2.2.2.2.2.2; rw [hy] at this; exact this)
      refine ⟨ρ2, frB_t (frB_el r1) t1, t2, fun D Q => (Eq.trans ?_ (t3 D Q))⟩
      have r3 := fun Q => r3 D Q
      dsimp only at r3 ⊢
      rw [e144_32]
      simp +decide only [e144_0, e144_1, e144_2, e144_5, e144_6, e144_7, e144_10, e144_11, e144_12, e144_15, e144_16, e144_17, e144_20, e144_21, e144_22, e144_25, e144_26, e144_27, e144_30, e144_31, e144_33, e144_36, e144_37, e144_40, e144_43, e144_44, e144_48, e144_49, e144_52, e144_53, e144_54, e144_57, e144_58, e144_61, e144_63, e144_66, e144_67, e144_69, e144_72, e144_75, e144_76, e144_79, e144_80, e144_81, e144_84, e144_85, e144_88, e144_91, e144_92, e144_95, e144_98, e144_99, e144_102, e144_103, e144_106, e144_107, e144_108, e144_109, e144_112, e144_113, e144_114, e144_117, e144_120, e144_121, e144_124, e144_127, e144_128, e144_131, e144_134, true_and, and_true, or_true, true_or, if_true, if_false, not_true_eq_false, not_false_eq_true, ne_eq, and_self, Option.toList_some, Option.toList_none, List.cons_append, List.nil_append, catS_0, catS_I, catS_L, catS_R, Option.map_some, Option.map_none, Option.some.injEq, Sum.inl.injEq, exists_eq_left', exists_eq', k6, r3, N12 a1]
    | inr y =>
      rw [hy] at hx
      obtain ⟨ρ', r1, r2, r3⟩ := hx
      have hg' : gI ρ' 12 12 0 = nI 7 := by rw [r1.2.2.2.2.2.2.2 12 12 (by decide)]; exact hg
      have k3 := h.1.2.1
      have e := m_edE (ME_m (v := nI 8) r2)
      rw [sgn_sk k3, sk_sk k3] at e
      have b1 := r2.1.1
      dsimp only
      rw [if_pos (rfl : 0 = 0)]
      refine MEr_ch (frB_t (frB_el r1) (frB_I (by decide))) e (fun D Q => ?_)
      have r3 := fun Q => r3 D Q
      dsimp only at r3 ⊢
      have y8 : nI 7 + 1 = nI 8 := rfl
      rw [e144_32]
      simp +decide only [e144_0, e144_1, e144_2, e144_5, e144_6, e144_7, e144_10, e144_11, e144_12, e144_15, e144_16, e144_17, e144_20, e144_21, e144_22, e144_25, e144_26, e144_27, e144_30, e144_31, e144_33, e144_36, e144_37, e144_40, e144_43, e144_44, e144_47, e144_48, e144_49, e144_52, e144_53, e144_54, e144_57, e144_58, e144_61, e144_63, e144_66, e144_67, e144_69, e144_72, e144_75, e144_76, e144_79, e144_80, e144_81, e144_84, e144_85, e144_88, e144_91, e144_92, e144_95, e144_98, e144_99, e144_102, e144_103, e144_106, e144_107, e144_108, e144_109, e144_112, e144_113, e144_114, e144_117, e144_120, e144_121, e144_124, e144_127, e144_128, e144_131, e144_134, true_and, and_true, or_true, true_or, if_true, if_false, not_true_eq_false, not_false_eq_true, ne_eq, and_self, Option.toList_some, Option.toList_none, List.cons_append, List.nil_append, catS_0, catS_I, catS_L, catS_R, Option.map_some, Option.map_none, Option.some.injEq, Sum.inl.injEq, exists_eq_left', exists_eq', II, AA, RR, QQ, IA, IR, IQ, AI, AR, AQ, RI, RA, RQ, QI, QA, QR, LI, LA, LR, LQ, NI, NA, NR, NQ, HI, HA, HR, HQ, SI, SA, SR, SQ, k6, r3, hg', y8, updS0, show (8 : Int32) ≤ nI 8 by decide, N12 a1, N12 b1]
  | succ k ih =>
    intro p L ρ hk h hg
    have a1 := h.1.1
    have k6 := h.1.2.2.2.2.2.1
    have k3 := h.1.2.1
    have hx := m_less h
    show MEr c n ρ (match lesP c n (bitsL L) p with
      | .inl q => .inl q
      | .inr y => if sgn c n y.1 = -1 then (if tdO (y.2 :: L) = true then .inr (y.2 :: L) else .inl (sk c n y.1)) else if k + 1 = 0 then .inl (sk c n y.1) else if sgn c n y.1 = 59 then edP c n (k + 1) (sk c n y.1 + 1) (y.2 :: L) else .inl (sk c n y.1)) _
    cases hy : lesP c n (bitsL L) p with
    | inl q =>
      rw [hy] at hx
      obtain ⟨ρ', r1, r2, r3⟩ := hx
      obtain ⟨ρ2, t1, t2, t3⟩ := m_edD (m := 7 - (k + 1)) (by omega) r2 (by rw [r1.2.2.2.2.2.2.2 12 12 (by decide)]; exact hg) h.1.2.1 (by rw [r1.2.2.2.2.2.2.2 12 1 (by decide)]; exact h.1.2.2.1) (by rw [r1.2.2.2.2.2.2.1 12 0 (by decide)]; exact h.1.2.2.2.1) (FP_les h.1.2.1 h.1.2.2.2.2.2.2.2 hy) (by have := les_go (c := c) (b := bitsL L) h.1.2.2.2.2.2.2.2; rw [hy] at this; exact this)
      refine ⟨ρ2, frB_t (frB_el r1) t1, t2, fun D Q => (Eq.trans ?_ (t3 D Q))⟩
      have r3 := fun Q => r3 D Q
      dsimp only at r3 ⊢
      rw [e144_32]
      simp +decide only [e144_0, e144_1, e144_2, e144_5, e144_6, e144_7, e144_10, e144_11, e144_12, e144_15, e144_16, e144_17, e144_20, e144_21, e144_22, e144_25, e144_26, e144_27, e144_30, e144_31, e144_33, e144_36, e144_37, e144_40, e144_43, e144_44, e144_48, e144_49, e144_52, e144_53, e144_54, e144_57, e144_58, e144_61, e144_63, e144_66, e144_67, e144_69, e144_72, e144_75, e144_76, e144_79, e144_80, e144_81, e144_84, e144_85, e144_88, e144_91, e144_92, e144_95, e144_98, e144_99, e144_102, e144_103, e144_106, e144_107, e144_108, e144_109, e144_112, e144_113, e144_114, e144_117, e144_120, e144_121, e144_124, e144_127, e144_128, e144_131, e144_134, true_and, and_true, or_true, true_or, if_true, if_false, not_true_eq_false, not_false_eq_true, ne_eq, and_self, Option.toList_some, Option.toList_none, List.cons_append, List.nil_append, catS_0, catS_I, catS_L, catS_R, Option.map_some, Option.map_none, Option.some.injEq, Sum.inl.injEq, exists_eq_left', exists_eq', k6, r3, N12 a1]
    | inr y =>
      rw [hy] at hx
      obtain ⟨ρ', r1, r2, r3⟩ := hx
      have hg' : gI ρ' 12 12 0 = nI (7 - (k + 1)) := by rw [r1.2.2.2.2.2.2.2 12 12 (by decide)]; exact hg
      have y8 : nI (7 - (k + 1)) + 1 = nI (7 - k) := by rw [nI_1]; congr 1; omega
      have y1 : ¬ (8 : Int32) ≤ nI (7 - k) := nI_ge (b := 8) (by omega) (by omega)
      have r2m := ME_m (v := nI (7 - k)) r2
      have b1 := r2.1.1
      have k8 := r2.1.2.2.2.2.2.2.2
      have hyn : y.1 ≤ n := by
        have := les_go (c := c) (b := bitsL L) h.1.2.2.2.2.2.2.2
        rw [hy] at this
        exact this.2.1
      have slp := sk_le (c := c) hyn
      have sl := sk_le (c := c) k8
      have tk := fun {d : Nat} {Q : Option AV → St → Prop} {ch : Int32} => t_tk (d := d) (Q := Q) (ch := ch) r2m.1
      rw [sgn_sk k3, sk_sk k3] at tk
      dsimp only
      by_cases hs : sgn c n y.1 = 59
      · have he : ¬ sgn c n y.1 = -1 := by rw [hs]; decide
        rw [if_neg he, if_neg (by omega), if_pos hs]
        have hlt := sgn_n hyn hs (by decide)
        have e := ih (sk c n y.1 + 1) (y.2 :: L) _ (by omega) (ME_p r2m (q := sk c n y.1 + 1) (by omega) (by omega)) (by simp +decide only [II, AA, RR, QQ, IA, IR, IQ, AI, AR, AQ, RI, RA, RQ, QI, QA, QR, LI, LA, LR, LQ, NI, NA, NR, NQ, HI, HA, HR, HQ, SI, SA, SR, SQ, true_and, and_true, or_true, true_or, if_true, if_false, not_true_eq_false, not_false_eq_true, ne_eq, and_self]; exact updS0)
        refine MEr_ch (frB_t (frB_el r1) (frB_t (frB_I (by decide)) (frB_I (by decide)))) e (fun D Q => ?_)
        have r3 := fun Q => r3 D Q
        dsimp only at r3 ⊢
        rw [e144_32]
        simp +decide only [e144_0, e144_1, e144_2, e144_5, e144_6, e144_7, e144_10, e144_11, e144_12, e144_15, e144_16, e144_17, e144_20, e144_21, e144_22, e144_25, e144_26, e144_27, e144_30, e144_31, e144_33, e144_36, e144_37, e144_40, e144_43, e144_44, e144_47, e144_48, e144_49, e144_52, e144_53, e144_54, e144_57, e144_58, e144_61, e144_63, e144_66, e144_67, e144_69, e144_72, e144_75, e144_76, e144_79, e144_80, e144_81, e144_84, e144_85, e144_88, e144_91, e144_92, e144_95, e144_98, e144_99, e144_102, e144_103, e144_106, e144_107, e144_108, e144_109, e144_112, e144_113, e144_114, e144_117, e144_120, e144_121, e144_124, e144_127, e144_128, e144_131, e144_134, true_and, and_true, or_true, true_or, if_true, if_false, not_true_eq_false, not_false_eq_true, ne_eq, and_self, Option.toList_some, Option.toList_none, List.cons_append, List.nil_append, catS_0, catS_I, catS_L, catS_R, Option.map_some, Option.map_none, Option.some.injEq, Sum.inl.injEq, exists_eq_left', exists_eq', II, AA, RR, QQ, IA, IR, IQ, AI, AR, AQ, RI, RA, RQ, QI, QA, QR, LI, LA, LR, LQ, NI, NA, NR, NQ, HI, HA, HR, HQ, SI, SA, SR, SQ, k6, r3, hg', y8, y1, tk, hs, updS0, N12 a1, N12 b1]
      · have e := m_edE (ME_p r2m (q := sk c n y.1) (by omega) (by omega))
        rw [sgn_sk k3, sk_sk k3] at e
        have e2 : (if sgn c n y.1 = -1 then (if tdO (y.2 :: L) = true then Sum.inr (y.2 :: L) else Sum.inl (sk c n y.1)) else if k + 1 = 0 then Sum.inl (sk c n y.1) else if sgn c n y.1 = 59 then edP c n (k + 1) (sk c n y.1 + 1) (y.2 :: L) else Sum.inl (sk c n y.1)) = (if sgn c n y.1 = -1 then (if tdO (y.2 :: L) = true then Sum.inr (y.2 :: L) else Sum.inl (sk c n y.1)) else Sum.inl (sk c n y.1)) := by
          by_cases he : sgn c n y.1 = -1
          · rw [if_pos he, if_pos he]
          · rw [if_neg he, if_neg he, if_neg (by omega), if_neg hs]
        rw [e2]
        refine MEr_ch (frB_t (frB_el r1) (frB_t (frB_I (by decide)) (frB_I (by decide)))) e (fun D Q => ?_)
        have r3 := fun Q => r3 D Q
        dsimp only at r3 ⊢
        rw [e144_32]
        simp +decide only [e144_0, e144_1, e144_2, e144_5, e144_6, e144_7, e144_10, e144_11, e144_12, e144_15, e144_16, e144_17, e144_20, e144_21, e144_22, e144_25, e144_26, e144_27, e144_30, e144_31, e144_33, e144_36, e144_37, e144_40, e144_43, e144_44, e144_47, e144_48, e144_49, e144_52, e144_53, e144_54, e144_57, e144_58, e144_61, e144_63, e144_66, e144_67, e144_69, e144_72, e144_75, e144_76, e144_79, e144_80, e144_81, e144_84, e144_85, e144_88, e144_91, e144_92, e144_95, e144_98, e144_99, e144_102, e144_103, e144_106, e144_107, e144_108, e144_109, e144_112, e144_113, e144_114, e144_117, e144_120, e144_121, e144_124, e144_127, e144_128, e144_131, e144_134, true_and, and_true, or_true, true_or, if_true, if_false, not_true_eq_false, not_false_eq_true, ne_eq, and_self, Option.toList_some, Option.toList_none, List.cons_append, List.nil_append, catS_0, catS_I, catS_L, catS_R, Option.map_some, Option.map_none, Option.some.injEq, Sum.inl.injEq, exists_eq_left', exists_eq', II, AA, RR, QQ, IA, IR, IQ, AI, AR, AQ, RI, RA, RQ, QI, QA, QR, LI, LA, LR, LQ, NI, NA, NR, NQ, HI, HA, HR, HQ, SI, SA, SR, SQ, k6, r3, hg', y8, y1, tk, hs, updS0, N12 a1, N12 b1]
end MED
