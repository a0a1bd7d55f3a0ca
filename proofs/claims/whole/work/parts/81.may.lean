section MAY
variable {d : Nat} {Q : Option AV → St → Prop} {σ : St} {i b E : Nat} {B ps mw cd : Nat → Int32}
theorem m_bits_l {w : Nat} {f : Nat → Int32} (a1 : SH σ) (hE : E < 24) (hb : b < 256) (hl1 : gA σ 12 17 0 E = nI b) (hw : w < 3) (hB : ∀ on, on < 8 → b.testBit on = true → gA σ 12 19 0 (8 * E + on) = ps on ∧ ∃ w, w < 40 ∧ gA σ 12 18 0 (8 * E + on) = nI w ∧ gA σ 12 31 0 w = B on) (hR : ∀ l, l < 8 → b.testBit l = true → ∃ s e : Nat, s ≤ e ∧ e ≤ 120 ∧ gA σ 12 20 0 (8 * E + l) = nI s ∧ gA σ 12 21 0 (8 * E + l) = nI e ∧ CW b cd (fun k => gA σ 12 22 0 (128 * E + k)) s e) : ∀ n m l5 l6 f, m + n = 8 → ∃ f' : Nat → Int32, ∀ d Q, Rn (d + 3) Q (162, 5, [some (vR (some (12, 0, 0))), some (vI (nI E)), some (vI (nI w)), some (vI (nI (accB (PW w b B ps (fun l => gA σ 12 20 0 (8 * E + l)) (fun l => gA σ 12 21 0 (8 * E + l)) (fun k => gA σ 12 22 0 (128 * E + k))) m))), some (vI (nI m)), l5, l6], [], setA σ 12 32 0 f) = Q (some (vI (nI (accB (PW w b B ps (fun l => gA σ 12 20 0 (8 * E + l)) (fun l => gA σ 12 21 0 (8 * E + l)) (fun k => gA σ 12 22 0 (128 * E + k))) 8)))) (setA σ 12 32 0 f') := by
  intro n
  induction n with
  | zero =>
    intro m l5 l6 f hm
    have e1 : (8 : Int32) ≤ nI m := nI_le (a := 8) (by omega) (by omega)
    refine ⟨f, fun d Q => ?_⟩
    rw [e162_5]
    simp +decide only [e162_0, e162_1, e162_2, e162_3, e162_7, e162_9, e162_12, e162_13, e162_14, e162_16, e162_19, e162_22, e162_23, e162_24, e162_26, e162_29, e162_31, e162_32, e162_35, e162_37, e162_40, e162_41, e162_42, e162_44, e162_47, e162_50, e162_51, e162_54, e162_55, e162_58, e162_60, e162_61, e162_62, e162_65, e162_66, e162_69, e162_70, e162_73, e162_74, e162_77, e162_78, e162_80, e162_81, e162_83, e162_86, e162_87, e162_89, e162_90, e162_93, e162_94, e162_95, e162_96, e162_99, e162_102, e162_103, true_and, and_true, or_true, true_or, if_true, if_false, not_true_eq_false, not_false_eq_true, ne_eq, and_self, Option.toList_some, Option.toList_none, List.cons_append, List.nil_append, catS_0, catS_I, catS_L, catS_R, Option.map_some, Option.map_none, e1]
    rw [show m = 8 by omega]
  | succ n ih =>
    intro m l5 l6 f hm
    have e1 : ¬ (8 : Int32) ≤ nI m := nI_ge (b := 8) (by omega) (by omega)
    have e2 : (nI m).toInt = (m : Int) := nI_toInt (by omega)
    have e3 : (0 : Int) ≤ (m : Int) := by omega
    have e4 : (m : Int) < 8 := by omega
    have e5 : (nI m).toNatClampNeg = m := nI_clamp (by omega)
    have ct := fun {d : Nat} {Q : Option AV → St → Prop} => m_hasL (d := d) (Q := Q) (σ := setA σ 12 32 0 f) (a := nI m) (i := E) (b := b) a1 hE hb (by simp +decide only [II, AA, RR, QQ, IA, IR, IQ, AI, AR, AQ, RI, RA, RQ, QI, QA, QR, LI, LA, LR, LQ, NI, NA, NR, NQ, HI, HA, HR, HQ, SI, SA, SR, SQ, true_and, and_true, or_true, true_or, if_true, if_false, not_true_eq_false, not_false_eq_true, ne_eq, and_self]; exact hl1)
    rw [e2, e5] at ct
    generalize hP : PW w b B ps (fun l => gA σ 12 20 0 (8 * E + l)) (fun l => gA σ 12 21 0 (8 * E + l)) (fun k => gA σ 12 22 0 (128 * E + k)) = P at ih ⊢
    by_cases hT : b.testBit m = true
    · obtain ⟨hps, w0, hw0, hwn, hwB⟩ := hB m (by omega) hT
      have cp := fun {d : Nat} {Q : Option AV → St → Prop} => m_isP (d := d) (Q := Q) (σ := setA σ 12 32 0 f) (l := m) (B := B) (ps := ps) a1 hE (by omega) hw0 (by simp +decide only [II, AA, RR, QQ, IA, IR, IQ, AI, AR, AQ, RI, RA, RQ, QI, QA, QR, LI, LA, LR, LQ, NI, NA, NR, NQ, HI, HA, HR, HQ, SI, SA, SR, SQ, true_and, and_true, or_true, true_or, if_true, if_false, not_true_eq_false, not_false_eq_true, ne_eq, and_self]; exact hwn) (by simp +decide only [II, AA, RR, QQ, IA, IR, IQ, AI, AR, AQ, RI, RA, RQ, QI, QA, QR, LI, LA, LR, LQ, NI, NA, NR, NQ, HI, HA, HR, HQ, SI, SA, SR, SQ, true_and, and_true, or_true, true_or, if_true, if_false, not_true_eq_false, not_false_eq_true, ne_eq, and_self]; exact hwB) (by simp +decide only [II, AA, RR, QQ, IA, IR, IQ, AI, AR, AQ, RI, RA, RQ, QI, QA, QR, LI, LA, LR, LQ, NI, NA, NR, NQ, HI, HA, HR, HQ, SI, SA, SR, SQ, true_and, and_true, or_true, true_or, if_true, if_false, not_true_eq_false, not_false_eq_true, ne_eq, and_self]; exact hps)
      obtain ⟨s, e, s1, s2, s3, s4, s5⟩ := hR m (by omega) hT
      obtain ⟨f1, ch⟩ := m_holds (σ := σ) (l := m) (B := B) (ps := ps) (f := f) a1 hE (by omega) s1 s2 s3 s4 s5 hB
      have hh : hz B ps (fun l => gA σ 12 20 0 (8 * E + l)) (fun l => gA σ 12 21 0 (8 * E + l)) (fun k => gA σ 12 22 0 (128 * E + k)) m = hv (stk B ps (fun k => gA σ 12 22 0 (128 * E + k)) s (e - s)) := by
        unfold hz
        dsimp only
        rw [s3, s4, nI_clamp (by omega), nI_clamp (by omega)]
      rw [← hh] at ch
      have hPm : P m = (b.testBit m && (if w = 0 then !pz B ps m && hz B ps (fun l => gA σ 12 20 0 (8 * E + l)) (fun l => gA σ 12 21 0 (8 * E + l)) (fun k => gA σ 12 22 0 (128 * E + k)) m else if w = 1 then pz B ps m else !pz B ps m)) := by rw [← hP]; rfl
      rw [hT, Bool.true_and] at hPm
      rcases (show w = 0 ∨ w = 1 ∨ w = 2 by omega) with rfl | rfl | rfl
      · rw [if_pos rfl] at hPm
        rw [nI_0] at ih ⊢
        cases hp : pz B ps m with
        | true =>
          rw [hp] at hPm
          rw [hp, bz_t] at cp
          obtain ⟨f', q⟩ := ih (m + 1) (some (vI 1)) (some (vI 0)) f (by omega)
          refine ⟨f', fun d Q => ?_⟩
          rw [← q d Q, ← nI_1, accB_f hPm, e162_5]
          simp +decide only [e162_0, e162_1, e162_2, e162_3, e162_7, e162_9, e162_12, e162_13, e162_14, e162_16, e162_19, e162_22, e162_23, e162_24, e162_26, e162_29, e162_31, e162_32, e162_35, e162_37, e162_40, e162_41, e162_42, e162_44, e162_47, e162_50, e162_51, e162_54, e162_55, e162_58, e162_60, e162_61, e162_62, e162_65, e162_66, e162_69, e162_70, e162_73, e162_74, e162_77, e162_78, e162_80, e162_81, e162_83, e162_86, e162_87, e162_89, e162_90, e162_93, e162_94, e162_95, e162_96, e162_99, e162_102, e162_103, true_and, and_true, or_true, true_or, if_true, if_false, not_true_eq_false, not_false_eq_true, ne_eq, and_self, Option.toList_some, Option.toList_none, List.cons_append, List.nil_append, catS_0, catS_I, catS_L, catS_R, Option.map_some, Option.map_none, Option.some.injEq, Sum.inl.injEq, exists_eq_left', exists_eq', II, AA, RR, QQ, IA, IR, IQ, AI, AR, AQ, RI, RA, RQ, QI, QA, QR, LI, LA, LR, LQ, NI, NA, NR, NQ, HI, HA, HR, HQ, SI, SA, SR, SQ, ct, cp, e1, e3, e4, hT, N12 a1, Int32.or_zero]
        | false =>
          rw [hp, Bool.not_false, Bool.true_and] at hPm
          rw [hp, bz_f] at cp
          rw [← hPm] at ch
          cases hq : P m with
          | true =>
            rw [hq, bz_t] at ch
            obtain ⟨f', q⟩ := ih (m + 1) (some (vI 0)) (some (vI 1)) f1 (by omega)
            refine ⟨f', fun d Q => ?_⟩
            rw [← q d Q, ← nI_1, accB_t hq, ← nI_or, ← one_sh (by omega), e162_5]
            simp +decide only [e162_0, e162_1, e162_2, e162_3, e162_7, e162_9, e162_12, e162_13, e162_14, e162_16, e162_19, e162_22, e162_23, e162_24, e162_26, e162_29, e162_31, e162_32, e162_35, e162_37, e162_40, e162_41, e162_42, e162_44, e162_47, e162_50, e162_51, e162_54, e162_55, e162_58, e162_60, e162_61, e162_62, e162_65, e162_66, e162_69, e162_70, e162_73, e162_74, e162_77, e162_78, e162_80, e162_81, e162_83, e162_86, e162_87, e162_89, e162_90, e162_93, e162_94, e162_95, e162_96, e162_99, e162_102, e162_103, true_and, and_true, or_true, true_or, if_true, if_false, not_true_eq_false, not_false_eq_true, ne_eq, and_self, Option.toList_some, Option.toList_none, List.cons_append, List.nil_append, catS_0, catS_I, catS_L, catS_R, Option.map_some, Option.map_none, Option.some.injEq, Sum.inl.injEq, exists_eq_left', exists_eq', II, AA, RR, QQ, IA, IR, IQ, AI, AR, AQ, RI, RA, RQ, QI, QA, QR, LI, LA, LR, LQ, NI, NA, NR, NQ, HI, HA, HR, HQ, SI, SA, SR, SQ, ct, cp, ch, e1, e3, e4, hT, N12 a1]
          | false =>
            rw [hq, bz_f] at ch
            obtain ⟨f', q⟩ := ih (m + 1) (some (vI 0)) (some (vI 0)) f1 (by omega)
            refine ⟨f', fun d Q => ?_⟩
            rw [← q d Q, ← nI_1, accB_f hq, e162_5]
            simp +decide only [e162_0, e162_1, e162_2, e162_3, e162_7, e162_9, e162_12, e162_13, e162_14, e162_16, e162_19, e162_22, e162_23, e162_24, e162_26, e162_29, e162_31, e162_32, e162_35, e162_37, e162_40, e162_41, e162_42, e162_44, e162_47, e162_50, e162_51, e162_54, e162_55, e162_58, e162_60, e162_61, e162_62, e162_65, e162_66, e162_69, e162_70, e162_73, e162_74, e162_77, e162_78, e162_80, e162_81, e162_83, e162_86, e162_87, e162_89, e162_90, e162_93, e162_94, e162_95, e162_96, e162_99, e162_102, e162_103, true_and, and_true, or_true, true_or, if_true, if_false, not_true_eq_false, not_false_eq_true, ne_eq, and_self, Option.toList_some, Option.toList_none, List.cons_append, List.nil_append, catS_0, catS_I, catS_L, catS_R, Option.map_some, Option.map_none, Option.some.injEq, Sum.inl.injEq, exists_eq_left', exists_eq', II, AA, RR, QQ, IA, IR, IQ, AI, AR, AQ, RI, RA, RQ, QI, QA, QR, LI, LA, LR, LQ, NI, NA, NR, NQ, HI, HA, HR, HQ, SI, SA, SR, SQ, ct, cp, ch, e1, e3, e4, hT, N12 a1, Int32.or_zero]
      · rw [if_neg (by omega), if_pos rfl] at hPm
        rw [← lN1] at ih ⊢
        cases hp : pz B ps m with
        | true =>
          rw [hp] at hPm
          rw [hp, bz_t] at cp
          obtain ⟨f', q⟩ := ih (m + 1) (some (vI 1)) (some (vI 1)) f (by omega)
          refine ⟨f', fun d Q => ?_⟩
          rw [← q d Q, ← nI_1, accB_t hPm, ← nI_or, ← one_sh (by omega), e162_5]
          simp +decide only [e162_0, e162_1, e162_2, e162_3, e162_7, e162_9, e162_12, e162_13, e162_14, e162_16, e162_19, e162_22, e162_23, e162_24, e162_26, e162_29, e162_31, e162_32, e162_35, e162_37, e162_40, e162_41, e162_42, e162_44, e162_47, e162_50, e162_51, e162_54, e162_55, e162_58, e162_60, e162_61, e162_62, e162_65, e162_66, e162_69, e162_70, e162_73, e162_74, e162_77, e162_78, e162_80, e162_81, e162_83, e162_86, e162_87, e162_89, e162_90, e162_93, e162_94, e162_95, e162_96, e162_99, e162_102, e162_103, true_and, and_true, or_true, true_or, if_true, if_false, not_true_eq_false, not_false_eq_true, ne_eq, and_self, Option.toList_some, Option.toList_none, List.cons_append, List.nil_append, catS_0, catS_I, catS_L, catS_R, Option.map_some, Option.map_none, Option.some.injEq, Sum.inl.injEq, exists_eq_left', exists_eq', II, AA, RR, QQ, IA, IR, IQ, AI, AR, AQ, RI, RA, RQ, QI, QA, QR, LI, LA, LR, LQ, NI, NA, NR, NQ, HI, HA, HR, HQ, SI, SA, SR, SQ, ct, cp, e1, e3, e4, hT, N12 a1]
        | false =>
          rw [hp] at hPm
          rw [hp, bz_f] at cp
          obtain ⟨f', q⟩ := ih (m + 1) (some (vI 0)) (some (vI 0)) f (by omega)
          refine ⟨f', fun d Q => ?_⟩
          rw [← q d Q, ← nI_1, accB_f hPm, e162_5]
          simp +decide only [e162_0, e162_1, e162_2, e162_3, e162_7, e162_9, e162_12, e162_13, e162_14, e162_16, e162_19, e162_22, e162_23, e162_24, e162_26, e162_29, e162_31, e162_32, e162_35, e162_37, e162_40, e162_41, e162_42, e162_44, e162_47, e162_50, e162_51, e162_54, e162_55, e162_58, e162_60, e162_61, e162_62, e162_65, e162_66, e162_69, e162_70, e162_73, e162_74, e162_77, e162_78, e162_80, e162_81, e162_83, e162_86, e162_87, e162_89, e162_90, e162_93, e162_94, e162_95, e162_96, e162_99, e162_102, e162_103, true_and, and_true, or_true, true_or, if_true, if_false, not_true_eq_false, not_false_eq_true, ne_eq, and_self, Option.toList_some, Option.toList_none, List.cons_append, List.nil_append, catS_0, catS_I, catS_L, catS_R, Option.map_some, Option.map_none, Option.some.injEq, Sum.inl.injEq, exists_eq_left', exists_eq', II, AA, RR, QQ, IA, IR, IQ, AI, AR, AQ, RI, RA, RQ, QI, QA, QR, LI, LA, LR, LQ, NI, NA, NR, NQ, HI, HA, HR, HQ, SI, SA, SR, SQ, ct, cp, e1, e3, e4, hT, N12 a1, Int32.or_zero]
      · rw [if_neg (by omega), if_neg (by omega)] at hPm
        have l2 : nI 2 = 2 := rfl
        rw [l2] at ih ⊢
        cases hp : pz B ps m with
        | true =>
          rw [hp] at hPm
          rw [hp, bz_t] at cp
          obtain ⟨f', q⟩ := ih (m + 1) (some (vI 1)) (some (vI 0)) f (by omega)
          refine ⟨f', fun d Q => ?_⟩
          rw [← q d Q, ← nI_1, accB_f hPm, e162_5]
          simp +decide only [e162_0, e162_1, e162_2, e162_3, e162_7, e162_9, e162_12, e162_13, e162_14, e162_16, e162_19, e162_22, e162_23, e162_24, e162_26, e162_29, e162_31, e162_32, e162_35, e162_37, e162_40, e162_41, e162_42, e162_44, e162_47, e162_50, e162_51, e162_54, e162_55, e162_58, e162_60, e162_61, e162_62, e162_65, e162_66, e162_69, e162_70, e162_73, e162_74, e162_77, e162_78, e162_80, e162_81, e162_83, e162_86, e162_87, e162_89, e162_90, e162_93, e162_94, e162_95, e162_96, e162_99, e162_102, e162_103, true_and, and_true, or_true, true_or, if_true, if_false, not_true_eq_false, not_false_eq_true, ne_eq, and_self, Option.toList_some, Option.toList_none, List.cons_append, List.nil_append, catS_0, catS_I, catS_L, catS_R, Option.map_some, Option.map_none, Option.some.injEq, Sum.inl.injEq, exists_eq_left', exists_eq', II, AA, RR, QQ, IA, IR, IQ, AI, AR, AQ, RI, RA, RQ, QI, QA, QR, LI, LA, LR, LQ, NI, NA, NR, NQ, HI, HA, HR, HQ, SI, SA, SR, SQ, ct, cp, e1, e3, e4, hT, N12 a1, Int32.or_zero]
        | false =>
          rw [hp] at hPm
          rw [hp, bz_f] at cp
          obtain ⟨f', q⟩ := ih (m + 1) (some (vI 0)) (some (vI 1)) f (by omega)
          refine ⟨f', fun d Q => ?_⟩
          rw [← q d Q, ← nI_1, accB_t hPm, ← nI_or, ← one_sh (by omega), e162_5]
          simp +decide only [e162_0, e162_1, e162_2, e162_3, e162_7, e162_9, e162_12, e162_13, e162_14, e162_16, e162_19, e162_22, e162_23, e162_24, e162_26, e162_29, e162_31, e162_32, e162_35, e162_37, e162_40, e162_41, e162_42, e162_44, e162_47, e162_50, e162_51, e162_54, e162_55, e162_58, e162_60, e162_61, e162_62, e162_65, e162_66, e162_69, e162_70, e162_73, e162_74, e162_77, e162_78, e162_80, e162_81, e162_83, e162_86, e162_87, e162_89, e162_90, e162_93, e162_94, e162_95, e162_96, e162_99, e162_102, e162_103, true_and, and_true, or_true, true_or, if_true, if_false, not_true_eq_false, not_false_eq_true, ne_eq, and_self, Option.toList_some, Option.toList_none, List.cons_append, List.nil_append, catS_0, catS_I, catS_L, catS_R, Option.map_some, Option.map_none, Option.some.injEq, Sum.inl.injEq, exists_eq_left', exists_eq', II, AA, RR, QQ, IA, IR, IQ, AI, AR, AQ, RI, RA, RQ, QI, QA, QR, LI, LA, LR, LQ, NI, NA, NR, NQ, HI, HA, HR, HQ, SI, SA, SR, SQ, ct, cp, e1, e3, e4, hT, N12 a1]
    · have hPm : P m = false := by
        rw [← hP]
        unfold PW
        rw [(by simpa using hT : b.testBit m = false)]; rfl
      obtain ⟨f', q⟩ := ih (m + 1) l5 l6 f (by omega)
      refine ⟨f', fun d Q => ?_⟩
      rw [← q d Q, ← nI_1, accB_f hPm, e162_5]
      simp +decide only [e162_0, e162_1, e162_2, e162_3, e162_7, e162_9, e162_12, e162_13, e162_14, e162_16, e162_19, e162_22, e162_23, e162_24, e162_26, e162_29, e162_31, e162_32, e162_35, e162_37, e162_40, e162_41, e162_42, e162_44, e162_47, e162_50, e162_51, e162_54, e162_55, e162_58, e162_60, e162_61, e162_62, e162_65, e162_66, e162_69, e162_70, e162_73, e162_74, e162_77, e162_78, e162_80, e162_81, e162_83, e162_86, e162_87, e162_89, e162_90, e162_93, e162_94, e162_95, e162_96, e162_99, e162_102, e162_103, true_and, and_true, or_true, true_or, if_true, if_false, not_true_eq_false, not_false_eq_true, ne_eq, and_self, Option.toList_some, Option.toList_none, List.cons_append, List.nil_append, catS_0, catS_I, catS_L, catS_R, Option.map_some, Option.map_none, Option.some.injEq, Sum.inl.injEq, exists_eq_left', exists_eq', II, AA, RR, QQ, IA, IR, IQ, AI, AR, AQ, RI, RA, RQ, QI, QA, QR, LI, LA, LR, LQ, NI, NA, NR, NQ, HI, HA, HR, HQ, SI, SA, SR, SQ, ct, e1, e3, e4, hT, N12 a1]
theorem m_bits {w : Nat} (a1 : SH σ) (hE : E < 24) (hb : b < 256) (hl1 : gA σ 12 17 0 E = nI b) (hw : w < 3) (hB : ∀ on, on < 8 → b.testBit on = true → gA σ 12 19 0 (8 * E + on) = ps on ∧ ∃ w, w < 40 ∧ gA σ 12 18 0 (8 * E + on) = nI w ∧ gA σ 12 31 0 w = B on) (hR : ∀ l, l < 8 → b.testBit l = true → ∃ s e : Nat, s ≤ e ∧ e ≤ 120 ∧ gA σ 12 20 0 (8 * E + l) = nI s ∧ gA σ 12 21 0 (8 * E + l) = nI e ∧ CW b cd (fun k => gA σ 12 22 0 (128 * E + k)) s e) : ∃ f' : Nat → Int32, ∀ d Q, Rn (d + 3) Q (162, 0, [some (vR (some (12, 0, 0))), some (vI (nI E)), some (vI (nI w)), none, none, none, none], [], σ) = Q (some (vI (nI (accB (PW w b B ps (fun l => gA σ 12 20 0 (8 * E + l)) (fun l => gA σ 12 21 0 (8 * E + l)) (fun k => gA σ 12 22 0 (128 * E + k))) 8)))) (setA σ 12 32 0 f') := by
  obtain ⟨f', q⟩ := m_bits_l (w := w) (f := gA σ 12 32 0) a1 hE hb hl1 hw hB hR 8 0 none none (gA σ 12 32 0) (by omega)
  refine ⟨f', fun d Q => ?_⟩
  have t := q d Q
  rw [setA_self, nI_0] at t
  have t' : Rn (d + 3) Q (162, 5, [some (vR (some (12, 0, 0))), some (vI (nI E)), some (vI (nI w)), some (vI (nI 0)), some (vI 0), none, none], [], σ) = _ := t
  rw [nI_0] at t'
  simp +decide only [e162_0, e162_1, e162_2, e162_3, e162_7, e162_9, e162_12, e162_13, e162_14, e162_16, e162_19, e162_22, e162_23, e162_24, e162_26, e162_29, e162_31, e162_32, e162_35, e162_37, e162_40, e162_41, e162_42, e162_44, e162_47, e162_50, e162_51, e162_54, e162_55, e162_58, e162_60, e162_61, e162_62, e162_65, e162_66, e162_69, e162_70, e162_73, e162_74, e162_77, e162_78, e162_80, e162_81, e162_83, e162_86, e162_87, e162_89, e162_90, e162_93, e162_94, e162_95, e162_96, e162_99, e162_102, e162_103, t']
end MAY
