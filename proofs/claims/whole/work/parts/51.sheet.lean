theorem e211_fill {d : Nat} {Q : Option AV → St → Prop} {σ : St} {x : Nat} {b c : Int32} (a1 : SH σ) (hx : x < 4) (f : Nat → Int32) :
    ∀ n m, m + n = 30 → Rn (d + 1) Q (211, 40, [some (vR (some (12, 0, 0))), some (vI (nI x)), some (vI b), some (vI c), some (vI (nI m))], [], setA σ 12 81 0 (fun j => if 30 * x ≤ j ∧ j < 30 * x + m then 0 else f j)) = Q (some (vI c)) (setA σ 12 81 0 (fun j => if 30 * x ≤ j ∧ j < 30 * x + 30 then 0 else f j)) := by
  intro n
  induction n with
  | zero =>
    intro m hm
    have e1 : (30 : Int32) ≤ nI m := by rw [lN30]; exact nI_le (by omega) (by omega)
    rw [e211_40]
    simp +decide only [e211_0, e211_1, e211_2, e211_5, e211_8, e211_9, e211_11, e211_14, e211_15, e211_16, e211_17, e211_20, e211_22, e211_23, e211_24, e211_27, e211_28, e211_29, e211_30, e211_31, e211_34, e211_35, e211_36, e211_37, e211_38, e211_42, e211_44, e211_47, e211_48, e211_51, e211_53, e211_54, e211_55, e211_57, e211_58, e211_59, e211_60, e211_63, e211_66, e211_67, true_and, and_true, or_true, true_or, if_true, if_false, not_true_eq_false, not_false_eq_true, ne_eq, and_self, Option.toList_some, Option.toList_none, List.cons_append, List.nil_append, catS_0, catS_I, catS_L, catS_R, Option.map_some, Option.map_none, e1]
    rw [show m = 30 by omega]
  | succ n ih =>
    intro m hm
    have e1 : ¬ (30 : Int32) ≤ nI m := by rw [lN30]; exact nI_ge (by omega) (by omega)
    have e0 : 30 * nI x + nI m = nI (30 * x + m) := by rw [lN30, pk_mul, nI_add]
    have e2 : (nI (30 * x + m)).toInt = ((30 * x + m : Nat) : Int) := nI_toInt (by omega)
    have e3 : (0 : Int) ≤ ((30 * x + m : Nat) : Int) := by omega
    have e4 : ((30 * x + m : Nat) : Int) < ((120 : Nat) : Int) := by omega
    have e5 : (nI (30 * x + m)).toNatClampNeg = 30 * x + m := nI_clamp (by omega)
    have e6 : upd (fun j => if 30 * x ≤ j ∧ j < 30 * x + m then 0 else f j) (30 * x + m) 0 = (fun j => if 30 * x ≤ j ∧ j < 30 * x + (m + 1) then 0 else f j) := by
      funext j
      unfold upd
      by_cases h : j = 30 * x + m
      · rw [if_pos h, if_pos (by omega)]
      · rw [if_neg h]
        dsimp only
        by_cases h2 : 30 * x ≤ j ∧ j < 30 * x + m
        · rw [if_pos h2, if_pos (by omega)]
        · rw [if_neg h2, if_neg (by omega)]
    have := ih (m + 1) (by omega)
    rw [← nI_1] at this
    rw [e211_40]
    simp +decide only [e211_0, e211_1, e211_2, e211_5, e211_8, e211_9, e211_11, e211_14, e211_15, e211_16, e211_17, e211_20, e211_22, e211_23, e211_24, e211_27, e211_28, e211_29, e211_30, e211_31, e211_34, e211_35, e211_36, e211_37, e211_38, e211_42, e211_44, e211_47, e211_48, e211_51, e211_53, e211_54, e211_55, e211_57, e211_58, e211_59, e211_60, e211_63, e211_66, e211_67, true_and, and_true, or_true, true_or, if_true, if_false, not_true_eq_false, not_false_eq_true, ne_eq, and_self, Option.toList_some, Option.toList_none, List.cons_append, List.nil_append, catS_0, catS_I, catS_L, catS_R, Option.map_some, Option.map_none, e1, LA, NA, N12 a1, L12_81 a1, e0, e2, e3, e4, e5, Option.some.injEq, Sum.inl.injEq, exists_eq_left', exists_eq', gA_A, setA_A, e6]
    exact this
theorem T_sheet {h0 n d : Nat} {σ : St} {a b c : Int32} (h : Inv h0 n σ) : PR h0 n (d + 3) 104 [some (vR (some (11, 0, 0))), some (vI a), some (vI b), some (vI c)] 211 [some (vR (some (12, 0, 0))), some (vI a), some (vI b), some (vI c), none] σ := by
  have hI := h.up
  by_cases hA : (0 ≤ a.toInt ∧ a.toInt < 4) ∧ (0 ≤ b.toInt ∧ b.toInt < 3) ∧ c.toInt ≤ 30
  · obtain ⟨a1, a2, a3, a4, a5, a6, a7, a8, a9, a10, a11, a12, a13⟩ := h
    obtain ⟨h1, h2, h3⟩ := hA
    unfold PR
    obtain ⟨x, hx, rfl, e4⟩ := nI_ex (n := 4) h1
    have e3 : (nI x).toInt = (x : Int) := nI_toInt (by omega)
    have hx0 : (0 : Int) ≤ (x : Int) := by omega
    have hx1 : (x : Int) < 4 := by omega
    have hx2 : (x : Int) ≤ 3 := by omega
    have hx3 : (x : Int) < ((4 : Nat) : Int) := by omega
    have hq := a1.2.2.2.2 x hx
    have h2' : b.toInt ≤ 2 := by omega
    have h3' : ¬ 30 < c.toInt := by omega
    by_cases h5 : c.toInt < 0
    · have h5' : ¬ 0 ≤ c.toInt := by omega
      simp +decide only [e104_0, e104_1, e104_2, e104_5, e104_8, e104_9, e104_10, e104_13, e104_16, e104_17, e104_19, e104_22, e104_23, e104_24, e104_25, e104_28, e104_30, e104_31, e104_32, e104_35, e104_36, e104_37, e104_38, e104_39, e104_42, e104_43, e211_0, e211_1, e211_2, e211_5, e211_8, e211_9, e211_11, e211_14, e211_15, e211_16, e211_17, e211_20, e211_22, e211_23, e211_24, e211_27, e211_28, e211_29, e211_30, e211_31, e211_34, e211_35, e211_36, e211_37, e211_38, e211_42, e211_44, e211_47, e211_48, e211_51, e211_53, e211_54, e211_55, e211_57, e211_58, e211_59, e211_60, e211_63, e211_66, e211_67, e210_0, e210_1, e210_2, e210_3, e210_6, e210_9, e210_12, e210_13, e210_14, e210_15, e210_18, e210_21, e210_24, e210_25, e210_28, e210_29, true_and, and_true, or_true, true_or, if_true, if_false, not_true_eq_false, not_false_eq_true, ne_eq, and_self, Option.toList_some, Option.toList_none, List.cons_append, List.nil_append, catS_0, catS_I, catS_L, catS_R, Option.map_some, Option.map_none, c_isIn, m_in, wide_toInt, c_isDay, m_isDay, m_isCourse, c_areParts, tI_m1000, tI_m20, tI_m14, tI_m13, tI_m12, tI_m11, tI_m4, tI_m3, tI_m2, tI_m1, tI_0, tI_1, tI_2, tI_3, tI_4, tI_5, tI_6, tI_7, tI_8, tI_9, tI_10, tI_11, tI_12, tI_14, tI_15, tI_16, tI_19, tI_20, tI_21, tI_30, tI_31, tI_32, tI_40, tI_60, tI_61, tI_80, tI_90, tI_97, tI_100, tI_101, tI_119, tI_120, tI_121, tI_126, tI_128, tI_255, tI_256, tI_500, tI_512, tI_600, tI_999, tI_1000, tI_3999, tI_4000, tI_4095, tI_4096, tI_99999, tI_100000, tL_0, tL_1, tL_2, tL_3, tL_4, tL_5, tL_7, tL_8, tL_9, tL_15, tL_19, tL_20, tL_32, tL_39, tL_48, tL_57, tL_60, tL_97, tL_100, tL_104, tL_126, tL_255, tL_3999, tL_4095, tL_99999, Option.some.injEq, Sum.inl.injEq, exists_eq_left', exists_eq', ltI, leI, e3, hx0, hx1, hx2, h2, h2', h3, h3', h5, h5', hI]
    · have h5' : 0 ≤ c.toInt := by omega
      have hN6 : x < gN σ 6 := by rw [N6 a1]; exact hx
      have hL6 := L6_2 (i := x) a1 hN6
      have fl := e211_fill (d := d + 2) (Q := fun r' σ2 => r' = some (vI c) ∧ Inv h0 (n + 1) σ2) (σ := setA (setA (setA (setI (setI σ 6 0 x b) 6 1 x c) 6 2 x (ff 0 (gA σ 6 2 x) 30)) 12 79 0 (upd (gA σ 12 79 0) x b)) 12 80 0 (upd (gA σ 12 80 0) x c)) (b := b) (c := c) a1 hx (gA σ 12 81 0) 30 0 (by omega)
      have fs : (fun j => if 30 * x ≤ j ∧ j < 30 * x + 0 then 0 else gA σ 12 81 0 j) = gA σ 12 81 0 := by
        funext j; rw [if_neg (by omega)]
      have cf : ∀ (Q : Option AV → St → Prop), Rn (d + 1) Q (217, 0, [some (vR (some (6, 3, x))), some (vI 0), none, none], [], setI (setI σ 6 0 x b) 6 1 x c) = Q none (setA (setI (setI σ 6 0 x b) 6 1 x c) 6 2 x (ff 0 (gA σ 6 2 x) 30)) := fun Q => c_fill (c := 6) (k := 2) rfl (by decide) hL6 hN6 (by decide)
      rw [fs] at fl
      have fl := Iff.of_eq fl
      simp +decide only [e104_0, e104_1, e104_2, e104_5, e104_8, e104_9, e104_10, e104_13, e104_16, e104_17, e104_19, e104_22, e104_23, e104_24, e104_25, e104_28, e104_30, e104_31, e104_32, e104_35, e104_36, e104_37, e104_38, e104_39, e104_42, e104_43, e38_0, e38_1, e38_2, e38_5, e38_6, e38_7, e38_10, e38_11, e38_14, e38_15, e38_18, true_and, and_true, or_true, true_or, if_true, if_false, not_true_eq_false, not_false_eq_true, ne_eq, and_self, Option.toList_some, Option.toList_none, List.cons_append, List.nil_append, catS_0, catS_I, catS_L, catS_R, Option.map_some, Option.map_none, c_isIn, m_in, wide_toInt, c_isDay, m_isDay, m_isCourse, c_areParts, tI_m1000, tI_m20, tI_m14, tI_m13, tI_m12, tI_m11, tI_m4, tI_m3, tI_m2, tI_m1, tI_0, tI_1, tI_2, tI_3, tI_4, tI_5, tI_6, tI_7, tI_8, tI_9, tI_10, tI_11, tI_12, tI_14, tI_15, tI_16, tI_19, tI_20, tI_21, tI_30, tI_31, tI_32, tI_40, tI_60, tI_61, tI_80, tI_90, tI_97, tI_100, tI_101, tI_119, tI_120, tI_121, tI_126, tI_128, tI_255, tI_256, tI_500, tI_512, tI_600, tI_999, tI_1000, tI_3999, tI_4000, tI_4095, tI_4096, tI_99999, tI_100000, tL_0, tL_1, tL_2, tL_3, tL_4, tL_5, tL_7, tL_8, tL_9, tL_15, tL_19, tL_20, tL_32, tL_39, tL_48, tL_57, tL_60, tL_97, tL_100, tL_104, tL_126, tL_255, tL_3999, tL_4095, tL_99999, Option.some.injEq, Sum.inl.injEq, exists_eq_left', exists_eq', ltI, leI, e3, e4, hx0, hx1, hx2, hx3, hx, h2, h3, h3', h5, h5', N11 a1, N6 a1, L11_16 a1, hq, II, AA, RR, QQ, IA, IR, IQ, AI, AR, AQ, RI, RA, RQ, QI, QA, QR, LI, LA, LR, LQ, NI, NA, NR, NQ, HI, HA, HR, HQ, SI, SA, SR, SQ, hL6, cf]
      simp +decide only [e211_0, e211_1, e211_2, e211_5, e211_8, e211_9, e211_11, e211_14, e211_15, e211_16, e211_17, e211_20, e211_22, e211_23, e211_24, e211_27, e211_28, e211_29, e211_30, e211_31, e211_34, e211_35, e211_36, e211_37, e211_38, e211_42, e211_44, e211_47, e211_48, e211_51, e211_53, e211_54, e211_55, e211_57, e211_58, e211_59, e211_60, e211_63, e211_66, e211_67, e210_0, e210_1, e210_2, e210_3, e210_6, e210_9, e210_12, e210_13, e210_14, e210_15, e210_18, e210_21, e210_24, e210_25, e210_28, e210_29, true_and, and_true, or_true, true_or, if_true, if_false, not_true_eq_false, not_false_eq_true, ne_eq, and_self, Option.toList_some, Option.toList_none, List.cons_append, List.nil_append, catS_0, catS_I, catS_L, catS_R, Option.map_some, Option.map_none, c_isIn, m_in, wide_toInt, c_isDay, m_isDay, m_isCourse, c_areParts, tI_m1000, tI_m20, tI_m14, tI_m13, tI_m12, tI_m11, tI_m4, tI_m3, tI_m2, tI_m1, tI_0, tI_1, tI_2, tI_3, tI_4, tI_5, tI_6, tI_7, tI_8, tI_9, tI_10, tI_11, tI_12, tI_14, tI_15, tI_16, tI_19, tI_20, tI_21, tI_30, tI_31, tI_32, tI_40, tI_60, tI_61, tI_80, tI_90, tI_97, tI_100, tI_101, tI_119, tI_120, tI_121, tI_126, tI_128, tI_255, tI_256, tI_500, tI_512, tI_600, tI_999, tI_1000, tI_3999, tI_4000, tI_4095, tI_4096, tI_99999, tI_100000, tL_0, tL_1, tL_2, tL_3, tL_4, tL_5, tL_7, tL_8, tL_9, tL_15, tL_19, tL_20, tL_32, tL_39, tL_48, tL_57, tL_60, tL_97, tL_100, tL_104, tL_126, tL_255, tL_3999, tL_4095, tL_99999, Option.some.injEq, Sum.inl.injEq, exists_eq_left', exists_eq', ltI, leI, e3, e4, hx0, hx1, hx2, hx3, hx, h2, h2', h3, h3', h5, h5', N12 a1, L12_79 a1, L12_80 a1, II, AA, RR, QQ, IA, IR, IQ, AI, AR, AQ, RI, RA, RQ, QI, QA, QR, LI, LA, LR, LQ, NI, NA, NR, NQ, HI, HA, HR, HQ, SI, SA, SR, SQ]
      rw [nI_0] at fl
      have fl2 := fl.mpr ⟨rfl, ?_⟩
      · rw [← setA_self (setA (setA (setA (setI (setI σ 6 0 x b) 6 1 x c) 6 2 x (ff 0 (gA σ 6 2 x) 30)) 12 79 0 (upd (gA σ 12 79 0) x b)) 12 80 0 (upd (gA σ 12 80 0) x c)) 12 81 0]
        exact fl2
      · refine ⟨a1, ?_⟩
        simp +decide only [II, AA, RR, QQ, IA, IR, IQ, AI, AR, AQ, RI, RA, RQ, QI, QA, QR, LI, LA, LR, LQ, NI, NA, NR, NQ, HI, HA, HR, HQ, SI, SA, SR, SQ, true_and, and_true, or_true, true_or, if_true, if_false, not_true_eq_false, not_false_eq_true, ne_eq, and_self]
        refine ⟨a2, a3, a4.up, fun j hj => ?_, a6, a7, a8, a9, a10.up, a11, a12, a13.up⟩
        unfold upd
        by_cases hjx : j = x
        · simp only [if_pos hjx]
          refine ⟨trivial, ⟨by omega, h2'⟩, trivial, ⟨h5', h3⟩, fun z hz => ?_⟩
          subst hjx
          rw [if_pos (by omega)]
          simp [ff, hz]
        · simp only [if_neg hjx]
          obtain ⟨s1, s2, s3, s4, s5⟩ := a5 j hj
          refine ⟨s1, s2, s3, s4, fun z hz => ?_⟩
          rw [if_neg (by omega)]
          exact s5 z hz
  · exact T_sheet_no hI hA
