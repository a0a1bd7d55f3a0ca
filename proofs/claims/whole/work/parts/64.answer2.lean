theorem T_answer_yes {h0 n d x p : Nat} {σ : St} {b : Int32} (h : Inv h0 n σ) (hn : n < 2 ^ 19) (hx : x < gN σ 8) (hB : 0 ≤ b.toInt ∧ b.toInt < 4000) (j3 : gA σ 12 39 0 x = 0 ∨ gA σ 12 39 0 x = 3) (hD : (gA σ 12 45 0 x).toInt ≤ b.toInt) (hw : gA σ 12 40 0 x = nI p) (hp : p < 12) (hF : ¬ (¬ gA σ 12 28 0 p = -4 ∧ (gA σ 12 28 0 p).toInt ≤ b.toInt)) : PR h0 n (d + 3) 78 [some (vR (some (11, 0, 0))), some (vI (nI x)), some (vI b), none, none] 171 [some (vR (some (12, 0, 0))), some (vI (nI x)), some (vI b), none] σ := by
  obtain ⟨a1, a2, a3, a4, a5, a6, a7, a8, a9, a10, a11, a12, a13⟩ := h
  obtain ⟨u1, u2, u3, u4, u5⟩ := a9
  have ct := fun {d : Nat} {Q : Option AV → St → Prop} {a : Int32} => c_thingAt (d := d) (Q := Q) (a := a) a1 u2 u1 (fun p hp => (u4 p hp).1)
  unfold PR
  have e3 : (nI x).toInt = (x : Int) := nI_toInt (by omega)
  have e4 : (nI x).toNatClampNeg = x := nI_clamp (by omega)
  have hx0 : (0 : Int) ≤ (x : Int) := by omega
  have hx1 : (x : Int) < (gN σ 8 : Int) := by omega
  have hx3 : (x : Int) < ((80 : Nat) : Int) := by omega
  have hB' : b.toInt ≤ 3999 := by omega
  obtain ⟨-, w1, w1r, w2, w2r, w3, w4, w5, w5r, w6, w7, w8, w8r, -⟩ := u4 x hx
  have htt := a7.2 x hx j3
  rw [hw] at w1
  have k3 : (nI p).toInt = (p : Int) := nI_toInt (by omega)
  have hp4 : p < gN σ 4 := by rw [hw, k3] at w1r; omega
  obtain ⟨v1, v2, v3, v4⟩ := a8
  obtain ⟨-, y1, y1r, y2, y2r, y3, y4, -⟩ := v4 p hp4
  obtain ⟨q, hq, hl, -⟩ := nI_ex (n := 6) y1r
  rw [hl] at y1
  have k4 : (nI p).toNatClampNeg = p := nI_clamp (by omega)
  have k5 : (0 : Int) ≤ (p : Int) := by omega
  have k6 : (p : Int) < (gN σ 4 : Int) := by omega
  have cp := fun {d : Nat} {Q : Option AV → St → Prop} {a : Int32} => c_pupAt (d := d) (Q := Q) (a := a) a1 v2 v1 (fun p hp => (v4 p hp).1)
  have cf := fun {d : Nat} {Q : Option AV → St → Prop} {b : Int32} => c_left (d := d) (Q := Q) (b := b) hp4
  obtain ⟨d1, d2, o1, o2, X, o3, o4, o5⟩ := a4 q hq
  obtain ⟨E, hE, hEe, -⟩ := nI_ex (n := 10) o2
  have hET : (gA σ 12 36 0 q).toInt.toNat = E := by rw [hEe, nI_toInt (by omega)]; rfl
  have o6 : 0 < E → gI σ 3 2 q = nI (X % E) := fun z => by
    have := o5 (by rw [hEe, nI_toInt (by omega)]; omega)
    rw [hET] at this
    exact this
  have cc := fun {d : Nat} {Q : Option AV → St → Prop} => c_carry (d := d) (Q := Q) (σ := setI σ 8 5 x 1) (c := b) (X := X) (E := E) a1 hx hp4 hq y1 (by omega) hE (o1.trans hEe) o6
  have hD' : ¬ b.toInt < (gA σ 12 45 0 x).toInt := by omega
  have j0 : ¬ gA σ 12 39 0 x = 4 := fun z => by rw [z] at j3; exact absurd j3 (by decide)
  have j1 : ¬ gA σ 12 39 0 x = 1 := fun z => by rw [z] at j3; exact absurd j3 (by decide)
  have j2 : ¬ gA σ 12 39 0 x = 2 := fun z => by rw [z] at j3; exact absurd j3 (by decide)
  have mt2 := fun {d : Nat} {Q : Option AV → St → Prop} {σ2 : St} {a : Int32} (b1 : SH σ2) (b2 : gI σ2 12 38 0 = nI (gN σ 8)) => m_isThing (d := d) (Q := Q) (σ := σ2) (a := a) b1 b2 (by omega)
  by_cases hE0 : E = 0
  · simp +decide only [e78_0, e78_1, e78_2, e78_5, e78_6, e78_7N, e78_7S, e78_10, e78_11, e78_14, e78_17, e78_18, e78_19, e78_20, e78_23, e78_24, e78_27, e78_29, e78_30, e78_31, e78_32, e78_35, e78_38, e78_40, e78_42N, e78_42S, e78_45, e78_46, e78_49, e78_50, e78_53, e78_54, e78_57, e78_58, e78_61, e78_62, e78_65, e78_66, e78_69, e78_71, e78_72, e78_75, e78_78, e78_80, e78_81, e78_82, e78_83, e78_86, e78_87, e78_88, e78_90, e78_91, e78_94, true_and, and_true, or_true, true_or, if_true, if_false, not_true_eq_false, not_false_eq_true, ne_eq, and_self, Option.toList_some, Option.toList_none, List.cons_append, List.nil_append, catS_0, catS_I, catS_L, catS_R, Option.map_some, Option.map_none, c_isIn, m_in, wide_toInt, c_isDay, m_isDay, m_isCourse, c_areParts, tI_m1000, tI_m20, tI_m14, tI_m13, tI_m12, tI_m11, tI_m4, tI_m3, tI_m2, tI_m1, tI_0, tI_1, tI_2, tI_3, tI_4, tI_5, tI_6, tI_7, tI_8, tI_9, tI_10, tI_11, tI_12, tI_14, tI_15, tI_16, tI_19, tI_20, tI_21, tI_30, tI_31, tI_32, tI_40, tI_60, tI_61, tI_80, tI_90, tI_97, tI_100, tI_101, tI_119, tI_120, tI_121, tI_126, tI_128, tI_255, tI_256, tI_500, tI_512, tI_600, tI_999, tI_1000, tI_3999, tI_4000, tI_4095, tI_4096, tI_99999, tI_100000, tL_0, tL_1, tL_2, tL_3, tL_4, tL_5, tL_7, tL_8, tL_9, tL_15, tL_19, tL_20, tL_32, tL_39, tL_48, tL_57, tL_60, tL_97, tL_100, tL_104, tL_126, tL_255, tL_3999, tL_4095, tL_99999, Option.some.injEq, Sum.inl.injEq, exists_eq_left', exists_eq', ltI, leI, ct, cp, cf, cc, e3, e4, hx0, hx1, hx, hp4, k3, k4, k5, k6, hB, w1, w5, w7, y4, j0, j1, j2, hD, hD', hF, hE0, d1, N11 a1, II, AA, RR, QQ, IA, IR, IQ, AI, AR, AQ, RI, RA, RQ, QI, QA, QR, LI, LA, LR, LQ, NI, NA, NR, NQ, HI, HA, HR, HQ, SI, SA, SR, SQ, updS0]
    have mtA := fun {d : Nat} {Q : Option AV → St → Prop} {a : Int32} => m_isThing (d := d) (Q := Q) (σ := setI (setI (setI σ 8 5 x 1) 8 6 x b) 8 7 x (b + gA σ 12 35 0 q)) (a := a) a1 u3 (by omega)
    have mfA := fun {d : Nat} {Q : Option AV → St → Prop} {b : Int32} => m_left (d := d) (Q := Q) (b := b) (σ := setI (setI (setI σ 8 5 x 1) 8 6 x b) 8 7 x (b + gA σ 12 35 0 q)) a1 hp
    have mgA := fun {d : Nat} {Q : Option AV → St → Prop} => m_goes (d := d) (Q := Q) (σ := setI (setI (setI σ 8 5 x 1) 8 6 x b) 8 7 x (b + gA σ 12 35 0 q)) (k := 1) (c := b) (X := X) (E := E) a1 (show x < 80 by omega) hp hq hw hl (by omega) hE hEe o4
    rcases j3 with j3 | j3 <;>
    · simp +decide only [e171_0, e171_1, e171_2, e171_5, e171_8, e171_9, e171_12, e171_15, e171_16, e171_17, e171_18, e171_21, e171_22, e171_23, e171_24, e171_27, e171_29, e171_30, e171_31, e171_34, e171_35, e171_36, e171_39, e171_40, e171_43, e171_44, e171_45, e171_46, e171_49, e171_50, e171_53, e171_54, e171_55, e171_56, e171_59, e171_60, e171_63, e171_64, e171_65, e171_66, e171_69, e171_70, e171_71, e171_74, e171_75, e171_76, e171_77, e171_80, e171_83, e171_85, e171_86, e171_87, e171_88, e171_89, e171_90, e171_93, e171_94, e171_97, e171_98, e171_99, false_and, true_and, and_true, or_true, true_or, if_true, if_false, not_true_eq_false, not_false_eq_true, ne_eq, and_self, Option.toList_some, Option.toList_none, List.cons_append, List.nil_append, catS_0, catS_I, catS_L, catS_R, Option.map_some, Option.map_none, c_isIn, m_in, wide_toInt, c_isDay, m_isDay, m_isCourse, c_areParts, tI_m1000, tI_m20, tI_m14, tI_m13, tI_m12, tI_m11, tI_m4, tI_m3, tI_m2, tI_m1, tI_0, tI_1, tI_2, tI_3, tI_4, tI_5, tI_6, tI_7, tI_8, tI_9, tI_10, tI_11, tI_12, tI_14, tI_15, tI_16, tI_19, tI_20, tI_21, tI_30, tI_31, tI_32, tI_40, tI_60, tI_61, tI_80, tI_90, tI_97, tI_100, tI_101, tI_119, tI_120, tI_121, tI_126, tI_128, tI_255, tI_256, tI_500, tI_512, tI_600, tI_999, tI_1000, tI_3999, tI_4000, tI_4095, tI_4096, tI_99999, tI_100000, tL_0, tL_1, tL_2, tL_3, tL_4, tL_5, tL_7, tL_8, tL_9, tL_15, tL_19, tL_20, tL_32, tL_39, tL_48, tL_57, tL_60, tL_97, tL_100, tL_104, tL_126, tL_255, tL_3999, tL_4095, tL_99999, Option.some.injEq, Sum.inl.injEq, exists_eq_left', exists_eq', ltI, leI, mtA, mfA, mgA, e3, e4, hx0, hx1, hx3, hB, hB', hw, j3, hD, hD', hF, hE0, N12 a1, L12_39 a1, L12_40 a1, L12_45 a1, II, AA, RR, QQ, IA, IR, IQ, AI, AR, AQ, RI, RA, RQ, QI, QA, QR, LI, LA, LR, LQ, NI, NA, NR, NQ, HI, HA, HR, HQ, SI, SA, SR, SQ, updS0]
      refine ⟨a1, ?_⟩
      simp +decide only [II, AA, RR, QQ, IA, IR, IQ, AI, AR, AQ, RI, RA, RQ, QI, QA, QR, LI, LA, LR, LQ, NI, NA, NR, NQ, HI, HA, HR, HQ, SI, SA, SR, SQ, true_and, and_true, or_true, true_or, if_true, if_false, not_true_eq_false, not_false_eq_true, ne_eq, and_self]
      refine ⟨a2, a3, PO_n a4 o3 hEe hE hE0, a5, a6, LO_same a7 a6.1 hx htt, ⟨v1, v2, v3, v4⟩, ⟨u1, u2, u3, fun t ht => ?_, u5⟩, a10.up, a11, a12, a13.up⟩
      obtain ⟨z1, z2, z3, z4, z5, z6, z7, z8, z9, z10, z11, z12⟩ := u4 t ht
      by_cases htx : t = x
      · unfold upd
        simp only [if_pos htx]
        exact ⟨z1, z2, z3, z4, z5, z6, z7, trivial, by decide, trivial, trivial, z12⟩
      · unfold upd
        simp only [if_neg htx]
        exact ⟨z1, z2, z3, z4, z5, z6, z7, z8, z9, z10, z11, z12⟩
  · by_cases hz : (X + 1) % E = 0
    · simp +decide only [e78_0, e78_1, e78_2, e78_5, e78_6, e78_7N, e78_7S, e78_10, e78_11, e78_14, e78_17, e78_18, e78_19, e78_20, e78_23, e78_24, e78_27, e78_29, e78_30, e78_31, e78_32, e78_35, e78_38, e78_40, e78_42N, e78_42S, e78_45, e78_46, e78_49, e78_50, e78_53, e78_54, e78_57, e78_58, e78_61, e78_62, e78_65, e78_66, e78_69, e78_71, e78_72, e78_75, e78_78, e78_80, e78_81, e78_82, e78_83, e78_86, e78_87, e78_88, e78_90, e78_91, e78_94, true_and, and_true, or_true, true_or, if_true, if_false, not_true_eq_false, not_false_eq_true, ne_eq, and_self, Option.toList_some, Option.toList_none, List.cons_append, List.nil_append, catS_0, catS_I, catS_L, catS_R, Option.map_some, Option.map_none, c_isIn, m_in, wide_toInt, c_isDay, m_isDay, m_isCourse, c_areParts, tI_m1000, tI_m20, tI_m14, tI_m13, tI_m12, tI_m11, tI_m4, tI_m3, tI_m2, tI_m1, tI_0, tI_1, tI_2, tI_3, tI_4, tI_5, tI_6, tI_7, tI_8, tI_9, tI_10, tI_11, tI_12, tI_14, tI_15, tI_16, tI_19, tI_20, tI_21, tI_30, tI_31, tI_32, tI_40, tI_60, tI_61, tI_80, tI_90, tI_97, tI_100, tI_101, tI_119, tI_120, tI_121, tI_126, tI_128, tI_255, tI_256, tI_500, tI_512, tI_600, tI_999, tI_1000, tI_3999, tI_4000, tI_4095, tI_4096, tI_99999, tI_100000, tL_0, tL_1, tL_2, tL_3, tL_4, tL_5, tL_7, tL_8, tL_9, tL_15, tL_19, tL_20, tL_32, tL_39, tL_48, tL_57, tL_60, tL_97, tL_100, tL_104, tL_126, tL_255, tL_3999, tL_4095, tL_99999, Option.some.injEq, Sum.inl.injEq, exists_eq_left', exists_eq', ltI, leI, ct, cp, cf, cc, e3, e4, hx0, hx1, hx, hp4, k3, k4, k5, k6, hB, w1, w5, w7, y4, j0, j1, j2, hD, hD', hF, hE0, hz, d1, N11 a1, II, AA, RR, QQ, IA, IR, IQ, AI, AR, AQ, RI, RA, RQ, QI, QA, QR, LI, LA, LR, LQ, NI, NA, NR, NQ, HI, HA, HR, HQ, SI, SA, SR, SQ, updS0]
      have mtA := fun {d : Nat} {Q : Option AV → St → Prop} {a : Int32} => m_isThing (d := d) (Q := Q) (σ := setI (setI (setI (setI (setI σ 8 5 x 1) 8 6 x b) 3 2 q 0) 8 5 x 4) 8 7 x (-4)) (a := a) a1 u3 (by omega)
      have mfA := fun {d : Nat} {Q : Option AV → St → Prop} {b : Int32} => m_left (d := d) (Q := Q) (b := b) (σ := setI (setI (setI (setI (setI σ 8 5 x 1) 8 6 x b) 3 2 q 0) 8 5 x 4) 8 7 x (-4)) a1 hp
      have mgA := fun {d : Nat} {Q : Option AV → St → Prop} => m_goes (d := d) (Q := Q) (σ := setI (setI (setI (setI (setI σ 8 5 x 1) 8 6 x b) 3 2 q 0) 8 5 x 4) 8 7 x (-4)) (k := 1) (c := b) (X := X) (E := E) a1 (show x < 80 by omega) hp hq hw hl (by omega) hE hEe o4
      rcases j3 with j3 | j3 <;>
      · simp +decide only [e171_0, e171_1, e171_2, e171_5, e171_8, e171_9, e171_12, e171_15, e171_16, e171_17, e171_18, e171_21, e171_22, e171_23, e171_24, e171_27, e171_29, e171_30, e171_31, e171_34, e171_35, e171_36, e171_39, e171_40, e171_43, e171_44, e171_45, e171_46, e171_49, e171_50, e171_53, e171_54, e171_55, e171_56, e171_59, e171_60, e171_63, e171_64, e171_65, e171_66, e171_69, e171_70, e171_71, e171_74, e171_75, e171_76, e171_77, e171_80, e171_83, e171_85, e171_86, e171_87, e171_88, e171_89, e171_90, e171_93, e171_94, e171_97, e171_98, e171_99, false_and, true_and, and_true, or_true, true_or, if_true, if_false, not_true_eq_false, not_false_eq_true, ne_eq, and_self, Option.toList_some, Option.toList_none, List.cons_append, List.nil_append, catS_0, catS_I, catS_L, catS_R, Option.map_some, Option.map_none, c_isIn, m_in, wide_toInt, c_isDay, m_isDay, m_isCourse, c_areParts, tI_m1000, tI_m20, tI_m14, tI_m13, tI_m12, tI_m11, tI_m4, tI_m3, tI_m2, tI_m1, tI_0, tI_1, tI_2, tI_3, tI_4, tI_5, tI_6, tI_7, tI_8, tI_9, tI_10, tI_11, tI_12, tI_14, tI_15, tI_16, tI_19, tI_20, tI_21, tI_30, tI_31, tI_32, tI_40, tI_60, tI_61, tI_80, tI_90, tI_97, tI_100, tI_101, tI_119, tI_120, tI_121, tI_126, tI_128, tI_255, tI_256, tI_500, tI_512, tI_600, tI_999, tI_1000, tI_3999, tI_4000, tI_4095, tI_4096, tI_99999, tI_100000, tL_0, tL_1, tL_2, tL_3, tL_4, tL_5, tL_7, tL_8, tL_9, tL_15, tL_19, tL_20, tL_32, tL_39, tL_48, tL_57, tL_60, tL_97, tL_100, tL_104, tL_126, tL_255, tL_3999, tL_4095, tL_99999, Option.some.injEq, Sum.inl.injEq, exists_eq_left', exists_eq', ltI, leI, mtA, mfA, mgA, e3, e4, hx0, hx1, hx3, hB, hB', hw, j3, hD, hD', hF, hE0, hz, N12 a1, L12_39 a1, L12_40 a1, L12_45 a1, II, AA, RR, QQ, IA, IR, IQ, AI, AR, AQ, RI, RA, RQ, QI, QA, QR, LI, LA, LR, LQ, NI, NA, NR, NQ, HI, HA, HR, HQ, SI, SA, SR, SQ, updS0]
        refine ⟨a1, ?_⟩
        simp +decide only [II, AA, RR, QQ, IA, IR, IQ, AI, AR, AQ, RI, RA, RQ, QI, QA, QR, LI, LA, LR, LQ, NI, NA, NR, NQ, HI, HA, HR, HQ, SI, SA, SR, SQ, true_and, and_true, or_true, true_or, if_true, if_false, not_true_eq_false, not_false_eq_true, ne_eq, and_self]
        refine ⟨a2, a3, PO_y a4 o3 hEe hE (by rw [hz]; rfl), a5, a6, LO_same a7 a6.1 hx htt, ⟨v1, v2, v3, v4⟩, ⟨u1, u2, u3, fun t ht => ?_, u5⟩, a10.up, a11, a12, a13.up⟩
        obtain ⟨z1, z2, z3, z4, z5, z6, z7, z8, z9, z10, z11, z12⟩ := u4 t ht
        by_cases htx : t = x
        · unfold upd
          simp only [if_pos htx]
          exact ⟨z1, z2, z3, z4, z5, z6, z7, trivial, by decide, trivial, trivial, z12⟩
        · unfold upd
          simp only [if_neg htx]
          exact ⟨z1, z2, z3, z4, z5, z6, z7, z8, z9, z10, z11, z12⟩
    · simp +decide only [e78_0, e78_1, e78_2, e78_5, e78_6, e78_7N, e78_7S, e78_10, e78_11, e78_14, e78_17, e78_18, e78_19, e78_20, e78_23, e78_24, e78_27, e78_29, e78_30, e78_31, e78_32, e78_35, e78_38, e78_40, e78_42N, e78_42S, e78_45, e78_46, e78_49, e78_50, e78_53, e78_54, e78_57, e78_58, e78_61, e78_62, e78_65, e78_66, e78_69, e78_71, e78_72, e78_75, e78_78, e78_80, e78_81, e78_82, e78_83, e78_86, e78_87, e78_88, e78_90, e78_91, e78_94, true_and, and_true, or_true, true_or, if_true, if_false, not_true_eq_false, not_false_eq_true, ne_eq, and_self, Option.toList_some, Option.toList_none, List.cons_append, List.nil_append, catS_0, catS_I, catS_L, catS_R, Option.map_some, Option.map_none, c_isIn, m_in, wide_toInt, c_isDay, m_isDay, m_isCourse, c_areParts, tI_m1000, tI_m20, tI_m14, tI_m13, tI_m12, tI_m11, tI_m4, tI_m3, tI_m2, tI_m1, tI_0, tI_1, tI_2, tI_3, tI_4, tI_5, tI_6, tI_7, tI_8, tI_9, tI_10, tI_11, tI_12, tI_14, tI_15, tI_16, tI_19, tI_20, tI_21, tI_30, tI_31, tI_32, tI_40, tI_60, tI_61, tI_80, tI_90, tI_97, tI_100, tI_101, tI_119, tI_120, tI_121, tI_126, tI_128, tI_255, tI_256, tI_500, tI_512, tI_600, tI_999, tI_1000, tI_3999, tI_4000, tI_4095, tI_4096, tI_99999, tI_100000, tL_0, tL_1, tL_2, tL_3, tL_4, tL_5, tL_7, tL_8, tL_9, tL_15, tL_19, tL_20, tL_32, tL_39, tL_48, tL_57, tL_60, tL_97, tL_100, tL_104, tL_126, tL_255, tL_3999, tL_4095, tL_99999, Option.some.injEq, Sum.inl.injEq, exists_eq_left', exists_eq', ltI, leI, ct, cp, cf, cc, e3, e4, hx0, hx1, hx, hp4, k3, k4, k5, k6, hB, w1, w5, w7, y4, j0, j1, j2, hD, hD', hF, hE0, hz, d1, N11 a1, II, AA, RR, QQ, IA, IR, IQ, AI, AR, AQ, RI, RA, RQ, QI, QA, QR, LI, LA, LR, LQ, NI, NA, NR, NQ, HI, HA, HR, HQ, SI, SA, SR, SQ, updS0]
      have mtA := fun {d : Nat} {Q : Option AV → St → Prop} {a : Int32} => m_isThing (d := d) (Q := Q) (σ := setI (setI (setI (setI σ 8 5 x 1) 8 6 x b) 3 2 q (nI ((X + 1) % E))) 8 7 x (b + gA σ 12 35 0 q)) (a := a) a1 u3 (by omega)
      have mfA := fun {d : Nat} {Q : Option AV → St → Prop} {b : Int32} => m_left (d := d) (Q := Q) (b := b) (σ := setI (setI (setI (setI σ 8 5 x 1) 8 6 x b) 3 2 q (nI ((X + 1) % E))) 8 7 x (b + gA σ 12 35 0 q)) a1 hp
      have mgA := fun {d : Nat} {Q : Option AV → St → Prop} => m_goes (d := d) (Q := Q) (σ := setI (setI (setI (setI σ 8 5 x 1) 8 6 x b) 3 2 q (nI ((X + 1) % E))) 8 7 x (b + gA σ 12 35 0 q)) (k := 1) (c := b) (X := X) (E := E) a1 (show x < 80 by omega) hp hq hw hl (by omega) hE hEe o4
      rcases j3 with j3 | j3 <;>
      · simp +decide only [e171_0, e171_1, e171_2, e171_5, e171_8, e171_9, e171_12, e171_15, e171_16, e171_17, e171_18, e171_21, e171_22, e171_23, e171_24, e171_27, e171_29, e171_30, e171_31, e171_34, e171_35, e171_36, e171_39, e171_40, e171_43, e171_44, e171_45, e171_46, e171_49, e171_50, e171_53, e171_54, e171_55, e171_56, e171_59, e171_60, e171_63, e171_64, e171_65, e171_66, e171_69, e171_70, e171_71, e171_74, e171_75, e171_76, e171_77, e171_80, e171_83, e171_85, e171_86, e171_87, e171_88, e171_89, e171_90, e171_93, e171_94, e171_97, e171_98, e171_99, false_and, true_and, and_true, or_true, true_or, if_true, if_false, not_true_eq_false, not_false_eq_true, ne_eq, and_self, Option.toList_some, Option.toList_none, List.cons_append, List.nil_append, catS_0, catS_I, catS_L, catS_R, Option.map_some, Option.map_none, c_isIn, m_in, wide_toInt, c_isDay, m_isDay, m_isCourse, c_areParts, tI_m1000, tI_m20, tI_m14, tI_m13, tI_m12, tI_m11, tI_m4, tI_m3, tI_m2, tI_m1, tI_0, tI_1, tI_2, tI_3, tI_4, tI_5, tI_6, tI_7, tI_8, tI_9, tI_10, tI_11, tI_12, tI_14, tI_15, tI_16, tI_19, tI_20, tI_21, tI_30, tI_31, tI_32, tI_40, tI_60, tI_61, tI_80, tI_90, tI_97, tI_100, tI_101, tI_119, tI_120, tI_121, tI_126, tI_128, tI_255, tI_256, tI_500, tI_512, tI_600, tI_999, tI_1000, tI_3999, tI_4000, tI_4095, tI_4096, tI_99999, tI_100000, tL_0, tL_1, tL_2, tL_3, tL_4, tL_5, tL_7, tL_8, tL_9, tL_15, tL_19, tL_20, tL_32, tL_39, tL_48, tL_57, tL_60, tL_97, tL_100, tL_104, tL_126, tL_255, tL_3999, tL_4095, tL_99999, Option.some.injEq, Sum.inl.injEq, exists_eq_left', exists_eq', ltI, leI, mtA, mfA, mgA, e3, e4, hx0, hx1, hx3, hB, hB', hw, j3, hD, hD', hF, hE0, hz, N12 a1, L12_39 a1, L12_40 a1, L12_45 a1, II, AA, RR, QQ, IA, IR, IQ, AI, AR, AQ, RI, RA, RQ, QI, QA, QR, LI, LA, LR, LQ, NI, NA, NR, NQ, HI, HA, HR, HQ, SI, SA, SR, SQ, updS0]
        refine ⟨a1, ?_⟩
        simp +decide only [II, AA, RR, QQ, IA, IR, IQ, AI, AR, AQ, RI, RA, RQ, QI, QA, QR, LI, LA, LR, LQ, NI, NA, NR, NQ, HI, HA, HR, HQ, SI, SA, SR, SQ, true_and, and_true, or_true, true_or, if_true, if_false, not_true_eq_false, not_false_eq_true, ne_eq, and_self]
        refine ⟨a2, a3, PO_y a4 o3 hEe hE rfl, a5, a6, LO_same a7 a6.1 hx htt, ⟨v1, v2, v3, v4⟩, ⟨u1, u2, u3, fun t ht => ?_, u5⟩, a10.up, a11, a12, a13.up⟩
        obtain ⟨z1, z2, z3, z4, z5, z6, z7, z8, z9, z10, z11, z12⟩ := u4 t ht
        by_cases htx : t = x
        · unfold upd
          simp only [if_pos htx]
          exact ⟨z1, z2, z3, z4, z5, z6, z7, trivial, by decide, trivial, trivial, z12⟩
        · unfold upd
          simp only [if_neg htx]
          exact ⟨z1, z2, z3, z4, z5, z6, z7, z8, z9, z10, z11, z12⟩
theorem T_answer {h0 n d : Nat} {σ : St} {a b : Int32} (h : Inv h0 n σ) (hn : n < 2 ^ 19) : PR h0 n (d + 3) 78 [some (vR (some (11, 0, 0))), some (vI a), some (vI b), none, none] 171 [some (vR (some (12, 0, 0))), some (vI a), some (vI b), none] σ := by
  by_cases hy : ∃ x p, x < gN σ 8 ∧ a = nI x ∧ (0 ≤ b.toInt ∧ b.toInt < 4000) ∧ (gA σ 12 39 0 x = 0 ∨ gA σ 12 39 0 x = 3) ∧ (gA σ 12 45 0 x).toInt ≤ b.toInt ∧ gA σ 12 40 0 x = nI p ∧ p < 12 ∧ ¬ (¬ gA σ 12 28 0 p = -4 ∧ (gA σ 12 28 0 p).toInt ≤ b.toInt)
  · obtain ⟨x, p, q1, rfl, q2, q3, q4, q5, q6, q7⟩ := hy
    exact T_answer_yes h hn q1 q2 q3 q4 q5 q6 q7
  · exact T_answer_no h fun x hx ha hB j3 hD p hw hp => Classical.byContradiction fun hF => hy ⟨x, p, hx, ha, hB, j3, hD, hw, hp, hF⟩
