section TED
variable {d x y : Nat} {b : Int32}
theorem m_pre {τ : St} (a1 : SH τ) (hx : x < 4) (hb : 0 ≤ b.toInt ∧ b.toInt < 4000) (hy : y ≤ 6) (h15 : gA τ 12 15 0 x = nI y) (hF : 0 < y → (gA τ 12 16 0 (6 * x + (y - 1))).toInt ≤ b.toInt) : ∀ Q, Rn (d + 40) Q (146, 0, [some (vR (some (12, 0, 0))), some (vI (nI x)), some (vI b), none, none, none], [], τ) = Rn (d + 39) (fun r σ' => Rn (d + 39 + 1) Q (146, 50, [some (vR (some (12, 0, 0))), some (vI (nI x)), some (vI b), some (vI (nI y)), none, none], r.toList ++ [], σ')) (144, 0, [some (vR (some (12, 0, 0))), none], [], τ) := by
  intro Q
  have e3 : (nI x).toInt = (x : Int) := nI_toInt (by omega)
  have e4 : (nI x).toNatClampNeg = x := nI_clamp (by omega)
  have x0 : (0 : Int) ≤ (x : Int) := by omega
  have x1 : (x : Int) < ((4 : Nat) : Int) := by omega
  have x2 : (x : Int) < 4 := by omega
  have x3 : (x : Int) ≤ 3 := by omega
  have hb' : b.toInt ≤ 3999 := by omega
  by_cases h0 : y = 0
  · subst h0
    simp +decide only [e146_0, e146_1, e146_4, e146_7, e146_8, e146_11, e146_14, e146_15, e146_16, e146_17, e146_20, e146_21, e146_22, e146_23, e146_24, e146_27, e146_28, e146_29, e146_32, e146_34, e146_35, e146_36, e146_37, e146_38, e146_39, e146_40, e146_41, e146_44, e146_45, e146_46, e146_47, e146_51, e146_52, e146_55, e146_56, e146_59, e146_62, e146_64, e146_65, e146_68, e146_69, e146_70, e146_71, e146_73, e146_76, e146_78, e146_79, e146_81, e146_82, e146_83, e146_84, e146_85, e146_87, e146_88, e146_91, e146_93, e146_94, e146_95, e146_96, e146_99, e146_101, e146_102, e146_105, e146_106, e146_107, e146_111, e146_113, e146_116, e146_117, e146_120, e146_122, e146_124, e146_125, e146_127, e146_128, e146_129, e146_132, e146_134, e146_135, e146_136, e146_137, e146_140, e146_142, e146_144, e146_145, e146_147, e146_148, e146_149, e146_152, e146_154, e146_155, e146_156, e146_157, e146_160, e146_162, e146_164, e146_165, e146_167, e146_168, e146_169, e146_172, e146_174, e146_175, e146_176, e146_177, e146_180, e146_182, e146_184, e146_185, e146_187, e146_188, e146_189, e146_192, e146_194, e146_195, e146_196, e146_199, e146_202, e146_203, e146_207, e146_208, e146_211, e146_214, e146_215, e146_218, e146_221, e146_223, e146_224, e146_226, e146_227, e146_228, e146_231, e146_233, e146_234, e146_235, e146_238, e146_241, e146_242, e146_245, e146_246, e146_247, e146_248, e146_249, e146_250, e146_251, e146_252, true_and, and_true, or_true, true_or, if_true, if_false, not_true_eq_false, not_false_eq_true, ne_eq, and_self, Option.toList_some, Option.toList_none, List.cons_append, List.nil_append, catS_0, catS_I, catS_L, catS_R, Option.map_some, Option.map_none, c_isIn, m_in, wide_toInt, c_isDay, m_isDay, m_isCourse, c_areParts, tI_m1000, tI_m20, tI_m14, tI_m13, tI_m12, tI_m11, tI_m4, tI_m3, tI_m2, tI_m1, tI_0, tI_1, tI_2, tI_3, tI_4, tI_5, tI_6, tI_7, tI_8, tI_9, tI_10, tI_11, tI_12, tI_14, tI_15, tI_16, tI_19, tI_20, tI_21, tI_30, tI_31, tI_32, tI_40, tI_60, tI_61, tI_80, tI_90, tI_97, tI_100, tI_101, tI_119, tI_120, tI_121, tI_126, tI_128, tI_255, tI_256, tI_500, tI_512, tI_600, tI_999, tI_1000, tI_3999, tI_4000, tI_4095, tI_4096, tI_99999, tI_100000, tL_0, tL_1, tL_2, tL_3, tL_4, tL_5, tL_7, tL_8, tL_9, tL_15, tL_19, tL_20, tL_32, tL_39, tL_48, tL_57, tL_60, tL_97, tL_100, tL_104, tL_126, tL_255, tL_3999, tL_4095, tL_99999, Option.some.injEq, Sum.inl.injEq, exists_eq_left', exists_eq', h15, hb, hb', e3, e4, x0, x1, x2, x3, show nI 0 ≤ 0 by decide, N12 a1, L12_15 a1]
  · have y1 : ¬ nI y ≤ 0 := nI_nle (by omega) (by omega)
    have g2 : 6 * nI x + nI y - 1 = nI (6 * x + (y - 1)) := by
      rw [lN6, pk_mul, nI_add, lN1, pk_sub (by omega)]
      congr 1
      omega
    have g3 : (nI (6 * x + (y - 1))).toInt = ((6 * x + (y - 1) : Nat) : Int) := nI_toInt (by omega)
    have g4 : (nI (6 * x + (y - 1))).toNatClampNeg = 6 * x + (y - 1) := nI_clamp (by omega)
    have g5 : (0 : Int) ≤ ((6 * x + (y - 1) : Nat) : Int) ∧ ((6 * x + (y - 1) : Nat) : Int) < ((24 : Nat) : Int) := by omega
    have hF' : gA τ 12 16 0 (6 * x + (y - 1)) ≤ b := by rw [leI]; exact hF (by omega)
    simp +decide only [e146_0, e146_1, e146_4, e146_7, e146_8, e146_11, e146_14, e146_15, e146_16, e146_17, e146_20, e146_21, e146_22, e146_23, e146_24, e146_27, e146_28, e146_29, e146_32, e146_34, e146_35, e146_36, e146_37, e146_38, e146_39, e146_40, e146_41, e146_44, e146_45, e146_46, e146_47, e146_51, e146_52, e146_55, e146_56, e146_59, e146_62, e146_64, e146_65, e146_68, e146_69, e146_70, e146_71, e146_73, e146_76, e146_78, e146_79, e146_81, e146_82, e146_83, e146_84, e146_85, e146_87, e146_88, e146_91, e146_93, e146_94, e146_95, e146_96, e146_99, e146_101, e146_102, e146_105, e146_106, e146_107, e146_111, e146_113, e146_116, e146_117, e146_120, e146_122, e146_124, e146_125, e146_127, e146_128, e146_129, e146_132, e146_134, e146_135, e146_136, e146_137, e146_140, e146_142, e146_144, e146_145, e146_147, e146_148, e146_149, e146_152, e146_154, e146_155, e146_156, e146_157, e146_160, e146_162, e146_164, e146_165, e146_167, e146_168, e146_169, e146_172, e146_174, e146_175, e146_176, e146_177, e146_180, e146_182, e146_184, e146_185, e146_187, e146_188, e146_189, e146_192, e146_194, e146_195, e146_196, e146_199, e146_202, e146_203, e146_207, e146_208, e146_211, e146_214, e146_215, e146_218, e146_221, e146_223, e146_224, e146_226, e146_227, e146_228, e146_231, e146_233, e146_234, e146_235, e146_238, e146_241, e146_242, e146_245, e146_246, e146_247, e146_248, e146_249, e146_250, e146_251, e146_252, true_and, and_true, or_true, true_or, if_true, if_false, not_true_eq_false, not_false_eq_true, ne_eq, and_self, Option.toList_some, Option.toList_none, List.cons_append, List.nil_append, catS_0, catS_I, catS_L, catS_R, Option.map_some, Option.map_none, c_isIn, m_in, wide_toInt, c_isDay, m_isDay, m_isCourse, c_areParts, tI_m1000, tI_m20, tI_m14, tI_m13, tI_m12, tI_m11, tI_m4, tI_m3, tI_m2, tI_m1, tI_0, tI_1, tI_2, tI_3, tI_4, tI_5, tI_6, tI_7, tI_8, tI_9, tI_10, tI_11, tI_12, tI_14, tI_15, tI_16, tI_19, tI_20, tI_21, tI_30, tI_31, tI_32, tI_40, tI_60, tI_61, tI_80, tI_90, tI_97, tI_100, tI_101, tI_119, tI_120, tI_121, tI_126, tI_128, tI_255, tI_256, tI_500, tI_512, tI_600, tI_999, tI_1000, tI_3999, tI_4000, tI_4095, tI_4096, tI_99999, tI_100000, tL_0, tL_1, tL_2, tL_3, tL_4, tL_5, tL_7, tL_8, tL_9, tL_15, tL_19, tL_20, tL_32, tL_39, tL_48, tL_57, tL_60, tL_97, tL_100, tL_104, tL_126, tL_255, tL_3999, tL_4095, tL_99999, Option.some.injEq, Sum.inl.injEq, exists_eq_left', exists_eq', h15, hb, hb', hF', e3, e4, x0, x1, x2, x3, y1, g2, g3, g4, g5, N12 a1, L12_15 a1, L12_16 a1]
end TED
/-- the reading fails, or the course is full: both say so -/
theorem ED_new {z x y : Nat} {q : Nat → Option Nat} {ec fr le : Nat → Int32} {nm ps sd sr en cd : Nat → Nat → Int32} {mem mfr mle mnm mps mrf mrt mrw : Nat → Int32} {fr' le' : Nat → Int32} {nm' ps' sd' sr' en' cd' : Nat → Nat → Int32} {mfr' mle' mnm' mps' mrf' mrt' mrw' : Nat → Int32} (h : ED (z + 1) (some z) q ec fr le nm ps sd sr en cd mem mfr mle mnm mps mrf mrt mrw) (hx : x < 4) (hy : y < 6) (hm : mem x = nI y) (o1 : ∀ i, i ≠ z → i < z → fr' i = fr i ∧ le' i = le i ∧ nm' i = nm i ∧ ps' i = ps i ∧ sd' i = sd i ∧ sr' i = sr i ∧ en' i = en i ∧ cd' i = cd i) (o2 : ∀ j, j ≠ 6 * x + y → mfr' j = mfr j ∧ mle' j = mle j) (o3 : ∀ j, ¬ (8 * (6 * x + y) ≤ j ∧ j < 8 * (6 * x + y) + 8) → mnm' j = mnm j ∧ mps' j = mps j ∧ mrf' j = mrf j ∧ mrt' j = mrt j) (o4 : ∀ j, ¬ (128 * (6 * x + y) ≤ j ∧ j < 128 * (6 * x + y) + 128) → mrw' j = mrw j) (hER : ER (fr' z) (le' z) (nm' z) (ps' z) (sd' z) (sr' z) (en' z) (cd' z) (mfr' (6 * x + y)) (mle' (6 * x + y)) (fun l => mnm' (8 * (6 * x + y) + l)) (fun l => mps' (8 * (6 * x + y) + l)) (fun l => mrf' (8 * (6 * x + y) + l)) (fun l => mrt' (8 * (6 * x + y) + l)) (fun k => mrw' (128 * (6 * x + y) + k))) : ED (z + 1 + 1) (some (z + 1)) (va_up q (6 * x + y) (some z)) (upd ec x (nI (y + 1))) fr' le' nm' ps' sd' sr' en' cd' (upd mem x (nI (y + 1))) mfr' mle' mnm' mps' mrf' mrt' mrw' := by
  obtain ⟨⟨z', e1, e2, e3⟩, e4⟩ := h
  have hz : z' = z := by cases e2; rfl
  subst hz
  refine ⟨⟨z' + 1, rfl, rfl, fun co yy hco hyy hmm => ?_⟩, fun co hco => ?_⟩
  · by_cases hsame : co = x ∧ yy = y
    · obtain ⟨rfl, rfl⟩ := hsame
      exact ⟨z', by omega, vaS, hER⟩
    · have hmm' : (yy : Int) < (mem co).toInt := by
        by_cases hcx : co = x
        · rw [hcx, updS0, nI_toInt (by omega)] at hmm
          rw [hcx, hm, nI_toInt (by omega)]
          have : yy ≠ y := fun w => hsame ⟨hcx, w⟩
          omega
        · rw [pk_un hcx] at hmm; exact hmm
      obtain ⟨i, i1, i2, i3⟩ := e3 co yy hco hyy hmm'
      obtain ⟨r1, r2, r3, r4, r5, r6, r7, r8⟩ := o1 i (by omega) i1
      have hne : 6 * co + yy ≠ 6 * x + y := by omega
      refine ⟨i, by omega, by rw [va_up_ne _ _ hne]; exact i2, ?_⟩
      rw [r1, r2, (o2 _ hne).1, (o2 _ hne).2]
      exact ER_ext i3 r3 r4 r5 r6 r7 r8 (fun l hl => (o3 _ (by omega)).1) (fun l hl => (o3 _ (by omega)).2.1) (fun l hl => (o3 _ (by omega)).2.2.1) (fun l hl => (o3 _ (by omega)).2.2.2) (fun k hk => o4 _ (by omega))
  · by_cases hcx : co = x
    · rw [hcx, updS0, updS0]; exact ⟨rfl, y + 1, by omega, rfl⟩
    · rw [pk_un hcx, pk_un hcx]; exact e4 co hco
theorem PU_q {np : Nat} {q qe qe' rt : Nat → Option Nat} {ems ems' : Nat → Int32} {cc cm : Int32} {pl bg co ed hb lf mpl med mbg mhb mlf : Nat → Int32} (h : PU np q qe rt ems cc cm pl bg co ed hb lf mpl med mbg mhb mlf) (hq : ∀ x y : Nat, x < 4 → y < 6 → (y : Int) < (ems x).toInt → qe' (6 * x + y) = qe (6 * x + y) ∧ (y : Int) < (ems' x).toInt) : PU np q qe' rt ems' cc cm pl bg co ed hb lf mpl med mbg mhb mlf := by
  obtain ⟨h1, h2, h3, h4⟩ := h
  refine ⟨h1, h2, h3, fun p hp => ?_⟩
  obtain ⟨r1, r2, r3, r4, r5, r6, r7, x, y, r8, r9, r10, r11, r12, r13, r14⟩ := h4 p hp
  obtain ⟨s1, s2⟩ := hq x y r8 r9 r13
  exact ⟨r1, r2, r3, r4, r5, r6, r7, x, y, r8, r9, r10, r11, r12, s2, r14.trans s1.symm⟩
theorem T_ed_y {h0 n d x y z N p : Nat} {σ ρ1 : St} {b : Int32} {L : List Ent} (h : Inv h0 n σ) (hx : x < 4) (hB : 0 ≤ b.toInt ∧ b.toInt < 4000) (hy : y < 6) (hmy : gA σ 12 15 0 x = nI y) (hcx : gA σ 11 2 0 x = nI y) (z1 : gN σ 0 = z + 1) (z2 : gR σ 11 4 0 = some z) (n1 : N ≤ 120) (n3 : gI σ 12 1 0 = nI N) (n4 : ∀ j, j < N → gA σ 7 0 0 j = gA σ 12 0 0 j ∧ 32 ≤ (gA σ 12 0 0 j).toInt ∧ (gA σ 12 0 0 j).toInt ≤ 126) (hFm : 0 < y → (gA σ 12 16 0 (6 * x + (y - 1))).toInt ≤ b.toInt) (cl : ∀ {D : Nat} {Q : Option AV → St → Prop} {l2 : Option AV}, Rn (D + 2) Q (117, 0, [some (vR (some (11, 0, 0))), some (vI (nI x)), l2], [], σ) = Q (some (vI (if 0 < y then gA σ 12 16 0 (6 * x + (y - 1)) else 0))) σ) (hF1 : (if 0 < y then gA σ 12 16 0 (6 * x + (y - 1)) else 0) ≤ b) (rc : ∀ Q, Rn (d + 39) Q (47, 0, [some (vR (some (7, 0, 0))), some (vR (some (0, 0, z))), none], [], σ) = Q (some (vI 1)) ρ1) (F1 : FA z σ ρ1) (i12 : gI ρ1 12 1 0 = nI N) (hC : CE z (gA σ 12 0 0) N p L ρ1) (hE : edP (gA σ 12 0 0) N (7 + 1) 0 [] = .inr L) : Rn (d + 40) (fun r σ1 => ∃ v, r = some (vI v) ∧ Rn (d + 40) (fun r' σ2 => r' = some (vI v) ∧ Inv h0 (n + 1) σ2) (146, 0, [some (vR (some (12, 0, 0))), some (vI (nI x)), some (vI b), none, none, none], [], σ1)) (67, 0, [some (vR (some (11, 0, 0))), some (vI (nI x)), some (vI b), none, none], [], σ) := by
  have a1 := h.1
  have a8 := h.2.2.2.2.2.2.2.1
  have a12 := h.2.2.2.2.2.2.2.2.2.2.2.1
  have a13 := h.2.2.2.2.2.2.2.2.2.2.2.2
  have hz0 : z < gN σ 0 := by omega
  have hB' : b.toInt ≤ 3999 := by omega
  have e3 : (nI x).toInt = (x : Int) := nI_toInt (by omega)
  have e4 : (nI x).toNatClampNeg = x := nI_clamp (by omega)
  have x0 : (0 : Int) ≤ (x : Int) := by omega
  have x1 : (x : Int) < ((4 : Nat) : Int) := by omega
  have x2 : (x : Int) < 4 := by omega
  have x3 : (x : Int) ≤ 3 := by omega
  have b1 := FA_SH F1 a1
  have c11 : gA ρ1 11 2 0 x = nI y := by rw [F1.1 11 2 (by decide) (by decide)]; exact hcx
  have r4 : gR ρ1 11 4 0 = some z := by rw [F1.2.2.2.1]; exact z2
  have nz : gN ρ1 0 = z + 1 := by rw [F1.2.2.2.2.2.2.1]; exact z1
  have hz1 : z < gN ρ1 0 := by omega
  have y1 : nI y < 6 := nI_lt (b := 6) hy (by omega)
  have g2 : nI x * 6 + nI y = nI (6 * x + y) := by
    rw [lN6, pk_mul, nI_add]
    congr 1
    omega
  have g2' : 6 * nI x + nI y = nI (6 * x + y) := by rw [lN6, pk_mul, nI_add]
  have g3 : (nI (6 * x + y)).toInt = ((6 * x + y : Nat) : Int) := nI_toInt (by omega)
  have g4 : (nI (6 * x + y)).toNatClampNeg = 6 * x + y := nI_clamp (by omega)
  have g5 : (0 : Int) ≤ ((6 * x + y : Nat) : Int) ∧ ((6 * x + y : Nat) : Int) < ((24 : Nat) : Int) := by omega
  generalize hτ2 : setA (setQ (setI (setI ρ1 7 1 0 0) 0 0 z b) 11 1 0 (va_up (gQ ρ1 11 1 0) (6 * x + y) (some z))) 11 2 0 (upd (gA ρ1 11 2 0) x (nI (y + 1))) = τ2
  have s2 : SH τ2 := by rw [← hτ2]; exact b1
  have cN := fun {D : Nat} {Q : Option AV → St → Prop} {l1 l2 l3 : Option AV} {v : Int32} => c_newE (l1 := l1) (l2 := l2) (l3 := l3) (v := v) s2 D Q
  have hN := NEW_nw s2
  have tA : ∀ c k, c ≠ 0 → ¬ (c = 11 ∧ k = 2) → gA τ2 c k = gA ρ1 c k := by
    intro c k hc hk
    rw [← hτ2, AA, if_neg hk]
    rfl
  have tI : ∀ c k, c ≠ 0 → ¬ (c = 7 ∧ k = 1) → gI τ2 c k = gI ρ1 c k := by
    intro c k hc hk
    rw [← hτ2, IA, IQ, II, if_neg (fun w => hc w.1), II, if_neg hk]
  have t71 : gI τ2 7 1 0 = 0 := by rw [← hτ2]; simp +decide only [II, AA, RR, QQ, IA, IR, IQ, AI, AR, AQ, RI, RA, RQ, QI, QA, QR, LI, LA, LR, LQ, NI, NA, NR, NQ, HI, HA, HR, HQ, SI, SA, SR, SQ, true_and, and_true, or_true, true_or, if_true, if_false, not_true_eq_false, not_false_eq_true, ne_eq, and_self]; exact updS0
  have tQ : gQ τ2 11 1 0 = va_up (gQ σ 11 1 0) (6 * x + y) (some z) := by rw [← hτ2]; simp +decide only [II, AA, RR, QQ, IA, IR, IQ, AI, AR, AQ, RI, RA, RQ, QI, QA, QR, LI, LA, LR, LQ, NI, NA, NR, NQ, HI, HA, HR, HQ, SI, SA, SR, SQ, true_and, and_true, or_true, true_or, if_true, if_false, not_true_eq_false, not_false_eq_true, ne_eq, and_self]; rw [F1.2.2.2.2.1]
  have t112 : gA τ2 11 2 0 = upd (gA σ 11 2 0) x (nI (y + 1)) := by rw [← hτ2]; simp +decide only [II, AA, RR, QQ, IA, IR, IQ, AI, AR, AQ, RI, RA, RQ, QI, QA, QR, LI, LA, LR, LQ, NI, NA, NR, NQ, HI, HA, HR, HQ, SI, SA, SR, SQ, true_and, and_true, or_true, true_or, if_true, if_false, not_true_eq_false, not_false_eq_true, ne_eq, and_self]; rw [F1.1 11 2 (by decide) (by decide)]
  have tN : gN τ2 0 = z + 1 := by rw [← hτ2]; exact nz
  have tH : gH τ2 = gH σ := by rw [← hτ2]; exact F1.2.2.2.2.2.2.2.1
  have tS : gS τ2 = gS σ := by rw [← hτ2]; exact F1.2.2.2.2.2.2.2.2
  have t0A : ∀ k i, gA τ2 0 k i = gA ρ1 0 k i := by intro k i; rw [← hτ2, AA, if_neg (fun w => absurd w.1 (by decide))]; rfl
  have t0I : ∀ k i, i ≠ z → gI τ2 0 k i = gI ρ1 0 k i := by intro k i hi; rw [← hτ2, IA, IQ, gI_oi hi, II, if_neg (fun w => absurd w.1 (by decide))]
  have t0z : gI τ2 0 0 z = b := by rw [← hτ2]; simp +decide only [II, AA, RR, QQ, IA, IR, IQ, AI, AR, AQ, RI, RA, RQ, QI, QA, QR, LI, LA, LR, LQ, NI, NA, NR, NQ, HI, HA, HR, HQ, SI, SA, SR, SQ, true_and, and_true, or_true, true_or, if_true, if_false, not_true_eq_false, not_false_eq_true, ne_eq, and_self]; exact updS0
  have t01 : gI τ2 0 1 z = gI ρ1 0 1 z := by rw [← hτ2]; simp +decide only [II, AA, RR, QQ, IA, IR, IQ, AI, AR, AQ, RI, RA, RQ, QI, QA, QR, LI, LA, LR, LQ, NI, NA, NR, NQ, HI, HA, HR, HQ, SI, SA, SR, SQ, true_and, and_true, or_true, true_or, if_true, if_false, not_true_eq_false, not_false_eq_true, ne_eq, and_self]
  have fy2 : FY ρ1 τ2 := by
    refine ⟨fun c k hc hp => tA c k hc (fun w => by rw [w.1, w.2] at hp; cases hp), fun c k hc hp => tI c k hc (fun w => by rw [w.1, w.2] at hp; cases hp), ?_, ?_, ?_⟩
    · rw [← hτ2]; simp +decide only [II, AA, RR, QQ, IA, IR, IQ, AI, AR, AQ, RI, RA, RQ, QI, QA, QR, LI, LA, LR, LQ, NI, NA, NR, NQ, HI, HA, HR, HQ, SI, SA, SR, SQ, true_and, and_true, or_true, true_or, if_true, if_false, not_true_eq_false, not_false_eq_true, ne_eq, and_self]
    · rw [← hτ2]; exact ⟨rfl, rfl⟩
    · rw [← hτ2]; exact ⟨rfl, rfl, rfl⟩
  obtain ⟨N1, N2, N3, N4, N5', N6', N7', N8, N9⟩ := hN
  generalize hτ3 : nwE τ2 = τ3 at *
  have A3 : ∀ k, k ≠ 2 → gA τ3 12 k = gA ρ1 12 k := fun k _ => by rw [(N2 12 k (by decide)).1, tA 12 k (by decide) (fun w => absurd w.1 (by decide))]
  have A3σ : ∀ k, ¬ (4 ≤ k ∧ k ≤ 8) → k ≠ 13 → k ≠ 2 → gA τ3 12 k = gA σ 12 k := fun k h1 h2 h3 => by rw [A3 k h3, F1.1 12 k (by decide) (by unfold PX0; rw [decide_eq_false_iff_not]; omega)]
  have i31 : gI τ3 12 1 0 = nI N := by rw [(N2 12 1 (by decide)).2.1, tI 12 1 (by decide) (fun w => absurd w.1 (by decide))]; exact i12
  obtain ⟨m1, m2, m3, m4⟩ := ME_0 (c := gA σ 12 0 0) (n := N) N1 n1 i31 (fun j hj => by rw [A3σ 0 (by omega) (by decide) (by decide)]) (fun j hj => (n4 j hj).2)
  have hx2 := m_edL 7 0 [] _ (by omega) m1 m2
  rw [hE] at hx2
  obtain ⟨ρ2, p', g2f, hM, r2⟩ := hx2
  have rm : ∀ Q, Rn (d + 39) Q (144, 0, [some (vR (some (12, 0, 0))), none], [], τ3) = Q none ρ2 := fun Q => (m4 (d + 32) Q).trans (r2 (d + 32) Q)
  have mp := m_pre (d := d) (τ := τ3) (y := y) N1 hx hB (by omega) (by rw [A3σ 15 (by omega) (by decide) (by decide)]; exact hmy) (by rw [A3σ 16 (by omega) (by decide) (by decide)]; exact hFm)
  have fr3 : frB PMl RMe τ3 ρ2 := frB_t m3 g2f
  have b3 : SH ρ2 := SH_frB fr3 N1
  have w1 := hM.1.2.2.2.2.2.1
  obtain ⟨hMT, q10, q9, q11, qt, qg, qR⟩ := hM
  have R2 : ∀ k, ¬ (4 ≤ k ∧ k ≤ 8) → k ≠ 13 → k ≠ 2 → gA ρ2 12 k = gA σ 12 k := fun k h1 h2 h3 => by rw [fr3.2.2.2.2.2.2.1 12 k (by unfold PMl; rw [decide_eq_false_iff_not]; omega), A3σ k h1 h2 h3]
  have htot : totL L ≤ 120 := by have := hMT.2.2.2.2.2.2.2; omega
  have y6 : ¬ nI y = 6 := fun w => by rw [lN6, nI_eq (by omega) (by decide)] at w; omega
  -- the copying
  generalize hρ4 : setA (setA (setI ρ2 12 1 0 0) 12 16 0 (upd (gA ρ2 12 16 0) (6 * x + y) b)) 12 17 0 (upd (gA ρ2 12 17 0) (6 * x + y) (nI (bitsL L))) = ρ4
  have s4 : SH ρ4 := by rw [← hρ4]; exact b3
  have f4 : frB P12 P12 ρ2 ρ4 := by rw [← hρ4]; exact frB_t (frB_t (frB_I (by decide)) (frB_A (by decide))) (frB_A (by decide))
  have A4 : ∀ k, k ≠ 16 → k ≠ 17 → gA ρ4 12 k = gA ρ2 12 k := fun k h1 h2 => by rw [← hρ4, AA, if_neg (fun w => h2 w.2), AA, if_neg (fun w => h1 w.2), AI]
  have A416 : gA ρ4 12 16 0 = upd (gA σ 12 16 0) (6 * x + y) b := by rw [← hρ4]; simp +decide only [II, AA, RR, QQ, IA, IR, IQ, AI, AR, AQ, RI, RA, RQ, QI, QA, QR, LI, LA, LR, LQ, NI, NA, NR, NQ, HI, HA, HR, HQ, SI, SA, SR, SQ, true_and, and_true, or_true, true_or, if_true, if_false, not_true_eq_false, not_false_eq_true, ne_eq, and_self]; rw [R2 16 (by omega) (by decide) (by decide)]
  have A417 : gA ρ4 12 17 0 = upd (gA σ 12 17 0) (6 * x + y) (nI (bitsL L)) := by rw [← hρ4]; simp +decide only [II, AA, RR, QQ, IA, IR, IQ, AI, AR, AQ, RI, RA, RQ, QI, QA, QR, LI, LA, LR, LQ, NI, NA, NR, NQ, HI, HA, HR, HQ, SI, SA, SR, SQ, true_and, and_true, or_true, true_or, if_true, if_false, not_true_eq_false, not_false_eq_true, ne_eq, and_self]; rw [R2 17 (by omega) (by decide) (by decide)]
  have I49 : gI ρ4 12 9 0 = nI (totL L) := by rw [← hρ4]; simp +decide only [II, AA, RR, QQ, IA, IR, IQ, AI, AR, AQ, RI, RA, RQ, QI, QA, QR, LI, LA, LR, LQ, NI, NA, NR, NQ, HI, HA, HR, HQ, SI, SA, SR, SQ, true_and, and_true, or_true, true_or, if_true, if_false, not_true_eq_false, not_false_eq_true, ne_eq, and_self]; exact q9
  have I41 : gI ρ4 12 1 0 = 0 := by rw [← hρ4]; simp +decide only [II, AA, RR, QQ, IA, IR, IQ, AI, AR, AQ, RI, RA, RQ, QI, QA, QR, LI, LA, LR, LQ, NI, NA, NR, NQ, HI, HA, HR, HQ, SI, SA, SR, SQ, true_and, and_true, or_true, true_or, if_true, if_false, not_true_eq_false, not_false_eq_true, ne_eq, and_self]; exact updS0
  obtain ⟨ρ5, c1, c2, c3, c4, c5, c6⟩ := m_cp1 (X := 6 * x + y) (l1 := some (vI (nI x))) (l2 := some (vI b)) (l3 := some (vI (nI y))) (o18 := gA ρ4 12 18 0) (o19 := gA ρ4 12 19 0) (o20 := gA ρ4 12 20 0) (o21 := gA ρ4 12 21 0) (by omega) 8 0 ρ4 (by omega) s4 (by rw [cpF_0]) (by rw [cpF_0]) (by rw [cpF_0]) (by rw [cpF_0])
  have s5 : SH ρ5 := SH_frB c1 s4
  obtain ⟨ρ6, v6, k1, k2, k3⟩ := m_cp2 (X := 6 * x + y) (l1 := some (vI (nI x))) (l2 := some (vI b)) (l3 := some (vI (nI y))) (o22 := gA ρ5 12 22 0) (T := totL L) (by omega) htot (totL L) 0 ρ5 (by omega) s5 (by rw [c1.2.2.2.2.2.2.2 12 9 (by decide)]; exact I49) (by rw [cpF_0])
  have s6 : SH ρ6 := SH_frB k1 s5
  have A6 : ∀ k, ¬ (18 ≤ k ∧ k ≤ 22) → gA ρ6 12 k = gA ρ4 12 k := fun k hk => by rw [k1.2.2.2.2.2.2.1 12 k (by unfold PC2; rw [decide_eq_false_iff_not]; omega), c1.2.2.2.2.2.2.1 12 k (by unfold PC1; rw [decide_eq_false_iff_not]; omega)]
  have A615 : gA ρ6 12 15 0 x = nI y := by rw [A6 15 (by omega), A4 15 (by decide) (by decide), R2 15 (by omega) (by decide) (by decide)]; exact hmy
  -- the last state
  generalize hρ7 : setA ρ6 12 15 0 (upd (gA ρ6 12 15 0) x (nI (y + 1))) = ρ7
  have s7 : SH ρ7 := by rw [← hρ7]; exact s6
  have f37 : frB P12 P12 τ3 ρ7 := by
    rw [← hρ7]
    exact frB_t (frB_w fr3 (P12_w (fun c k hh => by unfold PMl at hh; rw [decide_eq_true_iff] at hh; exact hh.1)) (P12_w (fun c k hh => by unfold RMe at hh; rw [decide_eq_true_iff] at hh; exact hh.1))) (frB_t f4 (frB_t (frB_w c1 (P12_w (fun c k hh => by unfold PC1 at hh; rw [decide_eq_true_iff] at hh; exact hh.1)) (fun _ _ _ => rfl)) (frB_t (frB_w k1 (P12_w (fun c k hh => by unfold PC2 at hh; rw [decide_eq_true_iff] at hh; exact hh.1)) (fun _ _ _ => rfl)) (frB_A (by decide)))))
  have A7 : ∀ k, k ≠ 15 → gA ρ7 12 k = gA ρ6 12 k := fun k hk => by rw [← hρ7, AA, if_neg (fun w => hk w.2)]
  have A715 : gA ρ7 12 15 0 = upd (gA σ 12 15 0) x (nI (y + 1)) := by rw [← hρ7]; simp +decide only [II, AA, RR, QQ, IA, IR, IQ, AI, AR, AQ, RI, RA, RQ, QI, QA, QR, LI, LA, LR, LQ, NI, NA, NR, NQ, HI, HA, HR, HQ, SI, SA, SR, SQ, true_and, and_true, or_true, true_or, if_true, if_false, not_true_eq_false, not_false_eq_true, ne_eq, and_self]; rw [A6 15 (by omega), A4 15 (by decide) (by decide), R2 15 (by omega) (by decide) (by decide)]
  have A716 : gA ρ7 12 16 0 = upd (gA σ 12 16 0) (6 * x + y) b := by rw [A7 16 (by decide), A6 16 (by omega)]; exact A416
  have A717 : gA ρ7 12 17 0 = upd (gA σ 12 17 0) (6 * x + y) (nI (bitsL L)) := by rw [A7 17 (by decide), A6 17 (by omega)]; exact A417
  have A718 : gA ρ7 12 18 0 = cpF (gA ρ2 12 4 0) (gA σ 12 18 0) (8 * (6 * x + y)) 8 := by rw [A7 18 (by decide), k1.2.2.2.2.2.2.1 12 18 (by decide), c2, A4 4 (by decide) (by decide), A4 18 (by decide) (by decide), R2 18 (by omega) (by decide) (by decide)]
  have A719 : gA ρ7 12 19 0 = cpF (gA ρ2 12 5 0) (gA σ 12 19 0) (8 * (6 * x + y)) 8 := by rw [A7 19 (by decide), k1.2.2.2.2.2.2.1 12 19 (by decide), c3, A4 5 (by decide) (by decide), A4 19 (by decide) (by decide), R2 19 (by omega) (by decide) (by decide)]
  have A720 : gA ρ7 12 20 0 = cpF (gA ρ2 12 6 0) (gA σ 12 20 0) (8 * (6 * x + y)) 8 := by rw [A7 20 (by decide), k1.2.2.2.2.2.2.1 12 20 (by decide), c4, A4 6 (by decide) (by decide), A4 20 (by decide) (by decide), R2 20 (by omega) (by decide) (by decide)]
  have A721 : gA ρ7 12 21 0 = cpF (gA ρ2 12 7 0) (gA σ 12 21 0) (8 * (6 * x + y)) 8 := by rw [A7 21 (by decide), k1.2.2.2.2.2.2.1 12 21 (by decide), c5, A4 7 (by decide) (by decide), A4 21 (by decide) (by decide), R2 21 (by omega) (by decide) (by decide)]
  have A722 : gA ρ7 12 22 0 = cpF (gA ρ2 12 8 0) (gA σ 12 22 0) (128 * (6 * x + y)) (totL L) := by rw [A7 22 (by decide), k2, c1.2.2.2.2.2.2.1 12 8 (by decide), c1.2.2.2.2.2.2.1 12 22 (by decide), A4 8 (by decide) (by decide), A4 22 (by decide) (by decide), R2 22 (by omega) (by decide) (by decide)]
  obtain ⟨F7R, F7Q, F7L, F7N, F7H, F7S, F7A, F7I⟩ := f37
  have P0A : ∀ k i, i ≠ z + 1 → gA ρ7 0 k i = gA ρ1 0 k i := fun k i hi => by rw [F7A 0 k (by unfold P12; rw [decide_eq_false_iff_not]; omega), (N3 k i (by rw [tN]; exact hi)).1, t0A]
  have P0I : ∀ k i, i ≠ z + 1 → gI ρ7 0 k i = gI τ2 0 k i := fun k i hi => by rw [F7I 0 k (by unfold P12; rw [decide_eq_false_iff_not]; omega), (N3 k i (by rw [tN]; exact hi)).2]
  have fyσ : FY σ ρ7 := by
    refine FY_t (FY_A F1) (FY_t fy2 (FY_t (FY_N (τ := τ3) (by rw [← hτ3]; exact NEW_nw s2)) (FY_t (FY_A (z := 0) (FA_M fr3)) ?_)))
    refine FY_t (τ := ρ4) ?_ (FY_t (FY_B c1 ?_ (fun _ _ _ => rfl)) (FY_t (FY_B k1 ?_ (fun _ _ _ => rfl)) ?_))
    · rw [← hρ4]
      refine FY_t (FY_A (z := 0) (FA_I (Or.inl ⟨by decide, by decide⟩))) (FY_t (FY_B (P := PX) (R := RN) (frB_A (by decide)) (fun _ _ h => h) (fun _ _ _ => rfl)) (FY_B (P := PX) (R := RN) (frB_A (by decide)) (fun _ _ h => h) (fun _ _ _ => rfl)))
    · intro c k hp
      unfold PX at hp
      unfold PC1
      rw [decide_eq_false_iff_not] at *
      omega
    · intro c k hp
      unfold PX at hp
      unfold PC2
      rw [decide_eq_false_iff_not] at *
      omega
    · rw [← hρ7]
      exact FY_B (P := PX) (R := RN) (frB_A (by decide)) (fun _ _ h => h) (fun _ _ _ => rfl)
  obtain ⟨Y1, Y2, ⟨Y3, Y4, Y5, Y6⟩, ⟨Y7, Y8⟩, Y9, Y10, Y11⟩ := fyσ
  obtain ⟨ce1, ce2, ce3, ce4, ce5, ce6, ce7, ce8, ce9, ce10, ce11, ce12, ce13, ce14⟩ := hC
  have Q7 : gQ ρ7 11 1 0 = va_up (gQ σ 11 1 0) (6 * x + y) (some z) := by rw [F7Q, (N2 11 1 (by decide)).2.2]; exact tQ
  have fin : Inv h0 (n + 1) ρ7 := by
    refine Inv_X h s7 Y1 Y2 Y3 Y4 Y5 Y6 Y7 Y8 Y9 Y10 Y11 ?_ ?_ ?_ ?_ ?_
    · rw [F7H, F7S, N8, N9, tH, tS]
      exact ⟨by have := a13.1; omega, by have := a13.2; omega⟩
    · rw [F7I 7 1 (by decide), (N2 7 1 (by decide)).2.1]; exact t71
    · rw [← hρ7, IA, k1.2.2.2.2.2.2.2 12 1 (by decide), c1.2.2.2.2.2.2.2 12 1 (by decide)]; exact I41
    · rw [Q7, A715]
      refine PU_q a8 (fun xx yy hxx hyy hm => ?_)
      have hne : 6 * xx + yy ≠ 6 * x + y := fun w => by
        have w1 : xx = x := by omega
        have w2 : yy = y := by omega
        rw [w1, w2, hmy, nI_toInt (by omega)] at hm
        omega
      refine ⟨va_up_ne _ _ hne, ?_⟩
      by_cases hxe : xx = x
      · rw [hxe, updS0, nI_toInt (by omega)]
        rw [hxe, hmy, nI_toInt (by omega)] at hm
        omega
      · rw [pk_un hxe]; exact hm
    · rw [Q7, A715, F7N, N7' 0, if_pos rfl, tN, F7R, N6', tN, F7A 11 2 (by decide), (N2 11 2 (by decide)).1, t112, A716, A717]
      rw [z1, z2] at a12
      refine ED_new a12 hx hy hmy (fun i hi hlt => ?_) (fun j hj => ⟨pk_un hj, pk_un hj⟩) (fun j hj => ?_) (fun j hj => ?_) ?_
      · have hne : i ≠ z + 1 := by omega
        obtain ⟨fa1, fa2, fa3, -⟩ := F1
        rw [P0I 0 i hne, P0I 1 i hne, P0A 2 i hne, P0A 3 i hne, P0A 4 i hne, P0A 5 i hne, P0A 6 i hne, P0A 7 i hne, t0I 0 i hi, t0I 1 i hi, (fa3 0 i hi).2, (fa3 1 i hi).2, (fa3 2 i hi).1, (fa3 3 i hi).1, (fa3 4 i hi).1, (fa3 5 i hi).1, (fa3 6 i hi).1, (fa3 7 i hi).1]
        exact ⟨rfl, rfl, rfl, rfl, rfl, rfl, rfl, rfl⟩
      · rw [A718, A719, A720, A721]
        unfold cpF
        rw [if_neg hj, if_neg hj, if_neg hj, if_neg hj]
        exact ⟨rfl, rfl, rfl, rfl⟩
      · rw [A722]
        unfold cpF
        rw [if_neg (by omega)]
      · have hne : z ≠ z + 1 := by omega
        rw [P0I 0 z hne, P0I 1 z hne, P0A 2 z hne, P0A 3 z hne, P0A 4 z hne, P0A 5 z hne, P0A 6 z hne, P0A 7 z hne, t0z, t01, ce9, updS0, updS0, A718, A719, A720, A721, A722]
        have cp8 : ∀ (f o : Nat → Int32) (m B l : Nat), l < m → cpF f o B m (B + l) = f l := fun f o m B l hl => by
          unfold cpF
          rw [if_pos (by omega), Nat.add_sub_cancel_left]
        exact ER_new hB ce12 (edP_td _ _ _ _ hE) htot ce13 ce14 qR (fun l hl => cp8 _ _ _ _ l hl) (fun l hl => cp8 _ _ _ _ l hl) (fun l hl => cp8 _ _ _ _ l hl) (fun l hl => cp8 _ _ _ _ l hl) (fun k hk => cp8 _ _ _ _ k hk)
  simp +decide only [e67_0, e67_1, e67_2, e67_5, e67_8, e67_9, e67_12, e67_15, e67_16, e67_17, e67_18, e67_21, e67_24, e67_25, e67_26, e67_27, e67_30, e67_31, e67_34, e67_37, e67_38, e67_39, e67_42, e67_43, e67_46, e67_47, e67_50, e67_52, e67_53, e67_56, e67_59, e67_60, e67_61, e67_62, e67_65, e67_66, e67_67, e67_69, e67_71, e67_73, e67_76, e67_78, e67_79, e67_80, e67_83, e67_84, e67_87, e67_88, e67_91, e67_92, e67_94, e67_95, e67_97, e67_98, e67_99, e67_102, e67_103, e67_104, e67_107, e67_108, e67_110, e67_111, e67_112, e67_114, e67_117, e67_118, e67_121, e67_124, e67_126, true_and, and_true, or_true, true_or, if_true, if_false, not_true_eq_false, not_false_eq_true, ne_eq, and_self, Option.toList_some, Option.toList_none, List.cons_append, List.nil_append, catS_0, catS_I, catS_L, catS_R, Option.map_some, Option.map_none, c_isIn, m_in, wide_toInt, c_isDay, m_isDay, m_isCourse, c_areParts, tI_m1000, tI_m20, tI_m14, tI_m13, tI_m12, tI_m11, tI_m4, tI_m3, tI_m2, tI_m1, tI_0, tI_1, tI_2, tI_3, tI_4, tI_5, tI_6, tI_7, tI_8, tI_9, tI_10, tI_11, tI_12, tI_14, tI_15, tI_16, tI_19, tI_20, tI_21, tI_30, tI_31, tI_32, tI_40, tI_60, tI_61, tI_80, tI_90, tI_97, tI_100, tI_101, tI_119, tI_120, tI_121, tI_126, tI_128, tI_255, tI_256, tI_500, tI_512, tI_600, tI_999, tI_1000, tI_3999, tI_4000, tI_4095, tI_4096, tI_99999, tI_100000, tL_0, tL_1, tL_2, tL_3, tL_4, tL_5, tL_7, tL_8, tL_9, tL_15, tL_19, tL_20, tL_32, tL_39, tL_48, tL_57, tL_60, tL_97, tL_100, tL_104, tL_126, tL_255, tL_3999, tL_4095, tL_99999, Option.some.injEq, Sum.inl.injEq, exists_eq_left', exists_eq', II, AA, RR, QQ, IA, IR, IQ, AI, AR, AQ, RI, RA, RQ, QI, QA, QR, LI, LA, LR, LQ, NI, NA, NR, NQ, HI, HA, HR, HQ, SI, SA, SR, SQ, cl, rc, hB, hF1, e3, e4, x0, x1, x2, x3, z2, r4, c11, y1, g2, g3, g4, g5, nI_1 y, hz0, hz1, R11_0 a1, R11_0 b1, N11 a1, N11 b1, N7 a1, N7 b1, L11_2 b1, L11_1 b1]
  rw [hτ2, cN]
  simp +decide only [Option.some.injEq, Sum.inl.injEq, exists_eq_left', exists_eq']
  rw [mp, rm]
  simp +decide only [e146_0, e146_1, e146_4, e146_7, e146_8, e146_11, e146_14, e146_15, e146_16, e146_17, e146_20, e146_21, e146_22, e146_23, e146_24, e146_27, e146_28, e146_29, e146_32, e146_34, e146_35, e146_36, e146_37, e146_38, e146_39, e146_40, e146_41, e146_44, e146_45, e146_46, e146_47, e146_50, e146_51, e146_52, e146_55, e146_56, e146_59, e146_62, e146_64, e146_65, e146_68, e146_69, e146_70, e146_71, e146_73, e146_76, e146_78, e146_79, e146_81, e146_82, e146_83, e146_84, e146_85, e146_87, e146_88, e146_91, e146_93, e146_94, e146_95, e146_96, e146_99, e146_101, e146_102, e146_105, e146_106, e146_107, e146_111, e146_113, e146_116, e146_117, e146_120, e146_122, e146_124, e146_125, e146_127, e146_128, e146_129, e146_132, e146_134, e146_135, e146_136, e146_137, e146_140, e146_142, e146_144, e146_145, e146_147, e146_148, e146_149, e146_152, e146_154, e146_155, e146_156, e146_157, e146_160, e146_162, e146_164, e146_165, e146_167, e146_168, e146_169, e146_172, e146_174, e146_175, e146_176, e146_177, e146_180, e146_182, e146_184, e146_185, e146_187, e146_188, e146_189, e146_192, e146_194, e146_195, e146_196, e146_199, e146_202, e146_203, e146_207, e146_208, e146_211, e146_214, e146_215, e146_218, e146_221, e146_223, e146_224, e146_226, e146_227, e146_228, e146_231, e146_233, e146_234, e146_235, e146_238, e146_241, e146_242, e146_245, e146_246, e146_247, e146_248, e146_249, e146_250, e146_251, e146_252, true_and, and_true, or_true, true_or, if_true, if_false, not_true_eq_false, not_false_eq_true, ne_eq, and_self, Option.toList_some, Option.toList_none, List.cons_append, List.nil_append, catS_0, catS_I, catS_L, catS_R, Option.map_some, Option.map_none, Option.some.injEq, Sum.inl.injEq, exists_eq_left', exists_eq', II, AA, RR, QQ, IA, IR, IQ, AI, AR, AQ, RI, RA, RQ, QI, QA, QR, LI, LA, LR, LQ, NI, NA, NR, NQ, HI, HA, HR, HQ, SI, SA, SR, SQ, w1, q10, y6, g2', g3, g4, g5, N12 b3, L12_16 b3, L12_17 b3]
  rw [hρ4]
  rw [nI_0] at c6 k3
  rw [c6]
  simp +decide only [e146_0, e146_1, e146_4, e146_7, e146_8, e146_11, e146_14, e146_15, e146_16, e146_17, e146_20, e146_21, e146_22, e146_23, e146_24, e146_27, e146_28, e146_29, e146_32, e146_34, e146_35, e146_36, e146_37, e146_38, e146_39, e146_40, e146_41, e146_44, e146_45, e146_46, e146_47, e146_50, e146_51, e146_52, e146_55, e146_56, e146_59, e146_62, e146_64, e146_65, e146_68, e146_69, e146_70, e146_71, e146_73, e146_76, e146_78, e146_79, e146_81, e146_82, e146_83, e146_84, e146_85, e146_87, e146_88, e146_91, e146_93, e146_94, e146_95, e146_96, e146_99, e146_101, e146_102, e146_105, e146_106, e146_107, e146_111, e146_113, e146_116, e146_117, e146_120, e146_122, e146_124, e146_125, e146_127, e146_128, e146_129, e146_132, e146_134, e146_135, e146_136, e146_137, e146_140, e146_142, e146_144, e146_145, e146_147, e146_148, e146_149, e146_152, e146_154, e146_155, e146_156, e146_157, e146_160, e146_162, e146_164, e146_165, e146_167, e146_168, e146_169, e146_172, e146_174, e146_175, e146_176, e146_177, e146_180, e146_182, e146_184, e146_185, e146_187, e146_188, e146_189, e146_192, e146_194, e146_195, e146_196, e146_199, e146_202, e146_203, e146_207, e146_208, e146_211, e146_214, e146_215, e146_218, e146_221, e146_223, e146_224, e146_226, e146_227, e146_228, e146_231, e146_233, e146_234, e146_235, e146_238, e146_241, e146_242, e146_245, e146_246, e146_247, e146_248, e146_249, e146_250, e146_251, e146_252, true_and, and_true, or_true, true_or, if_true, if_false, not_true_eq_false, not_false_eq_true, ne_eq, and_self, Option.toList_some, Option.toList_none, List.cons_append, List.nil_append, catS_0, catS_I, catS_L, catS_R, Option.map_some, Option.map_none]
  rw [k3]
  simp +decide only [e146_0, e146_1, e146_4, e146_7, e146_8, e146_11, e146_14, e146_15, e146_16, e146_17, e146_20, e146_21, e146_22, e146_23, e146_24, e146_27, e146_28, e146_29, e146_32, e146_34, e146_35, e146_36, e146_37, e146_38, e146_39, e146_40, e146_41, e146_44, e146_45, e146_46, e146_47, e146_50, e146_51, e146_52, e146_55, e146_56, e146_59, e146_62, e146_64, e146_65, e146_68, e146_69, e146_70, e146_71, e146_73, e146_76, e146_78, e146_79, e146_81, e146_82, e146_83, e146_84, e146_85, e146_87, e146_88, e146_91, e146_93, e146_94, e146_95, e146_96, e146_99, e146_101, e146_102, e146_105, e146_106, e146_107, e146_111, e146_113, e146_116, e146_117, e146_120, e146_122, e146_124, e146_125, e146_127, e146_128, e146_129, e146_132, e146_134, e146_135, e146_136, e146_137, e146_140, e146_142, e146_144, e146_145, e146_147, e146_148, e146_149, e146_152, e146_154, e146_155, e146_156, e146_157, e146_160, e146_162, e146_164, e146_165, e146_167, e146_168, e146_169, e146_172, e146_174, e146_175, e146_176, e146_177, e146_180, e146_182, e146_184, e146_185, e146_187, e146_188, e146_189, e146_192, e146_194, e146_195, e146_196, e146_199, e146_202, e146_203, e146_207, e146_208, e146_211, e146_214, e146_215, e146_218, e146_221, e146_223, e146_224, e146_226, e146_227, e146_228, e146_231, e146_233, e146_234, e146_235, e146_238, e146_241, e146_242, e146_245, e146_246, e146_247, e146_248, e146_249, e146_250, e146_251, e146_252, true_and, and_true, or_true, true_or, if_true, if_false, not_true_eq_false, not_false_eq_true, ne_eq, and_self, Option.toList_some, Option.toList_none, List.cons_append, List.nil_append, catS_0, catS_I, catS_L, catS_R, Option.map_some, Option.map_none, Option.some.injEq, Sum.inl.injEq, exists_eq_left', exists_eq', II, AA, RR, QQ, IA, IR, IQ, AI, AR, AQ, RI, RA, RQ, QI, QA, QR, LI, LA, LR, LQ, NI, NA, NR, NQ, HI, HA, HR, HQ, SI, SA, SR, SQ, A615, nI_1 y, e3, e4, x0, x1, N12 s6, L12_15 s6]
  rw [hρ7]
  exact fin
theorem T_edition {h0 n d : Nat} {σ : St} {a b : Int32} (h : Inv h0 n σ) : PR h0 n (d + 40) 67 [some (vR (some (11, 0, 0))), some (vI a), some (vI b), none, none] 146 [some (vR (some (12, 0, 0))), some (vI a), some (vI b), none, none, none] σ := by
  have hI := h.up
  have h' := h
  obtain ⟨a1, a2, a3, a4, a5, a6, a7, a8, a9, a10, a11, a12, a13⟩ := h'
  have a12' := a12
  obtain ⟨⟨z, z1, z2, z3⟩, z4⟩ := a12
  obtain ⟨N, n1, n2, n3, n4⟩ := a2
  have hz0 : z < gN σ 0 := by omega
  unfold PR
  by_cases hA : 0 ≤ a.toInt ∧ a.toInt < 4
  · obtain ⟨x, hx, rfl, e4⟩ := nI_ex (n := 4) hA
    have e3 : (nI x).toInt = (x : Int) := nI_toInt (by omega)
    have x0 : (0 : Int) ≤ (x : Int) := by omega
    have x1 : (x : Int) < ((4 : Nat) : Int) := by omega
    have x2 : (x : Int) < 4 := by omega
    have x3 : (x : Int) ≤ 3 := by omega
    by_cases hB : 0 ≤ b.toInt ∧ b.toInt < 4000
    · have hB' : b.toInt ≤ 3999 := by omega
      obtain ⟨y, hy, hmy⟩ := (z4 x hx).2
      have cl := fun {D : Nat} {Q : Option AV → St → Prop} {l2 : Option AV} => c_latest (D := D) (Q := Q) (l2 := l2) (x := x) (y := y) (z := z) a1 hx hy hmy (fun co hco => (z4 co hco).1) z1 (fun hy0 => by
        obtain ⟨i, i1, i2, i3⟩ := z3 x (y - 1) hx (by omega) (by rw [hmy, nI_toInt (by omega)]; omega)
        exact ⟨i, i1, i2, i3.1⟩)
      by_cases hF : b.toInt < (if 0 < y then gA σ 12 16 0 (6 * x + (y - 1)) else 0).toInt
      · have hF1 : ¬ (if 0 < y then gA σ 12 16 0 (6 * x + (y - 1)) else 0) ≤ b := by rw [leI]; omega
        have hy0 : 0 < y := by
          apply Nat.pos_of_ne_zero
          intro w
          rw [w, if_neg (by omega)] at hF
          have : (0 : Int32).toInt = 0 := by decide
          omega
        simp only [if_pos hy0] at hF1 cl hF
        have y1 : ¬ nI y ≤ 0 := nI_nle (by omega) (by omega)
        have g2 : 6 * nI x + nI y - 1 = nI (6 * x + (y - 1)) := by
          rw [lN6, pk_mul, nI_add, lN1, pk_sub (by omega)]
          congr 1
          omega
        have g3 : (nI (6 * x + (y - 1))).toInt = ((6 * x + (y - 1) : Nat) : Int) := nI_toInt (by omega)
        have g4 : (nI (6 * x + (y - 1))).toNatClampNeg = 6 * x + (y - 1) := nI_clamp (by omega)
        have g5 : (0 : Int) ≤ ((6 * x + (y - 1) : Nat) : Int) ∧ ((6 * x + (y - 1) : Nat) : Int) < ((24 : Nat) : Int) := by omega
        simp +decide only [e67_0, e67_1, e67_2, e67_5, e67_8, e67_9, e67_12, e67_15, e67_16, e67_17, e67_18, e67_21, e67_24, e67_25, e67_26, e67_27, e67_30, e67_31, e67_34, e67_37, e67_38, e67_39, e67_42, e67_43, e67_46, e67_47, e67_50, e67_52, e67_53, e67_56, e67_59, e67_60, e67_61, e67_62, e67_65, e67_66, e67_67, e67_69, e67_71, e67_73, e67_76, e67_78, e67_79, e67_80, e67_83, e67_84, e67_87, e67_88, e67_91, e67_92, e67_94, e67_95, e67_97, e67_98, e67_99, e67_102, e67_103, e67_104, e67_107, e67_108, e67_110, e67_111, e67_112, e67_113, e67_114, e67_117, e67_118, e67_121, e67_124, e67_126, true_and, and_true, or_true, true_or, if_true, if_false, not_true_eq_false, not_false_eq_true, ne_eq, and_self, Option.toList_some, Option.toList_none, List.cons_append, List.nil_append, catS_0, catS_I, catS_L, catS_R, Option.map_some, Option.map_none, c_isIn, m_in, wide_toInt, c_isDay, m_isDay, m_isCourse, c_areParts, tI_m1000, tI_m20, tI_m14, tI_m13, tI_m12, tI_m11, tI_m4, tI_m3, tI_m2, tI_m1, tI_0, tI_1, tI_2, tI_3, tI_4, tI_5, tI_6, tI_7, tI_8, tI_9, tI_10, tI_11, tI_12, tI_14, tI_15, tI_16, tI_19, tI_20, tI_21, tI_30, tI_31, tI_32, tI_40, tI_60, tI_61, tI_80, tI_90, tI_97, tI_100, tI_101, tI_119, tI_120, tI_121, tI_126, tI_128, tI_255, tI_256, tI_500, tI_512, tI_600, tI_999, tI_1000, tI_3999, tI_4000, tI_4095, tI_4096, tI_99999, tI_100000, tL_0, tL_1, tL_2, tL_3, tL_4, tL_5, tL_7, tL_8, tL_9, tL_15, tL_19, tL_20, tL_32, tL_39, tL_48, tL_57, tL_60, tL_97, tL_100, tL_104, tL_126, tL_255, tL_3999, tL_4095, tL_99999, Option.some.injEq, Sum.inl.injEq, exists_eq_left', exists_eq', cl, hB, hF1, e3, e4, x0, x1, x2, x3, N11 a1]
        simp +decide only [e146_0, e146_1, e146_4, e146_7, e146_8, e146_11, e146_14, e146_15, e146_16, e146_17, e146_20, e146_21, e146_22, e146_23, e146_24, e146_27, e146_28, e146_29, e146_32, e146_34, e146_35, e146_36, e146_37, e146_38, e146_39, e146_40, e146_41, e146_44, e146_45, e146_46, e146_47, e146_50, e146_51, e146_52, e146_55, e146_56, e146_59, e146_62, e146_64, e146_65, e146_68, e146_69, e146_70, e146_71, e146_73, e146_76, e146_78, e146_79, e146_81, e146_82, e146_83, e146_84, e146_85, e146_87, e146_88, e146_91, e146_93, e146_94, e146_95, e146_96, e146_99, e146_101, e146_102, e146_105, e146_106, e146_107, e146_111, e146_113, e146_116, e146_117, e146_120, e146_122, e146_124, e146_125, e146_127, e146_128, e146_129, e146_132, e146_134, e146_135, e146_136, e146_137, e146_140, e146_142, e146_144, e146_145, e146_147, e146_148, e146_149, e146_152, e146_154, e146_155, e146_156, e146_157, e146_160, e146_162, e146_164, e146_165, e146_167, e146_168, e146_169, e146_172, e146_174, e146_175, e146_176, e146_177, e146_180, e146_182, e146_184, e146_185, e146_187, e146_188, e146_189, e146_192, e146_194, e146_195, e146_196, e146_199, e146_202, e146_203, e146_207, e146_208, e146_211, e146_214, e146_215, e146_218, e146_221, e146_223, e146_224, e146_226, e146_227, e146_228, e146_231, e146_233, e146_234, e146_235, e146_238, e146_241, e146_242, e146_245, e146_246, e146_247, e146_248, e146_249, e146_250, e146_251, e146_252, true_and, and_true, or_true, true_or, if_true, if_false, not_true_eq_false, not_false_eq_true, ne_eq, and_self, Option.toList_some, Option.toList_none, List.cons_append, List.nil_append, catS_0, catS_I, catS_L, catS_R, Option.map_some, Option.map_none, c_isIn, m_in, wide_toInt, c_isDay, m_isDay, m_isCourse, c_areParts, tI_m1000, tI_m20, tI_m14, tI_m13, tI_m12, tI_m11, tI_m4, tI_m3, tI_m2, tI_m1, tI_0, tI_1, tI_2, tI_3, tI_4, tI_5, tI_6, tI_7, tI_8, tI_9, tI_10, tI_11, tI_12, tI_14, tI_15, tI_16, tI_19, tI_20, tI_21, tI_30, tI_31, tI_32, tI_40, tI_60, tI_61, tI_80, tI_90, tI_97, tI_100, tI_101, tI_119, tI_120, tI_121, tI_126, tI_128, tI_255, tI_256, tI_500, tI_512, tI_600, tI_999, tI_1000, tI_3999, tI_4000, tI_4095, tI_4096, tI_99999, tI_100000, tL_0, tL_1, tL_2, tL_3, tL_4, tL_5, tL_7, tL_8, tL_9, tL_15, tL_19, tL_20, tL_32, tL_39, tL_48, tL_57, tL_60, tL_97, tL_100, tL_104, tL_126, tL_255, tL_3999, tL_4095, tL_99999, Option.some.injEq, Sum.inl.injEq, exists_eq_left', exists_eq', hmy, hB, hB', hF1, e3, e4, x0, x1, x2, x3, y1, g2, g3, g4, g5, N12 a1, L12_15 a1, L12_16 a1, hI]
      · have hF1 : (if 0 < y then gA σ 12 16 0 (6 * x + (y - 1)) else 0) ≤ b := by rw [leI]; omega
        have hFm : 0 < y → (gA σ 12 16 0 (6 * x + (y - 1))).toInt ≤ b.toInt := fun hy0 => by rw [if_pos hy0] at hF; omega
        have hcx : gA σ 11 2 0 x = nI y := (z4 x hx).1.trans hmy
        obtain ⟨C0, C1, C2⟩ := CE_0 (c := gA σ 12 0 0) a1 hz0 n1 n2 (fun j hj => (n4 j hj).1) (fun j hj => (n4 j hj).2)
        have hx1 := c_edL 7 0 [] (ciS σ z) (by omega) C0
        have bz' : ∀ (ρ1 : St), FA z σ ρ1 → FA z σ (setI ρ1 7 1 0 0) := fun ρ1 hf => FA_t hf (FA_I (Or.inl ⟨by decide, by decide⟩))
        cases hE : edP (gA σ 12 0 0) N (7 + 1) 0 [] with
        | inl q =>
          rw [hE] at hx1
          obtain ⟨ρ1, f1, g1, r1⟩ := hx1
          have rc : ∀ Q, Rn (d + 39) Q (47, 0, [some (vR (some (7, 0, 0))), some (vR (some (0, 0, z))), none], [], σ) = Q (some (vI 0)) ρ1 := fun Q => (C2 (d + 19) Q).trans (r1 (d + 19) Q)
          have F1 : FA z σ ρ1 := FA_t C1 (FA_Z f1)
          have F2 := bz' ρ1 F1
          have b1 := FA_SH F1 a1
          have b2 := FA_SH F2 a1
          have b0 := SH_frB f1.1 C0.1
          have i1 : gI (setI ρ1 7 1 0 0) 12 1 0 = nI N := by
            simp +decide only [II, AA, RR, QQ, IA, IR, IQ, AI, AR, AQ, RI, RA, RQ, QI, QA, QR, LI, LA, LR, LQ, NI, NA, NR, NQ, HI, HA, HR, HQ, SI, SA, SR, SQ, true_and, and_true, or_true, true_or, if_true, if_false, not_true_eq_false, not_false_eq_true, ne_eq, and_self]
            rw [f1.1.2.2.2.2.2.2.2 12 1 (by decide)]
            unfold ciS
            simp +decide only [II, AA, RR, QQ, IA, IR, IQ, AI, AR, AQ, RI, RA, RQ, QI, QA, QR, LI, LA, LR, LQ, NI, NA, NR, NQ, HI, HA, HR, HQ, SI, SA, SR, SQ, true_and, and_true, or_true, true_or, if_true, if_false, not_true_eq_false, not_false_eq_true, ne_eq, and_self]
            exact n3
          obtain ⟨m1, m2, m3, m4⟩ := ME_0 (c := gA σ 12 0 0) (n := N) b2 n1 i1 (fun j hj => by rw [F2.1 12 0 (by decide) (by decide)]) (fun j hj => (n4 j hj).2)
          have hx2 := m_edL 7 0 [] _ (by omega) m1 m2
          rw [hE] at hx2
          obtain ⟨ρ2, g2, W2, r2⟩ := hx2
          have rm : ∀ Q, Rn (d + 39) Q (144, 0, [some (vR (some (12, 0, 0))), none], [], setI ρ1 7 1 0 0) = Q none ρ2 := fun Q => (m4 (d + 32) Q).trans (r2 (d + 32) Q)
          have F3 : FA z σ ρ2 := FA_t F2 (FA_t (FA_M m3) (FA_M g2))
          have F4 : FA z σ (setI ρ2 12 1 0 0) := FA_t F3 (FA_I (Or.inl ⟨by decide, by decide⟩))
          have b3 := FA_SH F3 a1
          have fin : Inv h0 (n + 1) (setI ρ2 12 1 0 0) := Inv_fail h z2 F4 (by
            simp +decide only [II, AA, RR, QQ, IA, IR, IQ, AI, AR, AQ, RI, RA, RQ, QI, QA, QR, LI, LA, LR, LQ, NI, NA, NR, NQ, HI, HA, HR, HQ, SI, SA, SR, SQ, true_and, and_true, or_true, true_or, if_true, if_false, not_true_eq_false, not_false_eq_true, ne_eq, and_self]
            rw [g2.2.2.2.2.2.2.2 7 1 (by decide), m3.2.2.2.2.2.2.2 7 1 (by decide)]
            simp +decide only [II, AA, RR, QQ, IA, IR, IQ, AI, AR, AQ, RI, RA, RQ, QI, QA, QR, LI, LA, LR, LQ, NI, NA, NR, NQ, HI, HA, HR, HQ, SI, SA, SR, SQ, true_and, and_true, or_true, true_or, if_true, if_false, not_true_eq_false, not_false_eq_true, ne_eq, and_self]
            exact updS0) (by simp +decide only [II, AA, RR, QQ, IA, IR, IQ, AI, AR, AQ, RI, RA, RQ, QI, QA, QR, LI, LA, LR, LQ, NI, NA, NR, NQ, HI, HA, HR, HQ, SI, SA, SR, SQ, true_and, and_true, or_true, true_or, if_true, if_false, not_true_eq_false, not_false_eq_true, ne_eq, and_self]; exact updS0)
          have mp := m_pre (d := d) (τ := setI ρ1 7 1 0 0) (y := y) b2 hx hB hy (by rw [F2.1 12 15 (by decide) (by decide)]; exact hmy) (by rw [F2.1 12 16 (by decide) (by decide)]; exact hFm)
          have w1 := W2.2.1
          have w2 := W2.2.2
          simp +decide only [e67_0, e67_1, e67_2, e67_5, e67_8, e67_9, e67_12, e67_15, e67_16, e67_17, e67_18, e67_21, e67_24, e67_25, e67_26, e67_27, e67_30, e67_31, e67_34, e67_37, e67_38, e67_39, e67_42, e67_43, e67_46, e67_47, e67_50, e67_52, e67_53, e67_56, e67_59, e67_60, e67_61, e67_62, e67_65, e67_66, e67_67, e67_69, e67_71, e67_73, e67_76, e67_78, e67_79, e67_80, e67_83, e67_84, e67_87, e67_88, e67_91, e67_92, e67_94, e67_95, e67_97, e67_98, e67_99, e67_102, e67_103, e67_104, e67_107, e67_108, e67_110, e67_111, e67_112, e67_113, e67_114, e67_117, e67_118, e67_121, e67_124, e67_126, true_and, and_true, or_true, true_or, if_true, if_false, not_true_eq_false, not_false_eq_true, ne_eq, and_self, Option.toList_some, Option.toList_none, List.cons_append, List.nil_append, catS_0, catS_I, catS_L, catS_R, Option.map_some, Option.map_none, c_isIn, m_in, wide_toInt, c_isDay, m_isDay, m_isCourse, c_areParts, tI_m1000, tI_m20, tI_m14, tI_m13, tI_m12, tI_m11, tI_m4, tI_m3, tI_m2, tI_m1, tI_0, tI_1, tI_2, tI_3, tI_4, tI_5, tI_6, tI_7, tI_8, tI_9, tI_10, tI_11, tI_12, tI_14, tI_15, tI_16, tI_19, tI_20, tI_21, tI_30, tI_31, tI_32, tI_40, tI_60, tI_61, tI_80, tI_90, tI_97, tI_100, tI_101, tI_119, tI_120, tI_121, tI_126, tI_128, tI_255, tI_256, tI_500, tI_512, tI_600, tI_999, tI_1000, tI_3999, tI_4000, tI_4095, tI_4096, tI_99999, tI_100000, tL_0, tL_1, tL_2, tL_3, tL_4, tL_5, tL_7, tL_8, tL_9, tL_15, tL_19, tL_20, tL_32, tL_39, tL_48, tL_57, tL_60, tL_97, tL_100, tL_104, tL_126, tL_255, tL_3999, tL_4095, tL_99999, Option.some.injEq, Sum.inl.injEq, exists_eq_left', exists_eq', II, AA, RR, QQ, IA, IR, IQ, AI, AR, AQ, RI, RA, RQ, QI, QA, QR, LI, LA, LR, LQ, NI, NA, NR, NQ, HI, HA, HR, HQ, SI, SA, SR, SQ, cl, rc, hB, hF1, e3, e4, x0, x1, x2, x3, z2, g1, R11_0 a1, R11_0 b1, N11 a1, N11 b1, N7 a1, N7 b1, hz0]
          rw [mp, rm]
          simp +decide only [e146_0, e146_1, e146_4, e146_7, e146_8, e146_11, e146_14, e146_15, e146_16, e146_17, e146_20, e146_21, e146_22, e146_23, e146_24, e146_27, e146_28, e146_29, e146_32, e146_34, e146_35, e146_36, e146_37, e146_38, e146_39, e146_40, e146_41, e146_44, e146_45, e146_46, e146_47, e146_50, e146_51, e146_52, e146_55, e146_56, e146_59, e146_62, e146_64, e146_65, e146_68, e146_69, e146_70, e146_71, e146_73, e146_76, e146_78, e146_79, e146_81, e146_82, e146_83, e146_84, e146_85, e146_87, e146_88, e146_91, e146_93, e146_94, e146_95, e146_96, e146_99, e146_101, e146_102, e146_105, e146_106, e146_107, e146_111, e146_113, e146_116, e146_117, e146_120, e146_122, e146_124, e146_125, e146_127, e146_128, e146_129, e146_132, e146_134, e146_135, e146_136, e146_137, e146_140, e146_142, e146_144, e146_145, e146_147, e146_148, e146_149, e146_152, e146_154, e146_155, e146_156, e146_157, e146_160, e146_162, e146_164, e146_165, e146_167, e146_168, e146_169, e146_172, e146_174, e146_175, e146_176, e146_177, e146_180, e146_182, e146_184, e146_185, e146_187, e146_188, e146_189, e146_192, e146_194, e146_195, e146_196, e146_199, e146_202, e146_203, e146_207, e146_208, e146_211, e146_214, e146_215, e146_218, e146_221, e146_223, e146_224, e146_226, e146_227, e146_228, e146_231, e146_233, e146_234, e146_235, e146_238, e146_241, e146_242, e146_245, e146_246, e146_247, e146_248, e146_249, e146_250, e146_251, e146_252, true_and, and_true, or_true, true_or, if_true, if_false, not_true_eq_false, not_false_eq_true, ne_eq, and_self, Option.toList_some, Option.toList_none, List.cons_append, List.nil_append, catS_0, catS_I, catS_L, catS_R, Option.map_some, Option.map_none, Option.some.injEq, Sum.inl.injEq, exists_eq_left', exists_eq', II, AA, RR, QQ, IA, IR, IQ, AI, AR, AQ, RI, RA, RQ, QI, QA, QR, LI, LA, LR, LQ, NI, NA, NR, NQ, HI, HA, HR, HQ, SI, SA, SR, SQ, w1, w2, N12 b3, fin]
        | inr L =>
          rw [hE] at hx1
          obtain ⟨ρ1, p, f1, hC, r1⟩ := hx1
          have rc : ∀ Q, Rn (d + 39) Q (47, 0, [some (vR (some (7, 0, 0))), some (vR (some (0, 0, z))), none], [], σ) = Q (some (vI 1)) ρ1 := fun Q => (C2 (d + 19) Q).trans (r1 (d + 19) Q)
          have F1 : FA z σ ρ1 := FA_t C1 (FA_Z f1)
          have F2 := bz' ρ1 F1
          have b1 := FA_SH F1 a1
          have b2 := FA_SH F2 a1
          have i12 : gI ρ1 12 1 0 = nI N := by
            rw [f1.1.2.2.2.2.2.2.2 12 1 (by decide)]
            unfold ciS
            simp +decide only [II, AA, RR, QQ, IA, IR, IQ, AI, AR, AQ, RI, RA, RQ, QI, QA, QR, LI, LA, LR, LQ, NI, NA, NR, NQ, HI, HA, HR, HQ, SI, SA, SR, SQ, true_and, and_true, or_true, true_or, if_true, if_false, not_true_eq_false, not_false_eq_true, ne_eq, and_self]
            exact n3
          have c11 : gA ρ1 11 2 0 x = nI y := by rw [F1.1 11 2 (by decide) (by decide)]; exact hcx
          by_cases hy6 : y = 6
          · have y6a : ¬ nI y < 6 := by rw [hy6]; decide
            have y6b : nI y = 6 := by rw [hy6]; rfl
            obtain ⟨m1, m2, m3, m4⟩ := ME_0 (c := gA σ 12 0 0) (n := N) b2 n1 (by simp +decide only [II, AA, RR, QQ, IA, IR, IQ, AI, AR, AQ, RI, RA, RQ, QI, QA, QR, LI, LA, LR, LQ, NI, NA, NR, NQ, HI, HA, HR, HQ, SI, SA, SR, SQ, true_and, and_true, or_true, true_or, if_true, if_false, not_true_eq_false, not_false_eq_true, ne_eq, and_self]; exact i12) (fun j hj => by rw [F2.1 12 0 (by decide) (by decide)]) (fun j hj => (n4 j hj).2)
            have hx2 := m_edL 7 0 [] _ (by omega) m1 m2
            rw [hE] at hx2
            obtain ⟨ρ2, p', g2, hM, r2⟩ := hx2
            have rm : ∀ Q, Rn (d + 39) Q (144, 0, [some (vR (some (12, 0, 0))), none], [], setI ρ1 7 1 0 0) = Q none ρ2 := fun Q => (m4 (d + 32) Q).trans (r2 (d + 32) Q)
            have F3 : FA z σ ρ2 := FA_t F2 (FA_t (FA_M m3) (FA_M g2))
            have F4 : FA z σ (setI ρ2 12 1 0 0) := FA_t F3 (FA_I (Or.inl ⟨by decide, by decide⟩))
            have b3 := FA_SH F3 a1
            have fin : Inv h0 (n + 1) (setI ρ2 12 1 0 0) := Inv_fail h z2 F4 (by
              simp +decide only [II, AA, RR, QQ, IA, IR, IQ, AI, AR, AQ, RI, RA, RQ, QI, QA, QR, LI, LA, LR, LQ, NI, NA, NR, NQ, HI, HA, HR, HQ, SI, SA, SR, SQ, true_and, and_true, or_true, true_or, if_true, if_false, not_true_eq_false, not_false_eq_true, ne_eq, and_self]
              rw [g2.2.2.2.2.2.2.2 7 1 (by decide), m3.2.2.2.2.2.2.2 7 1 (by decide)]
              simp +decide only [II, AA, RR, QQ, IA, IR, IQ, AI, AR, AQ, RI, RA, RQ, QI, QA, QR, LI, LA, LR, LQ, NI, NA, NR, NQ, HI, HA, HR, HQ, SI, SA, SR, SQ, true_and, and_true, or_true, true_or, if_true, if_false, not_true_eq_false, not_false_eq_true, ne_eq, and_self]
              exact updS0) (by simp +decide only [II, AA, RR, QQ, IA, IR, IQ, AI, AR, AQ, RI, RA, RQ, QI, QA, QR, LI, LA, LR, LQ, NI, NA, NR, NQ, HI, HA, HR, HQ, SI, SA, SR, SQ, true_and, and_true, or_true, true_or, if_true, if_false, not_true_eq_false, not_false_eq_true, ne_eq, and_self]; exact updS0)
            have mp := m_pre (d := d) (τ := setI ρ1 7 1 0 0) (y := y) b2 hx hB hy (by rw [F2.1 12 15 (by decide) (by decide)]; exact hmy) (by rw [F2.1 12 16 (by decide) (by decide)]; exact hFm)
            have w1 := hM.1.2.2.2.2.2.1
            simp +decide only [e67_0, e67_1, e67_2, e67_5, e67_8, e67_9, e67_12, e67_15, e67_16, e67_17, e67_18, e67_21, e67_24, e67_25, e67_26, e67_27, e67_30, e67_31, e67_34, e67_37, e67_38, e67_39, e67_42, e67_43, e67_46, e67_47, e67_50, e67_52, e67_53, e67_56, e67_59, e67_60, e67_61, e67_62, e67_65, e67_66, e67_67, e67_69, e67_71, e67_73, e67_76, e67_78, e67_79, e67_80, e67_83, e67_84, e67_87, e67_88, e67_91, e67_92, e67_94, e67_95, e67_97, e67_98, e67_99, e67_102, e67_103, e67_104, e67_107, e67_108, e67_110, e67_111, e67_112, e67_113, e67_114, e67_117, e67_118, e67_121, e67_124, e67_126, true_and, and_true, or_true, true_or, if_true, if_false, not_true_eq_false, not_false_eq_true, ne_eq, and_self, Option.toList_some, Option.toList_none, List.cons_append, List.nil_append, catS_0, catS_I, catS_L, catS_R, Option.map_some, Option.map_none, c_isIn, m_in, wide_toInt, c_isDay, m_isDay, m_isCourse, c_areParts, tI_m1000, tI_m20, tI_m14, tI_m13, tI_m12, tI_m11, tI_m4, tI_m3, tI_m2, tI_m1, tI_0, tI_1, tI_2, tI_3, tI_4, tI_5, tI_6, tI_7, tI_8, tI_9, tI_10, tI_11, tI_12, tI_14, tI_15, tI_16, tI_19, tI_20, tI_21, tI_30, tI_31, tI_32, tI_40, tI_60, tI_61, tI_80, tI_90, tI_97, tI_100, tI_101, tI_119, tI_120, tI_121, tI_126, tI_128, tI_255, tI_256, tI_500, tI_512, tI_600, tI_999, tI_1000, tI_3999, tI_4000, tI_4095, tI_4096, tI_99999, tI_100000, tL_0, tL_1, tL_2, tL_3, tL_4, tL_5, tL_7, tL_8, tL_9, tL_15, tL_19, tL_20, tL_32, tL_39, tL_48, tL_57, tL_60, tL_97, tL_100, tL_104, tL_126, tL_255, tL_3999, tL_4095, tL_99999, Option.some.injEq, Sum.inl.injEq, exists_eq_left', exists_eq', II, AA, RR, QQ, IA, IR, IQ, AI, AR, AQ, RI, RA, RQ, QI, QA, QR, LI, LA, LR, LQ, NI, NA, NR, NQ, HI, HA, HR, HQ, SI, SA, SR, SQ, cl, rc, hB, hF1, e3, e4, x0, x1, x2, x3, z2, c11, y6a, R11_0 a1, R11_0 b1, N11 a1, N11 b1, N7 a1, N7 b1, hz0, L11_2 b1]
            rw [mp, rm]
            simp +decide only [e146_0, e146_1, e146_4, e146_7, e146_8, e146_11, e146_14, e146_15, e146_16, e146_17, e146_20, e146_21, e146_22, e146_23, e146_24, e146_27, e146_28, e146_29, e146_32, e146_34, e146_35, e146_36, e146_37, e146_38, e146_39, e146_40, e146_41, e146_44, e146_45, e146_46, e146_47, e146_50, e146_51, e146_52, e146_55, e146_56, e146_59, e146_62, e146_64, e146_65, e146_68, e146_69, e146_70, e146_71, e146_73, e146_76, e146_78, e146_79, e146_81, e146_82, e146_83, e146_84, e146_85, e146_87, e146_88, e146_91, e146_93, e146_94, e146_95, e146_96, e146_99, e146_101, e146_102, e146_105, e146_106, e146_107, e146_111, e146_113, e146_116, e146_117, e146_120, e146_122, e146_124, e146_125, e146_127, e146_128, e146_129, e146_132, e146_134, e146_135, e146_136, e146_137, e146_140, e146_142, e146_144, e146_145, e146_147, e146_148, e146_149, e146_152, e146_154, e146_155, e146_156, e146_157, e146_160, e146_162, e146_164, e146_165, e146_167, e146_168, e146_169, e146_172, e146_174, e146_175, e146_176, e146_177, e146_180, e146_182, e146_184, e146_185, e146_187, e146_188, e146_189, e146_192, e146_194, e146_195, e146_196, e146_199, e146_202, e146_203, e146_207, e146_208, e146_211, e146_214, e146_215, e146_218, e146_221, e146_223, e146_224, e146_226, e146_227, e146_228, e146_231, e146_233, e146_234, e146_235, e146_238, e146_241, e146_242, e146_245, e146_246, e146_247, e146_248, e146_249, e146_250, e146_251, e146_252, true_and, and_true, or_true, true_or, if_true, if_false, not_true_eq_false, not_false_eq_true, ne_eq, and_self, Option.toList_some, Option.toList_none, List.cons_append, List.nil_append, catS_0, catS_I, catS_L, catS_R, Option.map_some, Option.map_none, Option.some.injEq, Sum.inl.injEq, exists_eq_left', exists_eq', II, AA, RR, QQ, IA, IR, IQ, AI, AR, AQ, RI, RA, RQ, QI, QA, QR, LI, LA, LR, LQ, NI, NA, NR, NQ, HI, HA, HR, HQ, SI, SA, SR, SQ, w1, y6b, N12 b3, fin]
          · have hy5 : y < 6 := by omega
            exact T_ed_y (d := d) h hx hB hy5 hmy hcx z1 z2 n1 n3 n4 hFm cl hF1 rc F1 i12 hC hE
    · have hB' : ¬ (0 ≤ b.toInt ∧ b.toInt ≤ 3999) := by omega
      simp +decide only [e67_0, e67_1, e67_2, e67_5, e67_8, e67_9, e67_12, e67_15, e67_16, e67_17, e67_18, e67_21, e67_24, e67_25, e67_26, e67_27, e67_30, e67_31, e67_34, e67_37, e67_38, e67_39, e67_42, e67_43, e67_46, e67_47, e67_50, e67_52, e67_53, e67_56, e67_59, e67_60, e67_61, e67_62, e67_65, e67_66, e67_67, e67_69, e67_71, e67_73, e67_76, e67_78, e67_79, e67_80, e67_83, e67_84, e67_87, e67_88, e67_91, e67_92, e67_94, e67_95, e67_97, e67_98, e67_99, e67_102, e67_103, e67_104, e67_107, e67_108, e67_110, e67_111, e67_112, e67_113, e67_114, e67_117, e67_118, e67_121, e67_124, e67_126, true_and, and_true, or_true, true_or, if_true, if_false, not_true_eq_false, not_false_eq_true, ne_eq, and_self, Option.toList_some, Option.toList_none, List.cons_append, List.nil_append, catS_0, catS_I, catS_L, catS_R, Option.map_some, Option.map_none, c_isIn, m_in, wide_toInt, c_isDay, m_isDay, m_isCourse, c_areParts, tI_m1000, tI_m20, tI_m14, tI_m13, tI_m12, tI_m11, tI_m4, tI_m3, tI_m2, tI_m1, tI_0, tI_1, tI_2, tI_3, tI_4, tI_5, tI_6, tI_7, tI_8, tI_9, tI_10, tI_11, tI_12, tI_14, tI_15, tI_16, tI_19, tI_20, tI_21, tI_30, tI_31, tI_32, tI_40, tI_60, tI_61, tI_80, tI_90, tI_97, tI_100, tI_101, tI_119, tI_120, tI_121, tI_126, tI_128, tI_255, tI_256, tI_500, tI_512, tI_600, tI_999, tI_1000, tI_3999, tI_4000, tI_4095, tI_4096, tI_99999, tI_100000, tL_0, tL_1, tL_2, tL_3, tL_4, tL_5, tL_7, tL_8, tL_9, tL_15, tL_19, tL_20, tL_32, tL_39, tL_48, tL_57, tL_60, tL_97, tL_100, tL_104, tL_126, tL_255, tL_3999, tL_4095, tL_99999, Option.some.injEq, Sum.inl.injEq, exists_eq_left', exists_eq', hB, e3, x0, x1, x2, x3, N11 a1]
      simp +decide only [e146_0, e146_1, e146_4, e146_7, e146_8, e146_11, e146_14, e146_15, e146_16, e146_17, e146_20, e146_21, e146_22, e146_23, e146_24, e146_27, e146_28, e146_29, e146_32, e146_34, e146_35, e146_36, e146_37, e146_38, e146_39, e146_40, e146_41, e146_44, e146_45, e146_46, e146_47, e146_50, e146_51, e146_52, e146_55, e146_56, e146_59, e146_62, e146_64, e146_65, e146_68, e146_69, e146_70, e146_71, e146_73, e146_76, e146_78, e146_79, e146_81, e146_82, e146_83, e146_84, e146_85, e146_87, e146_88, e146_91, e146_93, e146_94, e146_95, e146_96, e146_99, e146_101, e146_102, e146_105, e146_106, e146_107, e146_111, e146_113, e146_116, e146_117, e146_120, e146_122, e146_124, e146_125, e146_127, e146_128, e146_129, e146_132, e146_134, e146_135, e146_136, e146_137, e146_140, e146_142, e146_144, e146_145, e146_147, e146_148, e146_149, e146_152, e146_154, e146_155, e146_156, e146_157, e146_160, e146_162, e146_164, e146_165, e146_167, e146_168, e146_169, e146_172, e146_174, e146_175, e146_176, e146_177, e146_180, e146_182, e146_184, e146_185, e146_187, e146_188, e146_189, e146_192, e146_194, e146_195, e146_196, e146_199, e146_202, e146_203, e146_207, e146_208, e146_211, e146_214, e146_215, e146_218, e146_221, e146_223, e146_224, e146_226, e146_227, e146_228, e146_231, e146_233, e146_234, e146_235, e146_238, e146_241, e146_242, e146_245, e146_246, e146_247, e146_248, e146_249, e146_250, e146_251, e146_252, true_and, and_true, or_true, true_or, if_true, if_false, not_true_eq_false, not_false_eq_true, ne_eq, and_self, Option.toList_some, Option.toList_none, List.cons_append, List.nil_append, catS_0, catS_I, catS_L, catS_R, Option.map_some, Option.map_none, c_isIn, m_in, wide_toInt, c_isDay, m_isDay, m_isCourse, c_areParts, tI_m1000, tI_m20, tI_m14, tI_m13, tI_m12, tI_m11, tI_m4, tI_m3, tI_m2, tI_m1, tI_0, tI_1, tI_2, tI_3, tI_4, tI_5, tI_6, tI_7, tI_8, tI_9, tI_10, tI_11, tI_12, tI_14, tI_15, tI_16, tI_19, tI_20, tI_21, tI_30, tI_31, tI_32, tI_40, tI_60, tI_61, tI_80, tI_90, tI_97, tI_100, tI_101, tI_119, tI_120, tI_121, tI_126, tI_128, tI_255, tI_256, tI_500, tI_512, tI_600, tI_999, tI_1000, tI_3999, tI_4000, tI_4095, tI_4096, tI_99999, tI_100000, tL_0, tL_1, tL_2, tL_3, tL_4, tL_5, tL_7, tL_8, tL_9, tL_15, tL_19, tL_20, tL_32, tL_39, tL_48, tL_57, tL_60, tL_97, tL_100, tL_104, tL_126, tL_255, tL_3999, tL_4095, tL_99999, Option.some.injEq, Sum.inl.injEq, exists_eq_left', exists_eq', hB', e3, x0, x1, x2, x3, N12 a1, hI]
  · have hA' : ¬ (0 ≤ a.toInt ∧ a.toInt ≤ 3) := by omega
    simp +decide only [e67_0, e67_1, e67_2, e67_5, e67_8, e67_9, e67_12, e67_15, e67_16, e67_17, e67_18, e67_21, e67_24, e67_25, e67_26, e67_27, e67_30, e67_31, e67_34, e67_37, e67_38, e67_39, e67_42, e67_43, e67_46, e67_47, e67_50, e67_52, e67_53, e67_56, e67_59, e67_60, e67_61, e67_62, e67_65, e67_66, e67_67, e67_69, e67_71, e67_73, e67_76, e67_78, e67_79, e67_80, e67_83, e67_84, e67_87, e67_88, e67_91, e67_92, e67_94, e67_95, e67_97, e67_98, e67_99, e67_102, e67_103, e67_104, e67_107, e67_108, e67_110, e67_111, e67_112, e67_113, e67_114, e67_117, e67_118, e67_121, e67_124, e67_126, true_and, and_true, or_true, true_or, if_true, if_false, not_true_eq_false, not_false_eq_true, ne_eq, and_self, Option.toList_some, Option.toList_none, List.cons_append, List.nil_append, catS_0, catS_I, catS_L, catS_R, Option.map_some, Option.map_none, c_isIn, m_in, wide_toInt, c_isDay, m_isDay, m_isCourse, c_areParts, tI_m1000, tI_m20, tI_m14, tI_m13, tI_m12, tI_m11, tI_m4, tI_m3, tI_m2, tI_m1, tI_0, tI_1, tI_2, tI_3, tI_4, tI_5, tI_6, tI_7, tI_8, tI_9, tI_10, tI_11, tI_12, tI_14, tI_15, tI_16, tI_19, tI_20, tI_21, tI_30, tI_31, tI_32, tI_40, tI_60, tI_61, tI_80, tI_90, tI_97, tI_100, tI_101, tI_119, tI_120, tI_121, tI_126, tI_128, tI_255, tI_256, tI_500, tI_512, tI_600, tI_999, tI_1000, tI_3999, tI_4000, tI_4095, tI_4096, tI_99999, tI_100000, tL_0, tL_1, tL_2, tL_3, tL_4, tL_5, tL_7, tL_8, tL_9, tL_15, tL_19, tL_20, tL_32, tL_39, tL_48, tL_57, tL_60, tL_97, tL_100, tL_104, tL_126, tL_255, tL_3999, tL_4095, tL_99999, Option.some.injEq, Sum.inl.injEq, exists_eq_left', exists_eq', hA, N11 a1]
    simp +decide only [e146_0, e146_1, e146_4, e146_7, e146_8, e146_11, e146_14, e146_15, e146_16, e146_17, e146_20, e146_21, e146_22, e146_23, e146_24, e146_27, e146_28, e146_29, e146_32, e146_34, e146_35, e146_36, e146_37, e146_38, e146_39, e146_40, e146_41, e146_44, e146_45, e146_46, e146_47, e146_50, e146_51, e146_52, e146_55, e146_56, e146_59, e146_62, e146_64, e146_65, e146_68, e146_69, e146_70, e146_71, e146_73, e146_76, e146_78, e146_79, e146_81, e146_82, e146_83, e146_84, e146_85, e146_87, e146_88, e146_91, e146_93, e146_94, e146_95, e146_96, e146_99, e146_101, e146_102, e146_105, e146_106, e146_107, e146_111, e146_113, e146_116, e146_117, e146_120, e146_122, e146_124, e146_125, e146_127, e146_128, e146_129, e146_132, e146_134, e146_135, e146_136, e146_137, e146_140, e146_142, e146_144, e146_145, e146_147, e146_148, e146_149, e146_152, e146_154, e146_155, e146_156, e146_157, e146_160, e146_162, e146_164, e146_165, e146_167, e146_168, e146_169, e146_172, e146_174, e146_175, e146_176, e146_177, e146_180, e146_182, e146_184, e146_185, e146_187, e146_188, e146_189, e146_192, e146_194, e146_195, e146_196, e146_199, e146_202, e146_203, e146_207, e146_208, e146_211, e146_214, e146_215, e146_218, e146_221, e146_223, e146_224, e146_226, e146_227, e146_228, e146_231, e146_233, e146_234, e146_235, e146_238, e146_241, e146_242, e146_245, e146_246, e146_247, e146_248, e146_249, e146_250, e146_251, e146_252, true_and, and_true, or_true, true_or, if_true, if_false, not_true_eq_false, not_false_eq_true, ne_eq, and_self, Option.toList_some, Option.toList_none, List.cons_append, List.nil_append, catS_0, catS_I, catS_L, catS_R, Option.map_some, Option.map_none, c_isIn, m_in, wide_toInt, c_isDay, m_isDay, m_isCourse, c_areParts, tI_m1000, tI_m20, tI_m14, tI_m13, tI_m12, tI_m11, tI_m4, tI_m3, tI_m2, tI_m1, tI_0, tI_1, tI_2, tI_3, tI_4, tI_5, tI_6, tI_7, tI_8, tI_9, tI_10, tI_11, tI_12, tI_14, tI_15, tI_16, tI_19, tI_20, tI_21, tI_30, tI_31, tI_32, tI_40, tI_60, tI_61, tI_80, tI_90, tI_97, tI_100, tI_101, tI_119, tI_120, tI_121, tI_126, tI_128, tI_255, tI_256, tI_500, tI_512, tI_600, tI_999, tI_1000, tI_3999, tI_4000, tI_4095, tI_4096, tI_99999, tI_100000, tL_0, tL_1, tL_2, tL_3, tL_4, tL_5, tL_7, tL_8, tL_9, tL_15, tL_19, tL_20, tL_32, tL_39, tL_48, tL_57, tL_60, tL_97, tL_100, tL_104, tL_126, tL_255, tL_3999, tL_4095, tL_99999, Option.some.injEq, Sum.inl.injEq, exists_eq_left', exists_eq', hA, hA', N12 a1, hI]
