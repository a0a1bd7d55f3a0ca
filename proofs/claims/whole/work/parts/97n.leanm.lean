def nxR (s i : Nat) : Nat := s ||| 2 ^ i
/-- an edition on the reference's side, and what the pupil has had marked -/
def EM (E b x N : Nat) (nm ps mf mt mw kd wh na md ma cd : Nat → Int32) (ρ : St) : Prop := SH ρ ∧ (E < 24 ∧ b < 256 ∧ x < 12 ∧ N ≤ 80) ∧ gA ρ 12 17 0 E = nI b ∧ gA ρ 12 25 0 x = nI E ∧ gI ρ 12 38 0 = nI N ∧ (gA ρ 12 39 0 = kd ∧ gA ρ 12 40 0 = wh ∧ gA ρ 12 41 0 = na ∧ gA ρ 12 50 0 = md ∧ gA ρ 12 49 0 = ma) ∧ (∀ t, t < N → 0 ≤ (na t).toInt ∧ (na t).toInt < 40) ∧ (∀ l, gA ρ 12 18 0 (8 * E + l) = nm l) ∧ (∀ l, gA ρ 12 19 0 (8 * E + l) = ps l) ∧ (∀ l, gA ρ 12 20 0 (8 * E + l) = mf l) ∧ (∀ l, gA ρ 12 21 0 (8 * E + l) = mt l) ∧ (∀ k, gA ρ 12 22 0 (128 * E + k) = mw k) ∧ (∀ on, on < 8 → b.testBit on = true → ∃ w : Nat, w < 40 ∧ nm on = nI w) ∧ ∀ l, l < 8 → b.testBit l = true → ∃ s e : Nat, s ≤ e ∧ e ≤ 120 ∧ mf l = nI s ∧ mt l = nI e ∧ CW b cd mw s e
def PMe (c k : Nat) : Bool := decide (c = 12 ∧ 31 ≤ k ∧ k ≤ 34)
theorem EM_fr {E b x N : Nat} {nm ps mf mt mw kd wh na md ma cd : Nat → Int32} {ρ ρ' : St} (h : frB PMe RN ρ ρ') (hE : EM E b x N nm ps mf mt mw kd wh na md ma cd ρ) : EM E b x N nm ps mf mt mw kd wh na md ma cd ρ' := by
  have hS := SH_frB h hE.1
  obtain ⟨h1, h2, h3, h4, h5, h6, h7, h8⟩ := h
  refine ⟨hS, ?_⟩
  rw [h8 12 38 (by decide), h7 12 17 (by decide), h7 12 25 (by decide), h7 12 39 (by decide), h7 12 40 (by decide), h7 12 41 (by decide), h7 12 50 (by decide), h7 12 49 (by decide), h7 12 18 (by decide), h7 12 19 (by decide), h7 12 20 (by decide), h7 12 21 (by decide), h7 12 22 (by decide)]
  exact hE.2
section LNM
variable {E b x N : Nat} {nm ps mf mt mw kd wh na md ma cd : Nat → Int32}
theorem m_fwL {S : Nat} {g' : Nat → Int32} (hS : S < 256) (hSb : ∀ l, S.testBit l = true → b.testBit l = true) : ∀ (n m : Nat) (ρ : St), m + n = 8 → EM E b x N nm ps mf mt mw kd wh na md ma cd ρ → (∀ w, w < 40 → gA ρ 12 31 0 w = if anyB (fun l' => S.testBit l' && decide (nm l' = nI w)) m = true then 100 else g' w) → ∃ ρ', frB PMe RN ρ ρ' ∧ gA ρ' 12 33 = gA ρ 12 33 ∧ gA ρ' 12 34 = gA ρ 12 34 ∧ (∀ w, w < 40 → gA ρ' 12 31 0 w = if anyB (fun l' => S.testBit l' && decide (nm l' = nI w)) 8 = true then 100 else g' w) ∧ ∀ D Q, Rn D Q (165, 10, [some (vR (some (12, 0, 0))), some (vI (nI x)), some (vI (nI S)), some (vI (nI m))], [], ρ) = Q none ρ' := by
  intro n
  induction n with
  | zero =>
    intro m ρ hm hE h1
    have hm : m = 8 := by omega
    subst hm
    refine ⟨ρ, frB_0, rfl, rfl, h1, fun D Q => ?_⟩
    rw [e165_10]
    simp +decide only [e165_0, e165_1, e165_2, e165_5, e165_8, e165_9, e165_11, e165_13, e165_16, e165_17, e165_18, e165_19, e165_20, e165_21, e165_22, e165_25, e165_26, e165_29, e165_30, e165_33, e165_35, e165_36, e165_39, e165_40, e165_41, e165_42, e165_43, e165_44, e165_45, e165_47, e165_48, e165_51, e165_54, true_and, and_true, or_true, true_or, if_true, if_false, not_true_eq_false, not_false_eq_true, ne_eq, and_self, show (8 : Int32) ≤ nI 8 by decide]
  | succ n ih =>
    intro m ρ hm hE h1
    have hE0 := hE
    obtain ⟨a1, ⟨i1, i2, i3, i4⟩, i5, i6, i7, i8, i9, i10, i11, i12, i13, i14, i15, i16⟩ := hE
    have y1 : ¬ (8 : Int32) ≤ nI m := nI_ge (b := 8) (by omega) (by omega)
    by_cases hb : S.testBit m = true
    · have t : nI S >>> (nI m &&& 31) &&& 1 = 1 := by rw [bitI (by omega) (by omega), hb]
      obtain ⟨w, w1, w2⟩ := i15 m (by omega) (hSb m hb)
      have gn := i10 m
      rw [w2] at gn
      have g2 : 8 * nI E + nI m = nI (8 * E + m) := by rw [lN8, pk_mul, nI_add]
      have g3 : (nI (8 * E + m)).toInt = ((8 * E + m : Nat) : Int) := nI_toInt (by omega)
      have g4 : (nI (8 * E + m)).toNatClampNeg = 8 * E + m := nI_clamp (by omega)
      have g5 : (0 : Int) ≤ ((8 * E + m : Nat) : Int) ∧ ((8 * E + m : Nat) : Int) < ((192 : Nat) : Int) := by omega
      have x2 : (nI x).toInt = (x : Int) := nI_toInt (by omega)
      have x3 : (0 : Int) ≤ (x : Int) := by omega
      have x4 : (x : Int) < ((12 : Nat) : Int) := by omega
      have x5 : (nI x).toNatClampNeg = x := nI_clamp (by omega)
      have v2 : (nI w).toInt = (w : Int) := nI_toInt (by omega)
      have v3 : (0 : Int) ≤ (w : Int) := by omega
      have v4 : (w : Int) < ((40 : Nat) : Int) := by omega
      have v5 : (nI w).toNatClampNeg = w := nI_clamp (by omega)
      obtain ⟨ρ', p1, p2, p3, p4, p5⟩ := ih (m + 1) (setA ρ 12 31 0 (upd (gA ρ 12 31 0) w 100)) (by omega) (EM_fr (frB_A (by decide)) hE0) (by
        simp +decide only [II, AA, RR, QQ, IA, IR, IQ, AI, AR, AQ, RI, RA, RQ, QI, QA, QR, LI, LA, LR, LQ, NI, NA, NR, NQ, HI, HA, HR, HQ, SI, SA, SR, SQ, true_and, and_true, or_true, true_or, if_true, if_false, not_true_eq_false, not_false_eq_true, ne_eq, and_self]
        intro z hz
        show _ = if (anyB (fun l' => S.testBit l' && decide (nm l' = nI z)) m || (S.testBit m && decide (nm m = nI z))) = true then 100 else g' z
        by_cases hzw : z = w
        · rw [hzw, updS0, if_pos (by rw [hb, decide_eq_true w2, Bool.and_true, Bool.or_true])]
        · rw [pk_un hzw, h1 z hz, w2, decide_eq_false (fun q => hzw (by rw [nI_eq (by omega) (by omega)] at q; exact q.symm)), Bool.and_false, Bool.or_false])
      refine ⟨ρ', frB_t (frB_A (by decide)) p1, by rw [p2]; simp +decide only [II, AA, RR, QQ, IA, IR, IQ, AI, AR, AQ, RI, RA, RQ, QI, QA, QR, LI, LA, LR, LQ, NI, NA, NR, NQ, HI, HA, HR, HQ, SI, SA, SR, SQ, true_and, and_true, or_true, true_or, if_true, if_false, not_true_eq_false, not_false_eq_true, ne_eq, and_self], by rw [p3]; simp +decide only [II, AA, RR, QQ, IA, IR, IQ, AI, AR, AQ, RI, RA, RQ, QI, QA, QR, LI, LA, LR, LQ, NI, NA, NR, NQ, HI, HA, HR, HQ, SI, SA, SR, SQ, true_and, and_true, or_true, true_or, if_true, if_false, not_true_eq_false, not_false_eq_true, ne_eq, and_self], p4, fun D Q => ?_⟩
      rw [← p5 D Q, e165_10, ← nI_1 m]
      simp +decide only [e165_0, e165_1, e165_2, e165_5, e165_8, e165_9, e165_11, e165_13, e165_16, e165_17, e165_18, e165_19, e165_20, e165_21, e165_22, e165_25, e165_26, e165_29, e165_30, e165_33, e165_35, e165_36, e165_39, e165_40, e165_41, e165_42, e165_43, e165_44, e165_45, e165_47, e165_48, e165_51, e165_54, true_and, and_true, or_true, true_or, if_true, if_false, not_true_eq_false, not_false_eq_true, ne_eq, and_self, Option.toList_some, Option.toList_none, List.cons_append, List.nil_append, catS_0, catS_I, catS_L, catS_R, Option.map_some, Option.map_none, Option.some.injEq, Sum.inl.injEq, exists_eq_left', exists_eq', II, AA, RR, QQ, IA, IR, IQ, AI, AR, AQ, RI, RA, RQ, QI, QA, QR, LI, LA, LR, LQ, NI, NA, NR, NQ, HI, HA, HR, HQ, SI, SA, SR, SQ, y1, t, i6, gn, g2, g3, g4, g5, x2, x3, x4, x5, v2, v3, v4, v5, N12 a1, L12_31 a1, L12_18 a1, L12_25 a1]
    · have hb' : S.testBit m = false := by cases h : S.testBit m with
        | false => rfl
        | true => exact absurd h hb
      have t : ¬ nI S >>> (nI m &&& 31) &&& 1 = 1 := by rw [bitI (by omega) (by omega)]; exact hb
      obtain ⟨ρ', p1, p2, p3, p4, p5⟩ := ih (m + 1) ρ (by omega) hE0 (by
        intro z hz
        show _ = if (anyB (fun l' => S.testBit l' && decide (nm l' = nI z)) m || (S.testBit m && decide (nm m = nI z))) = true then 100 else g' z
        rw [h1 z hz, hb', Bool.false_and, Bool.or_false])
      refine ⟨ρ', p1, p2, p3, p4, fun D Q => ?_⟩
      rw [← p5 D Q, e165_10, ← nI_1 m]
      simp +decide only [e165_0, e165_1, e165_2, e165_5, e165_8, e165_9, e165_11, e165_13, e165_16, e165_17, e165_18, e165_19, e165_20, e165_21, e165_22, e165_25, e165_26, e165_29, e165_30, e165_33, e165_35, e165_36, e165_39, e165_40, e165_41, e165_42, e165_43, e165_44, e165_45, e165_47, e165_48, e165_51, e165_54, true_and, and_true, or_true, true_or, if_true, if_false, not_true_eq_false, not_false_eq_true, ne_eq, and_self, Option.toList_some, Option.toList_none, List.cons_append, List.nil_append, catS_0, catS_I, catS_L, catS_R, Option.map_some, Option.map_none, Option.some.injEq, Sum.inl.injEq, exists_eq_left', exists_eq', y1, t]
theorem m_fw {S : Nat} {ρ : St} (hS : S < 256) (hSb : ∀ l, S.testBit l = true → b.testBit l = true) (hE : EM E b x N nm ps mf mt mw kd wh na md ma cd ρ) : ∃ ρ', frB PMe RN ρ ρ' ∧ gA ρ' 12 33 = gA ρ 12 33 ∧ gA ρ' 12 34 = gA ρ 12 34 ∧ (∀ on, on < 8 → b.testBit on = true → ∃ w, w < 40 ∧ gA ρ' 12 18 0 (8 * E + on) = nI w ∧ gA ρ' 12 31 0 w = BC (bE kd wh na md ma nm x N) (clS b nm S) on) ∧ ∀ D Q, Rn (D + 1) Q (165, 0, [some (vR (some (12, 0, 0))), some (vI (nI x)), some (vI (nI S)), none], [], ρ) = Q none ρ' := by
  have hE0 := hE
  obtain ⟨a1, ⟨i1, i2, i3, i4⟩, i5, i6, i7, ⟨k1, k2, k3, k4, k5⟩, i9, i10, i11, i12, i13, i14, i15, i16⟩ := hE
  obtain ⟨g', g1, g2⟩ := m_find (σ := ρ) (nI x) 3999 a1 i4 i7 (by rw [k3]; exact i9)
  rw [k1, k2, k3, k4, k5] at g1
  obtain ⟨ρ', p1, p2, p3, p4, p5⟩ := m_fwL (g' := g') hS hSb 8 0 (setA ρ 12 31 0 g') (by omega) (EM_fr (frB_A (by decide)) hE0) (fun w hw => by
    simp +decide only [II, AA, RR, QQ, IA, IR, IQ, AI, AR, AQ, RI, RA, RQ, QI, QA, QR, LI, LA, LR, LQ, NI, NA, NR, NQ, HI, HA, HR, HQ, SI, SA, SR, SQ, true_and, and_true, or_true, true_or, if_true, if_false, not_true_eq_false, not_false_eq_true, ne_eq, and_self]
    rfl)
  have hE' := EM_fr (frB_t (frB_A (by decide)) p1) hE0
  refine ⟨ρ', frB_t (frB_A (by decide)) p1, by rw [p2]; simp +decide only [II, AA, RR, QQ, IA, IR, IQ, AI, AR, AQ, RI, RA, RQ, QI, QA, QR, LI, LA, LR, LQ, NI, NA, NR, NQ, HI, HA, HR, HQ, SI, SA, SR, SQ, true_and, and_true, or_true, true_or, if_true, if_false, not_true_eq_false, not_false_eq_true, ne_eq, and_self], by rw [p3]; simp +decide only [II, AA, RR, QQ, IA, IR, IQ, AI, AR, AQ, RI, RA, RQ, QI, QA, QR, LI, LA, LR, LQ, NI, NA, NR, NQ, HI, HA, HR, HQ, SI, SA, SR, SQ, true_and, and_true, or_true, true_or, if_true, if_false, not_true_eq_false, not_false_eq_true, ne_eq, and_self], fun on h1 h2 => ?_, fun D Q => ?_⟩
  · obtain ⟨w, w1, w2⟩ := i15 on h1 h2
    refine ⟨w, w1, (hE'.2.2.2.2.2.2.2.1 on).trans w2, ?_⟩
    rw [p4 w w1]
    unfold BC clS
    rw [accB_tb, decide_eq_true h1, Bool.true_and, h2, Bool.true_and, w2]
    by_cases hc : anyB (fun l' => S.testBit l' && decide (nm l' = nI w)) 8 = true
    · rw [if_pos hc, if_pos hc]
    · rw [if_neg hc, if_neg hc]
      unfold bE
      rw [w2]
      exact g1 w w1
  · rw [nI_0] at p5
    simp +decide only [e165_0, e165_1, e165_2, e165_5, e165_8, e165_9, e165_11, e165_13, e165_16, e165_17, e165_18, e165_19, e165_20, e165_21, e165_22, e165_25, e165_26, e165_29, e165_30, e165_33, e165_35, e165_36, e165_39, e165_40, e165_41, e165_42, e165_43, e165_44, e165_45, e165_47, e165_48, e165_51, e165_54, true_and, and_true, or_true, true_or, if_true, if_false, not_true_eq_false, not_false_eq_true, ne_eq, and_self, Option.toList_some, Option.toList_none, List.cons_append, List.nil_append, catS_0, catS_I, catS_L, catS_R, Option.map_some, Option.map_none, Option.some.injEq, Sum.inl.injEq, exists_eq_left', exists_eq', g2, p5, N12 a1]
theorem nxR_lt {s i : Nat} (hs : s < 256) (hi : i < 8) : nxR s i < 256 := Nat.or_lt_two_pow (n := 8) hs (Nat.pow_lt_pow_right (by decide) hi)
theorem R_sub {B0 : Nat → Int32} : ∀ n s, Rch nxR (fun s i => opL b B0 ps mf mt mw (clS b nm s) i) n s → ∀ l, s.testBit l = true → b.testBit l = true := by
  intro n
  induction n with
  | zero =>
    intro s hs l hl
    have hs : s = 0 := hs
    rw [hs, Nat.zero_testBit] at hl
    cases hl
  | succ n ih =>
    intro s hs l hl
    obtain ⟨u, i, h1, h2, h3, h4⟩ := hs
    rw [h4] at hl
    unfold nxR at hl
    rw [Nat.testBit_or, Bool.or_eq_true, Nat.testBit_two_pow, decide_eq_true_iff] at hl
    rcases hl with hl | hl
    · exact ih u h1 l hl
    · rw [← hl]; exact opL_b h3
theorem m_reach {B0 : Nat → Int32} {y h : Nat} {l1 l2 l3 : Option AV} : ∀ (n m : Nat) (V : Nat → Bool) (dn q : Nat → Nat) (t : Nat) (ρ : St) (l8 : Option AV), m + n = 8 → EM E b x N nm ps mf mt mw kd wh na md ma cd ρ → BI nxR (fun s i => opL b B0 ps mf mt mw (clS b nm s) i) (fun s => goL B0 ps y (clS b nm s)) h m V dn q t → h < t → STo (-1) V dn q t (gA ρ 12 33 0) (gA ρ 12 34 0) → ∃ V' dn' q' t' ρ' l7' l8', frB PMe RN ρ ρ' ∧ BI nxR (fun s i => opL b B0 ps mf mt mw (clS b nm s) i) (fun s => goL B0 ps y (clS b nm s)) h 8 V' dn' q' t' ∧ h < t' ∧ q' h = q h ∧ STo (-1) V' dn' q' t' (gA ρ' 12 33 0) (gA ρ' 12 34 0) ∧ ∀ D Q, Rn D Q (166, 128, [some (vR (some (12, 0, 0))), l1, l2, l3, some (vI (nI t)), some (vI (nI h)), some (vI (nI (accB (fun l => opL b B0 ps mf mt mw (clS b nm (q h)) l) 8))), some (vI (nI m)), l8], [], ρ) = Rn D Q (166, 76, [some (vR (some (12, 0, 0))), l1, l2, l3, some (vI (nI t')), some (vI (nI (h + 1))), some (vI (nI (accB (fun l => opL b B0 ps mf mt mw (clS b nm (q h)) l) 8))), l7', l8'], [], ρ') := by
  intro n
  induction n with
  | zero =>
    intro m V dn q t ρ l8 hm hE hB ht hS
    have hm : m = 8 := by omega
    subst hm
    refine ⟨V, dn, q, t, ρ, some (vI (nI 8)), l8, frB_0, hB, ht, rfl, hS, fun D Q => ?_⟩
    rw [e166_128, ← nI_1 h]
    simp +decide only [e166_0, e166_1, e166_2, e166_5, e166_8, e166_9, e166_10, e166_13, e166_14, e166_15, e166_16, e166_19, e166_22, e166_23, e166_24, e166_25, e166_28, e166_29, e166_30, e166_31, e166_32, e166_36, e166_39, e166_42, e166_43, e166_46, e166_48, e166_49, e166_50, e166_53, e166_56, e166_57, e166_60, e166_61, e166_62, e166_63, e166_64, e166_67, e166_68, e166_69, e166_70, e166_71, e166_73, e166_74, e166_78, e166_80, e166_83, e166_84, e166_85, e166_86, e166_89, e166_91, e166_92, e166_95, e166_96, e166_97, e166_98, e166_101, e166_104, e166_105, e166_108, e166_109, e166_112, e166_114, e166_115, e166_116, e166_117, e166_118, e166_119, e166_120, e166_123, e166_125, e166_126, e166_130, e166_132, e166_135, e166_136, e166_139, e166_141, e166_142, e166_143, e166_145, e166_146, e166_147, e166_149, e166_151, e166_153, e166_154, e166_155, e166_156, e166_157, e166_160, e166_161, e166_164, e166_166, e166_167, e166_170, e166_171, e166_174, e166_176, e166_177, e166_180, e166_181, e166_184, e166_186, e166_187, e166_188, e166_189, e166_190, e166_191, e166_192, e166_195, e166_197, e166_199, e166_200, e166_203, e166_206, e166_209, e166_212, e166_215, e166_217, true_and, and_true, or_true, true_or, if_true, if_false, not_true_eq_false, not_false_eq_true, ne_eq, and_self, show (8 : Int32) ≤ nI 8 by decide]
  | succ n ih =>
    intro m V dn q t ρ l8 hm hE hB ht hS
    have hE0 := hE
    have a1 := hE.1
    have t256 := hB.1.2.2.1
    have y1 : ¬ (8 : Int32) ≤ nI m := nI_ge (b := 8) (by omega) (by omega)
    have tb : (accB (fun l => opL b B0 ps mf mt mw (clS b nm (q h)) l) 8).testBit m = opL b B0 ps mf mt mw (clS b nm (q h)) m := by rw [accB_tb, decide_eq_true (show m < 8 by omega), Bool.true_and]
    have hlt : accB (fun l => opL b B0 ps mf mt mw (clS b nm (q h)) l) 8 < 256 := accB_256
    obtain ⟨qh1, qh2, qh3, qh4⟩ := hB.2.1 h ht
    have hw := nxR_lt (i := m) qh1 (by omega)
    have os : (1 : Int32) <<< (nI m &&& 31) = nI (2 ^ m) := one_sh (by omega)
    have on : nI (q h) ||| nI (2 ^ m) = nI (nxR (q h) m) := nI_or _ _
    have u2 : (nI h).toInt = (h : Int) := nI_toInt (by omega)
    have u3 : (0 : Int) ≤ (h : Int) := by omega
    have u4 : (h : Int) < ((256 : Nat) : Int) := by omega
    have u5 : (nI h).toNatClampNeg = h := nI_clamp (by omega)
    have wh := hS.2 h ht
    by_cases ho : opL b B0 ps mf mt mw (clS b nm (q h)) m = true
    · have t0 : nI (accB (fun l => opL b B0 ps mf mt mw (clS b nm (q h)) l) 8) >>> (nI m &&& 31) &&& 1 = 1 := by rw [bitI (by omega) (by omega), tb, ho]
      have w2 : (nI (nxR (q h) m)).toInt = ((nxR (q h) m : Nat) : Int) := nI_toInt (by omega)
      have w3 : (0 : Int) ≤ ((nxR (q h) m : Nat) : Int) := by omega
      have w4 : ((nxR (q h) m : Nat) : Int) < ((256 : Nat) : Int) := by omega
      have w5 : (nI (nxR (q h) m)).toNatClampNeg = nxR (q h) m := nI_clamp (by omega)
      have v2 : (nI (q h)).toInt = ((q h : Nat) : Int) := nI_toInt (by omega)
      have v3 : (0 : Int) ≤ ((q h : Nat) : Int) := by omega
      have v4 : ((q h : Nat) : Int) < ((256 : Nat) : Int) := by omega
      have v5 : (nI (q h)).toNatClampNeg = q h := nI_clamp (by omega)
      have rh := hS.1 (q h) qh1
      rw [if_pos qh2] at rh
      have rw' := hS.1 (nxR (q h) m) hw
      by_cases hV : V (nxR (q h) m) = true
      · rw [if_pos hV] at rw'
        obtain ⟨j, j1, j2⟩ := hB.2.2.2.1 _ hV
        have dj := (hB.2.1 j j1).2.2.1
        rw [j2] at dj
        have z1 : ¬ nI (dn (nxR (q h) m)) < 0 := nI_pos (by omega)
        have z2 : 0 ≤ nI (dn (nxR (q h) m)) := nI_pos' (by omega)
        obtain ⟨V', dn', q', t', ρ', l7', l8', p1, p2, p3, p4, p5, p6⟩ := ih (m + 1) V dn q t ρ (some (vI (nI (nxR (q h) m)))) (by omega) hE0 (BI_skip hB ht (fun _ => hV)) ht hS
        refine ⟨V', dn', q', t', ρ', l7', l8', p1, p2, p3, p4, p5, fun D Q => ?_⟩
        rw [← p6 D Q, e166_128, ← nI_1 m]
        simp +decide only [e166_0, e166_1, e166_2, e166_5, e166_8, e166_9, e166_10, e166_13, e166_14, e166_15, e166_16, e166_19, e166_22, e166_23, e166_24, e166_25, e166_28, e166_29, e166_30, e166_31, e166_32, e166_36, e166_39, e166_42, e166_43, e166_46, e166_48, e166_49, e166_50, e166_53, e166_56, e166_57, e166_60, e166_61, e166_62, e166_63, e166_64, e166_67, e166_68, e166_69, e166_70, e166_71, e166_73, e166_74, e166_78, e166_80, e166_83, e166_84, e166_85, e166_86, e166_89, e166_91, e166_92, e166_95, e166_96, e166_97, e166_98, e166_101, e166_104, e166_105, e166_108, e166_109, e166_112, e166_114, e166_115, e166_116, e166_117, e166_118, e166_119, e166_120, e166_123, e166_125, e166_126, e166_130, e166_132, e166_135, e166_136, e166_139, e166_141, e166_142, e166_143, e166_145, e166_146, e166_147, e166_149, e166_151, e166_153, e166_154, e166_155, e166_156, e166_157, e166_160, e166_161, e166_164, e166_166, e166_167, e166_170, e166_171, e166_174, e166_176, e166_177, e166_180, e166_181, e166_184, e166_186, e166_187, e166_188, e166_189, e166_190, e166_191, e166_192, e166_195, e166_197, e166_199, e166_200, e166_203, e166_206, e166_209, e166_212, e166_215, e166_217, true_and, and_true, or_true, true_or, if_true, if_false, not_true_eq_false, not_false_eq_true, ne_eq, and_self, Option.toList_some, Option.toList_none, List.cons_append, List.nil_append, catS_0, catS_I, catS_L, catS_R, Option.map_some, Option.map_none, Option.some.injEq, Sum.inl.injEq, exists_eq_left', exists_eq', wh, os, on, y1, t0, u2, u3, u4, u5, w2, w3, w4, w5, rw', z1, z2, N12 a1, L12_33 a1, L12_34 a1]
      · have hV' : V (nxR (q h) m) = false := by cases h : V (nxR (q h) m) with
          | false => rfl
          | true => exact absurd h hV
        rw [if_neg hV] at rw'
        obtain ⟨tl, hB'⟩ := BI_add hB ht (by omega) hw ho hV'
        have s2 : (nI t).toInt = (t : Int) := nI_toInt (by omega)
        have s3 : (0 : Int) ≤ (t : Int) := by omega
        have s4 : (t : Int) < ((256 : Nat) : Int) := by omega
        have s5 : (nI t).toNatClampNeg = t := nI_clamp (by omega)
        have qh' : va_up q t (nxR (q h) m) h = q h := va_up_ne _ _ (by omega)
        obtain ⟨V', dn', q', t', ρ', l7', l8', p1, p2, p3, p4, p5, p6⟩ := ih (m + 1) _ _ _ _ (setA (setA ρ 12 33 0 (upd (gA ρ 12 33 0) (nxR (q h) m) (nI (dn (q h) + 1)))) 12 34 0 (upd (gA ρ 12 34 0) t (nI (nxR (q h) m)))) (some (vI (nI (nxR (q h) m)))) (by omega) (EM_fr (frB_t (frB_A (by decide)) (frB_A (by decide))) hE0) hB' (by omega) (by
          simp +decide only [II, AA, RR, QQ, IA, IR, IQ, AI, AR, AQ, RI, RA, RQ, QI, QA, QR, LI, LA, LR, LQ, NI, NA, NR, NQ, HI, HA, HR, HQ, SI, SA, SR, SQ, true_and, and_true, or_true, true_or, if_true, if_false, not_true_eq_false, not_false_eq_true, ne_eq, and_self]
          exact STo_add hS)
        rw [qh'] at p4
        refine ⟨V', dn', q', t', ρ', l7', l8', frB_t (frB_t (frB_A (by decide)) (frB_A (by decide))) p1, p2, p3, p4, p5, fun D Q => ?_⟩
        rw [qh'] at p6
        rw [← p6 D Q, e166_128, ← nI_1 m]
        simp +decide only [e166_0, e166_1, e166_2, e166_5, e166_8, e166_9, e166_10, e166_13, e166_14, e166_15, e166_16, e166_19, e166_22, e166_23, e166_24, e166_25, e166_28, e166_29, e166_30, e166_31, e166_32, e166_36, e166_39, e166_42, e166_43, e166_46, e166_48, e166_49, e166_50, e166_53, e166_56, e166_57, e166_60, e166_61, e166_62, e166_63, e166_64, e166_67, e166_68, e166_69, e166_70, e166_71, e166_73, e166_74, e166_78, e166_80, e166_83, e166_84, e166_85, e166_86, e166_89, e166_91, e166_92, e166_95, e166_96, e166_97, e166_98, e166_101, e166_104, e166_105, e166_108, e166_109, e166_112, e166_114, e166_115, e166_116, e166_117, e166_118, e166_119, e166_120, e166_123, e166_125, e166_126, e166_130, e166_132, e166_135, e166_136, e166_139, e166_141, e166_142, e166_143, e166_145, e166_146, e166_147, e166_149, e166_151, e166_153, e166_154, e166_155, e166_156, e166_157, e166_160, e166_161, e166_164, e166_166, e166_167, e166_170, e166_171, e166_174, e166_176, e166_177, e166_180, e166_181, e166_184, e166_186, e166_187, e166_188, e166_189, e166_190, e166_191, e166_192, e166_195, e166_197, e166_199, e166_200, e166_203, e166_206, e166_209, e166_212, e166_215, e166_217, true_and, and_true, or_true, true_or, if_true, if_false, not_true_eq_false, not_false_eq_true, ne_eq, and_self, Option.toList_some, Option.toList_none, List.cons_append, List.nil_append, catS_0, catS_I, catS_L, catS_R, Option.map_some, Option.map_none, Option.some.injEq, Sum.inl.injEq, exists_eq_left', exists_eq', II, AA, RR, QQ, IA, IR, IQ, AI, AR, AQ, RI, RA, RQ, QI, QA, QR, LI, LA, LR, LQ, NI, NA, NR, NQ, HI, HA, HR, HQ, SI, SA, SR, SQ, wh, os, on, y1, t0, u2, u3, u4, u5, w2, w3, w4, w5, v2, v3, v4, v5, s2, s3, s4, s5, rh, rw', nI_1 (dn (q h)), nI_1 t, N12 a1, L12_33 a1, L12_34 a1]
    · have ho' : opL b B0 ps mf mt mw (clS b nm (q h)) m = false := by cases h : opL b B0 ps mf mt mw (clS b nm (q h)) m with
        | false => rfl
        | true => exact absurd h ho
      have t0 : ¬ nI (accB (fun l => opL b B0 ps mf mt mw (clS b nm (q h)) l) 8) >>> (nI m &&& 31) &&& 1 = 1 := by rw [bitI (by omega) (by omega), tb]; exact ho
      obtain ⟨V', dn', q', t', ρ', l7', l8', p1, p2, p3, p4, p5, p6⟩ := ih (m + 1) V dn q t ρ (some (vI (nI (nxR (q h) m)))) (by omega) hE0 (BI_skip hB ht (fun z => absurd z ho)) ht hS
      refine ⟨V', dn', q', t', ρ', l7', l8', p1, p2, p3, p4, p5, fun D Q => ?_⟩
      rw [← p6 D Q, e166_128, ← nI_1 m]
      simp +decide only [e166_0, e166_1, e166_2, e166_5, e166_8, e166_9, e166_10, e166_13, e166_14, e166_15, e166_16, e166_19, e166_22, e166_23, e166_24, e166_25, e166_28, e166_29, e166_30, e166_31, e166_32, e166_36, e166_39, e166_42, e166_43, e166_46, e166_48, e166_49, e166_50, e166_53, e166_56, e166_57, e166_60, e166_61, e166_62, e166_63, e166_64, e166_67, e166_68, e166_69, e166_70, e166_71, e166_73, e166_74, e166_78, e166_80, e166_83, e166_84, e166_85, e166_86, e166_89, e166_91, e166_92, e166_95, e166_96, e166_97, e166_98, e166_101, e166_104, e166_105, e166_108, e166_109, e166_112, e166_114, e166_115, e166_116, e166_117, e166_118, e166_119, e166_120, e166_123, e166_125, e166_126, e166_130, e166_132, e166_135, e166_136, e166_139, e166_141, e166_142, e166_143, e166_145, e166_146, e166_147, e166_149, e166_151, e166_153, e166_154, e166_155, e166_156, e166_157, e166_160, e166_161, e166_164, e166_166, e166_167, e166_170, e166_171, e166_174, e166_176, e166_177, e166_180, e166_181, e166_184, e166_186, e166_187, e166_188, e166_189, e166_190, e166_191, e166_192, e166_195, e166_197, e166_199, e166_200, e166_203, e166_206, e166_209, e166_212, e166_215, e166_217, true_and, and_true, or_true, true_or, if_true, if_false, not_true_eq_false, not_false_eq_true, ne_eq, and_self, Option.toList_some, Option.toList_none, List.cons_append, List.nil_append, catS_0, catS_I, catS_L, catS_R, Option.map_some, Option.map_none, Option.some.injEq, Sum.inl.injEq, exists_eq_left', exists_eq', wh, os, on, y1, t0, u2, u3, u4, u5, N12 a1, L12_34 a1]
theorem m_short {y : Nat} (hy : y < 8) (hby : b.testBit y = true) : ∀ (n h : Nat) (V : Nat → Bool) (dn q : Nat → Nat) (t : Nat) (ρ : St) (l6 l7 l8 : Option AV), h + n = 256 → EM E b x N nm ps mf mt mw kd wh na md ma cd ρ → BI nxR (fun s i => opL b (bE kd wh na md ma nm x N) ps mf mt mw (clS b nm s) i) (fun s => goL (bE kd wh na md ma nm x N) ps y (clS b nm s)) h 0 V dn q t → STo (-1) V dn q t (gA ρ 12 33 0) (gA ρ 12 34 0) → ∃ r ρ', frB PMe RN ρ ρ' ∧ ResN nxR (fun s i => opL b (bE kd wh na md ma nm x N) ps mf mt mw (clS b nm s) i) (fun s => goL (bE kd wh na md ma nm x N) ps y (clS b nm s)) r ∧ ∀ D Q, Rn (D + 5) Q (166, 76, [some (vR (some (12, 0, 0))), some (vI (nI x)), some (vI (nI y)), some (vI (nI E)), some (vI (nI t)), some (vI (nI h)), l6, l7, l8], [], ρ) = Q (some (vI (rvO r))) ρ' := by
  intro n
  induction n with
  | zero =>
    intro h V dn q t ρ l6 l7 l8 hn hE hB hS
    have ht := hB.1
    have y1 : nI t ≤ nI h := nI_le (by omega) (by omega)
    refine ⟨none, ρ, frB_0, BI_none hB (by omega), fun D Q => ?_⟩
    rw [e166_76]
    simp +decide only [e166_0, e166_1, e166_2, e166_5, e166_8, e166_9, e166_10, e166_13, e166_14, e166_15, e166_16, e166_19, e166_22, e166_23, e166_24, e166_25, e166_28, e166_29, e166_30, e166_31, e166_32, e166_36, e166_39, e166_42, e166_43, e166_46, e166_48, e166_49, e166_50, e166_53, e166_56, e166_57, e166_60, e166_61, e166_62, e166_63, e166_64, e166_67, e166_68, e166_69, e166_70, e166_71, e166_73, e166_74, e166_78, e166_80, e166_83, e166_84, e166_85, e166_86, e166_89, e166_91, e166_92, e166_95, e166_96, e166_97, e166_98, e166_101, e166_104, e166_105, e166_108, e166_109, e166_112, e166_114, e166_115, e166_116, e166_117, e166_118, e166_119, e166_120, e166_123, e166_125, e166_126, e166_130, e166_132, e166_135, e166_136, e166_139, e166_141, e166_142, e166_143, e166_145, e166_146, e166_147, e166_149, e166_151, e166_153, e166_154, e166_155, e166_156, e166_157, e166_160, e166_161, e166_164, e166_166, e166_167, e166_170, e166_171, e166_174, e166_176, e166_177, e166_180, e166_181, e166_184, e166_186, e166_187, e166_188, e166_189, e166_190, e166_191, e166_192, e166_195, e166_197, e166_199, e166_200, e166_203, e166_206, e166_209, e166_212, e166_215, e166_217, true_and, and_true, or_true, true_or, if_true, if_false, not_true_eq_false, not_false_eq_true, ne_eq, and_self, y1]
    rfl
  | succ n ih =>
    intro h V dn q t ρ l6 l7 l8 hn hE hB hS
    have htb := hB.1
    by_cases ht : h < t
    · have y1 : ¬ nI t ≤ nI h := nI_ge ht (by omega)
      have y2 : (nI h).toInt = (h : Int) := nI_toInt (by omega)
      have y3 : (0 : Int) ≤ (h : Int) := by omega
      have y4 : (h : Int) < ((256 : Nat) : Int) := by omega
      have y5 : (nI h).toNatClampNeg = h := nI_clamp (by omega)
      obtain ⟨qh1, qh2, qh3, qh4⟩ := hB.2.1 h ht
      have wh' := hS.2 h ht
      have v2 : (nI (q h)).toInt = ((q h : Nat) : Int) := nI_toInt (by omega)
      have v3 : (0 : Int) ≤ ((q h : Nat) : Int) := by omega
      have v4 : ((q h : Nat) : Int) < ((256 : Nat) : Int) := by omega
      have v5 : (nI (q h)).toNatClampNeg = q h := nI_clamp (by omega)
      obtain ⟨ρ1, p1, p2, p3, p4, p5⟩ := m_fw qh1 (R_sub _ _ qh4) hE
      have hE1 := EM_fr p1 hE
      have hS1 : STo (-1) V dn q t (gA ρ1 12 33 0) (gA ρ1 12 34 0) := by rw [p2, p3]; exact hS
      have a1 := hE.1
      have hE1' := hE1
      obtain ⟨b1, ⟨i1, i2, i3, i4⟩, i5, i6, i7, i8, i9, i10, i11, i12, i13, i14, i15, i16⟩ := hE1
      obtain ⟨wy, wy1, wy2, wy3⟩ := p4 y hy hby
      have mp := fun {d : Nat} {Q : Option AV → St → Prop} => m_isP (d := d) (Q := Q) (σ := ρ1) (B := BC (bE kd wh na md ma nm x N) (clS b nm (q h))) (ps := ps) b1 i1 hy wy1 wy2 wy3 (i11 y)
      obtain ⟨f', mb⟩ := m_bits (σ := ρ1) (E := E) (b := b) (w := 0) (B := BC (bE kd wh na md ma nm x N) (clS b nm (q h))) (ps := ps) (cd := cd) b1 i1 i2 i5 (by omega) (fun on k1 k2 => ⟨i11 on, p4 on k1 k2⟩) (fun l k1 k2 => by
        obtain ⟨s, e, s1, s2, s3, s4, s5⟩ := i16 l k1 k2
        exact ⟨s, e, s1, s2, (i12 l).trans s3, (i13 l).trans s4, by rw [show (fun k => gA ρ1 12 22 0 (128 * E + k)) = mw from funext i14]; exact s5⟩)
      rw [show (fun l => gA ρ1 12 20 0 (8 * E + l)) = mf from funext i12, show (fun l => gA ρ1 12 21 0 (8 * E + l)) = mt from funext i13, show (fun k => gA ρ1 12 22 0 (128 * E + k)) = mw from funext i14, nI_0] at mb
      have rh := hS1.1 (q h) qh1
      rw [if_pos qh2] at rh
      have wh1 := hS1.2 h ht
      by_cases hg : goL (bE kd wh na md ma nm x N) ps y (clS b nm (q h)) = true
      · have tg : bz (pz (BC (bE kd wh na md ma nm x N) (clS b nm (q h))) ps y) = 1 := by
          unfold goL at hg
          rw [hg]; rfl
        refine ⟨some (dn (q h)), ρ1, p1, BI_goal hB ht hg, fun D Q => ?_⟩
        have p5 := fun Q => p5 (D + 3) Q
        rw [e166_76]
        simp +decide only [e166_0, e166_1, e166_2, e166_5, e166_8, e166_9, e166_10, e166_13, e166_14, e166_15, e166_16, e166_19, e166_22, e166_23, e166_24, e166_25, e166_28, e166_29, e166_30, e166_31, e166_32, e166_36, e166_39, e166_42, e166_43, e166_46, e166_48, e166_49, e166_50, e166_53, e166_56, e166_57, e166_60, e166_61, e166_62, e166_63, e166_64, e166_67, e166_68, e166_69, e166_70, e166_71, e166_73, e166_74, e166_78, e166_80, e166_83, e166_84, e166_85, e166_86, e166_89, e166_91, e166_92, e166_95, e166_96, e166_97, e166_98, e166_101, e166_104, e166_105, e166_108, e166_109, e166_112, e166_114, e166_115, e166_116, e166_117, e166_118, e166_119, e166_120, e166_123, e166_125, e166_126, e166_130, e166_132, e166_135, e166_136, e166_139, e166_141, e166_142, e166_143, e166_145, e166_146, e166_147, e166_149, e166_151, e166_153, e166_154, e166_155, e166_156, e166_157, e166_160, e166_161, e166_164, e166_166, e166_167, e166_170, e166_171, e166_174, e166_176, e166_177, e166_180, e166_181, e166_184, e166_186, e166_187, e166_188, e166_189, e166_190, e166_191, e166_192, e166_195, e166_197, e166_199, e166_200, e166_203, e166_206, e166_209, e166_212, e166_215, e166_217, true_and, and_true, or_true, true_or, if_true, if_false, not_true_eq_false, not_false_eq_true, ne_eq, and_self, Option.toList_some, Option.toList_none, List.cons_append, List.nil_append, catS_0, catS_I, catS_L, catS_R, Option.map_some, Option.map_none, Option.some.injEq, Sum.inl.injEq, exists_eq_left', exists_eq', y1, y2, y3, y4, y5, wh', wh1, p5, mp, tg, v2, v3, v4, v5, rh, N12 a1, N12 b1, L12_34 a1, L12_34 b1, L12_33 b1]
        rfl
      · have hg' : goL (bE kd wh na md ma nm x N) ps y (clS b nm (q h)) = false := by cases h : goL (bE kd wh na md ma nm x N) ps y (clS b nm (q h)) with
          | false => rfl
          | true => exact absurd h hg
        have tg : bz (pz (BC (bE kd wh na md ma nm x N) (clS b nm (q h))) ps y) = 0 := by
          unfold goL at hg'
          rw [hg']; rfl
        obtain ⟨V', dn', q', t', ρ2, l7', l8', r1, r2, r3, r4, r5, r6⟩ := m_reach (B0 := bE kd wh na md ma nm x N) (y := y) (h := h) (l1 := some (vI (nI x))) (l2 := some (vI (nI y))) (l3 := some (vI (nI E))) 8 0 V dn q t (setA ρ1 12 32 0 f') l8 (by omega) (EM_fr (frB_A (by decide)) hE1') hB ht (by simp +decide only [II, AA, RR, QQ, IA, IR, IQ, AI, AR, AQ, RI, RA, RQ, QI, QA, QR, LI, LA, LR, LQ, NI, NA, NR, NQ, HI, HA, HR, HQ, SI, SA, SR, SQ, true_and, and_true, or_true, true_or, if_true, if_false, not_true_eq_false, not_false_eq_true, ne_eq, and_self]; exact hS1)
        have hB' := BI_next r2 r3 (by rw [r4]; exact hg')
        obtain ⟨r, ρ', s1, s2, s3⟩ := ih (h + 1) V' dn' q' t' ρ2 _ l7' l8' (by omega) (EM_fr r1 (EM_fr (frB_A (by decide)) hE1')) hB' r5
        refine ⟨r, ρ', frB_t p1 (frB_t (frB_t (frB_A (by decide)) r1) s1), s2, fun D Q => (Eq.trans ?_ (r6 (D + 5) Q)).trans (s3 D Q)⟩
        have p5 := fun Q => p5 (D + 3) Q
        have mb := fun Q => mb (D + 1) Q
        have hop : accB (fun l => opL b (bE kd wh na md ma nm x N) ps mf mt mw (clS b nm (q h)) l) 8 = accB (PW 0 b (BC (bE kd wh na md ma nm x N) (clS b nm (q h))) ps mf mt mw) 8 := rfl
        rw [e166_76, hop, nI_0]
        simp +decide only [e166_0, e166_1, e166_2, e166_5, e166_8, e166_9, e166_10, e166_13, e166_14, e166_15, e166_16, e166_19, e166_22, e166_23, e166_24, e166_25, e166_28, e166_29, e166_30, e166_31, e166_32, e166_36, e166_39, e166_42, e166_43, e166_46, e166_48, e166_49, e166_50, e166_53, e166_56, e166_57, e166_60, e166_61, e166_62, e166_63, e166_64, e166_67, e166_68, e166_69, e166_70, e166_71, e166_73, e166_74, e166_78, e166_80, e166_83, e166_84, e166_85, e166_86, e166_89, e166_91, e166_92, e166_95, e166_96, e166_97, e166_98, e166_101, e166_104, e166_105, e166_108, e166_109, e166_112, e166_114, e166_115, e166_116, e166_117, e166_118, e166_119, e166_120, e166_123, e166_125, e166_126, e166_130, e166_132, e166_135, e166_136, e166_139, e166_141, e166_142, e166_143, e166_145, e166_146, e166_147, e166_149, e166_151, e166_153, e166_154, e166_155, e166_156, e166_157, e166_160, e166_161, e166_164, e166_166, e166_167, e166_170, e166_171, e166_174, e166_176, e166_177, e166_180, e166_181, e166_184, e166_186, e166_187, e166_188, e166_189, e166_190, e166_191, e166_192, e166_195, e166_197, e166_199, e166_200, e166_203, e166_206, e166_209, e166_212, e166_215, e166_217, true_and, and_true, or_true, true_or, if_true, if_false, not_true_eq_false, not_false_eq_true, ne_eq, and_self, Option.toList_some, Option.toList_none, List.cons_append, List.nil_append, catS_0, catS_I, catS_L, catS_R, Option.map_some, Option.map_none, Option.some.injEq, Sum.inl.injEq, exists_eq_left', exists_eq', y1, y2, y3, y4, y5, wh', p5, mp, mb, tg, N12 a1, N12 b1, L12_34 a1]
    · have y1 : nI t ≤ nI h := nI_le (by omega) (by omega)
      refine ⟨none, ρ, frB_0, BI_none hB ht, fun D Q => ?_⟩
      rw [e166_76]
      simp +decide only [e166_0, e166_1, e166_2, e166_5, e166_8, e166_9, e166_10, e166_13, e166_14, e166_15, e166_16, e166_19, e166_22, e166_23, e166_24, e166_25, e166_28, e166_29, e166_30, e166_31, e166_32, e166_36, e166_39, e166_42, e166_43, e166_46, e166_48, e166_49, e166_50, e166_53, e166_56, e166_57, e166_60, e166_61, e166_62, e166_63, e166_64, e166_67, e166_68, e166_69, e166_70, e166_71, e166_73, e166_74, e166_78, e166_80, e166_83, e166_84, e166_85, e166_86, e166_89, e166_91, e166_92, e166_95, e166_96, e166_97, e166_98, e166_101, e166_104, e166_105, e166_108, e166_109, e166_112, e166_114, e166_115, e166_116, e166_117, e166_118, e166_119, e166_120, e166_123, e166_125, e166_126, e166_130, e166_132, e166_135, e166_136, e166_139, e166_141, e166_142, e166_143, e166_145, e166_146, e166_147, e166_149, e166_151, e166_153, e166_154, e166_155, e166_156, e166_157, e166_160, e166_161, e166_164, e166_166, e166_167, e166_170, e166_171, e166_174, e166_176, e166_177, e166_180, e166_181, e166_184, e166_186, e166_187, e166_188, e166_189, e166_190, e166_191, e166_192, e166_195, e166_197, e166_199, e166_200, e166_203, e166_206, e166_209, e166_212, e166_215, e166_217, true_and, and_true, or_true, true_or, if_true, if_false, not_true_eq_false, not_false_eq_true, ne_eq, and_self, y1]
      rfl
theorem m_lfill {f : Nat → Int32} {σ : St} {d : Nat} {Q : Option AV → St → Prop} {l1 l2 l3 l5 l6 l7 l8 : Option AV} (a1 : SH σ) : ∀ n m, m + n = 256 → Rn d Q (166, 34, [some (vR (some (12, 0, 0))), l1, l2, l3, some (vI (nI m)), l5, l6, l7, l8], [], setA σ 12 33 0 (ff (-1) f m)) = Rn d Q (166, 56, [some (vR (some (12, 0, 0))), l1, l2, l3, some (vI (nI 256)), l5, l6, l7, l8], [], setA σ 12 33 0 (ff (-1) f 256)) := by
  intro n
  induction n with
  | zero =>
    intro m hm
    have hm : m = 256 := by omega
    subst hm
    rw [e166_34]
    simp +decide only [e166_0, e166_1, e166_2, e166_5, e166_8, e166_9, e166_10, e166_13, e166_14, e166_15, e166_16, e166_19, e166_22, e166_23, e166_24, e166_25, e166_28, e166_29, e166_30, e166_31, e166_32, e166_36, e166_39, e166_42, e166_43, e166_46, e166_48, e166_49, e166_50, e166_53, e166_57, e166_60, e166_61, e166_62, e166_63, e166_64, e166_67, e166_68, e166_69, e166_70, e166_71, e166_73, e166_74, e166_78, e166_80, e166_83, e166_84, e166_85, e166_86, e166_89, e166_91, e166_92, e166_95, e166_96, e166_97, e166_98, e166_101, e166_104, e166_105, e166_108, e166_109, e166_112, e166_114, e166_115, e166_116, e166_117, e166_118, e166_119, e166_120, e166_123, e166_125, e166_126, e166_130, e166_132, e166_135, e166_136, e166_139, e166_141, e166_142, e166_143, e166_145, e166_146, e166_147, e166_149, e166_151, e166_153, e166_154, e166_155, e166_156, e166_157, e166_160, e166_161, e166_164, e166_166, e166_167, e166_170, e166_171, e166_174, e166_176, e166_177, e166_180, e166_181, e166_184, e166_186, e166_187, e166_188, e166_189, e166_190, e166_191, e166_192, e166_195, e166_197, e166_199, e166_200, e166_203, e166_206, e166_209, e166_212, e166_215, e166_217, true_and, and_true, or_true, true_or, if_true, if_false, not_true_eq_false, not_false_eq_true, ne_eq, and_self, show (256 : Int32) ≤ nI 256 by decide]
  | succ n ih =>
    intro m hm
    have y1 : ¬ (256 : Int32) ≤ nI m := nI_ge (b := 256) (by omega) (by omega)
    have y2 : (nI m).toInt = (m : Int) := nI_toInt (by omega)
    have y3 : (0 : Int) ≤ (m : Int) := by omega
    have y4 : (m : Int) < ((256 : Nat) : Int) := by omega
    have y5 : (nI m).toNatClampNeg = m := nI_clamp (by omega)
    rw [← ih (m + 1) (by omega), e166_34, ← ff_s, ← nI_1 m]
    simp +decide only [e166_0, e166_1, e166_2, e166_5, e166_8, e166_9, e166_10, e166_13, e166_14, e166_15, e166_16, e166_19, e166_22, e166_23, e166_24, e166_25, e166_28, e166_29, e166_30, e166_31, e166_32, e166_36, e166_39, e166_42, e166_43, e166_46, e166_48, e166_49, e166_50, e166_53, e166_57, e166_60, e166_61, e166_62, e166_63, e166_64, e166_67, e166_68, e166_69, e166_70, e166_71, e166_73, e166_74, e166_78, e166_80, e166_83, e166_84, e166_85, e166_86, e166_89, e166_91, e166_92, e166_95, e166_96, e166_97, e166_98, e166_101, e166_104, e166_105, e166_108, e166_109, e166_112, e166_114, e166_115, e166_116, e166_117, e166_118, e166_119, e166_120, e166_123, e166_125, e166_126, e166_130, e166_132, e166_135, e166_136, e166_139, e166_141, e166_142, e166_143, e166_145, e166_146, e166_147, e166_149, e166_151, e166_153, e166_154, e166_155, e166_156, e166_157, e166_160, e166_161, e166_164, e166_166, e166_167, e166_170, e166_171, e166_174, e166_176, e166_177, e166_180, e166_181, e166_184, e166_186, e166_187, e166_188, e166_189, e166_190, e166_191, e166_192, e166_195, e166_197, e166_199, e166_200, e166_203, e166_206, e166_209, e166_212, e166_215, e166_217, true_and, and_true, or_true, true_or, if_true, if_false, not_true_eq_false, not_false_eq_true, ne_eq, and_self, Option.toList_some, Option.toList_none, List.cons_append, List.nil_append, catS_0, catS_I, catS_L, catS_R, Option.map_some, Option.map_none, Option.some.injEq, Sum.inl.injEq, exists_eq_left', exists_eq', II, AA, RR, QQ, IA, IR, IQ, AI, AR, AQ, RI, RA, RQ, QI, QA, QR, LI, LA, LR, LQ, NI, NA, NR, NQ, HI, HA, HR, HQ, SI, SA, SR, SQ, y1, y2, y3, y4, y5, setA_A, N12 a1, L12_33 a1]
theorem m_leanR {y : Nat} {ρ : St} (hy : y < 8) (hby : b.testBit y = true) (hE : EM E b x N nm ps mf mt mw kd wh na md ma cd ρ) : ∃ r ρ', frB PMe RN ρ ρ' ∧ ResN nxR (fun s i => opL b (bE kd wh na md ma nm x N) ps mf mt mw (clS b nm s) i) (fun s => goL (bE kd wh na md ma nm x N) ps y (clS b nm s)) r ∧ ∀ D Q, Rn (D + 5) Q (166, 31, [some (vR (some (12, 0, 0))), some (vI (nI x)), some (vI (nI y)), some (vI (nI E)), none, none, none, none, none], [], ρ) = Q (some (vI (rvO r))) ρ' := by
  have a1 := hE.1
  obtain ⟨r, ρ', p1, p2, p3⟩ := m_short (E := E) hy hby 256 0 _ _ _ _ (setA (setA ρ 12 33 0 (upd (ff (-1) (gA ρ 12 33 0) 256) 0 0)) 12 34 0 (upd (gA ρ 12 34 0) 0 0)) none none none (by omega) (EM_fr (frB_t (frB_A (by decide)) (frB_A (by decide))) hE) BI_0 (by
    simp +decide only [II, AA, RR, QQ, IA, IR, IQ, AI, AR, AQ, RI, RA, RQ, QI, QA, QR, LI, LA, LR, LQ, NI, NA, NR, NQ, HI, HA, HR, HQ, SI, SA, SR, SQ, true_and, and_true, or_true, true_or, if_true, if_false, not_true_eq_false, not_false_eq_true, ne_eq, and_self]
    refine ⟨fun w hw => ?_, fun j hj => ?_⟩
    · by_cases h0 : w = 0
      · rw [h0, updS0, if_pos (by decide)]; rfl
      · rw [pk_un h0, if_neg (by show ¬ decide (w = 0) = true; rw [decide_eq_false h0]; decide)]
        unfold ff
        rw [if_pos hw]
    · have : j = 0 := by omega
      rw [this, updS0]; rfl)
  refine ⟨r, ρ', frB_t (frB_t (frB_A (by decide)) (frB_A (by decide))) p1, p2, fun D Q => ?_⟩
  have mf' := m_lfill (f := gA ρ 12 33 0) (d := D + 5) (Q := Q) (l1 := some (vI (nI x))) (l2 := some (vI (nI y))) (l3 := some (vI (nI E))) (l5 := none) (l6 := none) (l7 := none) (l8 := none) a1 256 0 (by omega)
  rw [ff_0, setA_self, nI_0] at mf'
  have p3' := p3 D Q
  rw [nI_0, ← lN1] at p3'
  rw [← p3', e166_31, e166_32, mf']
  simp +decide only [e166_0, e166_1, e166_2, e166_5, e166_8, e166_9, e166_10, e166_13, e166_14, e166_15, e166_16, e166_19, e166_22, e166_23, e166_24, e166_25, e166_28, e166_29, e166_30, e166_31, e166_32, e166_36, e166_39, e166_42, e166_43, e166_46, e166_48, e166_49, e166_50, e166_53, e166_56, e166_57, e166_60, e166_61, e166_62, e166_63, e166_64, e166_67, e166_68, e166_69, e166_70, e166_71, e166_73, e166_74, e166_78, e166_80, e166_83, e166_84, e166_85, e166_86, e166_89, e166_91, e166_92, e166_95, e166_96, e166_97, e166_98, e166_101, e166_104, e166_105, e166_108, e166_109, e166_112, e166_114, e166_115, e166_116, e166_117, e166_118, e166_119, e166_120, e166_123, e166_125, e166_126, e166_130, e166_132, e166_135, e166_136, e166_139, e166_141, e166_142, e166_143, e166_145, e166_146, e166_147, e166_149, e166_151, e166_153, e166_154, e166_155, e166_156, e166_157, e166_160, e166_161, e166_164, e166_166, e166_167, e166_170, e166_171, e166_174, e166_176, e166_177, e166_180, e166_181, e166_184, e166_186, e166_187, e166_188, e166_189, e166_190, e166_191, e166_192, e166_195, e166_197, e166_199, e166_200, e166_203, e166_206, e166_209, e166_212, e166_215, e166_217, true_and, and_true, or_true, true_or, if_true, if_false, not_true_eq_false, not_false_eq_true, ne_eq, and_self, Option.toList_some, Option.toList_none, List.cons_append, List.nil_append, catS_0, catS_I, catS_L, catS_R, Option.map_some, Option.map_none, Option.some.injEq, Sum.inl.injEq, exists_eq_left', exists_eq', II, AA, RR, QQ, IA, IR, IQ, AI, AR, AQ, RI, RA, RQ, QI, QA, QR, LI, LA, LR, LQ, NI, NA, NR, NQ, HI, HA, HR, HQ, SI, SA, SR, SQ, setA_A, cl_0, N12 a1, L12_33 a1, L12_34 a1]
end LNM
/-- the two searches see the same -/
theorem lean_un {b y : Nat} {B0 nm ps mf mt mw : Nat → Int32} {r r' : Option Nat} (h1 : ResN (nxL b nm) (opL b B0 ps mf mt mw) (goL B0 ps y) r) (h2 : ResN nxR (fun s i => opL b B0 ps mf mt mw (clS b nm s) i) (fun s => goL B0 ps y (clS b nm s)) r') : r = r' := by
  have hb : ∀ n s, Rch nxR (fun s i => opL b B0 ps mf mt mw (clS b nm s) i) n s → Rch (nxL b nm) (opL b B0 ps mf mt mw) n (clS b nm s) := by
    intro n
    induction n with
    | zero =>
      intro s hs
      have hs : s = 0 := hs
      rw [hs]
      exact cl_0'
    | succ n ih =>
      intro s hs
      obtain ⟨u, i, k1, k2, k3, k4⟩ := hs
      refine ⟨clS b nm u, i, ih u k1, k2, k3, ?_⟩
      rw [k4]
      exact cl_or k2
  have ha : ∀ n c, Rch (nxL b nm) (opL b B0 ps mf mt mw) n c → ∃ s, Rch nxR (fun s i => opL b B0 ps mf mt mw (clS b nm s) i) n s ∧ clS b nm s = c := by
    intro n
    induction n with
    | zero =>
      intro c hc
      have hc : c = 0 := hc
      exact ⟨0, rfl, by rw [hc]; exact cl_0'⟩
    | succ n ih =>
      intro c hc
      obtain ⟨u, i, k1, k2, k3, k4⟩ := hc
      obtain ⟨s, s1, s2⟩ := ih u k1
      refine ⟨nxR s i, ⟨s, i, s1, k2, by show opL b B0 ps mf mt mw (clS b nm s) i = true; rw [s2]; exact k3, rfl⟩, ?_⟩
      rw [k4, ← s2]
      exact cl_or k2
  exact ResN_un h1 h2 (fun n v hv => by
    obtain ⟨s, s1, s2⟩ := ha n v hv
    exact ⟨s, s1, by show goL B0 ps y (clS b nm s) = _; rw [s2]⟩) (fun n v hv => ⟨clS b nm v, hb n v hv, rfl⟩)
