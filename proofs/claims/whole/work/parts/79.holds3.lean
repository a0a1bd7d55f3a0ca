/-- the reference's stack holds what stands waiting -/
def SKf (f : Nat → Int32) : List Bool → Prop
  | [] => True
  | b :: r => f r.length = bz b ∧ SKf f r
theorem SKf_up {f : Nat → Int32} {j : Nat} {v : Int32} : ∀ st : List Bool, st.length ≤ j → SKf f st → SKf (upd f j v) st := by
  intro st
  induction st with
  | nil => intro _ _; trivial
  | cons b r ih =>
    intro h1 h2
    have h1 : r.length + 1 ≤ j := h1
    exact ⟨by rw [pk_un (by omega)]; exact h2.1, ih (by omega) h2.2⟩
theorem cl_0 : (0 : Int32).toNatClampNeg = 0 := rfl
section HOL3
variable {d : Nat} {Q : Option AV → St → Prop} {σ : St} {E l b s e : Nat} {B ps mw cd : Nat → Int32} {D : Nat → Nat}
theorem m_isP {w : Nat} (a1 : SH σ) (he : E < 24) (hl : l < 8) (hw : w < 40) (hn : gA σ 12 18 0 (8 * E + l) = nI w) (hg : gA σ 12 31 0 w = B l) (hp : gA σ 12 19 0 (8 * E + l) = ps l) : Rn (d + 1) Q (160, 0, [some (vR (some (12, 0, 0))), some (vI (nI E)), some (vI (nI l))], [], σ) = Q (some (vI (bz (pz B ps l)))) σ := by
  have g2 : 8 * nI E + nI l = nI (8 * E + l) := by rw [lN8, pk_mul, nI_add]
  have g3 : (nI (8 * E + l)).toInt = ((8 * E + l : Nat) : Int) := nI_toInt (by omega)
  have g4 : (nI (8 * E + l)).toNatClampNeg = 8 * E + l := nI_clamp (by omega)
  have g5 : (0 : Int) ≤ ((8 * E + l : Nat) : Int) ∧ ((8 * E + l : Nat) : Int) < ((192 : Nat) : Int) := by omega
  have mb := fun {d : Nat} {Q : Option AV → St → Prop} => m_bestOf (d := d) (Q := Q) a1 he hl hw hn rfl
  rw [hg] at mb
  unfold pz
  by_cases h3 : (B l).toInt < (ps l).toInt
  · rw [decide_eq_false (by omega), bz_f]
    simp +decide only [e160_0, e160_1, e160_2, e160_3, e160_6, e160_7, e160_10, e160_12, e160_13, e160_14, e160_15, e160_16, e160_17, e160_20, e160_21, e160_24, e160_25, true_and, and_true, or_true, true_or, if_true, if_false, not_true_eq_false, not_false_eq_true, ne_eq, and_self, Option.toList_some, Option.toList_none, List.cons_append, List.nil_append, catS_0, catS_I, catS_L, catS_R, Option.map_some, Option.map_none, Option.some.injEq, Sum.inl.injEq, exists_eq_left', exists_eq', ltI, mb, g2, g3, g4, g5, hp, h3, N12 a1, L12_19 a1]
  · rw [decide_eq_true (by omega), bz_t]
    simp +decide only [e160_0, e160_1, e160_2, e160_3, e160_6, e160_7, e160_10, e160_12, e160_13, e160_14, e160_15, e160_16, e160_17, e160_20, e160_21, e160_24, e160_25, true_and, and_true, or_true, true_or, if_true, if_false, not_true_eq_false, not_false_eq_true, ne_eq, and_self, Option.toList_some, Option.toList_none, List.cons_append, List.nil_append, catS_0, catS_I, catS_L, catS_R, Option.map_some, Option.map_none, Option.some.injEq, Sum.inl.injEq, exists_eq_left', exists_eq', ltI, mb, g2, g3, g4, g5, hp, h3, N12 a1, L12_19 a1]
theorem m_holds_l (a1 : SH σ) (hE : E < 24) (hl : l < 8) (he : e ≤ 120) (hend : gA σ 12 21 0 (8 * E + l) = nI e) (hD0 : D s = 0) (hD : ∀ k, s ≤ k → k < e → D (k + 1) ≤ 20 ∧ ((∃ on m : Nat, on < 8 ∧ m ≤ 101 ∧ b.testBit on = true ∧ cd k = nI (8 * m + on) ∧ gA σ 12 22 0 (128 * E + k) = nI (8 * m + on) ∧ D (k + 1) = D k + 1) ∨ (cd k = -1 ∧ gA σ 12 22 0 (128 * E + k) = -2 ∧ 1 ≤ D k ∧ D (k + 1) = D k) ∨ (cd k = -2 ∧ gA σ 12 22 0 (128 * E + k) = -3 ∧ 2 ≤ D k ∧ D (k + 1) + 1 = D k) ∨ (cd k = -3 ∧ gA σ 12 22 0 (128 * E + k) = -4 ∧ 2 ≤ D k ∧ D (k + 1) + 1 = D k))) (hDe : D e ≤ 1) (hB : ∀ on, on < 8 → b.testBit on = true → gA σ 12 19 0 (8 * E + on) = ps on ∧ ∃ w, w < 40 ∧ gA σ 12 18 0 (8 * E + on) = nI w ∧ gA σ 12 31 0 w = B on) : ∀ n m l6 f, s + m + n = e → D (s + m) ≤ 20 → SKf f (stk B ps (fun k => gA σ 12 22 0 (128 * E + k)) s m) → ∃ f' : Nat → Int32, ∀ d Q, Rn (d + 2) Q (161, 18, [some (vR (some (12, 0, 0))), some (vI (nI E)), some (vI (nI l)), some (vI (nI (8 * E + l))), some (vI (nI (stk B ps (fun k => gA σ 12 22 0 (128 * E + k)) s m).length)), some (vI (nI (s + m))), l6], [], setA σ 12 32 0 f) = Q (some (vI (bz (hv (stk B ps (fun k => gA σ 12 22 0 (128 * E + k)) s (e - s)))))) (setA σ 12 32 0 f') := by
  have p3 : (nI (8 * E + l)).toInt = ((8 * E + l : Nat) : Int) := nI_toInt (by omega)
  have p4 : (nI (8 * E + l)).toNatClampNeg = 8 * E + l := nI_clamp (by omega)
  have p5 : (0 : Int) ≤ ((8 * E + l : Nat) : Int) ∧ ((8 * E + l : Nat) : Int) < ((192 : Nat) : Int) := by omega
  intro n
  induction n with
  | zero =>
    intro m l6 f hm hd hf
    have hlen := stk_len (B := B) (ps := ps) hD0 hD m (by omega)
    have e1 : nI e ≤ nI (s + m) := nI_le (by omega) (by omega)
    refine ⟨f, fun d Q => ?_⟩
    rw [show e - s = m by omega, e161_18]
    have hl1 : (stk B ps (fun k => gA σ 12 22 0 (128 * E + k)) s m).length ≤ 1 := by
      rw [hlen, show s + m = e by omega]; exact hDe
    revert hf hl1
    match stk B ps (fun k => gA σ 12 22 0 (128 * E + k)) s m with
    | [] =>
      intro _ _
      show Rn (d + 2) Q (161, 20, [_, _, _, _, some (vI (nI 0)), _, _], _, _) = Q (some (vI 1)) _
      rw [nI_0]
      simp +decide only [e161_0, e161_2, e161_3, e161_4, e161_5, e161_6, e161_7, e161_8, e161_10, e161_11, e161_14, e161_15, e161_16, e161_20, e161_21, e161_24, e161_25, e161_26, e161_29, e161_30, e161_33, e161_36, e161_37, e161_38, e161_40, e161_41, e161_42, e161_44, e161_46, e161_49, e161_50, e161_53, e161_55, e161_57, e161_59, e161_62, e161_63, e161_64, e161_66, e161_69, e161_72, e161_73, e161_74, e161_76, e161_78, e161_79, e161_82, e161_84, e161_86, e161_87, e161_88, e161_89, e161_92, e161_93, e161_96, e161_97, e161_98, e161_101, e161_104, e161_106, e161_108, e161_111, e161_112, e161_115, e161_117, e161_118, e161_119, e161_120, e161_123, e161_125, e161_126, e161_127, e161_128, e161_131, e161_132, e161_135, e161_136, e161_137, e161_140, e161_143, e161_144, e161_147, e161_149, e161_150, e161_151, e161_153, e161_155, e161_158, e161_159, e161_162, e161_164, e161_165, e161_166, e161_167, e161_170, e161_171, e161_174, e161_176, e161_177, e161_180, e161_181, e161_184, e161_185, e161_188, e161_189, e161_192, e161_194, e161_195, e161_196, e161_197, e161_200, e161_201, e161_204, e161_206, e161_207, e161_210, e161_211, e161_214, e161_215, e161_216, e161_219, e161_222, e161_224, e161_227, e161_228, e161_231, e161_232, e161_233, e161_236, e161_237, e161_240, e161_241, true_and, and_true, or_true, true_or, if_true, if_false, not_true_eq_false, not_false_eq_true, ne_eq, and_self, Option.toList_some, Option.toList_none, List.cons_append, List.nil_append, catS_0, catS_I, catS_L, catS_R, Option.map_some, Option.map_none, Option.some.injEq, Sum.inl.injEq, exists_eq_left', exists_eq', II, AA, RR, QQ, IA, IR, IQ, AI, AR, AQ, RI, RA, RQ, QI, QA, QR, LI, LA, LR, LQ, NI, NA, NR, NQ, HI, HA, HR, HQ, SI, SA, SR, SQ, p3, p4, p5, hend, e1, N12 a1, L12_21 a1]
    | [c] =>
      intro hf _
      have hf : f 0 = bz c := hf.1
      show Rn (d + 2) Q (161, 20, [_, _, _, _, some (vI (nI 1)), _, _], _, _) = Q (some (vI (bz c))) _
      have z1 : ¬ nI 1 = 0 := by decide
      cases c with
      | true =>
        rw [bz_t] at hf ⊢
        simp +decide only [e161_0, e161_2, e161_3, e161_4, e161_5, e161_6, e161_7, e161_8, e161_10, e161_11, e161_14, e161_15, e161_16, e161_20, e161_21, e161_24, e161_25, e161_26, e161_29, e161_30, e161_33, e161_36, e161_37, e161_38, e161_40, e161_41, e161_42, e161_44, e161_46, e161_49, e161_50, e161_53, e161_55, e161_57, e161_59, e161_62, e161_63, e161_64, e161_66, e161_69, e161_72, e161_73, e161_74, e161_76, e161_78, e161_79, e161_82, e161_84, e161_86, e161_87, e161_88, e161_89, e161_92, e161_93, e161_96, e161_97, e161_98, e161_101, e161_104, e161_106, e161_108, e161_111, e161_112, e161_115, e161_117, e161_118, e161_119, e161_120, e161_123, e161_125, e161_126, e161_127, e161_128, e161_131, e161_132, e161_135, e161_136, e161_137, e161_140, e161_143, e161_144, e161_147, e161_149, e161_150, e161_151, e161_153, e161_155, e161_158, e161_159, e161_162, e161_164, e161_165, e161_166, e161_167, e161_170, e161_171, e161_174, e161_176, e161_177, e161_180, e161_181, e161_184, e161_185, e161_188, e161_189, e161_192, e161_194, e161_195, e161_196, e161_197, e161_200, e161_201, e161_204, e161_206, e161_207, e161_210, e161_211, e161_214, e161_215, e161_216, e161_219, e161_222, e161_224, e161_227, e161_228, e161_231, e161_232, e161_233, e161_236, e161_237, e161_240, e161_241, true_and, and_true, or_true, true_or, if_true, if_false, not_true_eq_false, not_false_eq_true, ne_eq, and_self, Option.toList_some, Option.toList_none, List.cons_append, List.nil_append, catS_0, catS_I, catS_L, catS_R, Option.map_some, Option.map_none, Option.some.injEq, Sum.inl.injEq, exists_eq_left', exists_eq', II, AA, RR, QQ, IA, IR, IQ, AI, AR, AQ, RI, RA, RQ, QI, QA, QR, LI, LA, LR, LQ, NI, NA, NR, NQ, HI, HA, HR, HQ, SI, SA, SR, SQ, p3, p4, p5, hend, e1, z1, hf, cl_0, N12 a1, L12_21 a1, L12_32 a1, gA_A]
      | false =>
        rw [bz_f] at hf ⊢
        simp +decide only [e161_0, e161_2, e161_3, e161_4, e161_5, e161_6, e161_7, e161_8, e161_10, e161_11, e161_14, e161_15, e161_16, e161_20, e161_21, e161_24, e161_25, e161_26, e161_29, e161_30, e161_33, e161_36, e161_37, e161_38, e161_40, e161_41, e161_42, e161_44, e161_46, e161_49, e161_50, e161_53, e161_55, e161_57, e161_59, e161_62, e161_63, e161_64, e161_66, e161_69, e161_72, e161_73, e161_74, e161_76, e161_78, e161_79, e161_82, e161_84, e161_86, e161_87, e161_88, e161_89, e161_92, e161_93, e161_96, e161_97, e161_98, e161_101, e161_104, e161_106, e161_108, e161_111, e161_112, e161_115, e161_117, e161_118, e161_119, e161_120, e161_123, e161_125, e161_126, e161_127, e161_128, e161_131, e161_132, e161_135, e161_136, e161_137, e161_140, e161_143, e161_144, e161_147, e161_149, e161_150, e161_151, e161_153, e161_155, e161_158, e161_159, e161_162, e161_164, e161_165, e161_166, e161_167, e161_170, e161_171, e161_174, e161_176, e161_177, e161_180, e161_181, e161_184, e161_185, e161_188, e161_189, e161_192, e161_194, e161_195, e161_196, e161_197, e161_200, e161_201, e161_204, e161_206, e161_207, e161_210, e161_211, e161_214, e161_215, e161_216, e161_219, e161_222, e161_224, e161_227, e161_228, e161_231, e161_232, e161_233, e161_236, e161_237, e161_240, e161_241, true_and, and_true, or_true, true_or, if_true, if_false, not_true_eq_false, not_false_eq_true, ne_eq, and_self, Option.toList_some, Option.toList_none, List.cons_append, List.nil_append, catS_0, catS_I, catS_L, catS_R, Option.map_some, Option.map_none, Option.some.injEq, Sum.inl.injEq, exists_eq_left', exists_eq', II, AA, RR, QQ, IA, IR, IQ, AI, AR, AQ, RI, RA, RQ, QI, QA, QR, LI, LA, LR, LQ, NI, NA, NR, NQ, HI, HA, HR, HQ, SI, SA, SR, SQ, p3, p4, p5, hend, e1, z1, hf, cl_0, N12 a1, L12_21 a1, L12_32 a1, gA_A]
    | _ :: _ :: r => intro _ hl1; exact absurd hl1 (by show ¬ r.length + 1 + 1 ≤ 1; omega)
  | succ n ih =>
    intro m l6 f hm hd hf
    have hlen := stk_len (B := B) (ps := ps) hD0 hD m (by omega)
    have e1 : ¬ nI e ≤ nI (s + m) := nI_ge (by omega) (by omega)
    have g2 : 128 * nI E + nI (s + m) = nI (128 * E + (s + m)) := by rw [lN128, pk_mul, nI_add]
    have g3 : (nI (128 * E + (s + m))).toInt = ((128 * E + (s + m) : Nat) : Int) := nI_toInt (by omega)
    have g4 : (nI (128 * E + (s + m))).toNatClampNeg = 128 * E + (s + m) := nI_clamp (by omega)
    have g5 : (0 : Int) ≤ ((128 * E + (s + m) : Nat) : Int) ∧ ((128 * E + (s + m) : Nat) : Int) < ((3072 : Nat) : Int) := by omega
    obtain ⟨hd2, hop⟩ := hD (s + m) (by omega) (by omega)
    have ih' := fun l6 f' => ih (m + 1) l6 f' (by omega) hd2
    have hs1 : stk B ps (fun k => gA σ 12 22 0 (128 * E + k)) s (m + 1) = stp B ps (gA σ 12 22 0 (128 * E + (s + m))) (stk B ps (fun k => gA σ 12 22 0 (128 * E + k)) s m) := rfl
    rw [hs1, show s + (m + 1) = s + m + 1 by omega] at ih'
    rcases hop with ⟨on, q, d1, d2, d6, d7, d3, -⟩ | ⟨d7, d3, d4, -⟩ | ⟨d7, d3, d4, -⟩ | ⟨d7, d3, d4, -⟩
    · obtain ⟨hps, w, hw, hwn, hwB⟩ := hB on d1 d6
      rw [d3, stp_c d1 d2] at ih'
      generalize hst : stk B ps (fun k => gA σ 12 22 0 (128 * E + k)) s m = st at ih' hf hlen ⊢
      obtain ⟨f', q1⟩ := ih' (some (vI (nI (8 * q + on)))) (upd f st.length (bz (clz B ps q on))) ⟨updS0, SKf_up st (Nat.le_refl _) hf⟩
      refine ⟨f', fun d Q => ?_⟩
      have hlc : (clz B ps q on :: st).length = st.length + 1 := rfl
      rw [← q1 d Q, hlc, ← nI_1, ← nI_1, e161_18]
      have j2 : (nI st.length).toInt = (st.length : Int) := nI_toInt (by omega)
      have j3 : (0 : Int) ≤ (st.length : Int) := by omega
      have j4 : (st.length : Int) < ((128 : Nat) : Int) := by omega
      have j5 : (nI st.length).toNatClampNeg = st.length := nI_clamp (by omega)
      have r1 : ¬ nI (8 * q + on) < 0 := nI_pos (by omega)
      have r2 : nI (8 * q + on) - nI (8 * q + on) / 8 * 8 = nI on := by
        rw [lN8, pk_rem (by omega) (by omega) (by omega)]
        congr 1; omega
      have r3 : nI (8 * q + on) / 8 = nI q := by
        rw [lN8, pk_div (by omega) (by omega) (by omega)]
        congr 1; omega
      have r2' : nI (8 * q + on) - nI q * 8 = nI on := by rw [← r3]; exact r2
      have r4 := nI_m1 (n := q) (by omega)
      by_cases hq0 : q = 0
      · have v2 : ¬ (8 : Int32) ≤ nI (8 * q + on) := nI_ge (b := 8) (by omega) (by omega)
        have hcl : clz B ps q on = pz B ps on := if_pos hq0
        have mi := fun {d : Nat} {Q : Option AV → St → Prop} => m_isP (d := d) (Q := Q) (σ := setA σ 12 32 0 f) (B := B) (ps := ps) a1 hE d1 hw (by simp +decide only [II, AA, RR, QQ, IA, IR, IQ, AI, AR, AQ, RI, RA, RQ, QI, QA, QR, LI, LA, LR, LQ, NI, NA, NR, NQ, HI, HA, HR, HQ, SI, SA, SR, SQ, true_and, and_true, or_true, true_or, if_true, if_false, not_true_eq_false, not_false_eq_true, ne_eq, and_self]; exact hwn) (by simp +decide only [II, AA, RR, QQ, IA, IR, IQ, AI, AR, AQ, RI, RA, RQ, QI, QA, QR, LI, LA, LR, LQ, NI, NA, NR, NQ, HI, HA, HR, HQ, SI, SA, SR, SQ, true_and, and_true, or_true, true_or, if_true, if_false, not_true_eq_false, not_false_eq_true, ne_eq, and_self]; exact hwB) (by simp +decide only [II, AA, RR, QQ, IA, IR, IQ, AI, AR, AQ, RI, RA, RQ, QI, QA, QR, LI, LA, LR, LQ, NI, NA, NR, NQ, HI, HA, HR, HQ, SI, SA, SR, SQ, true_and, and_true, or_true, true_or, if_true, if_false, not_true_eq_false, not_false_eq_true, ne_eq, and_self]; exact hps)
        rw [show nI on = nI (8 * q + on) by rw [hq0, Nat.mul_zero, Nat.zero_add]] at mi
        rw [hcl]
        cases hpz : pz B ps on with
        | true =>
          rw [hpz] at mi
          simp +decide only [e161_0, e161_2, e161_3, e161_4, e161_5, e161_6, e161_7, e161_8, e161_10, e161_11, e161_14, e161_15, e161_16, e161_20, e161_21, e161_24, e161_25, e161_26, e161_29, e161_30, e161_33, e161_36, e161_37, e161_38, e161_40, e161_41, e161_42, e161_44, e161_46, e161_49, e161_50, e161_53, e161_55, e161_57, e161_59, e161_62, e161_63, e161_64, e161_66, e161_69, e161_72, e161_73, e161_74, e161_76, e161_78, e161_79, e161_82, e161_84, e161_86, e161_87, e161_88, e161_89, e161_92, e161_93, e161_96, e161_97, e161_98, e161_101, e161_104, e161_106, e161_108, e161_111, e161_112, e161_115, e161_117, e161_118, e161_119, e161_120, e161_123, e161_125, e161_126, e161_127, e161_128, e161_131, e161_132, e161_135, e161_136, e161_137, e161_140, e161_143, e161_144, e161_147, e161_149, e161_150, e161_151, e161_153, e161_155, e161_158, e161_159, e161_162, e161_164, e161_165, e161_166, e161_167, e161_170, e161_171, e161_174, e161_176, e161_177, e161_180, e161_181, e161_184, e161_185, e161_188, e161_189, e161_192, e161_194, e161_195, e161_196, e161_197, e161_200, e161_201, e161_204, e161_206, e161_207, e161_210, e161_211, e161_214, e161_215, e161_216, e161_219, e161_222, e161_224, e161_227, e161_228, e161_231, e161_232, e161_233, e161_236, e161_237, e161_240, e161_241, true_and, and_true, or_true, true_or, if_true, if_false, not_true_eq_false, not_false_eq_true, ne_eq, and_self, Option.toList_some, Option.toList_none, List.cons_append, List.nil_append, catS_0, catS_I, catS_L, catS_R, Option.map_some, Option.map_none, Option.some.injEq, Sum.inl.injEq, exists_eq_left', exists_eq', II, AA, RR, QQ, IA, IR, IQ, AI, AR, AQ, RI, RA, RQ, QI, QA, QR, LI, LA, LR, LQ, NI, NA, NR, NQ, HI, HA, HR, HQ, SI, SA, SR, SQ, p3, p4, p5, hend, e1, g2, g3, g4, g5, d3, r1, v2, mi, j2, j3, j4, j5, bz_t, a11, N12 a1, L12_21 a1, L12_22 a1, L12_32 a1, gA_A, setA_A]
        | false =>
          rw [hpz] at mi
          simp +decide only [e161_0, e161_2, e161_3, e161_4, e161_5, e161_6, e161_7, e161_8, e161_10, e161_11, e161_14, e161_15, e161_16, e161_20, e161_21, e161_24, e161_25, e161_26, e161_29, e161_30, e161_33, e161_36, e161_37, e161_38, e161_40, e161_41, e161_42, e161_44, e161_46, e161_49, e161_50, e161_53, e161_55, e161_57, e161_59, e161_62, e161_63, e161_64, e161_66, e161_69, e161_72, e161_73, e161_74, e161_76, e161_78, e161_79, e161_82, e161_84, e161_86, e161_87, e161_88, e161_89, e161_92, e161_93, e161_96, e161_97, e161_98, e161_101, e161_104, e161_106, e161_108, e161_111, e161_112, e161_115, e161_117, e161_118, e161_119, e161_120, e161_123, e161_125, e161_126, e161_127, e161_128, e161_131, e161_132, e161_135, e161_136, e161_137, e161_140, e161_143, e161_144, e161_147, e161_149, e161_150, e161_151, e161_153, e161_155, e161_158, e161_159, e161_162, e161_164, e161_165, e161_166, e161_167, e161_170, e161_171, e161_174, e161_176, e161_177, e161_180, e161_181, e161_184, e161_185, e161_188, e161_189, e161_192, e161_194, e161_195, e161_196, e161_197, e161_200, e161_201, e161_204, e161_206, e161_207, e161_210, e161_211, e161_214, e161_215, e161_216, e161_219, e161_222, e161_224, e161_227, e161_228, e161_231, e161_232, e161_233, e161_236, e161_237, e161_240, e161_241, true_and, and_true, or_true, true_or, if_true, if_false, not_true_eq_false, not_false_eq_true, ne_eq, and_self, Option.toList_some, Option.toList_none, List.cons_append, List.nil_append, catS_0, catS_I, catS_L, catS_R, Option.map_some, Option.map_none, Option.some.injEq, Sum.inl.injEq, exists_eq_left', exists_eq', II, AA, RR, QQ, IA, IR, IQ, AI, AR, AQ, RI, RA, RQ, QI, QA, QR, LI, LA, LR, LQ, NI, NA, NR, NQ, HI, HA, HR, HQ, SI, SA, SR, SQ, p3, p4, p5, hend, e1, g2, g3, g4, g5, d3, r1, v2, mi, j2, j3, j4, j5, bz_f, a01, N12 a1, L12_21 a1, L12_22 a1, L12_32 a1, gA_A, setA_A]
      · have v2 : (8 : Int32) ≤ nI (8 * q + on) := nI_le (a := 8) (by omega) (by omega)
        have hcl : clz B ps q on = decide ((q : Int) - 1 < (B on).toInt) := if_neg hq0
        have mb := fun {d : Nat} {Q : Option AV → St → Prop} => m_bestOf (d := d) (Q := Q) (σ := setA σ 12 32 0 f) (g := gA σ 12 31 0) a1 hE d1 hw (by simp +decide only [II, AA, RR, QQ, IA, IR, IQ, AI, AR, AQ, RI, RA, RQ, QI, QA, QR, LI, LA, LR, LQ, NI, NA, NR, NQ, HI, HA, HR, HQ, SI, SA, SR, SQ, true_and, and_true, or_true, true_or, if_true, if_false, not_true_eq_false, not_false_eq_true, ne_eq, and_self]; exact hwn) (by simp +decide only [II, AA, RR, QQ, IA, IR, IQ, AI, AR, AQ, RI, RA, RQ, QI, QA, QR, LI, LA, LR, LQ, NI, NA, NR, NQ, HI, HA, HR, HQ, SI, SA, SR, SQ, true_and, and_true, or_true, true_or, if_true, if_false, not_true_eq_false, not_false_eq_true, ne_eq, and_self])
        rw [hwB] at mb
        rw [hcl]
        by_cases h3 : (B on).toInt ≤ (q : Int) - 1
        · have h3' : ¬ (nI q - 1).toInt < (B on).toInt := by rw [r4]; omega
          have h3'' : B on ≤ nI q - 1 := by rw [leI, r4]; exact h3
          rw [decide_eq_false (show ¬ ((q : Int) - 1 < (B on).toInt) by omega), bz_f]
          simp +decide only [e161_0, e161_2, e161_3, e161_4, e161_5, e161_6, e161_7, e161_8, e161_10, e161_11, e161_14, e161_15, e161_16, e161_20, e161_21, e161_24, e161_25, e161_26, e161_29, e161_30, e161_33, e161_36, e161_37, e161_38, e161_40, e161_41, e161_42, e161_44, e161_46, e161_49, e161_50, e161_53, e161_55, e161_57, e161_59, e161_62, e161_63, e161_64, e161_66, e161_69, e161_72, e161_73, e161_74, e161_76, e161_78, e161_79, e161_82, e161_84, e161_86, e161_87, e161_88, e161_89, e161_92, e161_93, e161_96, e161_97, e161_98, e161_101, e161_104, e161_106, e161_108, e161_111, e161_112, e161_115, e161_117, e161_118, e161_119, e161_120, e161_123, e161_125, e161_126, e161_127, e161_128, e161_131, e161_132, e161_135, e161_136, e161_137, e161_140, e161_143, e161_144, e161_147, e161_149, e161_150, e161_151, e161_153, e161_155, e161_158, e161_159, e161_162, e161_164, e161_165, e161_166, e161_167, e161_170, e161_171, e161_174, e161_176, e161_177, e161_180, e161_181, e161_184, e161_185, e161_188, e161_189, e161_192, e161_194, e161_195, e161_196, e161_197, e161_200, e161_201, e161_204, e161_206, e161_207, e161_210, e161_211, e161_214, e161_215, e161_216, e161_219, e161_222, e161_224, e161_227, e161_228, e161_231, e161_232, e161_233, e161_236, e161_237, e161_240, e161_241, true_and, and_true, or_true, true_or, if_true, if_false, not_true_eq_false, not_false_eq_true, ne_eq, and_self, Option.toList_some, Option.toList_none, List.cons_append, List.nil_append, catS_0, catS_I, catS_L, catS_R, Option.map_some, Option.map_none, Option.some.injEq, Sum.inl.injEq, exists_eq_left', exists_eq', II, AA, RR, QQ, IA, IR, IQ, AI, AR, AQ, RI, RA, RQ, QI, QA, QR, LI, LA, LR, LQ, NI, NA, NR, NQ, HI, HA, HR, HQ, SI, SA, SR, SQ, p3, p4, p5, hend, e1, g2, g3, g4, g5, d3, r1, r2, r2', r3, v2, mb, h3'', j2, j3, j4, j5, a01, N12 a1, L12_21 a1, L12_22 a1, L12_32 a1, gA_A, setA_A]
        · have h3'' : ¬ B on ≤ nI q - 1 := by rw [leI, r4]; exact h3
          rw [decide_eq_true (show ((q : Int) - 1 < (B on).toInt) by omega), bz_t]
          simp +decide only [e161_0, e161_2, e161_3, e161_4, e161_5, e161_6, e161_7, e161_8, e161_10, e161_11, e161_14, e161_15, e161_16, e161_20, e161_21, e161_24, e161_25, e161_26, e161_29, e161_30, e161_33, e161_36, e161_37, e161_38, e161_40, e161_41, e161_42, e161_44, e161_46, e161_49, e161_50, e161_53, e161_55, e161_57, e161_59, e161_62, e161_63, e161_64, e161_66, e161_69, e161_72, e161_73, e161_74, e161_76, e161_78, e161_79, e161_82, e161_84, e161_86, e161_87, e161_88, e161_89, e161_92, e161_93, e161_96, e161_97, e161_98, e161_101, e161_104, e161_106, e161_108, e161_111, e161_112, e161_115, e161_117, e161_118, e161_119, e161_120, e161_123, e161_125, e161_126, e161_127, e161_128, e161_131, e161_132, e161_135, e161_136, e161_137, e161_140, e161_143, e161_144, e161_147, e161_149, e161_150, e161_151, e161_153, e161_155, e161_158, e161_159, e161_162, e161_164, e161_165, e161_166, e161_167, e161_170, e161_171, e161_174, e161_176, e161_177, e161_180, e161_181, e161_184, e161_185, e161_188, e161_189, e161_192, e161_194, e161_195, e161_196, e161_197, e161_200, e161_201, e161_204, e161_206, e161_207, e161_210, e161_211, e161_214, e161_215, e161_216, e161_219, e161_222, e161_224, e161_227, e161_228, e161_231, e161_232, e161_233, e161_236, e161_237, e161_240, e161_241, true_and, and_true, or_true, true_or, if_true, if_false, not_true_eq_false, not_false_eq_true, ne_eq, and_self, Option.toList_some, Option.toList_none, List.cons_append, List.nil_append, catS_0, catS_I, catS_L, catS_R, Option.map_some, Option.map_none, Option.some.injEq, Sum.inl.injEq, exists_eq_left', exists_eq', II, AA, RR, QQ, IA, IR, IQ, AI, AR, AQ, RI, RA, RQ, QI, QA, QR, LI, LA, LR, LQ, NI, NA, NR, NQ, HI, HA, HR, HQ, SI, SA, SR, SQ, p3, p4, p5, hend, e1, g2, g3, g4, g5, d3, r1, r2, r2', r3, v2, mb, h3'', j2, j3, j4, j5, a11, N12 a1, L12_21 a1, L12_22 a1, L12_32 a1, gA_A, setA_A]
    · rw [d3] at ih'
      revert ih' hf hlen
      match stk B ps (fun k => gA σ 12 22 0 (128 * E + k)) s m with
      | [] => intro _ hlen _; exact absurd hlen (by show ¬ 0 = _; omega)
      | c :: r =>
        intro hf hlen ih'
        rw [stp_t] at ih'
        have hlen : r.length + 1 = D (s + m) := hlen
        obtain ⟨f', q1⟩ := ih' (some (vI (-2))) (upd f r.length (bz (!c))) ⟨updS0, SKf_up r (Nat.le_refl _) hf.2⟩
        refine ⟨f', fun d Q => ?_⟩
        have hlc : ((!c) :: r).length = r.length + 1 := rfl
        have hlc2 : (c :: r).length = r.length + 1 := rfl
        rw [← q1 d Q, hlc, hlc2, ← nI_1 (s + m), e161_18]
        have j1 : nI (r.length + 1) - 1 = nI r.length := nI_pred _
        have j2 : (nI r.length).toInt = (r.length : Int) := nI_toInt (by omega)
        have j3 : (0 : Int) ≤ (r.length : Int) := by omega
        have j4 : (r.length : Int) < ((128 : Nat) : Int) := by omega
        have j5 : (nI r.length).toNatClampNeg = r.length := nI_clamp (by omega)
        have hf1 := hf.1
        cases c with
        | true =>
          rw [bz_t] at hf1
          simp +decide only [e161_0, e161_2, e161_3, e161_4, e161_5, e161_6, e161_7, e161_8, e161_10, e161_11, e161_14, e161_15, e161_16, e161_20, e161_21, e161_24, e161_25, e161_26, e161_29, e161_30, e161_33, e161_36, e161_37, e161_38, e161_40, e161_41, e161_42, e161_44, e161_46, e161_49, e161_50, e161_53, e161_55, e161_57, e161_59, e161_62, e161_63, e161_64, e161_66, e161_69, e161_72, e161_73, e161_74, e161_76, e161_78, e161_79, e161_82, e161_84, e161_86, e161_87, e161_88, e161_89, e161_92, e161_93, e161_96, e161_97, e161_98, e161_101, e161_104, e161_106, e161_108, e161_111, e161_112, e161_115, e161_117, e161_118, e161_119, e161_120, e161_123, e161_125, e161_126, e161_127, e161_128, e161_131, e161_132, e161_135, e161_136, e161_137, e161_140, e161_143, e161_144, e161_147, e161_149, e161_150, e161_151, e161_153, e161_155, e161_158, e161_159, e161_162, e161_164, e161_165, e161_166, e161_167, e161_170, e161_171, e161_174, e161_176, e161_177, e161_180, e161_181, e161_184, e161_185, e161_188, e161_189, e161_192, e161_194, e161_195, e161_196, e161_197, e161_200, e161_201, e161_204, e161_206, e161_207, e161_210, e161_211, e161_214, e161_215, e161_216, e161_219, e161_222, e161_224, e161_227, e161_228, e161_231, e161_232, e161_233, e161_236, e161_237, e161_240, e161_241, true_and, and_true, or_true, true_or, if_true, if_false, not_true_eq_false, not_false_eq_true, ne_eq, and_self, Option.toList_some, Option.toList_none, List.cons_append, List.nil_append, catS_0, catS_I, catS_L, catS_R, Option.map_some, Option.map_none, Option.some.injEq, Sum.inl.injEq, exists_eq_left', exists_eq', II, AA, RR, QQ, IA, IR, IQ, AI, AR, AQ, RI, RA, RQ, QI, QA, QR, LI, LA, LR, LQ, NI, NA, NR, NQ, HI, HA, HR, HQ, SI, SA, SR, SQ, p3, p4, p5, hend, e1, g2, g3, g4, g5, d3, j1, j2, j3, j4, j5, hf1, a01, bz_f, Bool.not_true, N12 a1, L12_21 a1, L12_22 a1, L12_32 a1, gA_A, setA_A]
        | false =>
          rw [bz_f] at hf1
          simp +decide only [e161_0, e161_2, e161_3, e161_4, e161_5, e161_6, e161_7, e161_8, e161_10, e161_11, e161_14, e161_15, e161_16, e161_20, e161_21, e161_24, e161_25, e161_26, e161_29, e161_30, e161_33, e161_36, e161_37, e161_38, e161_40, e161_41, e161_42, e161_44, e161_46, e161_49, e161_50, e161_53, e161_55, e161_57, e161_59, e161_62, e161_63, e161_64, e161_66, e161_69, e161_72, e161_73, e161_74, e161_76, e161_78, e161_79, e161_82, e161_84, e161_86, e161_87, e161_88, e161_89, e161_92, e161_93, e161_96, e161_97, e161_98, e161_101, e161_104, e161_106, e161_108, e161_111, e161_112, e161_115, e161_117, e161_118, e161_119, e161_120, e161_123, e161_125, e161_126, e161_127, e161_128, e161_131, e161_132, e161_135, e161_136, e161_137, e161_140, e161_143, e161_144, e161_147, e161_149, e161_150, e161_151, e161_153, e161_155, e161_158, e161_159, e161_162, e161_164, e161_165, e161_166, e161_167, e161_170, e161_171, e161_174, e161_176, e161_177, e161_180, e161_181, e161_184, e161_185, e161_188, e161_189, e161_192, e161_194, e161_195, e161_196, e161_197, e161_200, e161_201, e161_204, e161_206, e161_207, e161_210, e161_211, e161_214, e161_215, e161_216, e161_219, e161_222, e161_224, e161_227, e161_228, e161_231, e161_232, e161_233, e161_236, e161_237, e161_240, e161_241, true_and, and_true, or_true, true_or, if_true, if_false, not_true_eq_false, not_false_eq_true, ne_eq, and_self, Option.toList_some, Option.toList_none, List.cons_append, List.nil_append, catS_0, catS_I, catS_L, catS_R, Option.map_some, Option.map_none, Option.some.injEq, Sum.inl.injEq, exists_eq_left', exists_eq', II, AA, RR, QQ, IA, IR, IQ, AI, AR, AQ, RI, RA, RQ, QI, QA, QR, LI, LA, LR, LQ, NI, NA, NR, NQ, HI, HA, HR, HQ, SI, SA, SR, SQ, p3, p4, p5, hend, e1, g2, g3, g4, g5, d3, j1, j2, j3, j4, j5, hf1, a11, bz_t, Bool.not_false, N12 a1, L12_21 a1, L12_22 a1, L12_32 a1, gA_A, setA_A]
    · rw [d3] at ih'
      revert ih' hf hlen
      match stk B ps (fun k => gA σ 12 22 0 (128 * E + k)) s m with
      | [] => intro _ hlen _; exact absurd hlen (by show ¬ 0 = _; omega)
      | [c] => intro _ hlen _; exact absurd hlen (by show ¬ 1 = _; omega)
      | c :: c' :: r =>
        intro hf hlen ih'
        rw [stp_b] at ih'
        have hlen : r.length + 1 + 1 = D (s + m) := hlen
        obtain ⟨f', q1⟩ := ih' (some (vI (-3))) (upd f r.length (bz (c' && c))) ⟨updS0, SKf_up r (Nat.le_refl _) hf.2.2⟩
        refine ⟨f', fun d Q => ?_⟩
        have hlc : ((c' && c) :: r).length = r.length + 1 := rfl
        have hlc2 : (c :: c' :: r).length = r.length + 1 + 1 := rfl
        rw [← q1 d Q, hlc, hlc2, ← nI_1 (s + m), e161_18]
        have j0 : nI (r.length + 1 + 1) + (-1) = nI (r.length + 1) := pk_m1 _
        have j1 : nI (r.length + 1) - 1 = nI r.length := nI_pred _
        have j2 : (nI r.length).toInt = (r.length : Int) := nI_toInt (by omega)
        have j3 : (0 : Int) ≤ (r.length : Int) := by omega
        have j4 : (r.length : Int) < ((128 : Nat) : Int) := by omega
        have j5 : (nI r.length).toNatClampNeg = r.length := nI_clamp (by omega)
        have i2 : (nI (r.length + 1)).toInt = ((r.length + 1 : Nat) : Int) := nI_toInt (by omega)
        have i3 : (0 : Int) ≤ ((r.length + 1 : Nat) : Int) := by omega
        have i4 : ((r.length + 1 : Nat) : Int) < ((128 : Nat) : Int) := by omega
        have i5 : (nI (r.length + 1)).toNatClampNeg = r.length + 1 := nI_clamp (by omega)
        have hf1 : f (r.length + 1) = bz c := hf.1
        have hf2 := hf.2.1
        cases c <;> cases c'
        all_goals
          first | rw [bz_t] at hf1 | rw [bz_f] at hf1
          first | rw [bz_t] at hf2 | rw [bz_f] at hf2
          simp +decide only [e161_0, e161_2, e161_3, e161_4, e161_5, e161_6, e161_7, e161_8, e161_10, e161_11, e161_14, e161_15, e161_16, e161_20, e161_21, e161_24, e161_25, e161_26, e161_29, e161_30, e161_33, e161_36, e161_37, e161_38, e161_40, e161_41, e161_42, e161_44, e161_46, e161_49, e161_50, e161_53, e161_55, e161_57, e161_59, e161_62, e161_63, e161_64, e161_66, e161_69, e161_72, e161_73, e161_74, e161_76, e161_78, e161_79, e161_82, e161_84, e161_86, e161_87, e161_88, e161_89, e161_92, e161_93, e161_96, e161_97, e161_98, e161_101, e161_104, e161_106, e161_108, e161_111, e161_112, e161_115, e161_117, e161_118, e161_119, e161_120, e161_123, e161_125, e161_126, e161_127, e161_128, e161_131, e161_132, e161_135, e161_136, e161_137, e161_140, e161_143, e161_144, e161_147, e161_149, e161_150, e161_151, e161_153, e161_155, e161_158, e161_159, e161_162, e161_164, e161_165, e161_166, e161_167, e161_170, e161_171, e161_174, e161_176, e161_177, e161_180, e161_181, e161_184, e161_185, e161_188, e161_189, e161_192, e161_194, e161_195, e161_196, e161_197, e161_200, e161_201, e161_204, e161_206, e161_207, e161_210, e161_211, e161_214, e161_215, e161_216, e161_219, e161_222, e161_224, e161_227, e161_228, e161_231, e161_232, e161_233, e161_236, e161_237, e161_240, e161_241, true_and, and_true, or_true, true_or, if_true, if_false, not_true_eq_false, not_false_eq_true, ne_eq, and_self, Option.toList_some, Option.toList_none, List.cons_append, List.nil_append, catS_0, catS_I, catS_L, catS_R, Option.map_some, Option.map_none, Option.some.injEq, Sum.inl.injEq, exists_eq_left', exists_eq', II, AA, RR, QQ, IA, IR, IQ, AI, AR, AQ, RI, RA, RQ, QI, QA, QR, LI, LA, LR, LQ, NI, NA, NR, NQ, HI, HA, HR, HQ, SI, SA, SR, SQ, p3, p4, p5, hend, e1, g2, g3, g4, g5, d3, j0, j1, j2, j3, j4, j5, i2, i3, i4, i5, hf1, hf2, a01, a11, bz_t, bz_f, Bool.and_true, Bool.and_false, N12 a1, L12_21 a1, L12_22 a1, L12_32 a1, gA_A, setA_A]
    · rw [d3] at ih'
      revert ih' hf hlen
      match stk B ps (fun k => gA σ 12 22 0 (128 * E + k)) s m with
      | [] => intro _ hlen _; exact absurd hlen (by show ¬ 0 = _; omega)
      | [c] => intro _ hlen _; exact absurd hlen (by show ¬ 1 = _; omega)
      | c :: c' :: r =>
        intro hf hlen ih'
        rw [stp_e] at ih'
        have hlen : r.length + 1 + 1 = D (s + m) := hlen
        obtain ⟨f', q1⟩ := ih' (some (vI (-4))) (upd f r.length (bz (c' || c))) ⟨updS0, SKf_up r (Nat.le_refl _) hf.2.2⟩
        refine ⟨f', fun d Q => ?_⟩
        have hlc : ((c' || c) :: r).length = r.length + 1 := rfl
        have hlc2 : (c :: c' :: r).length = r.length + 1 + 1 := rfl
        rw [← q1 d Q, hlc, hlc2, ← nI_1 (s + m), e161_18]
        have j0 : nI (r.length + 1 + 1) + (-1) = nI (r.length + 1) := pk_m1 _
        have j1 : nI (r.length + 1) - 1 = nI r.length := nI_pred _
        have j2 : (nI r.length).toInt = (r.length : Int) := nI_toInt (by omega)
        have j3 : (0 : Int) ≤ (r.length : Int) := by omega
        have j4 : (r.length : Int) < ((128 : Nat) : Int) := by omega
        have j5 : (nI r.length).toNatClampNeg = r.length := nI_clamp (by omega)
        have i2 : (nI (r.length + 1)).toInt = ((r.length + 1 : Nat) : Int) := nI_toInt (by omega)
        have i3 : (0 : Int) ≤ ((r.length + 1 : Nat) : Int) := by omega
        have i4 : ((r.length + 1 : Nat) : Int) < ((128 : Nat) : Int) := by omega
        have i5 : (nI (r.length + 1)).toNatClampNeg = r.length + 1 := nI_clamp (by omega)
        have hf1 : f (r.length + 1) = bz c := hf.1
        have hf2 := hf.2.1
        cases c <;> cases c'
        all_goals
          first | rw [bz_t] at hf1 | rw [bz_f] at hf1
          first | rw [bz_t] at hf2 | rw [bz_f] at hf2
          simp +decide only [e161_0, e161_2, e161_3, e161_4, e161_5, e161_6, e161_7, e161_8, e161_10, e161_11, e161_14, e161_15, e161_16, e161_20, e161_21, e161_24, e161_25, e161_26, e161_29, e161_30, e161_33, e161_36, e161_37, e161_38, e161_40, e161_41, e161_42, e161_44, e161_46, e161_49, e161_50, e161_53, e161_55, e161_57, e161_59, e161_62, e161_63, e161_64, e161_66, e161_69, e161_72, e161_73, e161_74, e161_76, e161_78, e161_79, e161_82, e161_84, e161_86, e161_87, e161_88, e161_89, e161_92, e161_93, e161_96, e161_97, e161_98, e161_101, e161_104, e161_106, e161_108, e161_111, e161_112, e161_115, e161_117, e161_118, e161_119, e161_120, e161_123, e161_125, e161_126, e161_127, e161_128, e161_131, e161_132, e161_135, e161_136, e161_137, e161_140, e161_143, e161_144, e161_147, e161_149, e161_150, e161_151, e161_153, e161_155, e161_158, e161_159, e161_162, e161_164, e161_165, e161_166, e161_167, e161_170, e161_171, e161_174, e161_176, e161_177, e161_180, e161_181, e161_184, e161_185, e161_188, e161_189, e161_192, e161_194, e161_195, e161_196, e161_197, e161_200, e161_201, e161_204, e161_206, e161_207, e161_210, e161_211, e161_214, e161_215, e161_216, e161_219, e161_222, e161_224, e161_227, e161_228, e161_231, e161_232, e161_233, e161_236, e161_237, e161_240, e161_241, true_and, and_true, or_true, true_or, if_true, if_false, not_true_eq_false, not_false_eq_true, ne_eq, and_self, Option.toList_some, Option.toList_none, List.cons_append, List.nil_append, catS_0, catS_I, catS_L, catS_R, Option.map_some, Option.map_none, Option.some.injEq, Sum.inl.injEq, exists_eq_left', exists_eq', II, AA, RR, QQ, IA, IR, IQ, AI, AR, AQ, RI, RA, RQ, QI, QA, QR, LI, LA, LR, LQ, NI, NA, NR, NQ, HI, HA, HR, HQ, SI, SA, SR, SQ, p3, p4, p5, hend, e1, g2, g3, g4, g5, d3, j0, j1, j2, j3, j4, j5, i2, i3, i4, i5, hf1, hf2, a01, a11, bz_t, bz_f, Bool.or_true, Bool.or_false, N12 a1, L12_21 a1, L12_22 a1, L12_32 a1, gA_A, setA_A]
theorem m_holds {f : Nat → Int32} (a1 : SH σ) (hE : E < 24) (hl : l < 8) (hse : s ≤ e) (he : e ≤ 120) (hst : gA σ 12 20 0 (8 * E + l) = nI s) (hend : gA σ 12 21 0 (8 * E + l) = nI e) (hW : CW b cd (fun k => gA σ 12 22 0 (128 * E + k)) s e) (hB : ∀ on, on < 8 → b.testBit on = true → gA σ 12 19 0 (8 * E + on) = ps on ∧ ∃ w, w < 40 ∧ gA σ 12 18 0 (8 * E + on) = nI w ∧ gA σ 12 31 0 w = B on) : ∃ f' : Nat → Int32, ∀ d Q, Rn (d + 2) Q (161, 0, [some (vR (some (12, 0, 0))), some (vI (nI E)), some (vI (nI l)), none, none, none, none], [], setA σ 12 32 0 f) = Q (some (vI (bz (hv (stk B ps (fun k => gA σ 12 22 0 (128 * E + k)) s (e - s)))))) (setA σ 12 32 0 f') := by
  obtain ⟨D, d0, d1, d2⟩ := hW
  obtain ⟨f', q1⟩ := m_holds_l (l := l) a1 hE hl he hend d0 d2 d1 hB (e - s) 0 none f (by omega) (by rw [Nat.add_zero, d0]; omega) trivial
  refine ⟨f', fun d Q => ?_⟩
  have t := q1 d Q
  rw [Nat.add_zero] at t
  have t' : Rn (d + 2) Q (161, 18, [some (vR (some (12, 0, 0))), some (vI (nI E)), some (vI (nI l)), some (vI (nI (8 * E + l))), some (vI (nI 0)), some (vI (nI s)), none], [], setA σ 12 32 0 f) = _ := t
  rw [nI_0] at t'
  have g2 : 8 * nI E + nI l = nI (8 * E + l) := by rw [lN8, pk_mul, nI_add]
  have p3 : (nI (8 * E + l)).toInt = ((8 * E + l : Nat) : Int) := nI_toInt (by omega)
  have p4 : (nI (8 * E + l)).toNatClampNeg = 8 * E + l := nI_clamp (by omega)
  have p5 : (0 : Int) ≤ ((8 * E + l : Nat) : Int) ∧ ((8 * E + l : Nat) : Int) < ((192 : Nat) : Int) := by omega
  simp +decide only [e161_0, e161_2, e161_3, e161_4, e161_5, e161_6, e161_7, e161_8, e161_10, e161_11, e161_14, e161_15, e161_16, e161_20, e161_21, e161_24, e161_25, e161_26, e161_29, e161_30, e161_33, e161_36, e161_37, e161_38, e161_40, e161_41, e161_42, e161_44, e161_46, e161_49, e161_50, e161_53, e161_55, e161_57, e161_59, e161_62, e161_63, e161_64, e161_66, e161_69, e161_72, e161_73, e161_74, e161_76, e161_78, e161_79, e161_82, e161_84, e161_86, e161_87, e161_88, e161_89, e161_92, e161_93, e161_96, e161_97, e161_98, e161_101, e161_104, e161_106, e161_108, e161_111, e161_112, e161_115, e161_117, e161_118, e161_119, e161_120, e161_123, e161_125, e161_126, e161_127, e161_128, e161_131, e161_132, e161_135, e161_136, e161_137, e161_140, e161_143, e161_144, e161_147, e161_149, e161_150, e161_151, e161_153, e161_155, e161_158, e161_159, e161_162, e161_164, e161_165, e161_166, e161_167, e161_170, e161_171, e161_174, e161_176, e161_177, e161_180, e161_181, e161_184, e161_185, e161_188, e161_189, e161_192, e161_194, e161_195, e161_196, e161_197, e161_200, e161_201, e161_204, e161_206, e161_207, e161_210, e161_211, e161_214, e161_215, e161_216, e161_219, e161_222, e161_224, e161_227, e161_228, e161_231, e161_232, e161_233, e161_236, e161_237, e161_240, e161_241, true_and, and_true, or_true, true_or, if_true, if_false, not_true_eq_false, not_false_eq_true, ne_eq, and_self, Option.toList_some, Option.toList_none, List.cons_append, List.nil_append, catS_0, catS_I, catS_L, catS_R, Option.map_some, Option.map_none, Option.some.injEq, Sum.inl.injEq, exists_eq_left', exists_eq', II, AA, RR, QQ, IA, IR, IQ, AI, AR, AQ, RI, RA, RQ, QI, QA, QR, LI, LA, LR, LQ, NI, NA, NR, NQ, HI, HA, HR, HQ, SI, SA, SR, SQ, g2, p3, p4, p5, hst, N12 a1, L12_20 a1, t']
end HOL3
