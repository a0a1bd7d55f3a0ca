/-- what the reference reads while it tries all ways -/
def SRr (K U : Nat) (fit : Nat → Nat → Bool) (pace l0 L : Nat → Nat) (ρ : St) : Prop := SH ρ ∧ gI ρ 12 54 0 = nI U ∧ gI ρ 12 59 0 = nI K ∧ (∀ i, i < K → gA ρ 12 60 0 i = nI (L i) ∧ L i < 80) ∧ (∀ u, u < U → gA ρ 12 58 0 u = nI (l0 u) ∧ l0 u ≤ 12 ∧ gA ρ 12 56 0 u = nI (pace u) ∧ 1 ≤ pace u ∧ pace u ≤ 9) ∧ ∀ i u, i < K → u < U → ((gA ρ 12 55 0 u >>> ((gA ρ 12 41 0 (L i) / 10) &&& 31)) &&& 1 = 1 ∧ (gA ρ 12 57 0 u >>> (gA ρ 12 40 0 (L i) &&& 31)) &&& 1 = 0) = (fit i u = true)
def PK (c k : Nat) : Bool := decide (c = 12 ∧ 61 ≤ k ∧ k ≤ 63)
def RK (c k : Nat) : Bool := decide (c = 12 ∧ 64 ≤ k ∧ k ≤ 67)
def PK3 (c k : Nat) : Bool := decide (c = 12 ∧ k = 63)
def RK3 (c k : Nat) : Bool := decide (c = 12 ∧ (k = 66 ∨ k = 67))
def PK1 (c k : Nat) : Bool := decide (c = 12 ∧ k = 61)
theorem PK3_w : ∀ c k, PK c k = false → PK3 c k = false := by
  intro c k h
  unfold PK at h
  unfold PK3
  rw [decide_eq_false_iff_not] at *
  omega
theorem RK3_w : ∀ c k, RK c k = false → RK3 c k = false := by
  intro c k h
  unfold RK at h
  unfold RK3
  rw [decide_eq_false_iff_not] at *
  omega
theorem PK1_w : ∀ c k, PK c k = false → PK1 c k = false := by
  intro c k h
  unfold PK at h
  unfold PK1
  rw [decide_eq_false_iff_not] at *
  omega
theorem SR_fr {K U : Nat} {fit : Nat → Nat → Bool} {pace l0 L : Nat → Nat} {ρ ρ' : St} (h : frB PK RK ρ ρ') (hC : SRr K U fit pace l0 L ρ) : SRr K U fit pace l0 L ρ' := by
  have hS := SH_frB h hC.1
  obtain ⟨h1, h2, h3, h4, h5, h6, h7, h8⟩ := h
  obtain ⟨c1, c2⟩ := hC
  refine ⟨hS, ?_⟩
  rw [h8 12 54 (by decide), h8 12 59 (by decide), h7 12 60 (by decide), h7 12 58 (by decide), h7 12 56 (by decide), h7 12 55 (by decide), h7 12 41 (by decide), h7 12 57 (by decide), h7 12 40 (by decide)]
  exact c2
section LOOK
variable {K U : Nat} {fit : Nat → Nat → Bool} {pace l0 L : Nat → Nat}
theorem m_cut {d : Nat} {Q : Option AV → St → Prop} {σ : St} {a p u : Nat} (a1 : SH σ) (hu : u < 6) (hq : gA σ 12 56 0 u = nI p) (ha : a < 1000) (hp : 0 < p) (hp2 : p < 1000) : Rn d Q (188, 0, [some (vR (some (12, 0, 0))), some (vI (nI u)), some (vI (nI a))], [], σ) = Q (some (vI (nI (cutN a p)))) σ := by
  have h2 : nI a + nI p - 1 = nI (a + p - 1) := by rw [nI_add, lN1, pk_sub (by omega)]
  have h3 : nI (a + p - 1) / nI p = nI (cutN a p) := pk_div (by omega) hp (by omega)
  have h4 : ¬ nI p = 0 := nI_ne0 hp (by omega)
  have y2 : (nI u).toInt = (u : Int) := nI_toInt (by omega)
  have y3 : (0 : Int) ≤ (u : Int) := by omega
  have y4 : (u : Int) < ((6 : Nat) : Int) := by omega
  have y5 : (nI u).toNatClampNeg = u := nI_clamp (by omega)
  simp +decide only [e188_0, e188_1, e188_2, e188_5, e188_6, e188_7, e188_8, e188_9, e188_10, e188_11, e188_14, e188_15, e188_16, e188_17, true_and, and_true, or_true, true_or, if_true, if_false, not_true_eq_false, not_false_eq_true, ne_eq, and_self, Option.toList_some, Option.toList_none, List.cons_append, List.nil_append, catS_0, catS_I, catS_L, catS_R, Option.map_some, Option.map_none, Option.some.injEq, Sum.inl.injEq, exists_eq_left', exists_eq', hq, y2, y3, y4, y5, h2, h3, h4, N12 a1, L12_56 a1]
theorem m_zero (hU : U ≤ 6) {l2 : Option AV} : ∀ (n u : Nat) (ρ : St), u + n = U → SRr K U fit pace l0 L ρ → (∀ v, v < u → gA ρ 12 63 0 v = 0) → ∃ ρ', frB PK3 RK3 ρ ρ' ∧ (∀ v, v < U → gA ρ' 12 63 0 v = 0) ∧ ∀ D Q, Rn D Q (191, 2, [some (vR (some (12, 0, 0))), some (vI (nI u)), l2], [], ρ) = Rn D Q (191, 23, [some (vR (some (12, 0, 0))), some (vI (nI U)), l2], [], ρ') := by
  intro n
  induction n with
  | zero =>
    intro u ρ hu hC h2
    obtain ⟨a1, c1, c2⟩ := hC
    have hu : u = U := by omega
    subst hu
    have y1 : nI u ≤ nI u := nI_le (by omega) (by omega)
    refine ⟨ρ, frB_0, h2, fun D Q => ?_⟩
    rw [e191_2]
    simp +decide only [e191_0, e191_1, e191_3, e191_4, e191_7, e191_10, e191_11, e191_14, e191_15, e191_16, e191_17, e191_20, e191_23, e191_24, e191_25, e191_28, e191_29, e191_30, e191_33, e191_34, e191_36, e191_37, e191_40, e191_43, e191_44, e191_47, e191_50, e191_51, e191_54, e191_55, e191_56, e191_57, e191_58, e191_59, e191_62, e191_65, e191_66, e191_67, e191_70, e191_71, e191_72, e191_73, e191_76, e191_79, e191_80, e191_83, e191_84, e191_85, e191_86, e191_89, e191_90, e191_91, e191_92, e191_94, e191_97, e191_98, e191_99, e191_102, e191_105, e191_106, e191_107, e191_110, e191_113, e191_114, e191_117, e191_118, e191_119, e191_120, e191_121, e191_122, e191_123, e191_124, e191_125, e191_128, e191_129, e191_130, e191_133, e191_134, e191_135, e191_138, e191_139, e191_140, e191_141, e191_144, e191_145, e191_146, e191_147, e191_150, e191_151, e191_152, e191_153, e191_156, e191_157, e191_160, e191_163, e191_166, true_and, and_true, or_true, true_or, if_true, if_false, not_true_eq_false, not_false_eq_true, ne_eq, and_self, Option.toList_some, Option.toList_none, List.cons_append, List.nil_append, catS_0, catS_I, catS_L, catS_R, Option.map_some, Option.map_none, c1, y1, N12 a1]
  | succ n ih =>
    intro u ρ hu hC h2
    have hC0 := hC
    obtain ⟨a1, c1, c2⟩ := hC
    have y1 : ¬ nI U ≤ nI u := nI_ge (by omega) (by omega)
    have y2 : (nI u).toInt = (u : Int) := nI_toInt (by omega)
    have y3 : (0 : Int) ≤ (u : Int) := by omega
    have y4 : (u : Int) < ((6 : Nat) : Int) := by omega
    have y5 : (nI u).toNatClampNeg = u := nI_clamp (by omega)
    obtain ⟨ρ', p1, p2, p3⟩ := ih (u + 1) (setA ρ 12 63 0 (upd (gA ρ 12 63 0) u 0)) (by omega) (SR_fr (frB_A (by decide)) hC0) (by
      simp +decide only [II, AA, RR, QQ, IA, IR, IQ, AI, AR, AQ, RI, RA, RQ, QI, QA, QR, LI, LA, LR, LQ, NI, NA, NR, NQ, HI, HA, HR, HQ, SI, SA, SR, SQ, true_and, and_true, or_true, true_or, if_true, if_false, not_true_eq_false, not_false_eq_true, ne_eq, and_self]
      intro v hv
      by_cases hvu : v = u
      · rw [hvu, updS0]
      · rw [pk_un hvu]; exact h2 v (by omega))
    refine ⟨ρ', frB_t (frB_A (by decide)) p1, p2, fun D Q => ?_⟩
    rw [← p3 D Q, e191_2, ← nI_1 u]
    simp +decide only [e191_0, e191_1, e191_3, e191_4, e191_7, e191_10, e191_11, e191_14, e191_15, e191_16, e191_17, e191_20, e191_23, e191_24, e191_25, e191_28, e191_29, e191_30, e191_33, e191_34, e191_36, e191_37, e191_40, e191_43, e191_44, e191_47, e191_50, e191_51, e191_54, e191_55, e191_56, e191_57, e191_58, e191_59, e191_62, e191_65, e191_66, e191_67, e191_70, e191_71, e191_72, e191_73, e191_76, e191_79, e191_80, e191_83, e191_84, e191_85, e191_86, e191_89, e191_90, e191_91, e191_92, e191_94, e191_97, e191_98, e191_99, e191_102, e191_105, e191_106, e191_107, e191_110, e191_113, e191_114, e191_117, e191_118, e191_119, e191_120, e191_121, e191_122, e191_123, e191_124, e191_125, e191_128, e191_129, e191_130, e191_133, e191_134, e191_135, e191_138, e191_139, e191_140, e191_141, e191_144, e191_145, e191_146, e191_147, e191_150, e191_151, e191_152, e191_153, e191_156, e191_157, e191_160, e191_163, e191_166, true_and, and_true, or_true, true_or, if_true, if_false, not_true_eq_false, not_false_eq_true, ne_eq, and_self, Option.toList_some, Option.toList_none, List.cons_append, List.nil_append, catS_0, catS_I, catS_L, catS_R, Option.map_some, Option.map_none, Option.some.injEq, Sum.inl.injEq, exists_eq_left', exists_eq', II, AA, RR, QQ, IA, IR, IQ, AI, AR, AQ, RI, RA, RQ, QI, QA, QR, LI, LA, LR, LQ, NI, NA, NR, NQ, HI, HA, HR, HQ, SI, SA, SR, SQ, c1, y1, y2, y3, y4, y5, N12 a1, L12_63 a1]
/-- how a look ends -/
def LEn (x : Option ((Nat → Nat) × Nat × Nat)) (ρ : St) : Prop := match x with
  | none => gI ρ 12 66 0 = -1
  | some (_, m, s) => gI ρ 12 66 0 = nI m ∧ gI ρ 12 67 0 = nI s ∧ m ≤ 6 ∧ s ≤ 78
theorem m_lookL {v : Nat → Nat} (hK : K ≤ 6) (hU : U ≤ 6) : ∀ (n i : Nat) (ρ : St) (ld : Nat → Nat) (m s : Nat) (l2 : Option AV), i + n = K → SRr K U fit pace l0 L ρ → (∀ j, j < K → gA ρ 12 61 0 j = nI (v j) ∧ v j ≤ U) → evV U fit pace l0 v i = some (ld, m, s) → (∀ u, u < U → ∃ x, gA ρ 12 63 0 u = nI x ∧ ld u = l0 u + x ∧ ld u ≤ 12) → gI ρ 12 66 0 = nI m → gI ρ 12 67 0 = nI s → m ≤ i → s ≤ 13 * i → ∃ ρ', frB PK3 RK3 ρ ρ' ∧ LEn (evV U fit pace l0 v K) ρ' ∧ ∀ D Q, Rn (D + 1) Q (191, 35, [some (vR (some (12, 0, 0))), some (vI (nI i)), l2], [], ρ) = Q none ρ' := by
  intro n
  induction n with
  | zero =>
    intro i ρ ld m s l2 hi hC hv he hl hm hs hm6 hs6
    obtain ⟨a1, c1, c2, c3⟩ := hC
    have hi : i = K := by omega
    subst hi
    have y1 : nI i ≤ nI i := nI_le (by omega) (by omega)
    refine ⟨ρ, frB_0, by rw [he]; exact ⟨hm, hs, by omega, by omega⟩, fun D Q => ?_⟩
    rw [e191_35]
    simp +decide only [e191_0, e191_1, e191_3, e191_4, e191_7, e191_10, e191_11, e191_14, e191_15, e191_16, e191_17, e191_20, e191_23, e191_24, e191_25, e191_28, e191_29, e191_30, e191_33, e191_34, e191_36, e191_37, e191_40, e191_43, e191_44, e191_47, e191_50, e191_51, e191_54, e191_55, e191_56, e191_57, e191_58, e191_59, e191_62, e191_65, e191_66, e191_67, e191_70, e191_71, e191_72, e191_73, e191_76, e191_79, e191_80, e191_83, e191_84, e191_85, e191_86, e191_89, e191_90, e191_91, e191_92, e191_94, e191_97, e191_98, e191_99, e191_102, e191_105, e191_106, e191_107, e191_110, e191_113, e191_114, e191_117, e191_118, e191_119, e191_120, e191_121, e191_122, e191_123, e191_124, e191_125, e191_128, e191_129, e191_130, e191_133, e191_134, e191_135, e191_138, e191_139, e191_140, e191_141, e191_144, e191_145, e191_146, e191_147, e191_150, e191_151, e191_152, e191_153, e191_156, e191_157, e191_160, e191_163, e191_166, true_and, and_true, or_true, true_or, if_true, if_false, not_true_eq_false, not_false_eq_true, ne_eq, and_self, Option.toList_some, Option.toList_none, List.cons_append, List.nil_append, catS_0, catS_I, catS_L, catS_R, Option.map_some, Option.map_none, c2, y1, N12 a1]
  | succ n ih =>
    intro i ρ ld m s l2 hi hC hv he hl hm hs hm6 hs6
    have hC0 := hC
    obtain ⟨a1, c1, c2, c3, c4, c5⟩ := hC
    have y1 : ¬ nI K ≤ nI i := nI_ge (by omega) (by omega)
    have y2 : (nI i).toInt = (i : Int) := nI_toInt (by omega)
    have y3 : (0 : Int) ≤ (i : Int) := by omega
    have y4 : (i : Int) < ((6 : Nat) : Int) := by omega
    have y5 : (nI i).toNatClampNeg = i := nI_clamp (by omega)
    have x1 : ¬ nI m < 0 := nI_pos (by omega)
    obtain ⟨v1, v2⟩ := hv i (by omega)
    obtain ⟨t1, t2⟩ := c3 i (by omega)
    have hes := evV_s he
    by_cases hvU : v i < U
    · rw [if_pos hvU] at hes
      have q1 : ¬ nI U ≤ nI (v i) := nI_ge (by omega) (by omega)
      have q2 : (nI (v i)).toInt = ((v i : Nat) : Int) := nI_toInt (by omega)
      have q3 : (0 : Int) ≤ ((v i : Nat) : Int) := by omega
      have q4 : ((v i : Nat) : Int) < ((6 : Nat) : Int) := by omega
      have q5 : (nI (v i)).toNatClampNeg = v i := nI_clamp (by omega)
      have ms := fun {d : Nat} {Q : Option AV → St → Prop} => m_suits (d := d) (Q := Q) a1 t2 (show v i < 6 by omega)
      simp only [c5 i (v i) (by omega) hvU] at ms
      obtain ⟨z, z1, z2, z3⟩ := hl (v i) hvU
      obtain ⟨w1, w2, w3, w4, w5⟩ := c4 (v i) hvU
      by_cases hc : (fit i (v i) && decide (ld (v i) < 12)) = true
      · rw [if_pos hc] at hes
        rw [Bool.and_eq_true, decide_eq_true_iff] at hc
        have r1 : nI (l0 (v i)) + nI z = nI (ld (v i)) := by rw [nI_add, z2]
        have r2 : nI (ld (v i)) < 12 := nI_lt (b := 12) hc.2 (by omega)
        have r3 : nI (l0 (v i)) + nI (z + 1) = nI (ld (v i) + 1) := by rw [nI_add, z2]; congr 1
        have cu := fun {d : Nat} {Q : Option AV → St → Prop} {σ : St} (a1 : SH σ) (hq : gA σ 12 56 0 (v i) = nI (pace (v i))) => m_cut (d := d) (Q := Q) (σ := σ) (a := ld (v i) + 1) (p := pace (v i)) a1 (show v i < 6 by omega) hq (by omega) (by omega) (by omega)
        have hcl : cutN (ld (v i) + 1) (pace (v i)) ≤ 13 := cutN_le (by omega) (by omega)
        obtain ⟨ρ', p1, p2, p3⟩ := ih (i + 1) (setI (setI (setA ρ 12 63 0 (upd (gA ρ 12 63 0) (v i) (nI (z + 1)))) 12 66 0 (nI (m + 1))) 12 67 0 (nI (s + cutN (ld (v i) + 1) (pace (v i))))) (va_up ld (v i) (ld (v i) + 1)) (m + 1) (s + cutN (ld (v i) + 1) (pace (v i))) (some (vI (nI (v i)))) (by omega) (SR_fr (frB_t (frB_t (frB_A (by decide)) (frB_I (by decide))) (frB_I (by decide))) hC0) (by simp +decide only [II, AA, RR, QQ, IA, IR, IQ, AI, AR, AQ, RI, RA, RQ, QI, QA, QR, LI, LA, LR, LQ, NI, NA, NR, NQ, HI, HA, HR, HQ, SI, SA, SR, SQ, true_and, and_true, or_true, true_or, if_true, if_false, not_true_eq_false, not_false_eq_true, ne_eq, and_self]; exact hv) hes (by
          simp +decide only [II, AA, RR, QQ, IA, IR, IQ, AI, AR, AQ, RI, RA, RQ, QI, QA, QR, LI, LA, LR, LQ, NI, NA, NR, NQ, HI, HA, HR, HQ, SI, SA, SR, SQ, true_and, and_true, or_true, true_or, if_true, if_false, not_true_eq_false, not_false_eq_true, ne_eq, and_self]
          intro u hu
          by_cases huv : u = v i
          · refine ⟨z + 1, ?_, ?_, ?_⟩
            · rw [huv, updS0]
            · rw [huv, vaS, z2]; omega
            · rw [huv, vaS]; omega
          · rw [pk_un huv, va_up_ne _ _ huv]; exact hl u hu) (by simp +decide only [II, AA, RR, QQ, IA, IR, IQ, AI, AR, AQ, RI, RA, RQ, QI, QA, QR, LI, LA, LR, LQ, NI, NA, NR, NQ, HI, HA, HR, HQ, SI, SA, SR, SQ, true_and, and_true, or_true, true_or, if_true, if_false, not_true_eq_false, not_false_eq_true, ne_eq, and_self]; exact updS0) (by simp +decide only [II, AA, RR, QQ, IA, IR, IQ, AI, AR, AQ, RI, RA, RQ, QI, QA, QR, LI, LA, LR, LQ, NI, NA, NR, NQ, HI, HA, HR, HQ, SI, SA, SR, SQ, true_and, and_true, or_true, true_or, if_true, if_false, not_true_eq_false, not_false_eq_true, ne_eq, and_self]; exact updS0) (by omega) (by omega)
        refine ⟨ρ', frB_t (frB_t (frB_t (frB_A (by decide)) (frB_I (by decide))) (frB_I (by decide))) p1, p2, fun D Q => ?_⟩
        have cu := fun {d : Nat} {Q : Option AV → St → Prop} => cu (d := d) (Q := Q) (σ := setI (setA ρ 12 63 0 (upd (gA ρ 12 63 0) (v i) (nI (z + 1)))) 12 66 0 (nI (m + 1))) (SH_I (SH_A a1)) (by simp +decide only [II, AA, RR, QQ, IA, IR, IQ, AI, AR, AQ, RI, RA, RQ, QI, QA, QR, LI, LA, LR, LQ, NI, NA, NR, NQ, HI, HA, HR, HQ, SI, SA, SR, SQ, true_and, and_true, or_true, true_or, if_true, if_false, not_true_eq_false, not_false_eq_true, ne_eq, and_self]; exact w3)
        rw [← p3 D Q, e191_35, ← nI_1 i]
        simp +decide only [e191_0, e191_1, e191_3, e191_4, e191_7, e191_10, e191_11, e191_14, e191_15, e191_16, e191_17, e191_20, e191_23, e191_24, e191_25, e191_28, e191_29, e191_30, e191_33, e191_34, e191_36, e191_37, e191_40, e191_43, e191_44, e191_47, e191_50, e191_51, e191_54, e191_55, e191_56, e191_57, e191_58, e191_59, e191_62, e191_65, e191_66, e191_67, e191_70, e191_71, e191_72, e191_73, e191_76, e191_79, e191_80, e191_83, e191_84, e191_85, e191_86, e191_89, e191_90, e191_91, e191_92, e191_94, e191_97, e191_98, e191_99, e191_102, e191_105, e191_106, e191_107, e191_110, e191_113, e191_114, e191_117, e191_118, e191_119, e191_120, e191_121, e191_122, e191_123, e191_124, e191_125, e191_128, e191_129, e191_130, e191_133, e191_134, e191_135, e191_138, e191_139, e191_140, e191_141, e191_144, e191_145, e191_146, e191_147, e191_150, e191_151, e191_152, e191_153, e191_156, e191_157, e191_160, e191_163, e191_166, true_and, and_true, or_true, true_or, if_true, if_false, not_true_eq_false, not_false_eq_true, ne_eq, and_self, Option.toList_some, Option.toList_none, List.cons_append, List.nil_append, catS_0, catS_I, catS_L, catS_R, Option.map_some, Option.map_none, Option.some.injEq, Sum.inl.injEq, exists_eq_left', exists_eq', II, AA, RR, QQ, IA, IR, IQ, AI, AR, AQ, RI, RA, RQ, QI, QA, QR, LI, LA, LR, LQ, NI, NA, NR, NQ, HI, HA, HR, HQ, SI, SA, SR, SQ, c1, c2, hm, hs, x1, v1, t1, z1, w1, ms, hc.1, r1, r2, r3, cu, updS0, nI_1 z, nI_1 m, nI_add s, y1, y2, y3, y4, y5, q1, q2, q3, q4, q5, N12 a1, L12_61 a1, L12_60 a1, L12_58 a1, L12_63 a1]
      · rw [if_neg hc] at hes
        have hK' : evV U fit pace l0 v K = none := by rw [show K = i + 1 + n by omega]; exact evV_none hes n
        refine ⟨setI ρ 12 66 0 (-1), frB_I (by decide), by rw [hK']; show gI (setI ρ 12 66 0 (-1)) 12 66 0 = -1; simp +decide only [II, AA, RR, QQ, IA, IR, IQ, AI, AR, AQ, RI, RA, RQ, QI, QA, QR, LI, LA, LR, LQ, NI, NA, NR, NQ, HI, HA, HR, HQ, SI, SA, SR, SQ, true_and, and_true, or_true, true_or, if_true, if_false, not_true_eq_false, not_false_eq_true, ne_eq, and_self]; exact updS0, fun D Q => ?_⟩
        have hx : ∀ l1 : Int32, ∀ l2, Rn (D + 1) Q (191, 35, [some (vR (some (12, 0, 0))), some (vI l1), l2], [], setI ρ 12 66 0 (-1)) = Q none (setI ρ 12 66 0 (-1)) := by
          intro l1 l2
          rw [e191_35]
          by_cases hl1 : nI K ≤ l1
          · simp +decide only [e191_0, e191_1, e191_3, e191_4, e191_7, e191_10, e191_11, e191_14, e191_15, e191_16, e191_17, e191_20, e191_23, e191_24, e191_25, e191_28, e191_29, e191_30, e191_33, e191_34, e191_36, e191_37, e191_40, e191_43, e191_44, e191_47, e191_50, e191_51, e191_54, e191_55, e191_56, e191_57, e191_58, e191_59, e191_62, e191_65, e191_66, e191_67, e191_70, e191_71, e191_72, e191_73, e191_76, e191_79, e191_80, e191_83, e191_84, e191_85, e191_86, e191_89, e191_90, e191_91, e191_92, e191_94, e191_97, e191_98, e191_99, e191_102, e191_105, e191_106, e191_107, e191_110, e191_113, e191_114, e191_117, e191_118, e191_119, e191_120, e191_121, e191_122, e191_123, e191_124, e191_125, e191_128, e191_129, e191_130, e191_133, e191_134, e191_135, e191_138, e191_139, e191_140, e191_141, e191_144, e191_145, e191_146, e191_147, e191_150, e191_151, e191_152, e191_153, e191_156, e191_157, e191_160, e191_163, e191_166, true_and, and_true, or_true, true_or, if_true, if_false, not_true_eq_false, not_false_eq_true, ne_eq, and_self, Option.toList_some, Option.toList_none, List.cons_append, List.nil_append, catS_0, catS_I, catS_L, catS_R, Option.map_some, Option.map_none, Option.some.injEq, Sum.inl.injEq, exists_eq_left', exists_eq', II, AA, RR, QQ, IA, IR, IQ, AI, AR, AQ, RI, RA, RQ, QI, QA, QR, LI, LA, LR, LQ, NI, NA, NR, NQ, HI, HA, HR, HQ, SI, SA, SR, SQ, c2, hl1, N12 a1]
          · simp +decide only [e191_0, e191_1, e191_3, e191_4, e191_7, e191_10, e191_11, e191_14, e191_15, e191_16, e191_17, e191_20, e191_23, e191_24, e191_25, e191_28, e191_29, e191_30, e191_33, e191_34, e191_36, e191_37, e191_40, e191_43, e191_44, e191_47, e191_50, e191_51, e191_54, e191_55, e191_56, e191_57, e191_58, e191_59, e191_62, e191_65, e191_66, e191_67, e191_70, e191_71, e191_72, e191_73, e191_76, e191_79, e191_80, e191_83, e191_84, e191_85, e191_86, e191_89, e191_90, e191_91, e191_92, e191_94, e191_97, e191_98, e191_99, e191_102, e191_105, e191_106, e191_107, e191_110, e191_113, e191_114, e191_117, e191_118, e191_119, e191_120, e191_121, e191_122, e191_123, e191_124, e191_125, e191_128, e191_129, e191_130, e191_133, e191_134, e191_135, e191_138, e191_139, e191_140, e191_141, e191_144, e191_145, e191_146, e191_147, e191_150, e191_151, e191_152, e191_153, e191_156, e191_157, e191_160, e191_163, e191_166, true_and, and_true, or_true, true_or, if_true, if_false, not_true_eq_false, not_false_eq_true, ne_eq, and_self, Option.toList_some, Option.toList_none, List.cons_append, List.nil_append, catS_0, catS_I, catS_L, catS_R, Option.map_some, Option.map_none, Option.some.injEq, Sum.inl.injEq, exists_eq_left', exists_eq', II, AA, RR, QQ, IA, IR, IQ, AI, AR, AQ, RI, RA, RQ, QI, QA, QR, LI, LA, LR, LQ, NI, NA, NR, NQ, HI, HA, HR, HQ, SI, SA, SR, SQ, c2, hl1, updS0, N12 a1]
        rw [e191_35]
        by_cases hc1 : fit i (v i) = true
        · have hc2 : ¬ ld (v i) < 12 := fun z => hc (by rw [hc1, decide_eq_true z]; rfl)
          have r1 : nI (l0 (v i)) + nI z = nI (ld (v i)) := by rw [nI_add, z2]
          have r2 : ¬ nI (ld (v i)) < 12 := nI_nlt (b := 12) (by omega) (by omega)
          simp +decide only [e191_0, e191_1, e191_3, e191_4, e191_7, e191_10, e191_11, e191_14, e191_15, e191_16, e191_17, e191_20, e191_23, e191_24, e191_25, e191_28, e191_29, e191_30, e191_33, e191_34, e191_36, e191_37, e191_40, e191_43, e191_44, e191_47, e191_50, e191_51, e191_54, e191_55, e191_56, e191_57, e191_58, e191_59, e191_62, e191_65, e191_66, e191_67, e191_70, e191_71, e191_72, e191_73, e191_76, e191_79, e191_80, e191_83, e191_84, e191_85, e191_86, e191_89, e191_90, e191_91, e191_92, e191_94, e191_97, e191_98, e191_99, e191_102, e191_105, e191_106, e191_107, e191_110, e191_113, e191_114, e191_117, e191_118, e191_119, e191_120, e191_121, e191_122, e191_123, e191_124, e191_125, e191_128, e191_129, e191_130, e191_133, e191_134, e191_135, e191_138, e191_139, e191_140, e191_141, e191_144, e191_145, e191_146, e191_147, e191_150, e191_151, e191_152, e191_153, e191_156, e191_157, e191_160, e191_163, e191_166, true_and, and_true, or_true, true_or, if_true, if_false, not_true_eq_false, not_false_eq_true, ne_eq, and_self, Option.toList_some, Option.toList_none, List.cons_append, List.nil_append, catS_0, catS_I, catS_L, catS_R, Option.map_some, Option.map_none, Option.some.injEq, Sum.inl.injEq, exists_eq_left', exists_eq', II, AA, RR, QQ, IA, IR, IQ, AI, AR, AQ, RI, RA, RQ, QI, QA, QR, LI, LA, LR, LQ, NI, NA, NR, NQ, HI, HA, HR, HQ, SI, SA, SR, SQ, c1, c2, hm, x1, v1, t1, z1, w1, ms, hc1, r1, r2, hx, y1, y2, y3, y4, y5, q1, q2, q3, q4, q5, N12 a1, L12_61 a1, L12_60 a1, L12_58 a1, L12_63 a1]
        · simp +decide only [e191_0, e191_1, e191_3, e191_4, e191_7, e191_10, e191_11, e191_14, e191_15, e191_16, e191_17, e191_20, e191_23, e191_24, e191_25, e191_28, e191_29, e191_30, e191_33, e191_34, e191_36, e191_37, e191_40, e191_43, e191_44, e191_47, e191_50, e191_51, e191_54, e191_55, e191_56, e191_57, e191_58, e191_59, e191_62, e191_65, e191_66, e191_67, e191_70, e191_71, e191_72, e191_73, e191_76, e191_79, e191_80, e191_83, e191_84, e191_85, e191_86, e191_89, e191_90, e191_91, e191_92, e191_94, e191_97, e191_98, e191_99, e191_102, e191_105, e191_106, e191_107, e191_110, e191_113, e191_114, e191_117, e191_118, e191_119, e191_120, e191_121, e191_122, e191_123, e191_124, e191_125, e191_128, e191_129, e191_130, e191_133, e191_134, e191_135, e191_138, e191_139, e191_140, e191_141, e191_144, e191_145, e191_146, e191_147, e191_150, e191_151, e191_152, e191_153, e191_156, e191_157, e191_160, e191_163, e191_166, true_and, and_true, or_true, true_or, if_true, if_false, not_true_eq_false, not_false_eq_true, ne_eq, and_self, Option.toList_some, Option.toList_none, List.cons_append, List.nil_append, catS_0, catS_I, catS_L, catS_R, Option.map_some, Option.map_none, Option.some.injEq, Sum.inl.injEq, exists_eq_left', exists_eq', II, AA, RR, QQ, IA, IR, IQ, AI, AR, AQ, RI, RA, RQ, QI, QA, QR, LI, LA, LR, LQ, NI, NA, NR, NQ, HI, HA, HR, HQ, SI, SA, SR, SQ, c1, c2, hm, x1, v1, t1, ms, hc1, hx, y1, y2, y3, y4, y5, q1, q2, q3, q4, q5, N12 a1, L12_61 a1, L12_60 a1]
    · rw [if_neg hvU] at hes
      have q1 : nI U ≤ nI (v i) := nI_le (by omega) (by omega)
      obtain ⟨ρ', p1, p2, p3⟩ := ih (i + 1) ρ ld m s (some (vI (nI (v i)))) (by omega) hC0 hv hes hl hm hs (by omega) (by omega)
      refine ⟨ρ', p1, p2, fun D Q => ?_⟩
      rw [← p3 D Q, e191_35, ← nI_1 i]
      simp +decide only [e191_0, e191_1, e191_3, e191_4, e191_7, e191_10, e191_11, e191_14, e191_15, e191_16, e191_17, e191_20, e191_23, e191_24, e191_25, e191_28, e191_29, e191_30, e191_33, e191_34, e191_36, e191_37, e191_40, e191_43, e191_44, e191_47, e191_50, e191_51, e191_54, e191_55, e191_56, e191_57, e191_58, e191_59, e191_62, e191_65, e191_66, e191_67, e191_70, e191_71, e191_72, e191_73, e191_76, e191_79, e191_80, e191_83, e191_84, e191_85, e191_86, e191_89, e191_90, e191_91, e191_92, e191_94, e191_97, e191_98, e191_99, e191_102, e191_105, e191_106, e191_107, e191_110, e191_113, e191_114, e191_117, e191_118, e191_119, e191_120, e191_121, e191_122, e191_123, e191_124, e191_125, e191_128, e191_129, e191_130, e191_133, e191_134, e191_135, e191_138, e191_139, e191_140, e191_141, e191_144, e191_145, e191_146, e191_147, e191_150, e191_151, e191_152, e191_153, e191_156, e191_157, e191_160, e191_163, e191_166, true_and, and_true, or_true, true_or, if_true, if_false, not_true_eq_false, not_false_eq_true, ne_eq, and_self, Option.toList_some, Option.toList_none, List.cons_append, List.nil_append, catS_0, catS_I, catS_L, catS_R, Option.map_some, Option.map_none, Option.some.injEq, Sum.inl.injEq, exists_eq_left', exists_eq', c1, c2, hm, x1, v1, y1, y2, y3, y4, y5, q1, N12 a1, L12_61 a1]
theorem m_look {v : Nat → Nat} {ρ : St} (hK : K ≤ 6) (hU : U ≤ 6) (hC : SRr K U fit pace l0 L ρ) (hv : ∀ j, j < K → gA ρ 12 61 0 j = nI (v j) ∧ v j ≤ U) : ∃ ρ', frB PK3 RK3 ρ ρ' ∧ LEn (evV U fit pace l0 v K) ρ' ∧ ∀ D Q, Rn (D + 1) Q (191, 0, [some (vR (some (12, 0, 0))), none, none], [], ρ) = Q none ρ' := by
  obtain ⟨ρ1, p1, p2, p3⟩ := m_zero (l2 := none) hU U 0 ρ (by omega) hC (by intro v hv; omega)
  have hC1 := SR_fr (frB_w p1 PK3_w RK3_w) hC
  have hv1 : ∀ j, j < K → gA ρ1 12 61 0 j = nI (v j) ∧ v j ≤ U := by rw [p1.2.2.2.2.2.2.1 12 61 (by decide)]; exact hv
  have hC2 : SRr K U fit pace l0 L (setI (setI ρ1 12 66 0 0) 12 67 0 0) := SR_fr (frB_t (frB_I (by decide)) (frB_I (by decide))) hC1
  obtain ⟨ρ2, r1, r2, r3⟩ := m_lookL (v := v) hK hU K 0 (setI (setI ρ1 12 66 0 0) 12 67 0 0) l0 0 0 none (by omega) hC2 (by simp +decide only [II, AA, RR, QQ, IA, IR, IQ, AI, AR, AQ, RI, RA, RQ, QI, QA, QR, LI, LA, LR, LQ, NI, NA, NR, NQ, HI, HA, HR, HQ, SI, SA, SR, SQ, true_and, and_true, or_true, true_or, if_true, if_false, not_true_eq_false, not_false_eq_true, ne_eq, and_self]; exact hv1) rfl (by
    simp +decide only [II, AA, RR, QQ, IA, IR, IQ, AI, AR, AQ, RI, RA, RQ, QI, QA, QR, LI, LA, LR, LQ, NI, NA, NR, NQ, HI, HA, HR, HQ, SI, SA, SR, SQ, true_and, and_true, or_true, true_or, if_true, if_false, not_true_eq_false, not_false_eq_true, ne_eq, and_self]
    intro u hu
    exact ⟨0, p2 u hu, rfl, (hC1.2.2.2.2.1 u hu).2.1⟩) (by simp +decide only [II, AA, RR, QQ, IA, IR, IQ, AI, AR, AQ, RI, RA, RQ, QI, QA, QR, LI, LA, LR, LQ, NI, NA, NR, NQ, HI, HA, HR, HQ, SI, SA, SR, SQ, true_and, and_true, or_true, true_or, if_true, if_false, not_true_eq_false, not_false_eq_true, ne_eq, and_self]; exact updS0) (by simp +decide only [II, AA, RR, QQ, IA, IR, IQ, AI, AR, AQ, RI, RA, RQ, QI, QA, QR, LI, LA, LR, LQ, NI, NA, NR, NQ, HI, HA, HR, HQ, SI, SA, SR, SQ, true_and, and_true, or_true, true_or, if_true, if_false, not_true_eq_false, not_false_eq_true, ne_eq, and_self]; exact updS0) (by omega) (by omega)
  have hS1 := hC1.1
  refine ⟨ρ2, frB_t p1 (frB_t (frB_t (frB_I (by decide)) (frB_I (by decide))) r1), r2, fun D Q => ?_⟩
  rw [nI_0] at p3 r3
  simp +decide only [e191_0, e191_1, e191_3, e191_4, e191_7, e191_10, e191_11, e191_14, e191_15, e191_16, e191_17, e191_20, e191_23, e191_24, e191_25, e191_28, e191_29, e191_30, e191_33, e191_34, e191_36, e191_37, e191_40, e191_43, e191_44, e191_47, e191_50, e191_51, e191_54, e191_55, e191_56, e191_57, e191_58, e191_59, e191_62, e191_65, e191_66, e191_67, e191_70, e191_71, e191_72, e191_73, e191_76, e191_79, e191_80, e191_83, e191_84, e191_85, e191_86, e191_89, e191_90, e191_91, e191_92, e191_94, e191_97, e191_98, e191_99, e191_102, e191_105, e191_106, e191_107, e191_110, e191_113, e191_114, e191_117, e191_118, e191_119, e191_120, e191_121, e191_122, e191_123, e191_124, e191_125, e191_128, e191_129, e191_130, e191_133, e191_134, e191_135, e191_138, e191_139, e191_140, e191_141, e191_144, e191_145, e191_146, e191_147, e191_150, e191_151, e191_152, e191_153, e191_156, e191_157, e191_160, e191_163, e191_166, true_and, and_true, or_true, true_or, if_true, if_false, not_true_eq_false, not_false_eq_true, ne_eq, and_self, Option.toList_some, Option.toList_none, List.cons_append, List.nil_append, catS_0, catS_I, catS_L, catS_R, Option.map_some, Option.map_none, Option.some.injEq, Sum.inl.injEq, exists_eq_left', exists_eq', NI, p3, r3, N12 hS1]
theorem m_stepL {v : Nat → Nat} {at' : Nat} (hK : K ≤ 6) (hU : U ≤ 6) (hat : v at' < U) (hv : ∀ j, j < K → v j ≤ U) (hvU : ∀ j, at' < j → j < K → v j = U) : ∀ (n : Nat) (ρ : St), at' + n < K → SRr K U fit pace l0 L ρ → (∀ j, j < K → gA ρ 12 61 0 j = if at' + n < j then 0 else nI (v j)) → ∃ ρ', frB PK1 RN ρ ρ' ∧ (∀ j, j < K → gA ρ' 12 61 0 j = if at' < j then 0 else if j = at' then nI (v at' + 1) else nI (v j)) ∧ ∀ D Q, Rn D Q (192, 7, [some (vR (some (12, 0, 0))), some (vI (nI (at' + n)))], [], ρ) = Q (some (vI 1)) ρ' := by
  intro n
  induction n with
  | zero =>
    intro ρ hn hC hr
    have hC0 := hC
    obtain ⟨a1, c1, c2, c3, c4, c5⟩ := hC
    have y2 : (nI (at' + 0)).toInt = (at' : Int) := nI_toInt (by omega)
    have y3 : (0 : Int) ≤ (at' : Int) := by omega
    have y4 : (at' : Int) < ((6 : Nat) : Int) := by omega
    have y5 : (nI (at' + 0)).toNatClampNeg = at' := nI_clamp (by omega)
    have y6 : ¬ nI (at' + 0) < 0 := nI_pos (by omega)
    have hra := hr at' (by omega)
    rw [if_neg (by omega)] at hra
    have q1 : ¬ nI (v at') = nI U := fun z => by rw [nI_eq (by omega) (by omega)] at z; omega
    refine ⟨setA ρ 12 61 0 (upd (gA ρ 12 61 0) at' (nI (v at' + 1))), frB_A (by decide), ?_, fun D Q => ?_⟩
    · simp +decide only [II, AA, RR, QQ, IA, IR, IQ, AI, AR, AQ, RI, RA, RQ, QI, QA, QR, LI, LA, LR, LQ, NI, NA, NR, NQ, HI, HA, HR, HQ, SI, SA, SR, SQ, true_and, and_true, or_true, true_or, if_true, if_false, not_true_eq_false, not_false_eq_true, ne_eq, and_self]
      intro j hj
      by_cases hja : j = at'
      · rw [hja, updS0, if_neg (by omega), if_pos rfl]
      · rw [pk_un hja, hr j hj, if_neg hja]
        by_cases h1 : at' < j
        · rw [if_pos (by omega), if_pos h1]
        · rw [if_neg (by omega), if_neg h1]
    · rw [e192_7]
      simp +decide only [e192_0, e192_1, e192_4, e192_5, e192_6, e192_8, e192_11, e192_12, e192_15, e192_16, e192_17, e192_18, e192_21, e192_24, e192_25, e192_28, e192_29, e192_30, e192_31, e192_34, e192_37, e192_38, e192_41, e192_42, e192_45, e192_46, e192_47, e192_48, e192_49, e192_50, e192_51, e192_52, e192_55, e192_56, e192_59, e192_60, true_and, and_true, or_true, true_or, if_true, if_false, not_true_eq_false, not_false_eq_true, ne_eq, and_self, Option.toList_some, Option.toList_none, List.cons_append, List.nil_append, catS_0, catS_I, catS_L, catS_R, Option.map_some, Option.map_none, Option.some.injEq, Sum.inl.injEq, exists_eq_left', exists_eq', II, AA, RR, QQ, IA, IR, IQ, AI, AR, AQ, RI, RA, RQ, QI, QA, QR, LI, LA, LR, LQ, NI, NA, NR, NQ, HI, HA, HR, HQ, SI, SA, SR, SQ, c1, hra, q1, nI_1 (v at'), y2, y3, y4, y5, y6, N12 a1, L12_61 a1]
  | succ n ih =>
    intro ρ hn hC hr
    have hC0 := hC
    obtain ⟨a1, c1, c2, c3, c4, c5⟩ := hC
    have y2 : (nI (at' + n + 1)).toInt = ((at' + n + 1 : Nat) : Int) := nI_toInt (by omega)
    have y3 : (0 : Int) ≤ ((at' + n + 1 : Nat) : Int) := by omega
    have y4 : ((at' + n + 1 : Nat) : Int) < ((6 : Nat) : Int) := by omega
    have y5 : (nI (at' + n + 1)).toNatClampNeg = at' + n + 1 := nI_clamp (by omega)
    have y6 : ¬ nI (at' + n + 1) < 0 := nI_pos (by omega)
    have hra := hr (at' + n + 1) (by omega)
    rw [if_neg (by omega), hvU (at' + n + 1) (by omega) (by omega)] at hra
    obtain ⟨ρ', p1, p2, p3⟩ := ih (setA ρ 12 61 0 (upd (gA ρ 12 61 0) (at' + n + 1) 0)) (by omega) (SR_fr (frB_A (by decide)) hC0) (by
      simp +decide only [II, AA, RR, QQ, IA, IR, IQ, AI, AR, AQ, RI, RA, RQ, QI, QA, QR, LI, LA, LR, LQ, NI, NA, NR, NQ, HI, HA, HR, HQ, SI, SA, SR, SQ, true_and, and_true, or_true, true_or, if_true, if_false, not_true_eq_false, not_false_eq_true, ne_eq, and_self]
      intro j hj
      by_cases hja : j = at' + n + 1
      · rw [hja, updS0, if_pos (by omega)]
      · rw [pk_un hja, hr j hj]
        by_cases h1 : at' + n < j
        · rw [if_pos h1, if_pos (by omega)]
        · rw [if_neg h1, if_neg (by omega)])
    refine ⟨ρ', frB_t (frB_A (by decide)) p1, p2, fun D Q => ?_⟩
    rw [← p3 D Q, show at' + (n + 1) = at' + n + 1 by omega, e192_7]
    simp +decide only [e192_0, e192_1, e192_4, e192_5, e192_6, e192_8, e192_11, e192_12, e192_15, e192_16, e192_17, e192_18, e192_21, e192_24, e192_25, e192_28, e192_29, e192_30, e192_31, e192_34, e192_37, e192_38, e192_41, e192_42, e192_45, e192_46, e192_47, e192_48, e192_49, e192_50, e192_51, e192_52, e192_55, e192_56, e192_59, e192_60, true_and, and_true, or_true, true_or, if_true, if_false, not_true_eq_false, not_false_eq_true, ne_eq, and_self, Option.toList_some, Option.toList_none, List.cons_append, List.nil_append, catS_0, catS_I, catS_L, catS_R, Option.map_some, Option.map_none, Option.some.injEq, Sum.inl.injEq, exists_eq_left', exists_eq', II, AA, RR, QQ, IA, IR, IQ, AI, AR, AQ, RI, RA, RQ, QI, QA, QR, LI, LA, LR, LQ, NI, NA, NR, NQ, HI, HA, HR, HQ, SI, SA, SR, SQ, c1, hra, pk_m1, y2, y3, y4, y5, y6, N12 a1, L12_61 a1]
theorem m_step {v : Nat → Nat} {at' : Nat} {ρ : St} (hK : K ≤ 6) (hU : U ≤ 6) (hatK : at' < K) (hat : v at' < U) (hv : ∀ j, j < K → v j ≤ U) (hvU : ∀ j, at' < j → j < K → v j = U) (hC : SRr K U fit pace l0 L ρ) (hr : ∀ j, j < K → gA ρ 12 61 0 j = nI (v j)) : ∃ ρ', frB PK1 RN ρ ρ' ∧ (∀ j, j < K → gA ρ' 12 61 0 j = if at' < j then 0 else if j = at' then nI (v at' + 1) else nI (v j)) ∧ ∀ D Q, Rn D Q (192, 0, [some (vR (some (12, 0, 0))), none], [], ρ) = Q (some (vI 1)) ρ' := by
  obtain ⟨ρ', p1, p2, p3⟩ := m_stepL hK hU hat hv hvU (K - 1 - at') ρ (by omega) hC (fun j hj => by rw [if_neg (by omega)]; exact hr j hj)
  refine ⟨ρ', p1, p2, fun D Q => ?_⟩
  obtain ⟨a1, c1, c2, c3, c4, c5⟩ := hC
  have h1 : nI K - 1 = nI (at' + (K - 1 - at')) := by rw [lN1, pk_sub (by omega)]; congr 1; omega
  simp +decide only [e192_0, e192_1, e192_4, e192_5, e192_6, e192_8, e192_11, e192_12, e192_15, e192_16, e192_17, e192_18, e192_21, e192_24, e192_25, e192_28, e192_29, e192_30, e192_31, e192_34, e192_37, e192_38, e192_41, e192_42, e192_45, e192_46, e192_47, e192_48, e192_49, e192_50, e192_51, e192_52, e192_55, e192_56, e192_59, e192_60, true_and, and_true, or_true, true_or, if_true, if_false, not_true_eq_false, not_false_eq_true, ne_eq, and_self, Option.toList_some, Option.toList_none, List.cons_append, List.nil_append, catS_0, catS_I, catS_L, catS_R, Option.map_some, Option.map_none, Option.some.injEq, Sum.inl.injEq, exists_eq_left', exists_eq', c2, h1, p3, N12 a1]
theorem m_step0L (hK : K ≤ 6) (hU : U ≤ 6) : ∀ (n : Nat) (ρ : St) (v : Int32), n ≤ K → v.toInt = (n : Int) - 1 → SRr K U fit pace l0 L ρ → (∀ j, j < n → gA ρ 12 61 0 j = nI U) → ∃ ρ', frB PK1 RN ρ ρ' ∧ ∀ D Q, Rn D Q (192, 7, [some (vR (some (12, 0, 0))), some (vI v)], [], ρ) = Q (some (vI 0)) ρ' := by
  intro n
  induction n with
  | zero =>
    intro ρ v hn hv hC hr
    have v1 : v < 0 := by rw [ltI, hv]; decide
    refine ⟨ρ, frB_0, fun D Q => ?_⟩
    rw [e192_7]
    simp +decide only [e192_0, e192_1, e192_4, e192_5, e192_6, e192_8, e192_11, e192_12, e192_15, e192_16, e192_17, e192_18, e192_21, e192_24, e192_25, e192_28, e192_29, e192_30, e192_31, e192_34, e192_37, e192_38, e192_41, e192_42, e192_45, e192_46, e192_47, e192_48, e192_49, e192_50, e192_51, e192_52, e192_55, e192_56, e192_59, e192_60, true_and, and_true, or_true, true_or, if_true, if_false, not_true_eq_false, not_false_eq_true, ne_eq, and_self, v1]
  | succ n ih =>
    intro ρ v hn hv hC hr
    have hC0 := hC
    obtain ⟨a1, c1, c2, c3, c4, c5⟩ := hC
    have hv : v = nI n := Int32.toInt_inj.mp (by rw [hv, nI_toInt (by omega)]; omega)
    subst hv
    have y2 : (nI n).toInt = (n : Int) := nI_toInt (by omega)
    have y3 : (0 : Int) ≤ (n : Int) := by omega
    have y4 : (n : Int) < ((6 : Nat) : Int) := by omega
    have y5 : (nI n).toNatClampNeg = n := nI_clamp (by omega)
    have y6 : ¬ nI n < 0 := nI_pos (by omega)
    have hra := hr n (by omega)
    obtain ⟨ρ', p1, p3⟩ := ih (setA ρ 12 61 0 (upd (gA ρ 12 61 0) n 0)) (nI n + -1) (by omega) (by
        cases n with
        | zero => rw [nI_0]; decide
        | succ m => rw [pk_m1, nI_toInt (by omega)]; omega) (SR_fr (frB_A (by decide)) hC0) (by
      simp +decide only [II, AA, RR, QQ, IA, IR, IQ, AI, AR, AQ, RI, RA, RQ, QI, QA, QR, LI, LA, LR, LQ, NI, NA, NR, NQ, HI, HA, HR, HQ, SI, SA, SR, SQ, true_and, and_true, or_true, true_or, if_true, if_false, not_true_eq_false, not_false_eq_true, ne_eq, and_self]
      intro j hj
      rw [pk_un (by omega)]; exact hr j (by omega))
    refine ⟨ρ', frB_t (frB_A (by decide)) p1, fun D Q => ?_⟩
    rw [← p3 D Q, e192_7]
    simp +decide only [e192_0, e192_1, e192_4, e192_5, e192_6, e192_8, e192_11, e192_12, e192_15, e192_16, e192_17, e192_18, e192_21, e192_24, e192_25, e192_28, e192_29, e192_30, e192_31, e192_34, e192_37, e192_38, e192_41, e192_42, e192_45, e192_46, e192_47, e192_48, e192_49, e192_50, e192_51, e192_52, e192_55, e192_56, e192_59, e192_60, true_and, and_true, or_true, true_or, if_true, if_false, not_true_eq_false, not_false_eq_true, ne_eq, and_self, Option.toList_some, Option.toList_none, List.cons_append, List.nil_append, catS_0, catS_I, catS_L, catS_R, Option.map_some, Option.map_none, Option.some.injEq, Sum.inl.injEq, exists_eq_left', exists_eq', II, AA, RR, QQ, IA, IR, IQ, AI, AR, AQ, RI, RA, RQ, QI, QA, QR, LI, LA, LR, LQ, NI, NA, NR, NQ, HI, HA, HR, HQ, SI, SA, SR, SQ, c1, hra, y2, y3, y4, y5, y6, N12 a1, L12_61 a1]
theorem m_step0 {ρ : St} (hK : K ≤ 6) (hU : U ≤ 6) (hC : SRr K U fit pace l0 L ρ) (hr : ∀ j, j < K → gA ρ 12 61 0 j = nI U) : ∃ ρ', frB PK1 RN ρ ρ' ∧ ∀ D Q, Rn D Q (192, 0, [some (vR (some (12, 0, 0))), none], [], ρ) = Q (some (vI 0)) ρ' := by
  obtain ⟨ρ', p1, p3⟩ := m_step0L hK hU K ρ (nI K - 1) (by omega) (nI_m1 (by omega)) hC hr
  refine ⟨ρ', p1, fun D Q => ?_⟩
  obtain ⟨a1, c1, c2, c3, c4, c5⟩ := hC
  simp +decide only [e192_0, e192_1, e192_4, e192_5, e192_6, e192_8, e192_11, e192_12, e192_15, e192_16, e192_17, e192_18, e192_21, e192_24, e192_25, e192_28, e192_29, e192_30, e192_31, e192_34, e192_37, e192_38, e192_41, e192_42, e192_45, e192_46, e192_47, e192_48, e192_49, e192_50, e192_51, e192_52, e192_55, e192_56, e192_59, e192_60, true_and, and_true, or_true, true_or, if_true, if_false, not_true_eq_false, not_false_eq_true, ne_eq, and_self, Option.toList_some, Option.toList_none, List.cons_append, List.nil_append, catS_0, catS_I, catS_L, catS_R, Option.map_some, Option.map_none, Option.some.injEq, Sum.inl.injEq, exists_eq_left', exists_eq', c2, p3, N12 a1]
end LOOK
