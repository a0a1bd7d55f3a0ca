theorem vaS {α : Type} {f : Nat → α} {i : Nat} {v : α} : va_up f i v i = v := va_up_self f i v
theorem isA8 {k : Nat} (h : isA 8 k) : k = 4 := by
  rcases h with h | h
  · have h2 := fk_k (by decide) h
    have : k < 15 := h2
    match k, this, h with
    | 0, _, h => cases h
    | 1, _, h => cases h
    | 2, _, h => cases h
    | 3, _, h => cases h
    | 4, _, _ => rfl
    | 5, _, h => cases h
    | 6, _, h => cases h
    | 7, _, h => cases h
    | 8, _, h => cases h
    | 9, _, h => cases h
    | 10, _, h => cases h
    | 11, _, h => cases h
    | 12, _, h => cases h
    | 13, _, h => cases h
    | 14, _, h => cases h
  · have h2 := fk_k (by decide) h
    have : k < 15 := h2
    match k, this, h with
    | 0, _, h => cases h
    | 1, _, h => cases h
    | 2, _, h => cases h
    | 3, _, h => cases h
    | 4, _, h => cases h
    | 5, _, h => cases h
    | 6, _, h => cases h
    | 7, _, h => cases h
    | 8, _, h => cases h
    | 9, _, h => cases h
    | 10, _, h => cases h
    | 11, _, h => cases h
    | 12, _, h => cases h
    | 13, _, h => cases h
    | 14, _, h => cases h
theorem SH_thing {σ : St} {f : Nat → Option Nat} (h : SH σ) : SH (setQ (newA (newO σ 8) 8 4 (gN σ 8) 20) 11 10 0 f) := by
  obtain ⟨h1, h2, h3, h4, h5⟩ := h
  refine ⟨h1, fun c k i hc hi ha => ?_, h3, h4, h5⟩
  rw [LQ, LW']
  by_cases h9 : c = 8
  · subst h9
    have hk := isA8 ha
    subst hk
    rw [if_pos ⟨rfl, rfl⟩]
    have hi2 : i < gN σ 8 + 1 := hi
    by_cases hin : i = gN σ 8
    · rw [hin, vaS]; rfl
    · rw [va_up_ne _ _ hin, LO', if_pos rfl, va_up_ne _ _ hin]
      exact h2 8 4 i hc (by omega) ha
  · rw [if_neg (fun z => h9 z.1), LO', if_neg h9]
    have hi2 : i < if c = 8 then gN σ 8 + 1 else gN σ c := hi
    rw [if_neg h9] at hi2
    exact h2 c k i hc hi2 ha
theorem LO_new {nt N : Nat} {v : Int32} {lm kd tt : Nat → Int32} (h : LO nt N lm kd tt) (hv : v = 0 ∨ v = 4) : LO nt (N + 1) lm (upd kd N v) (upd tt N (-4)) := by
  have h4 : ∀ j, j ≠ N → upd kd N v j = kd j ∧ upd tt N (-4) j = tt j := fun j hj => ⟨pk_un hj, pk_un hj⟩
  refine ⟨fun u hu => ?_, fun t ht hk => ?_⟩
  · have e : cntT (upd kd N v) (upd tt N (-4)) u (N + 1) = cntT kd tt u N := by
      show cntT (upd kd N v) (upd tt N (-4)) u N + (if upd kd N v N = 1 ∧ upd tt N (-4) N = nI u then 1 else 0) = _
      rw [(cntT_ch (u := u) h4 N).1 (Nat.le_refl _), updS0, if_neg (fun z => by
        rcases hv with hv | hv
        · rw [hv] at z; exact absurd z.1 (by decide)
        · rw [hv] at z; exact absurd z.1 (by decide))]
      rfl
    rw [e]
    exact h.1 u hu
  · by_cases htN : t = N
    · rw [htN, updS0]
    · rw [pk_un htN] at hk ⊢
      exact h.2 t (by omega) hk
section MSEND
variable {d : Nat} {Q : Option AV → St → Prop} {ρ : St} {p np E0 l bb op N q X E : Nat} {c nm : Int32} {g' k : Nat → Int32}
theorem m_send (a1 : SH ρ) (hp : p < np) (hnp : np ≤ 12) (h23 : gI ρ 12 23 0 = nI np) (hE0 : E0 < 24) (h25 : gA ρ 12 25 0 p = nI E0) (hb : bb < 256) (h17 : gA ρ 12 17 0 E0 = nI bb) (hl : l < 8) (hbl : bb.testBit l = true) (hc : 0 ≤ c.toInt ∧ c.toInt < 4000) (h26 : (gA ρ 12 26 0 p).toInt ≤ c.toInt) (hfind : ∀ d Q, Rn d Q (158, 0, [some (vR (some (12, 0, 0))), some (vI (nI p)), some (vI 3999), none, none], [], ρ) = Q none (setA ρ 12 31 0 g')) (hbits : ∀ d Q, Rn (d + 3) Q (162, 0, [some (vR (some (12, 0, 0))), some (vI (nI E0)), some (vI 0), none, none, none, none], [], setA ρ 12 31 0 g') = Q (some (vI (nI op))) (setA (setA ρ 12 31 0 g') 12 32 0 k)) (hop : op < 256) (hol : op.testBit l = true) (h28 : ¬ (¬ gA ρ 12 28 0 p = -4 ∧ (gA ρ 12 28 0 p).toInt ≤ c.toInt)) (hN : N < 80) (h38 : gI ρ 12 38 0 = nI N) (hq : q < 6) (h24 : gA ρ 12 24 0 p = nI q) (hX : X < 2 ^ 20) (hE : E < 10) (h36 : gA ρ 12 36 0 q = nI E) (h37 : gA ρ 12 37 0 q = nI X) (h18 : gA ρ 12 18 0 (8 * E0 + l) = nm) : Rn (d + 4) Q (169, 0, [some (vR (some (12, 0, 0))), some (vI (nI p)), some (vI (nI l)), some (vI c), none], [], ρ) =
    if ¬ E = 0 ∧ (X + 1) % E = 0 then Q (some (vI (nI N))) (setA (setA (setA (setA (setA (setA (setA (setA (setA (setA (setI (setA (setA ρ 12 31 0 g') 12 32 0 k) 12 38 0 (nI N + 1)) 12 40 0 (upd (gA ρ 12 40 0) N (nI p))) 12 41 0 (upd (gA ρ 12 41 0) N nm)) 12 42 0 (upd (gA ρ 12 42 0) N (nI l))) 12 43 0 (upd (gA ρ 12 43 0) N c)) 12 46 0 (upd (gA ρ 12 46 0) N (-4))) 12 51 0 (upd (gA ρ 12 51 0) N (-4))) 12 37 0 (upd (gA ρ 12 37 0) q (nI (X + 1)))) 12 39 0 (upd (gA ρ 12 39 0) N 4)) 12 44 0 (upd (gA ρ 12 44 0) N c)) 12 45 0 (upd (gA ρ 12 45 0) N (-4)))
    else Q (some (vI (nI N))) (setA (setA (setA (setA (setA (setA (setA (setA (setA (setA (setI (setA (setA ρ 12 31 0 g') 12 32 0 k) 12 38 0 (nI N + 1)) 12 40 0 (upd (gA ρ 12 40 0) N (nI p))) 12 41 0 (upd (gA ρ 12 41 0) N nm)) 12 42 0 (upd (gA ρ 12 42 0) N (nI l))) 12 43 0 (upd (gA ρ 12 43 0) N c)) 12 46 0 (upd (gA ρ 12 46 0) N (-4))) 12 51 0 (upd (gA ρ 12 51 0) N (-4))) 12 37 0 (upd (gA ρ 12 37 0) q (nI (X + 1)))) 12 39 0 (upd (gA ρ 12 39 0) N 0)) 12 44 0 (upd (gA ρ 12 44 0) N c)) 12 45 0 (upd (gA ρ 12 45 0) N (c + gA ρ 12 35 0 q))) := by
  have e3 : (nI p).toInt = (p : Int) := nI_toInt (by omega)
  have e4 : (nI p).toNatClampNeg = p := nI_clamp (by omega)
  have hp0 : (0 : Int) ≤ (p : Int) := by omega
  have hp1 : (p : Int) < (np : Int) := by omega
  have hp3 : (p : Int) < ((12 : Nat) : Int) := by omega
  have l2 : (nI l).toInt = (l : Int) := nI_toInt (by omega)
  have l4 : (nI l).toNatClampNeg = l := nI_clamp (by omega)
  have l3 : (0 : Int) ≤ (l : Int) := by omega
  have l3' : (l : Int) < 8 := by omega
  have hc' : c.toInt ≤ 3999 := by omega
  have n2 : (nI N).toInt = (N : Int) := nI_toInt (by omega)
  have n3 : (0 : Int) ≤ (N : Int) := by omega
  have n4 : (N : Int) < ((80 : Nat) : Int) := by omega
  have n5 : (nI N).toNatClampNeg = N := nI_clamp (by omega)
  have n6 : ¬ nI N = 80 := fun z => by rw [lN80, nI_eq (by omega) (by omega)] at z; omega
  have g2 : 8 * nI E0 + nI l = nI (8 * E0 + l) := by rw [lN8, pk_mul, nI_add]
  have g3 : (nI (8 * E0 + l)).toInt = ((8 * E0 + l : Nat) : Int) := nI_toInt (by omega)
  have g4 : (nI (8 * E0 + l)).toNatClampNeg = 8 * E0 + l := nI_clamp (by omega)
  have g5 : (0 : Int) ≤ ((8 * E0 + l : Nat) : Int) ∧ ((8 * E0 + l : Nat) : Int) < ((192 : Nat) : Int) := by omega
  have b0 := bit0 (b := op) (l := l) (by omega) (by omega)
  have mt := fun {d : Nat} {Q : Option AV → St → Prop} {a : Int32} => m_isPupil (d := d) (Q := Q) (σ := ρ) (a := a) a1 h23 (by omega)
  have mh := fun {d : Nat} {Q : Option AV → St → Prop} => m_hasL (d := d) (Q := Q) (σ := ρ) (a := nI l) a1 hE0 hb h17
  rw [l2, l4] at mh
  have ml := fun {d : Nat} {Q : Option AV → St → Prop} => m_left (d := d) (Q := Q) (σ := setA (setA ρ 12 31 0 g') 12 32 0 k) (b := c) a1 (show p < 12 by omega)
  simp +decide only [II, AA, RR, QQ, IA, IR, IQ, AI, AR, AQ, RI, RA, RQ, QI, QA, QR, LI, LA, LR, LQ, NI, NA, NR, NQ, HI, HA, HR, HQ, SI, SA, SR, SQ, true_and, and_true, or_true, true_or, if_true, if_false, not_true_eq_false, not_false_eq_true, ne_eq, and_self, h28] at ml
  have mg := fun {d : Nat} {Q : Option AV → St → Prop} => m_goes (d := d) (Q := Q) (σ := setA (setA (setA (setA (setA (setA (setI (setA (setA ρ 12 31 0 g') 12 32 0 k) 12 38 0 (nI N + 1)) 12 40 0 (upd (gA ρ 12 40 0) N (nI p))) 12 41 0 (upd (gA ρ 12 41 0) N nm)) 12 42 0 (upd (gA ρ 12 42 0) N (nI l))) 12 43 0 (upd (gA ρ 12 43 0) N c)) 12 46 0 (upd (gA ρ 12 46 0) N (-4))) 12 51 0 (upd (gA ρ 12 51 0) N (-4))) (x := N) (p := p) (k := 0) (c := c) (X := X) (E := E) a1 hN (by omega) hq (by simp +decide only [II, AA, RR, QQ, IA, IR, IQ, AI, AR, AQ, RI, RA, RQ, QI, QA, QR, LI, LA, LR, LQ, NI, NA, NR, NQ, HI, HA, HR, HQ, SI, SA, SR, SQ, true_and, and_true, or_true, true_or, if_true, if_false, not_true_eq_false, not_false_eq_true, ne_eq, and_self, updS0]) (by simp +decide only [II, AA, RR, QQ, IA, IR, IQ, AI, AR, AQ, RI, RA, RQ, QI, QA, QR, LI, LA, LR, LQ, NI, NA, NR, NQ, HI, HA, HR, HQ, SI, SA, SR, SQ, true_and, and_true, or_true, true_or, if_true, if_false, not_true_eq_false, not_false_eq_true, ne_eq, and_self]; exact h24) hX hE (by simp +decide only [II, AA, RR, QQ, IA, IR, IQ, AI, AR, AQ, RI, RA, RQ, QI, QA, QR, LI, LA, LR, LQ, NI, NA, NR, NQ, HI, HA, HR, HQ, SI, SA, SR, SQ, true_and, and_true, or_true, true_or, if_true, if_false, not_true_eq_false, not_false_eq_true, ne_eq, and_self]; exact h36) (by simp +decide only [II, AA, RR, QQ, IA, IR, IQ, AI, AR, AQ, RI, RA, RQ, QI, QA, QR, LI, LA, LR, LQ, NI, NA, NR, NQ, HI, HA, HR, HQ, SI, SA, SR, SQ, true_and, and_true, or_true, true_or, if_true, if_false, not_true_eq_false, not_false_eq_true, ne_eq, and_self]; exact h37)
  simp +decide only [II, AA, RR, QQ, IA, IR, IQ, AI, AR, AQ, RI, RA, RQ, QI, QA, QR, LI, LA, LR, LQ, NI, NA, NR, NQ, HI, HA, HR, HQ, SI, SA, SR, SQ, true_and, and_true, or_true, true_or, if_true, if_false, not_true_eq_false, not_false_eq_true, ne_eq, and_self] at mg
  simp +decide only [e169_0, e169_1, e169_2, e169_5, e169_8, e169_9, e169_12, e169_15, e169_16, e169_17, e169_20, e169_21, e169_22, e169_23, e169_26, e169_29, e169_30, e169_31, e169_34, e169_35, e169_36, e169_39, e169_40, e169_41, e169_42, e169_43, e169_46, e169_49, e169_50, e169_51, e169_54, e169_55, e169_56, e169_57, e169_60, e169_61, e169_62, e169_63, e169_64, e169_67, e169_68, e169_69, e169_70, e169_73, e169_76, e169_78, e169_79, e169_80, e169_83, e169_85, e169_88, e169_90, e169_91, e169_92, e169_95, e169_97, e169_98, e169_99, e169_102, e169_103, e169_104, e169_107, e169_108, e169_111, e169_113, e169_114, e169_115, e169_116, e169_119, e169_121, e169_122, e169_125, e169_127, e169_128, e169_131, e169_132, e169_133, e169_134, e169_135, e169_136, e169_137, e169_138, e169_139, e169_142, e169_144, e169_145, e169_146, e169_147, e169_150, e169_152, e169_153, e169_154, e169_155, e169_158, e169_160, e169_162, e169_163, e169_164, e169_167, e169_169, e169_171, e169_172, e169_173, e169_175, e169_176, e169_177, e169_180, e169_182, true_and, and_true, or_true, true_or, if_true, if_false, not_true_eq_false, not_false_eq_true, ne_eq, and_self, Option.toList_some, Option.toList_none, List.cons_append, List.nil_append, catS_0, catS_I, catS_L, catS_R, Option.map_some, Option.map_none, c_isIn, m_in, wide_toInt, c_isDay, m_isDay, m_isCourse, c_areParts, tI_m1000, tI_m20, tI_m14, tI_m13, tI_m12, tI_m11, tI_m4, tI_m3, tI_m2, tI_m1, tI_0, tI_1, tI_2, tI_3, tI_4, tI_5, tI_6, tI_7, tI_8, tI_9, tI_10, tI_11, tI_12, tI_14, tI_15, tI_16, tI_19, tI_20, tI_21, tI_30, tI_31, tI_32, tI_40, tI_60, tI_61, tI_80, tI_90, tI_97, tI_100, tI_101, tI_119, tI_120, tI_121, tI_126, tI_128, tI_255, tI_256, tI_500, tI_512, tI_600, tI_999, tI_1000, tI_3999, tI_4000, tI_4095, tI_4096, tI_99999, tI_100000, tL_0, tL_1, tL_2, tL_3, tL_4, tL_5, tL_7, tL_8, tL_9, tL_15, tL_19, tL_20, tL_32, tL_39, tL_48, tL_57, tL_60, tL_97, tL_100, tL_104, tL_126, tL_255, tL_3999, tL_4095, tL_99999, Option.some.injEq, Sum.inl.injEq, exists_eq_left', exists_eq', ltI, leI, mt, mh, ml, mg, hfind, hbits, b0, hol, hbl, e3, e4, hp0, hp1, hp3, l3, l3', hc, hc', h25, h26, h38, n2, n3, n4, n5, n6, g2, g3, g4, g5, h18, N12 a1, L12_25 a1, L12_26 a1, L12_18 a1, L12_40 a1, L12_41 a1, L12_42 a1, L12_43 a1, L12_46 a1, L12_51 a1, II, AA, RR, QQ, IA, IR, IQ, AI, AR, AQ, RI, RA, RQ, QI, QA, QR, LI, LA, LR, LQ, NI, NA, NR, NQ, HI, HA, HR, HQ, SI, SA, SR, SQ]
end MSEND
