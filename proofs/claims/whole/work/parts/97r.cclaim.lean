section CCLAIM
variable {z l s : Nat} {c : Nat → Int32} {n : Nat}
theorem c_tk {p : Nat} {C : List Nat} {ρ : St} {d : Nat} {Q : Option AV → St → Prop} {ch : Int32} (h : KSt z l s c n p C ρ) : Rn (d + 1) Q (44, 0, [some (vR (some (7, 0, 0))), some (vI ch)], [], ρ) = if sgn c n p = ch then Q (some (vI 1)) (setI ρ 7 2 0 (nI (sk c n p + 1))) else Q (some (vI 0)) (setI ρ 7 2 0 (nI (sk c n p))) := by
  obtain ⟨k1, k2, k3, k4, k5, k6, k7, k8, k9, k10⟩ := h
  have hρ : setI ρ 7 2 0 (nI p) = ρ := by rw [← k8, setI_self]
  have ct := c_takes (d := d) (Q := Q) (σ := ρ) (c := c) (ch := ch) k1 k3 k5 k6 k9
  rw [hρ] at ct
  exact ct
theorem lean_sk {p : Nat} {C : List Nat} (hn : n ≤ 120) : leanP c n (sk c n p) C = leanP c n p C := by
  unfold leanP sgn
  rw [sk_sk hn]
theorem sgn_sk {p : Nat} (hn : n ≤ 120) : sgn c n (sk c n p) = sgn c n p := by
  unfold sgn
  rw [sk_sk hn]
theorem c_addj {p t : Nat} {C : List Nat} {ρ : St} (h : KSt z l s c n p C ρ) (h1 : 1000 ≤ t) (h2 : t < 1003) (hl : s + C.length + 1 ≤ p) : frL z l s ρ (adS ρ z l (s + C.length) (cvT t)) ∧ KSt z l s c n p (t :: C) (adS ρ z l (s + C.length) (cvT t)) ∧ ∀ D Q, Rn D Q (6, 0, [some (vR (some (0, 0, z))), some (vI (nI l)), some (vI (cvT t))], [], ρ) = Q none (adS ρ z l (s + C.length) (cvT t)) := by
  have h0 := h
  obtain ⟨k1, k2, k3, k4, k5, k6, k7, k8, k9, k10, k11, k12, k13, k14⟩ := h
  exact ⟨frL_ad (by omega), KS_ad h0 (by omega) hl, fun D Q => c_add k1 k2 k4 (by omega) k10 (cvT_16 t h2)⟩
theorem c_den {p : Nat} {C : List Nat} {ρ : St} {den : Bool} {l3 : Option AV} (h : KSt z l s c n p C ρ) (hl : den = true → s + C.length + 1 ≤ p) : ∃ ρ', frL z l s ρ ρ' ∧ KSt z l s c n p (denC den C) ρ' ∧ ∀ D Q, Rn (D + 1) Q (50, 57, [some (vR (some (7, 0, 0))), some (vR (some (0, 0, z))), some (vI (nI l)), l3, some (vI (bz den))], [], ρ) = Q (some (vI 1)) ρ' := by
  cases den with
  | false =>
    refine ⟨ρ, frL_0, h, fun D Q => ?_⟩
    simp +decide only [e50_0, e50_1, e50_3, e50_6, e50_8, e50_9, e50_11, e50_14, e50_15, e50_17, e50_20, e50_23, e50_24, e50_25, e50_26, e50_27, e50_28, e50_29, e50_32, e50_35, e50_36, e50_38, e50_41, e50_44, e50_45, e50_46, e50_47, e50_48, e50_49, e50_52, e50_55, e50_56, e50_57, e50_59, e50_62, e50_63, e50_64, e50_65, e50_68, e50_69, true_and, and_true, or_true, true_or, if_true, if_false, not_true_eq_false, not_false_eq_true, ne_eq, and_self, Option.toList_some, Option.toList_none, List.cons_append, List.nil_append, catS_0, catS_I, catS_L, catS_R, Option.map_some, Option.map_none, bz_f]
  | true =>
    obtain ⟨r1, r2, r3⟩ := c_addj (t := 1000) h (by omega) (by omega) (hl rfl)
    refine ⟨_, r1, r2, fun D Q => ?_⟩
    have c1000 : cvT 1000 = -1 := by decide
    rw [c1000] at r3 ⊢
    have hz := h.2.1
    simp +decide only [e50_0, e50_1, e50_3, e50_6, e50_8, e50_9, e50_11, e50_14, e50_15, e50_17, e50_20, e50_23, e50_24, e50_25, e50_26, e50_27, e50_28, e50_29, e50_32, e50_35, e50_36, e50_38, e50_41, e50_44, e50_45, e50_46, e50_47, e50_48, e50_49, e50_52, e50_55, e50_56, e50_57, e50_59, e50_62, e50_63, e50_64, e50_65, e50_68, e50_69, true_and, and_true, or_true, true_or, if_true, if_false, not_true_eq_false, not_false_eq_true, ne_eq, and_self, Option.toList_some, Option.toList_none, List.cons_append, List.nil_append, catS_0, catS_I, catS_L, catS_R, Option.map_some, Option.map_none, bz_t, r3, hz]
theorem den_pl {p : Nat} {C : List Nat} {ρ : St} {o : Nat} (h : KSt z l s c n p C ρ) : KSt z l s c n (denP c n p) C (setI ρ 7 2 0 (nI (denP c n p))) ∧ ∀ D Q, Rn (D + 2) Q (50, 0, [some (vR (some (7, 0, 0))), some (vR (some (0, 0, z))), some (vI (nI l)), some (vI (nI o)), none], [], ρ) = Rn (D + 2) Q (50, 8, [some (vR (some (7, 0, 0))), some (vR (some (0, 0, z))), some (vI (nI l)), some (vI (nI o)), some (vI (bz (denY c n p)))], [], setI ρ 7 2 0 (nI (denP c n p))) := by
  obtain ⟨d1, d2, d3⟩ := den_le (c := c) (n := n) (p := p) h.2.2.2.2.2.2.2.2.1
  refine ⟨KS_p h d1 d2, fun D Q => ?_⟩
  have ct := fun {d : Nat} {Q : Option AV → St → Prop} {ch : Int32} => c_tk (d := d) (Q := Q) (ch := ch) h
  have k1 := h.1
  unfold denP
  by_cases hd : sgn c n p = 33
  · have e : denY c n p = true := by unfold denY; rw [decide_eq_true hd]
    rw [e, if_pos rfl]
    simp +decide only [e50_0, e50_1, e50_3, e50_6, e50_9, e50_11, e50_14, e50_15, e50_17, e50_20, e50_23, e50_24, e50_25, e50_26, e50_27, e50_28, e50_29, e50_32, e50_35, e50_36, e50_38, e50_41, e50_44, e50_45, e50_46, e50_47, e50_48, e50_49, e50_52, e50_55, e50_56, e50_57, e50_59, e50_62, e50_63, e50_64, e50_65, e50_68, e50_69, true_and, and_true, or_true, true_or, if_true, if_false, not_true_eq_false, not_false_eq_true, ne_eq, and_self, Option.toList_some, Option.toList_none, List.cons_append, List.nil_append, catS_0, catS_I, catS_L, catS_R, Option.map_some, Option.map_none, ct, hd, bz_t, N7 k1]
  · have e : denY c n p = false := by unfold denY; rw [decide_eq_false hd]
    rw [e, if_neg (by decide)]
    simp +decide only [e50_0, e50_1, e50_3, e50_6, e50_9, e50_11, e50_14, e50_15, e50_17, e50_20, e50_23, e50_24, e50_25, e50_26, e50_27, e50_28, e50_29, e50_32, e50_35, e50_36, e50_38, e50_41, e50_44, e50_45, e50_46, e50_47, e50_48, e50_49, e50_52, e50_55, e50_56, e50_57, e50_59, e50_62, e50_63, e50_64, e50_65, e50_68, e50_69, true_and, and_true, or_true, true_or, if_true, if_false, not_true_eq_false, not_false_eq_true, ne_eq, and_self, Option.toList_some, Option.toList_none, List.cons_append, List.nil_append, catS_0, catS_I, catS_L, catS_R, Option.map_some, Option.map_none, ct, hd, bz_f, N7 k1]
/-- a claim that is no ( -/
theorem c_clean {p : Nat} {C : List Nat} {ρ : St} {l3 : Option AV} (h : KSt z l s c n p C ρ) {p' : Nat} (hp' : p' = denP c n p ∨ p' = sk c n (denP c n p)) : CRes z l s c n ρ (bnd (leanP c n (denP c n p) C) (fun p' C' => .inr (p', denC (denY c n p) C'))) (fun D Q => Rn (D + 5) Q (50, 46, [some (vR (some (7, 0, 0))), some (vR (some (0, 0, z))), some (vI (nI l)), l3, some (vI (bz (denY c n p)))], [], setI ρ 7 2 0 (nI p'))) := by
  have k9 := h.2.2.2.2.2.2.2.2.1
  have k1 := h.1
  have k3 := h.2.2.1
  obtain ⟨d1, d2, d3⟩ := den_le (c := c) k9
  have sl := sk_le (c := c) d2
  have hK : KSt z l s c n p' C (setI ρ 7 2 0 (nI p')) := KS_p h (by omega) (by omega)
  have hlp : leanP c n p' C = leanP c n (denP c n p) C := by
    rcases hp' with e | e
    · rw [e]
    · rw [e, lean_sk k3]
  have hx := c_lean1 hK
  have hg := lean_go (c := c) (C := C) d2
  rw [hlp] at hx
  cases hy : leanP c n (denP c n p) C with
  | inl q =>
    rw [hy] at hx
    obtain ⟨ρ', r1, r2, r3⟩ := hx
    rw [bnd_l]
    refine ⟨ρ', frL_t frL_p r1, r2, fun D Q => ?_⟩
    simp +decide only [e50_0, e50_1, e50_3, e50_6, e50_8, e50_9, e50_11, e50_14, e50_15, e50_17, e50_20, e50_23, e50_24, e50_25, e50_26, e50_27, e50_28, e50_29, e50_32, e50_35, e50_36, e50_38, e50_41, e50_44, e50_45, e50_46, e50_47, e50_48, e50_49, e50_52, e50_55, e50_56, e50_57, e50_59, e50_62, e50_63, e50_64, e50_65, e50_68, e50_69, true_and, and_true, or_true, true_or, if_true, if_false, not_true_eq_false, not_false_eq_true, ne_eq, and_self, Option.toList_some, Option.toList_none, List.cons_append, List.nil_append, catS_0, catS_I, catS_L, catS_R, Option.map_some, Option.map_none, r3, NI, N7 k1]
  | inr y =>
    obtain ⟨p2, C2⟩ := y
    rw [hy] at hx hg
    obtain ⟨ρ', r1, r2, r3⟩ := hx
    obtain ⟨g1, g2, g3, g4⟩ := hg
    have g3 : C2.length + denP c n p ≤ C.length + p2 := g3
    have k14 := h.2.2.2.2.2.2.2.2.2.2.2.2.2
    rw [bnd_r]
    obtain ⟨ρ2, s1, s2, s3⟩ := c_den (den := denY c n p) (l3 := l3) r2 (fun hd => by have := d3 hd; omega)
    refine ⟨ρ2, frL_t frL_p (frL_t r1 s1), s2, fun D Q => ?_⟩
    have s3 := s3 (D + 4) Q
    simp +decide only [e50_0, e50_1, e50_3, e50_6, e50_8, e50_9, e50_11, e50_14, e50_15, e50_17, e50_20, e50_23, e50_24, e50_25, e50_26, e50_27, e50_28, e50_29, e50_32, e50_35, e50_36, e50_38, e50_41, e50_44, e50_45, e50_46, e50_47, e50_48, e50_49, e50_52, e50_55, e50_56, e50_59, e50_62, e50_63, e50_64, e50_65, e50_68, e50_69, true_and, and_true, or_true, true_or, if_true, if_false, not_true_eq_false, not_false_eq_true, ne_eq, and_self, Option.toList_some, Option.toList_none, List.cons_append, List.nil_append, catS_0, catS_I, catS_L, catS_R, Option.map_some, Option.map_none, r3, s3, NI, N7 k1]
theorem c_claim0 {p : Nat} {C : List Nat} {ρ : St} (h : KSt z l s c n p C ρ) : CRes z l s c n ρ (claimP c n 0 p C) (fun D Q => Rn (D + 5) Q (50, 0, [some (vR (some (7, 0, 0))), some (vR (some (0, 0, z))), some (vI (nI l)), some (vI (nI 6)), none], [], ρ)) := by
  obtain ⟨e1, e2⟩ := den_pl (o := 6) h
  have hx := c_clean (l3 := some (vI (nI 6))) h (Or.inl rfl)
  have key : ∀ D Q, Rn (D + 5) Q (50, 0, [some (vR (some (7, 0, 0))), some (vR (some (0, 0, z))), some (vI (nI l)), some (vI (nI 6)), none], [], ρ) = Rn (D + 5) Q (50, 46, [some (vR (some (7, 0, 0))), some (vR (some (0, 0, z))), some (vI (nI l)), some (vI (nI 6)), some (vI (bz (denY c n p)))], [], setI ρ 7 2 0 (nI (denP c n p))) := by
    intro D Q
    rw [e2 (D + 3) Q]
    simp +decide only [e50_0, e50_1, e50_3, e50_6, e50_8, e50_9, e50_11, e50_14, e50_15, e50_17, e50_20, e50_23, e50_24, e50_25, e50_26, e50_27, e50_28, e50_29, e50_32, e50_35, e50_36, e50_38, e50_41, e50_44, e50_45, e50_47, e50_48, e50_49, e50_52, e50_55, e50_56, e50_57, e50_59, e50_62, e50_63, e50_64, e50_65, e50_68, e50_69, true_and, and_true, or_true, true_or, if_true, if_false, not_true_eq_false, not_false_eq_true, ne_eq, and_self, Option.toList_some, Option.toList_none, List.cons_append, List.nil_append, catS_0, catS_I, catS_L, catS_R, Option.map_some, Option.map_none, show (6 : Int32) ≤ nI 6 by decide]
  show CRes z l s c n ρ (bnd (leanP c n (denP c n p) C) (fun p' C' => .inr (p', denC (denY c n p) C'))) _
  simp only [key]
  exact hx
theorem c_claimS {f : Nat} (hf : f ≤ 5) (ih : ∀ (p : Nat) (C : List Nat) (ρ : St), KSt z l s c n p C ρ → CRes z l s c n ρ (casesP c n (claimP c n f) p C) (fun D Q => Rn (D + (2 * f + 6)) Q (49, 0, [some (vR (some (7, 0, 0))), some (vR (some (0, 0, z))), some (vI (nI l)), some (vI (nI (6 - f))), none, none], [], ρ))) {p : Nat} {C : List Nat} {ρ : St} (h : KSt z l s c n p C ρ) : CRes z l s c n ρ (claimP c n (f + 1) p C) (fun D Q => Rn (D + (2 * (f + 1) + 5)) Q (50, 0, [some (vR (some (7, 0, 0))), some (vR (some (0, 0, z))), some (vI (nI l)), some (vI (nI (6 - (f + 1)))), none], [], ρ)) := by
  obtain ⟨e1, e2⟩ := den_pl (o := 6 - (f + 1)) h
  have k9 := h.2.2.2.2.2.2.2.2.1
  have k1 := h.1
  have k3 := h.2.2.1
  have k14 := h.2.2.2.2.2.2.2.2.2.2.2.2.2
  obtain ⟨d1, d2, d3⟩ := den_le (c := c) k9
  have sl := sk_le (c := c) d2
  have ct := fun {d : Nat} {Q : Option AV → St → Prop} {ch : Int32} => c_tk (d := d) (Q := Q) (ch := ch) e1
  have y1 : ¬ (6 : Int32) ≤ nI (6 - (f + 1)) := nI_ge (b := 6) (by omega) (by omega)
  have y2 : nI (6 - (f + 1)) + 1 = nI (6 - f) := by rw [nI_1]; congr 1; omega
  show CRes z l s c n ρ (if sgn c n (denP c n p) = 40 then bnd (casesP c n (claimP c n f) (sk c n (denP c n p) + 1) C) (fun p' C' => if sgn c n p' = 41 then .inr (sk c n p' + 1, denC (denY c n p) C') else .inl (sk c n p')) else bnd (leanP c n (denP c n p) C) (fun p' C' => .inr (p', denC (denY c n p) C'))) _
  by_cases hg : sgn c n (denP c n p) = 40
  · rw [if_pos hg]
    have h2 := sgn_n d2 hg (by decide)
    have hK : KSt z l s c n (sk c n (denP c n p) + 1) C (setI ρ 7 2 0 (nI (sk c n (denP c n p) + 1))) := KS_p h (by omega) (by omega)
    have hx := ih _ _ _ hK
    have hgo := cases_go (c := c) (n := n) (b := 2 * f + 1) (by omega) (fun p C hp => claim_go (c := c) f p C hp) (sk c n (denP c n p) + 1) C (by omega)
    cases hy : casesP c n (claimP c n f) (sk c n (denP c n p) + 1) C with
    | inl q =>
      rw [hy] at hx
      obtain ⟨ρ', r1, r2, r3⟩ := hx
      rw [bnd_l]
      refine ⟨ρ', frL_t frL_p r1, r2, fun D Q => ?_⟩
      have r3 := fun Q => r3 D Q
      show Rn (D + (2 * f + 5) + 2) Q _ = _
      have e2 := e2 (D + (2 * f + 5)) Q
      rw [e2]
      dsimp only at r3
      rw [show D + (2 * f + 6) = D + (2 * f + 5) + 1 by omega] at r3
      simp +decide only [e50_0, e50_1, e50_3, e50_6, e50_8, e50_9, e50_11, e50_14, e50_15, e50_17, e50_20, e50_23, e50_24, e50_25, e50_26, e50_27, e50_28, e50_29, e50_32, e50_35, e50_36, e50_38, e50_41, e50_44, e50_45, e50_46, e50_47, e50_48, e50_49, e50_52, e50_55, e50_56, e50_57, e50_59, e50_62, e50_63, e50_64, e50_65, e50_68, e50_69, true_and, and_true, or_true, true_or, if_true, if_false, not_true_eq_false, not_false_eq_true, ne_eq, and_self, Option.toList_some, Option.toList_none, List.cons_append, List.nil_append, catS_0, catS_I, catS_L, catS_R, Option.map_some, Option.map_none, ct, hg, setI_I, y1, y2, r3, NI, N7 k1]
    | inr y =>
      obtain ⟨p2, C2⟩ := y
      rw [hy] at hx hgo
      obtain ⟨ρ', r1, r2, r3⟩ := hx
      have r2 : KSt z l s c n p2 C2 ρ' := r2
      obtain ⟨g1, g2, g3, g4⟩ := hgo
      have g2 : p2 ≤ n := g2
      have g1 : sk c n (denP c n p) + 1 < p2 := g1
      have g3 : C2.length + (sk c n (denP c n p) + 1) ≤ C.length + p2 := g3
      have sl2 := sk_le (c := c) g2
      have ct2 := fun {d : Nat} {Q : Option AV → St → Prop} {ch : Int32} => c_tk (d := d) (Q := Q) (ch := ch) r2
      have n7 : gN ρ' 7 = 1 := N7 r2.1
      rw [bnd_r]
      by_cases hr : sgn c n p2 = 41
      · rw [if_pos hr]
        have h4 := sgn_n g2 hr (by decide)
        obtain ⟨ρ2, s1, s2, s3⟩ := c_den (den := denY c n p) (l3 := some (vI (nI (6 - (f + 1))))) (KS_p r2 (q := sk c n p2 + 1) (by omega) h4) (fun hd => by have := d3 hd; omega)
        refine ⟨ρ2, frL_t frL_p (frL_t r1 (frL_t frL_p s1)), s2, fun D Q => ?_⟩
        have r3 := fun Q => r3 D Q
        have s3 := s3 (D + (2 * f + 6)) Q
        show Rn (D + (2 * f + 5) + 2) Q _ = _
        have e2 := e2 (D + (2 * f + 5)) Q
        rw [e2]
        dsimp only at r3
        rw [show D + (2 * f + 6) = D + (2 * f + 5) + 1 by omega] at r3 s3
        simp +decide only [e50_0, e50_1, e50_3, e50_6, e50_8, e50_9, e50_11, e50_14, e50_15, e50_17, e50_20, e50_23, e50_24, e50_25, e50_26, e50_27, e50_28, e50_29, e50_32, e50_35, e50_36, e50_38, e50_41, e50_44, e50_45, e50_46, e50_47, e50_48, e50_49, e50_52, e50_55, e50_56, e50_59, e50_62, e50_63, e50_64, e50_65, e50_68, e50_69, true_and, and_true, or_true, true_or, if_true, if_false, not_true_eq_false, not_false_eq_true, ne_eq, and_self, Option.toList_some, Option.toList_none, List.cons_append, List.nil_append, catS_0, catS_I, catS_L, catS_R, Option.map_some, Option.map_none, ct, ct2, hg, hr, setI_I, y1, y2, r3, s3, NI, n7, N7 k1]
      · rw [if_neg hr]
        refine ⟨setI ρ' 7 2 0 (nI (sk c n p2)), frL_t frL_p (frL_t r1 frL_p), by simp +decide only [II, AA, RR, QQ, IA, IR, IQ, AI, AR, AQ, RI, RA, RQ, QI, QA, QR, LI, LA, LR, LQ, NI, NA, NR, NQ, HI, HA, HR, HQ, SI, SA, SR, SQ, true_and, and_true, or_true, true_or, if_true, if_false, not_true_eq_false, not_false_eq_true, ne_eq, and_self]; exact updS0, fun D Q => ?_⟩
        have r3 := fun Q => r3 D Q
        show Rn (D + (2 * f + 5) + 2) Q _ = _
        have e2 := e2 (D + (2 * f + 5)) Q
        rw [e2]
        dsimp only at r3
        rw [show D + (2 * f + 6) = D + (2 * f + 5) + 1 by omega] at r3
        simp +decide only [e50_0, e50_1, e50_3, e50_6, e50_8, e50_9, e50_11, e50_14, e50_15, e50_17, e50_20, e50_23, e50_24, e50_25, e50_26, e50_27, e50_28, e50_29, e50_32, e50_35, e50_36, e50_38, e50_41, e50_44, e50_45, e50_46, e50_47, e50_48, e50_49, e50_52, e50_55, e50_56, e50_59, e50_62, e50_63, e50_64, e50_65, e50_68, e50_69, true_and, and_true, or_true, true_or, if_true, if_false, not_true_eq_false, not_false_eq_true, ne_eq, and_self, Option.toList_some, Option.toList_none, List.cons_append, List.nil_append, catS_0, catS_I, catS_L, catS_R, Option.map_some, Option.map_none, ct, ct2, hg, hr, setI_I, y1, y2, r3, NI, n7, N7 k1]
  · rw [if_neg hg]
    have hx := c_clean (l3 := some (vI (nI (6 - (f + 1))))) h (Or.inr rfl)
    have key : ∀ D Q, Rn (D + (2 * (f + 1) + 5)) Q (50, 0, [some (vR (some (7, 0, 0))), some (vR (some (0, 0, z))), some (vI (nI l)), some (vI (nI (6 - (f + 1)))), none], [], ρ) = Rn ((D + 2 * (f + 1)) + 5) Q (50, 46, [some (vR (some (7, 0, 0))), some (vR (some (0, 0, z))), some (vI (nI l)), some (vI (nI (6 - (f + 1)))), some (vI (bz (denY c n p)))], [], setI ρ 7 2 0 (nI (sk c n (denP c n p)))) := by
      intro D Q
      show Rn ((D + 2 * (f + 1)) + 3 + 2) Q _ = _
      rw [e2]
      simp +decide only [e50_0, e50_1, e50_3, e50_6, e50_8, e50_9, e50_11, e50_14, e50_15, e50_17, e50_20, e50_23, e50_24, e50_25, e50_26, e50_27, e50_28, e50_29, e50_32, e50_35, e50_36, e50_38, e50_41, e50_44, e50_45, e50_47, e50_48, e50_49, e50_52, e50_55, e50_56, e50_57, e50_59, e50_62, e50_63, e50_64, e50_65, e50_68, e50_69, true_and, and_true, or_true, true_or, if_true, if_false, not_true_eq_false, not_false_eq_true, ne_eq, and_self, Option.toList_some, Option.toList_none, List.cons_append, List.nil_append, catS_0, catS_I, catS_L, catS_R, Option.map_some, Option.map_none, ct, hg, setI_I, y1, NI, N7 k1]
    cases hy : bnd (leanP c n (denP c n p) C) (fun p' C' => .inr (p', denC (denY c n p) C')) with
    | inl q =>
      rw [hy] at hx
      obtain ⟨ρ', r1, r2, r3⟩ := hx
      exact ⟨ρ', r1, r2, fun D Q => (key D Q).trans (r3 (D + 2 * (f + 1)) Q)⟩
    | inr y =>
      rw [hy] at hx
      obtain ⟨ρ', r1, r2, r3⟩ := hx
      exact ⟨ρ', r1, r2, fun D Q => (key D Q).trans (r3 (D + 2 * (f + 1)) Q)⟩
end CCLAIM
