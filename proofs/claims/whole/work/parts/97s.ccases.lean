section CCASES
variable {z l s : Nat} {c : Nat → Int32} {n f : Nat}
/-- goes on at pc, or fails -/
def CGo (z l s : Nat) (c : Nat → Int32) (n f : Nat) (ρ : St) (x : Sum Nat (Nat × List Nat)) (i : Nat) (run : Nat → (Option AV → St → Prop) → Prop) : Prop := match x with
  | .inl q => ∃ ρ', frL z l s ρ ρ' ∧ gI ρ' 7 2 0 = nI q ∧ ∀ D Q, run D Q = Q (some (vI 0)) ρ'
  | .inr y => ∃ ρ' k', frL z l s ρ ρ' ∧ KSt z l s c n y.1 y.2 ρ' ∧ ∀ D Q, run D Q = Rn (D + (2 * f + 6)) Q (49, 66, [some (vR (some (7, 0, 0))), some (vR (some (0, 0, z))), some (vI (nI l)), some (vI (nI (6 - f))), some (vI (nI i)), some (vI k')], [], ρ')
theorem c_ands (hcl : ∀ (p : Nat) (C : List Nat) (ρ : St), KSt z l s c n p C ρ → CRes z l s c n ρ (claimP c n f p C) (fun D Q => Rn (D + (2 * f + 5)) Q (50, 0, [some (vR (some (7, 0, 0))), some (vR (some (0, 0, z))), some (vI (nI l)), some (vI (nI (6 - f))), none], [], ρ))) {i : Nat} : ∀ fuel k p C ρ, k + fuel = 120 → KSt z l s c n p C ρ → CGo z l s c n f ρ (andsP c n (claimP c n f) fuel p C) i (fun D Q => Rn (D + (2 * f + 6)) Q (49, 25, [some (vR (some (7, 0, 0))), some (vR (some (0, 0, z))), some (vI (nI l)), some (vI (nI (6 - f))), some (vI (nI i)), some (vI (nI k))], [], ρ)) := by
  intro fuel
  induction fuel with
  | zero =>
    intro k p C ρ hk h
    have hk : k = 120 := by omega
    subst hk
    refine ⟨ρ, nI 120, frL_0, h, fun D Q => ?_⟩
    show Rn (D + (2 * f + 6)) Q _ = _
    rw [e49_25]
    simp +decide only [e49_0, e49_1, e49_5, e49_7, e49_10, e49_11, e49_12, e49_13, e49_14, e49_17, e49_20, e49_21, e49_22, e49_23, e49_27, e49_29, e49_32, e49_33, e49_35, e49_38, e49_41, e49_42, e49_43, e49_44, e49_45, e49_48, e49_51, e49_52, e49_53, e49_54, e49_55, e49_57, e49_60, e49_63, e49_68, e49_71, e49_72, e49_73, e49_75, e49_78, e49_79, e49_81, e49_84, e49_87, e49_88, e49_89, e49_92, e49_95, e49_96, true_and, and_true, or_true, true_or, if_true, if_false, not_true_eq_false, not_false_eq_true, ne_eq, and_self, Option.toList_some, Option.toList_none, List.cons_append, List.nil_append, catS_0, catS_I, catS_L, catS_R, Option.map_some, Option.map_none, show (120 : Int32) ≤ nI 120 by decide]
  | succ fuel ih =>
    intro k p C ρ hk h
    have k9 := h.2.2.2.2.2.2.2.2.1
    have k1 := h.1
    have k14 := h.2.2.2.2.2.2.2.2.2.2.2.2.2
    have sl := sk_le (c := c) k9
    have y1 : ¬ (120 : Int32) ≤ nI k := nI_ge (b := 120) (by omega) (by omega)
    have ct := fun {d : Nat} {Q : Option AV → St → Prop} {ch : Int32} => c_tk (d := d) (Q := Q) (ch := ch) h
    show CGo z l s c n f ρ (if sgn c n p = 38 then bnd (claimP c n f (sk c n p + 1) C) (fun p' C' => andsP c n (claimP c n f) fuel p' (1001 :: C')) else .inr (sk c n p, C)) i _
    by_cases hg : sgn c n p = 38
    · rw [if_pos hg]
      have h2 := sgn_n k9 hg (by decide)
      have hx := hcl _ _ _ (KS_p h (q := sk c n p + 1) (by omega) (by omega))
      have hgo := claim_go (c := c) (n := n) f (sk c n p + 1) C (by omega)
      cases hy : claimP c n f (sk c n p + 1) C with
      | inl q =>
        rw [hy] at hx
        obtain ⟨ρ', r1, r2, r3⟩ := hx
        rw [bnd_l]
        refine ⟨ρ', frL_t frL_p r1, r2, fun D Q => ?_⟩
        have r3 := fun Q => r3 D Q
        dsimp only at r3 ⊢
        rw [show D + (2 * f + 5) = D + (2 * f + 4) + 1 by omega] at r3
        rw [show D + (2 * f + 6) = D + (2 * f + 4) + 2 by omega, e49_25]
        simp +decide only [e49_0, e49_1, e49_5, e49_7, e49_10, e49_11, e49_12, e49_13, e49_14, e49_17, e49_20, e49_21, e49_22, e49_23, e49_27, e49_29, e49_32, e49_33, e49_35, e49_38, e49_41, e49_42, e49_43, e49_44, e49_45, e49_48, e49_51, e49_52, e49_53, e49_54, e49_55, e49_57, e49_60, e49_63, e49_68, e49_71, e49_72, e49_73, e49_75, e49_78, e49_79, e49_81, e49_84, e49_87, e49_88, e49_89, e49_92, e49_95, e49_96, true_and, and_true, or_true, true_or, if_true, if_false, not_true_eq_false, not_false_eq_true, ne_eq, and_self, Option.toList_some, Option.toList_none, List.cons_append, List.nil_append, catS_0, catS_I, catS_L, catS_R, Option.map_some, Option.map_none, ct, hg, y1, r3, NI, N7 k1]
      | inr y =>
        obtain ⟨p2, C2⟩ := y
        rw [hy] at hx hgo
        obtain ⟨ρ', r1, r2, r3⟩ := hx
        have r2 : KSt z l s c n p2 C2 ρ' := r2
        obtain ⟨g1, g2, g3, g4⟩ := hgo
        have g3 : C2.length + (sk c n p + 1) ≤ C.length + p2 := g3
        obtain ⟨j1, j2, j3⟩ := c_addj (t := 1001) r2 (by omega) (by omega) (by omega)
        have hz' : z < gN ρ' 0 := r2.2.1
        have c1001 : cvT 1001 = -2 := by decide
        have hi := ih (k + 1) p2 (1001 :: C2) _ (by omega) j2
        rw [bnd_r]
        cases hw : andsP c n (claimP c n f) fuel p2 (1001 :: C2) with
        | inl q =>
          rw [hw] at hi
          obtain ⟨ρ2, t1, t2, t3⟩ := hi
          refine ⟨ρ2, frL_t frL_p (frL_t r1 (frL_t j1 t1)), t2, fun D Q => (Eq.trans ?_ (t3 D Q))⟩
          have r3 := fun Q => r3 D Q
          dsimp only at r3 ⊢
          rw [show D + (2 * f + 5) = D + (2 * f + 4) + 1 by omega] at r3
          rw [c1001] at j3 ⊢
          rw [show D + (2 * f + 6) = D + (2 * f + 4) + 2 by omega, e49_25, ← nI_1 k]
          simp +decide only [e49_0, e49_1, e49_5, e49_7, e49_10, e49_11, e49_12, e49_13, e49_14, e49_17, e49_20, e49_21, e49_22, e49_23, e49_27, e49_29, e49_32, e49_33, e49_35, e49_38, e49_41, e49_42, e49_43, e49_44, e49_45, e49_48, e49_51, e49_52, e49_53, e49_54, e49_55, e49_57, e49_60, e49_63, e49_68, e49_71, e49_72, e49_73, e49_75, e49_78, e49_79, e49_81, e49_84, e49_87, e49_88, e49_89, e49_92, e49_95, e49_96, true_and, and_true, or_true, true_or, if_true, if_false, not_true_eq_false, not_false_eq_true, ne_eq, and_self, Option.toList_some, Option.toList_none, List.cons_append, List.nil_append, catS_0, catS_I, catS_L, catS_R, Option.map_some, Option.map_none, ct, hg, y1, r3, j3, hz', NI, N7 k1]
        | inr y =>
          rw [hw] at hi
          obtain ⟨ρ2, k', t1, t2, t3⟩ := hi
          refine ⟨ρ2, k', frL_t frL_p (frL_t r1 (frL_t j1 t1)), t2, fun D Q => (Eq.trans ?_ (t3 D Q))⟩
          have r3 := fun Q => r3 D Q
          dsimp only at r3 ⊢
          rw [show D + (2 * f + 5) = D + (2 * f + 4) + 1 by omega] at r3
          rw [c1001] at j3 ⊢
          rw [show D + (2 * f + 6) = D + (2 * f + 4) + 2 by omega, e49_25, ← nI_1 k]
          simp +decide only [e49_0, e49_1, e49_5, e49_7, e49_10, e49_11, e49_12, e49_13, e49_14, e49_17, e49_20, e49_21, e49_22, e49_23, e49_27, e49_29, e49_32, e49_33, e49_35, e49_38, e49_41, e49_42, e49_43, e49_44, e49_45, e49_48, e49_51, e49_52, e49_53, e49_54, e49_55, e49_57, e49_60, e49_63, e49_68, e49_71, e49_72, e49_73, e49_75, e49_78, e49_79, e49_81, e49_84, e49_87, e49_88, e49_89, e49_92, e49_95, e49_96, true_and, and_true, or_true, true_or, if_true, if_false, not_true_eq_false, not_false_eq_true, ne_eq, and_self, Option.toList_some, Option.toList_none, List.cons_append, List.nil_append, catS_0, catS_I, catS_L, catS_R, Option.map_some, Option.map_none, ct, hg, y1, r3, j3, hz', NI, N7 k1]
    · rw [if_neg hg]
      refine ⟨setI ρ 7 2 0 (nI (sk c n p)), nI k, frL_p, KS_p h sl.1 sl.2, fun D Q => ?_⟩
      dsimp only
      rw [show D + (2 * f + 6) = D + (2 * f + 4) + 2 by omega, e49_25]
      simp +decide only [e49_0, e49_1, e49_5, e49_7, e49_10, e49_11, e49_12, e49_13, e49_14, e49_17, e49_20, e49_21, e49_22, e49_23, e49_27, e49_29, e49_32, e49_33, e49_35, e49_38, e49_41, e49_42, e49_43, e49_44, e49_45, e49_48, e49_51, e49_52, e49_53, e49_54, e49_55, e49_57, e49_60, e49_63, e49_68, e49_71, e49_72, e49_73, e49_75, e49_78, e49_79, e49_81, e49_84, e49_87, e49_88, e49_89, e49_92, e49_95, e49_96, true_and, and_true, or_true, true_or, if_true, if_false, not_true_eq_false, not_false_eq_true, ne_eq, and_self, Option.toList_some, Option.toList_none, List.cons_append, List.nil_append, catS_0, catS_I, catS_L, catS_R, Option.map_some, Option.map_none, ct, hg, y1, NI, N7 k1]
theorem c_group (hcl : ∀ (p : Nat) (C : List Nat) (ρ : St), KSt z l s c n p C ρ → CRes z l s c n ρ (claimP c n f p C) (fun D Q => Rn (D + (2 * f + 5)) Q (50, 0, [some (vR (some (7, 0, 0))), some (vR (some (0, 0, z))), some (vI (nI l)), some (vI (nI (6 - f))), none], [], ρ))) {i : Nat} (hi : i < 120) {p : Nat} {C : List Nat} {ρ : St} {l5 : Option AV} (h : KSt z l s c n p C ρ) : CGo z l s c n f ρ (groupP c n (claimP c n f) p C) i (fun D Q => Rn (D + (2 * f + 6)) Q (49, 3, [some (vR (some (7, 0, 0))), some (vR (some (0, 0, z))), some (vI (nI l)), some (vI (nI (6 - f))), some (vI (nI i)), l5], [], ρ)) := by
  have k1 := h.1
  have y1 : ¬ (120 : Int32) ≤ nI i := nI_ge (b := 120) (by omega) (by omega)
  have hx := hcl _ _ _ h
  unfold groupP
  cases hy : claimP c n f p C with
  | inl q =>
    rw [hy] at hx
    obtain ⟨ρ', r1, r2, r3⟩ := hx
    rw [bnd_l]
    refine ⟨ρ', r1, r2, fun D Q => ?_⟩
    have r3 := fun Q => r3 D Q
    dsimp only at r3 ⊢
    rw [show D + (2 * f + 6) = D + (2 * f + 5) + 1 by omega, e49_3]
    simp +decide only [e49_0, e49_1, e49_5, e49_7, e49_10, e49_11, e49_12, e49_13, e49_14, e49_17, e49_20, e49_21, e49_22, e49_23, e49_27, e49_29, e49_32, e49_33, e49_35, e49_38, e49_41, e49_42, e49_43, e49_44, e49_45, e49_48, e49_51, e49_52, e49_53, e49_54, e49_55, e49_57, e49_60, e49_63, e49_68, e49_71, e49_72, e49_73, e49_75, e49_78, e49_79, e49_81, e49_84, e49_87, e49_88, e49_89, e49_92, e49_95, e49_96, true_and, and_true, or_true, true_or, if_true, if_false, not_true_eq_false, not_false_eq_true, ne_eq, and_self, Option.toList_some, Option.toList_none, List.cons_append, List.nil_append, catS_0, catS_I, catS_L, catS_R, Option.map_some, Option.map_none, y1, r3, N7 k1]
  | inr y =>
    obtain ⟨p2, C2⟩ := y
    rw [hy] at hx
    obtain ⟨ρ', r1, r2, r3⟩ := hx
    have r2 : KSt z l s c n p2 C2 ρ' := r2
    rw [bnd_r]
    have ha := c_ands hcl (i := i) 120 0 p2 C2 ρ' (by omega) r2
    cases hw : andsP c n (claimP c n f) 120 p2 C2 with
    | inl q =>
      rw [hw] at ha
      obtain ⟨ρ2, t1, t2, t3⟩ := ha
      refine ⟨ρ2, frL_t r1 t1, t2, fun D Q => (Eq.trans ?_ (t3 D Q))⟩
      have r3 := fun Q => r3 D Q
      dsimp only at r3 ⊢
      rw [nI_0, show D + (2 * f + 6) = D + (2 * f + 5) + 1 by omega, e49_3]
      simp +decide only [e49_0, e49_1, e49_5, e49_7, e49_10, e49_11, e49_12, e49_13, e49_14, e49_17, e49_20, e49_21, e49_22, e49_23, e49_27, e49_29, e49_32, e49_33, e49_35, e49_38, e49_41, e49_42, e49_43, e49_44, e49_45, e49_48, e49_51, e49_52, e49_53, e49_54, e49_55, e49_57, e49_60, e49_63, e49_68, e49_71, e49_72, e49_73, e49_75, e49_78, e49_79, e49_81, e49_84, e49_87, e49_88, e49_89, e49_92, e49_95, e49_96, true_and, and_true, or_true, true_or, if_true, if_false, not_true_eq_false, not_false_eq_true, ne_eq, and_self, Option.toList_some, Option.toList_none, List.cons_append, List.nil_append, catS_0, catS_I, catS_L, catS_R, Option.map_some, Option.map_none, y1, r3, N7 k1]
    | inr y =>
      rw [hw] at ha
      obtain ⟨ρ2, k', t1, t2, t3⟩ := ha
      refine ⟨ρ2, k', frL_t r1 t1, t2, fun D Q => (Eq.trans ?_ (t3 D Q))⟩
      have r3 := fun Q => r3 D Q
      dsimp only at r3 ⊢
      rw [nI_0, show D + (2 * f + 6) = D + (2 * f + 5) + 1 by omega, e49_3]
      simp +decide only [e49_0, e49_1, e49_5, e49_7, e49_10, e49_11, e49_12, e49_13, e49_14, e49_17, e49_20, e49_21, e49_22, e49_23, e49_27, e49_29, e49_32, e49_33, e49_35, e49_38, e49_41, e49_42, e49_43, e49_44, e49_45, e49_48, e49_51, e49_52, e49_53, e49_54, e49_55, e49_57, e49_60, e49_63, e49_68, e49_71, e49_72, e49_73, e49_75, e49_78, e49_79, e49_81, e49_84, e49_87, e49_88, e49_89, e49_92, e49_95, e49_96, true_and, and_true, or_true, true_or, if_true, if_false, not_true_eq_false, not_false_eq_true, ne_eq, and_self, Option.toList_some, Option.toList_none, List.cons_append, List.nil_append, catS_0, catS_I, catS_L, catS_R, Option.map_some, Option.map_none, y1, r3, N7 k1]
theorem c_alts (hcl : ∀ (p : Nat) (C : List Nat) (ρ : St), KSt z l s c n p C ρ → CRes z l s c n ρ (claimP c n f p C) (fun D Q => Rn (D + (2 * f + 5)) Q (50, 0, [some (vR (some (7, 0, 0))), some (vR (some (0, 0, z))), some (vI (nI l)), some (vI (nI (6 - f))), none], [], ρ))) : ∀ fuel i p C ρ (l5 : Int32), i + fuel = 119 → KSt z l s c n p C ρ → CRes z l s c n ρ (altsP c n (claimP c n f) fuel p C) (fun D Q => Rn (D + (2 * f + 6)) Q (49, 78, [some (vR (some (7, 0, 0))), some (vR (some (0, 0, z))), some (vI (nI l)), some (vI (nI (6 - f))), some (vI (nI i)), some (vI l5)], [], ρ)) := by
  intro fuel
  induction fuel with
  | zero =>
    intro i p C ρ l5 hi h
    have hi : i = 119 := by omega
    subst hi
    have k9 := h.2.2.2.2.2.2.2.2.1
    have k1 := h.1
    have sl := sk_le (c := c) k9
    have ct := fun {d : Nat} {Q : Option AV → St → Prop} {ch : Int32} => c_tk (d := d) (Q := Q) (ch := ch) h
    have e120 : nI 119 + 1 = 120 := rfl
    show CRes z l s c n ρ (if sgn c n p = 124 then .inl (sk c n p + 1) else .inr (sk c n p, C)) _
    by_cases hg : sgn c n p = 124
    · rw [if_pos hg]
      refine ⟨setI ρ 7 2 0 (nI (sk c n p + 1)), frL_p, by simp +decide only [II, AA, RR, QQ, IA, IR, IQ, AI, AR, AQ, RI, RA, RQ, QI, QA, QR, LI, LA, LR, LQ, NI, NA, NR, NQ, HI, HA, HR, HQ, SI, SA, SR, SQ, true_and, and_true, or_true, true_or, if_true, if_false, not_true_eq_false, not_false_eq_true, ne_eq, and_self]; exact updS0, fun D Q => ?_⟩
      dsimp only
      rw [show D + (2 * f + 6) = D + (2 * f + 4) + 2 by omega]
      simp +decide only [e49_0, e49_1, e49_5, e49_7, e49_10, e49_11, e49_12, e49_13, e49_14, e49_17, e49_20, e49_21, e49_22, e49_23, e49_27, e49_29, e49_32, e49_33, e49_35, e49_38, e49_41, e49_42, e49_43, e49_44, e49_45, e49_48, e49_51, e49_52, e49_53, e49_54, e49_55, e49_57, e49_60, e49_63, e49_66, e49_68, e49_71, e49_72, e49_73, e49_75, e49_78, e49_79, e49_81, e49_84, e49_87, e49_88, e49_89, e49_92, e49_95, e49_96, true_and, and_true, or_true, true_or, if_true, if_false, not_true_eq_false, not_false_eq_true, ne_eq, and_self, Option.toList_some, Option.toList_none, List.cons_append, List.nil_append, catS_0, catS_I, catS_L, catS_R, Option.map_some, Option.map_none, ct, hg, e120, NI, N7 k1]
      rw [e49_3]
      simp +decide only [e49_0, e49_1, e49_5, e49_7, e49_10, e49_11, e49_12, e49_13, e49_14, e49_17, e49_20, e49_21, e49_22, e49_23, e49_27, e49_29, e49_32, e49_33, e49_35, e49_38, e49_41, e49_42, e49_43, e49_44, e49_45, e49_48, e49_51, e49_52, e49_53, e49_54, e49_55, e49_57, e49_60, e49_63, e49_66, e49_68, e49_71, e49_72, e49_73, e49_75, e49_78, e49_79, e49_81, e49_84, e49_87, e49_88, e49_89, e49_92, e49_95, e49_96, true_and, and_true, or_true, true_or, if_true, if_false, not_true_eq_false, not_false_eq_true, ne_eq, and_self, Option.toList_some, Option.toList_none, List.cons_append, List.nil_append, catS_0, catS_I, catS_L, catS_R, Option.map_some, Option.map_none]
    · rw [if_neg hg]
      refine ⟨setI ρ 7 2 0 (nI (sk c n p)), frL_p, KS_p h sl.1 sl.2, fun D Q => ?_⟩
      dsimp only
      rw [show D + (2 * f + 6) = D + (2 * f + 4) + 2 by omega]
      simp +decide only [e49_0, e49_1, e49_5, e49_7, e49_10, e49_11, e49_12, e49_13, e49_14, e49_17, e49_20, e49_21, e49_22, e49_23, e49_27, e49_29, e49_32, e49_33, e49_35, e49_38, e49_41, e49_42, e49_43, e49_44, e49_45, e49_48, e49_51, e49_52, e49_53, e49_54, e49_55, e49_57, e49_60, e49_63, e49_66, e49_68, e49_71, e49_72, e49_73, e49_75, e49_78, e49_79, e49_81, e49_84, e49_87, e49_88, e49_89, e49_92, e49_95, e49_96, true_and, and_true, or_true, true_or, if_true, if_false, not_true_eq_false, not_false_eq_true, ne_eq, and_self, Option.toList_some, Option.toList_none, List.cons_append, List.nil_append, catS_0, catS_I, catS_L, catS_R, Option.map_some, Option.map_none, ct, hg, NI, N7 k1]
  | succ fuel ih =>
    intro i p C ρ l5 hi h
    have k9 := h.2.2.2.2.2.2.2.2.1
    have k1 := h.1
    have k14 := h.2.2.2.2.2.2.2.2.2.2.2.2.2
    have sl := sk_le (c := c) k9
    have ct := fun {d : Nat} {Q : Option AV → St → Prop} {ch : Int32} => c_tk (d := d) (Q := Q) (ch := ch) h
    show CRes z l s c n ρ (if sgn c n p = 124 then bnd (groupP c n (claimP c n f) (sk c n p + 1) C) (fun p' C' => altsP c n (claimP c n f) fuel p' (1002 :: C')) else .inr (sk c n p, C)) _
    by_cases hg : sgn c n p = 124
    · rw [if_pos hg]
      have h2 := sgn_n k9 hg (by decide)
      have hx := c_group hcl (i := i + 1) (l5 := some (vI l5)) (by omega) (KS_p h (q := sk c n p + 1) (by omega) (by omega))
      have hgo := group_go (c := c) (n := n) (b := 2 * f + 1) (by omega) (fun p C hp => claim_go (c := c) f p C hp) (sk c n p + 1) C (by omega)
      have first : ∀ D Q, Rn (D + (2 * f + 6)) Q (49, 78, [some (vR (some (7, 0, 0))), some (vR (some (0, 0, z))), some (vI (nI l)), some (vI (nI (6 - f))), some (vI (nI i)), some (vI l5)], [], ρ) = Rn (D + (2 * f + 6)) Q (49, 3, [some (vR (some (7, 0, 0))), some (vR (some (0, 0, z))), some (vI (nI l)), some (vI (nI (6 - f))), some (vI (nI (i + 1))), some (vI l5)], [], setI ρ 7 2 0 (nI (sk c n p + 1))) := by
        intro D Q
        rw [show D + (2 * f + 6) = D + (2 * f + 4) + 2 by omega, ← nI_1 i]
        simp +decide only [e49_0, e49_1, e49_5, e49_7, e49_10, e49_11, e49_12, e49_13, e49_14, e49_17, e49_20, e49_21, e49_22, e49_23, e49_27, e49_29, e49_32, e49_33, e49_35, e49_38, e49_41, e49_42, e49_43, e49_44, e49_45, e49_48, e49_51, e49_52, e49_53, e49_54, e49_55, e49_57, e49_60, e49_63, e49_66, e49_68, e49_71, e49_72, e49_73, e49_75, e49_78, e49_79, e49_81, e49_84, e49_87, e49_88, e49_89, e49_92, e49_95, e49_96, true_and, and_true, or_true, true_or, if_true, if_false, not_true_eq_false, not_false_eq_true, ne_eq, and_self, Option.toList_some, Option.toList_none, List.cons_append, List.nil_append, catS_0, catS_I, catS_L, catS_R, Option.map_some, Option.map_none, ct, hg, NI, N7 k1]
      cases hy : groupP c n (claimP c n f) (sk c n p + 1) C with
      | inl q =>
        rw [hy] at hx
        obtain ⟨ρ', r1, r2, r3⟩ := hx
        rw [bnd_l]
        exact ⟨ρ', frL_t frL_p r1, r2, fun D Q => (first D Q).trans (r3 D Q)⟩
      | inr y =>
        obtain ⟨p2, C2⟩ := y
        rw [hy] at hx hgo
        obtain ⟨ρ', k', r1, r2, r3⟩ := hx
        have r2 : KSt z l s c n p2 C2 ρ' := r2
        obtain ⟨g1, g2, g3, g4⟩ := hgo
        have g3 : C2.length + (sk c n p + 1) ≤ C.length + p2 := g3
        obtain ⟨j1, j2, j3⟩ := c_addj (t := 1002) r2 (by omega) (by omega) (by omega)
        have hz' : z < gN ρ' 0 := r2.2.1
        have c1002 : cvT 1002 = -3 := by decide
        have y3 : ¬ nI (i + 1) ≤ 0 := nI_nle (by omega) (by omega)
        have ha := ih (i + 1) p2 (1002 :: C2) _ k' (by omega) j2
        have second : ∀ D Q, Rn (D + (2 * f + 6)) Q (49, 66, [some (vR (some (7, 0, 0))), some (vR (some (0, 0, z))), some (vI (nI l)), some (vI (nI (6 - f))), some (vI (nI (i + 1))), some (vI k')], [], ρ') = Rn (D + (2 * f + 6)) Q (49, 78, [some (vR (some (7, 0, 0))), some (vR (some (0, 0, z))), some (vI (nI l)), some (vI (nI (6 - f))), some (vI (nI (i + 1))), some (vI k')], [], adS ρ' z l (s + C2.length) (cvT 1002)) := by
          intro D Q
          rw [c1002] at j3 ⊢
          rw [show D + (2 * f + 6) = D + (2 * f + 5) + 1 by omega]
          simp +decide only [e49_0, e49_1, e49_5, e49_7, e49_10, e49_11, e49_12, e49_13, e49_14, e49_17, e49_20, e49_21, e49_22, e49_23, e49_27, e49_29, e49_32, e49_33, e49_35, e49_38, e49_41, e49_42, e49_43, e49_44, e49_45, e49_48, e49_51, e49_52, e49_53, e49_54, e49_55, e49_57, e49_60, e49_63, e49_66, e49_68, e49_71, e49_72, e49_73, e49_75, e49_79, e49_81, e49_84, e49_87, e49_88, e49_89, e49_92, e49_95, e49_96, true_and, and_true, or_true, true_or, if_true, if_false, not_true_eq_false, not_false_eq_true, ne_eq, and_self, Option.toList_some, Option.toList_none, List.cons_append, List.nil_append, catS_0, catS_I, catS_L, catS_R, Option.map_some, Option.map_none, j3, y3, hz']
        rw [bnd_r]
        cases hw : altsP c n (claimP c n f) fuel p2 (1002 :: C2) with
        | inl q =>
          rw [hw] at ha
          obtain ⟨ρ2, t1, t2, t3⟩ := ha
          exact ⟨ρ2, frL_t frL_p (frL_t r1 (frL_t j1 t1)), t2, fun D Q => (first D Q).trans ((r3 D Q).trans ((second D Q).trans (t3 D Q)))⟩
        | inr y =>
          rw [hw] at ha
          obtain ⟨ρ2, t1, t2, t3⟩ := ha
          exact ⟨ρ2, frL_t frL_p (frL_t r1 (frL_t j1 t1)), t2, fun D Q => (first D Q).trans ((r3 D Q).trans ((second D Q).trans (t3 D Q)))⟩
    · rw [if_neg hg]
      refine ⟨setI ρ 7 2 0 (nI (sk c n p)), frL_p, KS_p h sl.1 sl.2, fun D Q => ?_⟩
      dsimp only
      rw [show D + (2 * f + 6) = D + (2 * f + 4) + 2 by omega]
      simp +decide only [e49_0, e49_1, e49_5, e49_7, e49_10, e49_11, e49_12, e49_13, e49_14, e49_17, e49_20, e49_21, e49_22, e49_23, e49_27, e49_29, e49_32, e49_33, e49_35, e49_38, e49_41, e49_42, e49_43, e49_44, e49_45, e49_48, e49_51, e49_52, e49_53, e49_54, e49_55, e49_57, e49_60, e49_63, e49_66, e49_68, e49_71, e49_72, e49_73, e49_75, e49_78, e49_79, e49_81, e49_84, e49_87, e49_88, e49_89, e49_92, e49_95, e49_96, true_and, and_true, or_true, true_or, if_true, if_false, not_true_eq_false, not_false_eq_true, ne_eq, and_self, Option.toList_some, Option.toList_none, List.cons_append, List.nil_append, catS_0, catS_I, catS_L, catS_R, Option.map_some, Option.map_none, ct, hg, NI, N7 k1]
theorem c_cases (hcl : ∀ (p : Nat) (C : List Nat) (ρ : St), KSt z l s c n p C ρ → CRes z l s c n ρ (claimP c n f p C) (fun D Q => Rn (D + (2 * f + 5)) Q (50, 0, [some (vR (some (7, 0, 0))), some (vR (some (0, 0, z))), some (vI (nI l)), some (vI (nI (6 - f))), none], [], ρ))) {p : Nat} {C : List Nat} {ρ : St} (h : KSt z l s c n p C ρ) : CRes z l s c n ρ (casesP c n (claimP c n f) p C) (fun D Q => Rn (D + (2 * f + 6)) Q (49, 0, [some (vR (some (7, 0, 0))), some (vR (some (0, 0, z))), some (vI (nI l)), some (vI (nI (6 - f))), none, none], [], ρ)) := by
  have hx := c_group hcl (i := 0) (l5 := none) (by omega) h
  have first : ∀ D Q, Rn (D + (2 * f + 6)) Q (49, 0, [some (vR (some (7, 0, 0))), some (vR (some (0, 0, z))), some (vI (nI l)), some (vI (nI (6 - f))), none, none], [], ρ) = Rn (D + (2 * f + 6)) Q (49, 3, [some (vR (some (7, 0, 0))), some (vR (some (0, 0, z))), some (vI (nI l)), some (vI (nI (6 - f))), some (vI (nI 0)), none], [], ρ) := by
    intro D Q
    rw [nI_0]
    simp +decide only [e49_0, e49_1, e49_5, e49_7, e49_10, e49_11, e49_12, e49_13, e49_14, e49_17, e49_20, e49_21, e49_22, e49_23, e49_27, e49_29, e49_32, e49_33, e49_35, e49_38, e49_41, e49_42, e49_43, e49_44, e49_45, e49_48, e49_51, e49_52, e49_53, e49_54, e49_55, e49_57, e49_60, e49_63, e49_66, e49_68, e49_71, e49_72, e49_73, e49_75, e49_78, e49_79, e49_81, e49_84, e49_87, e49_88, e49_89, e49_92, e49_95, e49_96, true_and, and_true, or_true, true_or, if_true, if_false, not_true_eq_false, not_false_eq_true, ne_eq, and_self, Option.toList_some, Option.toList_none, List.cons_append, List.nil_append, catS_0, catS_I, catS_L, catS_R, Option.map_some, Option.map_none]
  unfold casesP
  cases hy : groupP c n (claimP c n f) p C with
  | inl q =>
    rw [hy] at hx
    obtain ⟨ρ', r1, r2, r3⟩ := hx
    rw [bnd_l]
    exact ⟨ρ', r1, r2, fun D Q => (first D Q).trans (r3 D Q)⟩
  | inr y =>
    obtain ⟨p2, C2⟩ := y
    rw [hy] at hx
    obtain ⟨ρ', k', r1, r2, r3⟩ := hx
    have r2 : KSt z l s c n p2 C2 ρ' := r2
    have ha := c_alts hcl 119 0 p2 C2 _ k' (by omega) r2
    have second : ∀ D Q, Rn (D + (2 * f + 6)) Q (49, 66, [some (vR (some (7, 0, 0))), some (vR (some (0, 0, z))), some (vI (nI l)), some (vI (nI (6 - f))), some (vI (nI 0)), some (vI k')], [], ρ') = Rn (D + (2 * f + 6)) Q (49, 78, [some (vR (some (7, 0, 0))), some (vR (some (0, 0, z))), some (vI (nI l)), some (vI (nI (6 - f))), some (vI (nI 0)), some (vI k')], [], ρ') := by
      intro D Q
      rw [nI_0]
      simp +decide only [e49_0, e49_1, e49_5, e49_7, e49_10, e49_11, e49_12, e49_13, e49_14, e49_17, e49_20, e49_21, e49_22, e49_23, e49_27, e49_29, e49_32, e49_33, e49_35, e49_38, e49_41, e49_42, e49_43, e49_44, e49_45, e49_48, e49_51, e49_52, e49_53, e49_54, e49_55, e49_57, e49_60, e49_63, e49_66, e49_68, e49_71, e49_72, e49_73, e49_75, e49_79, e49_81, e49_84, e49_87, e49_88, e49_89, e49_92, e49_95, e49_96, true_and, and_true, or_true, true_or, if_true, if_false, not_true_eq_false, not_false_eq_true, ne_eq, and_self, Option.toList_some, Option.toList_none, List.cons_append, List.nil_append, catS_0, catS_I, catS_L, catS_R, Option.map_some, Option.map_none]
    rw [bnd_r]
    cases hw : altsP c n (claimP c n f) 119 p2 C2 with
    | inl q =>
      rw [hw] at ha
      obtain ⟨ρ2, t1, t2, t3⟩ := ha
      exact ⟨ρ2, frL_t r1 t1, t2, fun D Q => (first D Q).trans ((r3 D Q).trans ((second D Q).trans (t3 D Q)))⟩
    | inr y =>
      rw [hw] at ha
      obtain ⟨ρ2, t1, t2, t3⟩ := ha
      exact ⟨ρ2, frL_t r1 t1, t2, fun D Q => (first D Q).trans ((r3 D Q).trans ((second D Q).trans (t3 D Q)))⟩
end CCASES
theorem c_claimA {z l s : Nat} {c : Nat → Int32} {n : Nat} : ∀ f, f ≤ 6 → ∀ (p : Nat) (C : List Nat) (ρ : St), KSt z l s c n p C ρ → CRes z l s c n ρ (claimP c n f p C) (fun D Q => Rn (D + (2 * f + 5)) Q (50, 0, [some (vR (some (7, 0, 0))), some (vR (some (0, 0, z))), some (vI (nI l)), some (vI (nI (6 - f))), none], [], ρ)) := by
  intro f
  induction f with
  | zero => intro _ p C ρ h; exact c_claim0 h
  | succ f ih =>
    intro hf p C ρ h
    exact c_claimS (by omega) (fun p C ρ h => c_cases (ih (by omega)) h) h
theorem c_cases6 {z l s : Nat} {c : Nat → Int32} {n p : Nat} {C : List Nat} {ρ : St} (h : KSt z l s c n p C ρ) : CRes z l s c n ρ (casesP c n (claimP c n 6) p C) (fun D Q => Rn (D + 18) Q (49, 0, [some (vR (some (7, 0, 0))), some (vR (some (0, 0, z))), some (vI (nI l)), some (vI (nI 0)), none, none], [], ρ)) := c_cases (c_claimA 6 (by omega)) h
