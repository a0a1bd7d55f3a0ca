def stF : List Ent → Nat → Nat
  | [], _ => 0
  | e :: L, l => if l = e.1 then orC e.2.2.2 else stF L l
def accF (F : Nat → Nat) : Nat → Nat
  | 0 => 0
  | m + 1 => accF F m ||| F m
theorem stF_0 {l : Nat} : ∀ L : List Ent, notIn l L → stF L l = 0 := by
  intro L
  induction L with
  | nil => intro _; rfl
  | cons e L ih =>
    intro h
    show (if l = e.1 then orC e.2.2.2 else stF L l) = 0
    rw [if_neg (fun z => h.1 z.symm)]
    exact ih h.2
theorem accF_up {F : Nat → Nat} {a x : Nat} (h0 : F a = 0) : ∀ m, accF (fun l => if l = a then x else F l) m = accF F m ||| if a < m then x else 0 := by
  intro m
  induction m with
  | zero =>
    show (0 : Nat) = 0 ||| (if a < 0 then x else 0)
    rw [if_neg (by omega)]
    rfl
  | succ m ih =>
    show accF (fun l => if l = a then x else F l) m ||| (if m = a then x else F m) = (accF F m ||| F m) ||| (if a < m + 1 then x else 0)
    rw [ih]
    by_cases hm : m = a
    · rw [if_pos hm, if_neg (by omega), if_pos (by omega), hm, h0, Nat.or_zero]
    · rw [if_neg hm]
      by_cases ham : a < m
      · rw [if_pos ham, if_pos (by omega), Nat.or_assoc, Nat.or_assoc, Nat.or_comm x]
      · rw [if_neg ham, if_neg (by omega), Nat.or_zero, Nat.or_zero]
theorem accF_orL : ∀ L : List Ent, GdL L → accF (stF L) 8 = orL L := by
  intro L
  induction L with
  | nil =>
    intro _
    have : ∀ m, accF (stF []) m = 0 := by
      intro m
      induction m with
      | zero => rfl
      | succ m ih => show accF (stF []) m ||| 0 = 0; rw [ih]; rfl
    exact this 8
  | cons e L ih =>
    intro h
    have e1 : stF (e :: L) = fun l => if l = e.1 then orC e.2.2.2 else stF L l := rfl
    rw [e1, accF_up (stF_0 L (bits_not L h.1.2.1)), ih h.2, if_pos h.1.1]
    rfl
theorem EntS_st {f4 : Nat → Int32} {l : Nat} : ∀ L : List Ent, GdL L → EntS f4 L → (bitsL L).testBit l = true → f4 l = nI (stF L l) := by
  intro L
  induction L with
  | nil => intro _ _ h; rw [show bitsL [] = 0 from rfl, Nat.zero_testBit] at h; cases h
  | cons e L ih =>
    intro hg hs hb
    show f4 l = nI (if l = e.1 then orC e.2.2.2 else stF L l)
    by_cases hl : l = e.1
    · rw [if_pos hl, hl]; exact hs.1
    · rw [if_neg hl]
      have hb : (bitsL L ||| 2 ^ e.1).testBit l = true := hb
      rw [Nat.testBit_or, Nat.testBit_two_pow, decide_eq_false (fun z => hl z.symm), Bool.or_false] at hb
      exact ih hg.2 hs.2 hb
theorem stF_n {l : Nat} : ∀ L : List Ent, (bitsL L).testBit l = false → stF L l = 0 := fun L h => stF_0 L (bits_not L h)
def tdO (L : List Ent) : Bool := decide (nI (orL L) &&& (nI (bitsL L) ^^^ -1) = 0)
def edP (c : Nat → Int32) (n : Nat) : Nat → Nat → List Ent → Sum Nat (List Ent)
  | 0, p, _ => .inl p
  | k + 1, p, L => match lesP c n (bitsL L) p with
    | .inl q => .inl q
    | .inr y => if sgn c n y.1 = -1 then (if tdO (y.2 :: L) = true then .inr (y.2 :: L) else .inl (sk c n y.1)) else if k = 0 then .inl (sk c n y.1) else if sgn c n y.1 = 59 then edP c n k (sk c n y.1 + 1) (y.2 :: L) else .inl (sk c n y.1)
section CED
variable {z : Nat} {c : Nat → Int32} {n : Nat}
theorem CE_p {p q : Nat} {L : List Ent} {ρ : St} (h : CE z c n p L ρ) (h1 : p ≤ q) (h2 : q ≤ n) : CE z c n q L (setI ρ 7 2 0 (nI q)) := by
  obtain ⟨k1, k2, k3, k4, k5, k6, k7, k8, k9, k10, k11, k12, k13, k14⟩ := h
  refine ⟨SH_I k1, ?_⟩
  simp +decide only [II, AA, RR, QQ, IA, IR, IQ, AI, AR, AQ, RI, RA, RQ, QI, QA, QR, LI, LA, LR, LQ, NI, NA, NR, NQ, HI, HA, HR, HQ, SI, SA, SR, SQ, true_and, and_true, or_true, true_or, if_true, if_false, not_true_eq_false, not_false_eq_true, ne_eq, and_self]
  exact ⟨k2, k3, k4, k5, k6, updS0, h2, k9, k10, by omega, k12, k13, k14⟩
theorem c_tkE {p : Nat} {L : List Ent} {ρ : St} {d : Nat} {Q : Option AV → St → Prop} {ch : Int32} (h : CE z c n p L ρ) : Rn (d + 1) Q (44, 0, [some (vR (some (7, 0, 0))), some (vI ch)], [], ρ) = if sgn c n p = ch then Q (some (vI 1)) (setI ρ 7 2 0 (nI (sk c n p + 1))) else Q (some (vI 0)) (setI ρ 7 2 0 (nI (sk c n p))) := by
  obtain ⟨k1, k2, k3, k5, k6, k7, k8, k9, k10⟩ := h
  have hρ : setI ρ 7 2 0 (nI p) = ρ := by rw [← k8, setI_self]
  have ct := c_takes (d := d) (Q := Q) (σ := ρ) (c := c) (ch := ch) k1 k3 k5 k6 k9
  rw [hρ] at ct
  exact ct
theorem c_nxE {p : Nat} {L : List Ent} {ρ : St} {d : Nat} {Q : Option AV → St → Prop} (h : CE z c n p L ρ) : Rn d Q (43, 0, [some (vR (some (7, 0, 0))), none], [], ρ) = Q (some (vI (sgn c n p))) (setI ρ 7 2 0 (nI (sk c n p))) := by
  obtain ⟨k1, k2, k3, k5, k6, k7, k8, k9, k10⟩ := h
  have hρ : setI ρ 7 2 0 (nI p) = ρ := by rw [← k8, setI_self]
  have ct := c_next (d := d) (Q := Q) (σ := ρ) (c := c) k1 k3 k5 k6 k9
  rw [hρ] at ct
  exact ct
theorem c_nmE {p H : Nat} {L : List Ent} {ρ : St} {d : Nat} {Q : Option AV → St → Prop} (hH : H ≤ 99999) (h : CE z c n p L ρ) : Rn (d + 2) Q (46, 0, [some (vR (some (7, 0, 0))), some (vI (nI H)), none, none, none], [], ρ) = if nuY c n H (sk c n p) = true then Q (some (vI (nI (nuV c n H (sk c n p))))) (setI ρ 7 2 0 (nI (nuP c n (sk c n p)))) else Q (some (vI (-1))) (setI ρ 7 2 0 (nI (sk c n p))) := by
  obtain ⟨k1, k2, k3, k5, k6, k7, k8, k9, k10⟩ := h
  have hρ : setI ρ 7 2 0 (nI p) = ρ := by rw [← k8, setI_self]
  have ct := c_num (d := d) (Q := Q) (σ := ρ) (c := c) (H := H) k1 k3 k5 k6 hH k9
  rw [hρ] at ct
  rw [ct]
  unfold nuY nuV nuP
  by_cases hy : (48 ≤ (pkv c n (sk c n p)).toInt ∧ (pkv c n (sk c n p)).toInt ≤ 57) ∧ numV c n H 120 (sk c n p) 0 ≤ H
  · rw [if_pos hy, if_pos (decide_eq_true hy)]
  · rw [if_neg hy, if_neg (by rw [decide_eq_false hy]; decide)]
theorem LRes_ch {L : List Ent} {ρ ρ1 : St} {x : Sum Nat (Nat × Ent)} {run run1 : Nat → (Option AV → St → Prop) → Prop} (hf : frZ z ρ ρ1) (h : LRes z c n L ρ1 x run1) (he : ∀ D Q, run D Q = run1 D Q) : LRes z c n L ρ x run := by
  cases x with
  | inl q =>
    obtain ⟨ρ', r1, r2, r3⟩ := h
    exact ⟨ρ', frZ_t hf r1, r2, fun D Q => (he D Q).trans (r3 D Q)⟩
  | inr y =>
    obtain ⟨ρ', r1, r2, r3⟩ := h
    exact ⟨ρ', frZ_t hf r1, r2, fun D Q => (he D Q).trans (r3 D Q)⟩
theorem LRes_f {L : List Ent} {ρ : St} {q : Nat} {run : Nat → (Option AV → St → Prop) → Prop} (he : ∀ D Q, run D Q = Q (some (vI 0)) (setI ρ 7 2 0 (nI q))) : LRes z c n L ρ (.inl q) run := ⟨_, frZ_p, by simp +decide only [II, AA, RR, QQ, IA, IR, IQ, AI, AR, AQ, RI, RA, RQ, QI, QA, QR, LI, LA, LR, LQ, NI, NA, NR, NQ, HI, HA, HR, HQ, SI, SA, SR, SQ, true_and, and_true, or_true, true_or, if_true, if_false, not_true_eq_false, not_false_eq_true, ne_eq, and_self]; exact updS0, he⟩
theorem c_lD {p l nm : Nat} {L : List Ent} {ρ : St} {l4 : Option AV} (h : CE z c n p L ρ) (hl : l < 8) (hb : (bitsL L).testBit l = false) (hnm : nm ≤ 39) : LRes z c n L ρ (lesD c n l nm p) (fun D Q => Rn (D + 19) Q (48, 70, [some (vR (some (7, 0, 0))), some (vR (some (0, 0, z))), some (vI (nI l)), some (vI (nI nm)), l4], [], ρ)) := by
  have k1 := h.1
  have k8 := h.2.2.2.2.2.2.2.1
  have sl := sk_le (c := c) k8
  have nm' := fun {d : Nat} {Q : Option AV → St → Prop} => c_nmE (d := d) (Q := Q) (H := 100) (by omega) h
  have n100 : nI 100 = 100 := rfl
  rw [n100] at nm'
  unfold lesD
  by_cases hy : nuY c n 100 (sk c n p) = true
  · rw [if_pos hy]
    obtain ⟨n1, n2, n3⟩ := nuP_go sl.2 hy
    simp only [if_pos hy] at nm'
    generalize nuV c n 100 (sk c n p) = v at *
    generalize nuP c n (sk c n p) = pp at *
    have v1 : ¬ nI v < 0 := nI_pos (by omega)
    have v2 : 0 ≤ nI v := nI_pos' (by omega)
    refine LRes_ch frZ_p (c_lE (l2 := 0) (CE_p h (q := pp) (by omega) n2) hl hb hnm n3) (fun D Q => ?_)
    simp +decide only [e48_0, e48_1, e48_4, e48_6, e48_7, e48_8, e48_9, e48_11, e48_14, e48_17, e48_18, e48_19, e48_22, e48_25, e48_26, e48_27, e48_28, e48_29, e48_32, e48_33, e48_34, e48_37, e48_38, e48_40, e48_43, e48_46, e48_47, e48_48, e48_49, e48_51, e48_54, e48_55, e48_56, e48_59, e48_60, e48_62, e48_65, e48_68, e48_69, e48_70, e48_71, e48_73, e48_76, e48_78, e48_80, e48_83, e48_84, e48_86, e48_87, e48_88, e48_90, e48_93, e48_94, e48_96, e48_99, e48_102, e48_103, e48_104, e48_105, e48_106, e48_109, e48_112, e48_113, e48_116, e48_117, true_and, and_true, or_true, true_or, if_true, if_false, not_true_eq_false, not_false_eq_true, ne_eq, and_self, Option.toList_some, Option.toList_none, List.cons_append, List.nil_append, catS_0, catS_I, catS_L, catS_R, Option.map_some, Option.map_none, Option.some.injEq, Sum.inl.injEq, exists_eq_left', exists_eq', nm', v1, v2, N7 k1]
  · rw [if_neg hy]
    simp only [if_neg hy] at nm'
    refine LRes_f (fun D Q => ?_)
    simp +decide only [e48_0, e48_1, e48_4, e48_6, e48_7, e48_8, e48_9, e48_11, e48_14, e48_17, e48_18, e48_19, e48_22, e48_25, e48_26, e48_27, e48_28, e48_29, e48_32, e48_33, e48_34, e48_37, e48_38, e48_40, e48_43, e48_46, e48_47, e48_48, e48_49, e48_51, e48_54, e48_55, e48_56, e48_59, e48_60, e48_62, e48_65, e48_68, e48_69, e48_70, e48_71, e48_73, e48_76, e48_78, e48_80, e48_83, e48_84, e48_86, e48_87, e48_88, e48_90, e48_93, e48_94, e48_96, e48_99, e48_102, e48_103, e48_104, e48_105, e48_106, e48_109, e48_112, e48_113, e48_116, e48_117, true_and, and_true, or_true, true_or, if_true, if_false, not_true_eq_false, not_false_eq_true, ne_eq, and_self, Option.toList_some, Option.toList_none, List.cons_append, List.nil_append, catS_0, catS_I, catS_L, catS_R, Option.map_some, Option.map_none, Option.some.injEq, Sum.inl.injEq, exists_eq_left', exists_eq', nm', N7 k1]
theorem c_lC {p l nm : Nat} {L : List Ent} {ρ : St} {l4 : Option AV} (h : CE z c n p L ρ) (hl : l < 8) (hb : (bitsL L).testBit l = false) (hnm : nm ≤ 39) : LRes z c n L ρ (lesC c n l nm p) (fun D Q => Rn (D + 19) Q (48, 55, [some (vR (some (7, 0, 0))), some (vR (some (0, 0, z))), some (vI (nI l)), some (vI (nI nm)), l4], [], ρ)) := by
  have k1 := h.1
  have k8 := h.2.2.2.2.2.2.2.1
  have sl := sk_le (c := c) k8
  have tk := fun {d : Nat} {Q : Option AV → St → Prop} {ch : Int32} => c_tkE (d := d) (Q := Q) (ch := ch) h
  have v1 : ¬ nI nm < 0 := nI_pos (by omega)
  unfold lesC
  by_cases hy : sgn c n p = 47
  · rw [if_pos hy]
    have hlt := sgn_n k8 hy (by decide)
    refine LRes_ch frZ_p (c_lD (l4 := l4) (CE_p h (q := sk c n p + 1) (by omega) (by omega)) hl hb hnm) (fun D Q => ?_)
    simp +decide only [e48_0, e48_1, e48_4, e48_6, e48_7, e48_8, e48_9, e48_11, e48_14, e48_17, e48_18, e48_19, e48_22, e48_25, e48_26, e48_27, e48_28, e48_29, e48_32, e48_33, e48_34, e48_37, e48_38, e48_40, e48_43, e48_46, e48_47, e48_48, e48_49, e48_51, e48_54, e48_55, e48_56, e48_59, e48_60, e48_62, e48_65, e48_68, e48_69, e48_71, e48_73, e48_76, e48_78, e48_80, e48_83, e48_84, e48_85, e48_86, e48_87, e48_88, e48_90, e48_93, e48_94, e48_96, e48_99, e48_102, e48_103, e48_104, e48_105, e48_106, e48_109, e48_112, e48_113, e48_116, e48_117, true_and, and_true, or_true, true_or, if_true, if_false, not_true_eq_false, not_false_eq_true, ne_eq, and_self, Option.toList_some, Option.toList_none, List.cons_append, List.nil_append, catS_0, catS_I, catS_L, catS_R, Option.map_some, Option.map_none, Option.some.injEq, Sum.inl.injEq, exists_eq_left', exists_eq', tk, hy, v1, N7 k1]
  · rw [if_neg hy]
    refine LRes_f (fun D Q => ?_)
    simp +decide only [e48_0, e48_1, e48_4, e48_6, e48_7, e48_8, e48_9, e48_11, e48_14, e48_17, e48_18, e48_19, e48_22, e48_25, e48_26, e48_27, e48_28, e48_29, e48_32, e48_33, e48_34, e48_37, e48_38, e48_40, e48_43, e48_46, e48_47, e48_48, e48_49, e48_51, e48_54, e48_55, e48_56, e48_59, e48_60, e48_62, e48_65, e48_68, e48_69, e48_71, e48_73, e48_76, e48_78, e48_80, e48_83, e48_84, e48_85, e48_86, e48_87, e48_88, e48_90, e48_93, e48_94, e48_96, e48_99, e48_102, e48_103, e48_104, e48_105, e48_106, e48_109, e48_112, e48_113, e48_116, e48_117, true_and, and_true, or_true, true_or, if_true, if_false, not_true_eq_false, not_false_eq_true, ne_eq, and_self, Option.toList_some, Option.toList_none, List.cons_append, List.nil_append, catS_0, catS_I, catS_L, catS_R, Option.map_some, Option.map_none, Option.some.injEq, Sum.inl.injEq, exists_eq_left', exists_eq', tk, hy, v1, N7 k1]
theorem c_lB {p l : Nat} {L : List Ent} {ρ : St} {l3 l4 : Option AV} (h : CE z c n p L ρ) (hl : l < 8) (hb : (bitsL L).testBit l = false) : LRes z c n L ρ (lesB c n l p) (fun D Q => Rn (D + 19) Q (48, 48, [some (vR (some (7, 0, 0))), some (vR (some (0, 0, z))), some (vI (nI l)), l3, l4], [], ρ)) := by
  have k1 := h.1
  have k8 := h.2.2.2.2.2.2.2.1
  have sl := sk_le (c := c) k8
  have nm' := fun {d : Nat} {Q : Option AV → St → Prop} => c_nmE (d := d) (Q := Q) (H := 39) (by omega) h
  have n39 : nI 39 = 39 := rfl
  rw [n39] at nm'
  unfold lesB
  by_cases hy : nuY c n 39 (sk c n p) = true
  · rw [if_pos hy]
    obtain ⟨n1, n2, n3⟩ := nuP_go sl.2 hy
    simp only [if_pos hy] at nm'
    generalize nuV c n 39 (sk c n p) = v at *
    generalize nuP c n (sk c n p) = pp at *
    refine LRes_ch frZ_p (c_lC (l4 := l4) (CE_p h (q := pp) (by omega) n2) hl hb n3) (fun D Q => ?_)
    simp +decide only [e48_0, e48_1, e48_4, e48_6, e48_7, e48_8, e48_9, e48_11, e48_14, e48_17, e48_18, e48_19, e48_22, e48_25, e48_26, e48_27, e48_28, e48_29, e48_32, e48_33, e48_34, e48_37, e48_38, e48_40, e48_43, e48_46, e48_47, e48_48, e48_49, e48_51, e48_54, e48_56, e48_59, e48_60, e48_62, e48_65, e48_68, e48_69, e48_70, e48_71, e48_73, e48_76, e48_78, e48_80, e48_83, e48_84, e48_85, e48_86, e48_87, e48_88, e48_90, e48_93, e48_94, e48_96, e48_99, e48_102, e48_103, e48_104, e48_105, e48_106, e48_109, e48_112, e48_113, e48_116, e48_117, true_and, and_true, or_true, true_or, if_true, if_false, not_true_eq_false, not_false_eq_true, ne_eq, and_self, Option.toList_some, Option.toList_none, List.cons_append, List.nil_append, catS_0, catS_I, catS_L, catS_R, Option.map_some, Option.map_none, Option.some.injEq, Sum.inl.injEq, exists_eq_left', exists_eq', nm', N7 k1]
  · rw [if_neg hy]
    simp only [if_neg hy] at nm'
    refine LRes_f (fun D Q => ?_)
    simp +decide only [e48_0, e48_1, e48_4, e48_6, e48_7, e48_8, e48_9, e48_11, e48_14, e48_17, e48_18, e48_19, e48_22, e48_25, e48_26, e48_27, e48_28, e48_29, e48_32, e48_33, e48_34, e48_37, e48_38, e48_40, e48_43, e48_46, e48_47, e48_48, e48_49, e48_51, e48_54, e48_55, e48_56, e48_59, e48_60, e48_62, e48_65, e48_68, e48_69, e48_70, e48_71, e48_73, e48_76, e48_78, e48_80, e48_83, e48_84, e48_85, e48_86, e48_87, e48_88, e48_90, e48_93, e48_94, e48_96, e48_99, e48_102, e48_103, e48_104, e48_105, e48_106, e48_109, e48_112, e48_113, e48_116, e48_117, true_and, and_true, or_true, true_or, if_true, if_false, not_true_eq_false, not_false_eq_true, ne_eq, and_self, Option.toList_some, Option.toList_none, List.cons_append, List.nil_append, catS_0, catS_I, catS_L, catS_R, Option.map_some, Option.map_none, Option.some.injEq, Sum.inl.injEq, exists_eq_left', exists_eq', nm', N7 k1]
theorem c_lA {p l : Nat} {L : List Ent} {ρ : St} {l3 l4 : Option AV} (h : CE z c n p L ρ) (hl : l < 8) (hb : (bitsL L).testBit l = false) : LRes z c n L ρ (lesA c n l p) (fun D Q => Rn (D + 19) Q (48, 37, [some (vR (some (7, 0, 0))), some (vR (some (0, 0, z))), some (vI (nI l)), l3, l4], [], ρ)) := by
  have k1 := h.1
  have k8 := h.2.2.2.2.2.2.2.1
  have sl := sk_le (c := c) k8
  have tk := fun {d : Nat} {Q : Option AV → St → Prop} {ch : Int32} => c_tkE (d := d) (Q := Q) (ch := ch) h
  unfold lesA
  by_cases hy : sgn c n p = 61
  · rw [if_pos hy]
    have hlt := sgn_n k8 hy (by decide)
    refine LRes_ch frZ_p (c_lB (l3 := l3) (l4 := l4) (CE_p h (q := sk c n p + 1) (by omega) (by omega)) hl hb) (fun D Q => ?_)
    simp +decide only [e48_0, e48_1, e48_4, e48_6, e48_7, e48_8, e48_9, e48_11, e48_14, e48_17, e48_18, e48_19, e48_22, e48_25, e48_26, e48_27, e48_28, e48_29, e48_32, e48_33, e48_34, e48_37, e48_38, e48_40, e48_43, e48_46, e48_47, e48_49, e48_51, e48_54, e48_55, e48_56, e48_59, e48_60, e48_62, e48_65, e48_68, e48_69, e48_70, e48_71, e48_73, e48_76, e48_78, e48_80, e48_83, e48_84, e48_85, e48_86, e48_87, e48_88, e48_90, e48_93, e48_94, e48_96, e48_99, e48_102, e48_103, e48_104, e48_105, e48_106, e48_109, e48_112, e48_113, e48_116, e48_117, true_and, and_true, or_true, true_or, if_true, if_false, not_true_eq_false, not_false_eq_true, ne_eq, and_self, Option.toList_some, Option.toList_none, List.cons_append, List.nil_append, catS_0, catS_I, catS_L, catS_R, Option.map_some, Option.map_none, Option.some.injEq, Sum.inl.injEq, exists_eq_left', exists_eq', tk, hy, N7 k1]
  · rw [if_neg hy]
    refine LRes_f (fun D Q => ?_)
    simp +decide only [e48_0, e48_1, e48_4, e48_6, e48_7, e48_8, e48_9, e48_11, e48_14, e48_17, e48_18, e48_19, e48_22, e48_25, e48_26, e48_27, e48_28, e48_29, e48_32, e48_33, e48_34, e48_37, e48_38, e48_40, e48_43, e48_46, e48_47, e48_49, e48_51, e48_54, e48_55, e48_56, e48_59, e48_60, e48_62, e48_65, e48_68, e48_69, e48_70, e48_71, e48_73, e48_76, e48_78, e48_80, e48_83, e48_84, e48_85, e48_86, e48_87, e48_88, e48_90, e48_93, e48_94, e48_96, e48_99, e48_102, e48_103, e48_104, e48_105, e48_106, e48_109, e48_112, e48_113, e48_116, e48_117, true_and, and_true, or_true, true_or, if_true, if_false, not_true_eq_false, not_false_eq_true, ne_eq, and_self, Option.toList_some, Option.toList_none, List.cons_append, List.nil_append, catS_0, catS_I, catS_L, catS_R, Option.map_some, Option.map_none, Option.some.injEq, Sum.inl.injEq, exists_eq_left', exists_eq', tk, hy, N7 k1]
theorem c_less {p : Nat} {L : List Ent} {ρ : St} (h : CE z c n p L ρ) : LRes z c n L ρ (lesP c n (bitsL L) p) (fun D Q => Rn (D + 19) Q (48, 0, [some (vR (some (7, 0, 0))), some (vR (some (0, 0, z))), none, none, none], [], ρ)) := by
  have h0 := h
  obtain ⟨k1, k2, k3, k4, k5, k6, k7, k8, k9, k10, k11, k12, k13, k14⟩ := h
  have sl := sk_le (c := c) k8
  have nx := fun {d : Nat} {Q : Option AV → St → Prop} => c_nxE (d := d) (Q := Q) h0
  obtain ⟨s1, s2, s3⟩ := sgn_sub (c := c) (p := p) k3 k6
  have hbl := bits_lt L k12
  have ctl := fun {d : Nat} {Q : Option AV → St → Prop} {a : Int32} => c_tells (d := d) (Q := Q) (σ := setI ρ 7 2 0 (nI (sk c n p))) (i := z) (b := bitsL L) (a := a) k2 hbl (by simp +decide only [II, AA, RR, QQ, IA, IR, IQ, AI, AR, AQ, RI, RA, RQ, QI, QA, QR, LI, LA, LR, LQ, NI, NA, NR, NQ, HI, HA, HR, HQ, SI, SA, SR, SQ, true_and, and_true, or_true, true_or, if_true, if_false, not_true_eq_false, not_false_eq_true, ne_eq, and_self]; exact k9)
  unfold lesP
  by_cases hl : 97 ≤ (sgn c n p).toInt ∧ (sgn c n p).toInt ≤ 104
  · have hlt := sgn_lt (c := c) k8 (by omega)
    obtain ⟨l, o1, o2, o3⟩ := nI_ex (a := sgn c n p - 97) (n := 8) ⟨by omega, by omega⟩
    have o5 : (nI l).toInt = (l : Int) := nI_toInt (by omega)
    have o4 : (sgn c n p).toInt.toNat - 97 = l := by
      rw [o2, o5] at s1
      omega
    have o6 : (0 : Int) ≤ (l : Int) := by omega
    have o7 : (l : Int) < 8 := by omega
    have o8 : (nI l).toNatClampNeg = l := nI_clamp (by omega)
    rw [o4]
    by_cases hb : (bitsL L).testBit l = false
    · rw [if_pos ⟨hl, hb⟩]
      have e := c_lA (l3 := none) (l4 := none) (CE_p h0 (q := sk c n p + 1) (by omega) (by omega)) o1 hb
      refine LRes_ch frZ_p e (fun D Q => ?_)
      simp +decide only [e48_0, e48_1, e48_4, e48_6, e48_7, e48_8, e48_9, e48_11, e48_14, e48_17, e48_18, e48_19, e48_22, e48_25, e48_26, e48_27, e48_28, e48_29, e48_32, e48_33, e48_34, e48_38, e48_40, e48_43, e48_46, e48_47, e48_48, e48_49, e48_51, e48_54, e48_55, e48_56, e48_59, e48_60, e48_62, e48_65, e48_68, e48_69, e48_70, e48_71, e48_73, e48_76, e48_78, e48_80, e48_83, e48_84, e48_85, e48_86, e48_87, e48_88, e48_90, e48_93, e48_94, e48_96, e48_99, e48_102, e48_103, e48_104, e48_105, e48_106, e48_109, e48_112, e48_113, e48_116, e48_117, true_and, and_true, or_true, true_or, if_true, if_false, not_true_eq_false, not_false_eq_true, ne_eq, and_self, Option.toList_some, Option.toList_none, List.cons_append, List.nil_append, catS_0, catS_I, catS_L, catS_R, Option.map_some, Option.map_none, c_isIn, m_in, wide_toInt, c_isDay, m_isDay, m_isCourse, c_areParts, tI_m1000, tI_m20, tI_m14, tI_m13, tI_m12, tI_m11, tI_m4, tI_m3, tI_m2, tI_m1, tI_0, tI_1, tI_2, tI_3, tI_4, tI_5, tI_6, tI_7, tI_8, tI_9, tI_10, tI_11, tI_12, tI_14, tI_15, tI_16, tI_19, tI_20, tI_21, tI_30, tI_31, tI_32, tI_40, tI_60, tI_61, tI_80, tI_90, tI_97, tI_100, tI_101, tI_119, tI_120, tI_121, tI_126, tI_128, tI_255, tI_256, tI_500, tI_512, tI_600, tI_999, tI_1000, tI_3999, tI_4000, tI_4095, tI_4096, tI_99999, tI_100000, tL_0, tL_1, tL_2, tL_3, tL_4, tL_5, tL_7, tL_8, tL_9, tL_15, tL_19, tL_20, tL_32, tL_39, tL_48, tL_57, tL_60, tL_97, tL_100, tL_104, tL_126, tL_255, tL_3999, tL_4095, tL_99999, Option.some.injEq, Sum.inl.injEq, exists_eq_left', exists_eq', II, AA, RR, QQ, IA, IR, IQ, AI, AR, AQ, RI, RA, RQ, QI, QA, QR, LI, LA, LR, LQ, NI, NA, NR, NQ, HI, HA, HR, HQ, SI, SA, SR, SQ, nx, ctl, hb, o2, o5, o6, o7, o8, updS0, setI_I, nI_1 (sk c n p), k2, N7 k1]
    · rw [if_neg (fun w => hb w.2)]
      have hb' : (bitsL L).testBit l = true := by cases hq : (bitsL L).testBit l with
        | false => exact absurd hq hb
        | true => rfl
      refine LRes_f (fun D Q => ?_)
      simp +decide only [e48_0, e48_1, e48_4, e48_6, e48_7, e48_8, e48_9, e48_11, e48_14, e48_17, e48_18, e48_19, e48_22, e48_25, e48_26, e48_27, e48_28, e48_29, e48_32, e48_33, e48_34, e48_38, e48_40, e48_43, e48_46, e48_47, e48_48, e48_49, e48_51, e48_54, e48_55, e48_56, e48_59, e48_60, e48_62, e48_65, e48_68, e48_69, e48_70, e48_71, e48_73, e48_76, e48_78, e48_80, e48_83, e48_84, e48_85, e48_86, e48_87, e48_88, e48_90, e48_93, e48_94, e48_96, e48_99, e48_102, e48_103, e48_104, e48_105, e48_106, e48_109, e48_112, e48_113, e48_116, e48_117, true_and, and_true, or_true, true_or, if_true, if_false, not_true_eq_false, not_false_eq_true, ne_eq, and_self, Option.toList_some, Option.toList_none, List.cons_append, List.nil_append, catS_0, catS_I, catS_L, catS_R, Option.map_some, Option.map_none, c_isIn, m_in, wide_toInt, c_isDay, m_isDay, m_isCourse, c_areParts, tI_m1000, tI_m20, tI_m14, tI_m13, tI_m12, tI_m11, tI_m4, tI_m3, tI_m2, tI_m1, tI_0, tI_1, tI_2, tI_3, tI_4, tI_5, tI_6, tI_7, tI_8, tI_9, tI_10, tI_11, tI_12, tI_14, tI_15, tI_16, tI_19, tI_20, tI_21, tI_30, tI_31, tI_32, tI_40, tI_60, tI_61, tI_80, tI_90, tI_97, tI_100, tI_101, tI_119, tI_120, tI_121, tI_126, tI_128, tI_255, tI_256, tI_500, tI_512, tI_600, tI_999, tI_1000, tI_3999, tI_4000, tI_4095, tI_4096, tI_99999, tI_100000, tL_0, tL_1, tL_2, tL_3, tL_4, tL_5, tL_7, tL_8, tL_9, tL_15, tL_19, tL_20, tL_32, tL_39, tL_48, tL_57, tL_60, tL_97, tL_100, tL_104, tL_126, tL_255, tL_3999, tL_4095, tL_99999, Option.some.injEq, Sum.inl.injEq, exists_eq_left', exists_eq', II, AA, RR, QQ, IA, IR, IQ, AI, AR, AQ, RI, RA, RQ, QI, QA, QR, LI, LA, LR, LQ, NI, NA, NR, NQ, HI, HA, HR, HQ, SI, SA, SR, SQ, nx, ctl, hb', o2, o5, o6, o7, o8, k2, N7 k1]
  · rw [if_neg (fun w => hl w.1)]
    have hl' : ¬ (0 ≤ (sgn c n p - 97).toInt ∧ (sgn c n p - 97).toInt < 8) := by omega
    refine LRes_f (fun D Q => ?_)
    simp +decide only [e48_0, e48_1, e48_4, e48_6, e48_7, e48_8, e48_9, e48_11, e48_14, e48_17, e48_18, e48_19, e48_22, e48_25, e48_26, e48_27, e48_28, e48_29, e48_32, e48_33, e48_34, e48_38, e48_40, e48_43, e48_46, e48_47, e48_48, e48_49, e48_51, e48_54, e48_55, e48_56, e48_59, e48_60, e48_62, e48_65, e48_68, e48_69, e48_70, e48_71, e48_73, e48_76, e48_78, e48_80, e48_83, e48_84, e48_85, e48_86, e48_87, e48_88, e48_90, e48_93, e48_94, e48_96, e48_99, e48_102, e48_103, e48_104, e48_105, e48_106, e48_109, e48_112, e48_113, e48_116, e48_117, true_and, and_true, or_true, true_or, if_true, if_false, not_true_eq_false, not_false_eq_true, ne_eq, and_self, Option.toList_some, Option.toList_none, List.cons_append, List.nil_append, catS_0, catS_I, catS_L, catS_R, Option.map_some, Option.map_none, c_isIn, m_in, wide_toInt, c_isDay, m_isDay, m_isCourse, c_areParts, tI_m1000, tI_m20, tI_m14, tI_m13, tI_m12, tI_m11, tI_m4, tI_m3, tI_m2, tI_m1, tI_0, tI_1, tI_2, tI_3, tI_4, tI_5, tI_6, tI_7, tI_8, tI_9, tI_10, tI_11, tI_12, tI_14, tI_15, tI_16, tI_19, tI_20, tI_21, tI_30, tI_31, tI_32, tI_40, tI_60, tI_61, tI_80, tI_90, tI_97, tI_100, tI_101, tI_119, tI_120, tI_121, tI_126, tI_128, tI_255, tI_256, tI_500, tI_512, tI_600, tI_999, tI_1000, tI_3999, tI_4000, tI_4095, tI_4096, tI_99999, tI_100000, tL_0, tL_1, tL_2, tL_3, tL_4, tL_5, tL_7, tL_8, tL_9, tL_15, tL_19, tL_20, tL_32, tL_39, tL_48, tL_57, tL_60, tL_97, tL_100, tL_104, tL_126, tL_255, tL_3999, tL_4095, tL_99999, Option.some.injEq, Sum.inl.injEq, exists_eq_left', exists_eq', II, AA, RR, QQ, IA, IR, IQ, AI, AR, AQ, RI, RA, RQ, QI, QA, QR, LI, LA, LR, LQ, NI, NA, NR, NQ, HI, HA, HR, HQ, SI, SA, SR, SQ, nx, hl', N7 k1]
theorem c_told {p : Nat} {L : List Ent} {ρ : St} {D : Nat} {Q : Option AV → St → Prop} (h : CE z c n p L ρ) : ∀ m i, i + m = 8 → Rn (D + 2) Q (7, 4, [some (vR (some (0, 0, z))), some (vI (nI (accF (stF L) i))), some (vI (nI i))], [], ρ) = Q (some (vI (bz (tdO L)))) ρ := by
  obtain ⟨k1, k2, k3, k4, k5, k6, k7, k8, k9, k10, k11, k12, k13, k14⟩ := h
  have hbl := bits_lt L k12
  have ctl := fun {d : Nat} {Q : Option AV → St → Prop} {a : Int32} => c_tells (d := d) (Q := Q) (σ := ρ) (i := z) (b := bitsL L) (a := a) k2 hbl k9
  intro m
  induction m with
  | zero =>
    intro i hi
    have hi : i = 8 := by omega
    subst hi
    rw [accF_orL L k12, e7_4]
    by_cases ht : nI (orL L) &&& (nI (bitsL L) ^^^ -1) = 0
    · have e : tdO L = true := by unfold tdO; rw [decide_eq_true ht]
      rw [e, bz_t]
      simp +decide only [e7_0, e7_1, e7_2, e7_3, e7_5, e7_7, e7_10, e7_11, e7_12, e7_15, e7_18, e7_19, e7_20, e7_23, e7_24, e7_25, e7_26, e7_27, e7_30, e7_33, e7_34, e7_35, e7_38, e7_39, e7_40, e7_41, e7_44, e7_45, e7_48, e7_49, true_and, and_true, or_true, true_or, if_true, if_false, not_true_eq_false, not_false_eq_true, ne_eq, and_self, Option.toList_some, Option.toList_none, List.cons_append, List.nil_append, catS_0, catS_I, catS_L, catS_R, Option.map_some, Option.map_none, Option.some.injEq, Sum.inl.injEq, exists_eq_left', exists_eq', k2, k9, ht, show (8 : Int32) ≤ nI 8 by decide]
    · have e : tdO L = false := by unfold tdO; rw [decide_eq_false ht]
      rw [e, bz_f]
      simp +decide only [e7_0, e7_1, e7_2, e7_3, e7_5, e7_7, e7_10, e7_11, e7_12, e7_15, e7_18, e7_19, e7_20, e7_23, e7_24, e7_25, e7_26, e7_27, e7_30, e7_33, e7_34, e7_35, e7_38, e7_39, e7_40, e7_41, e7_44, e7_45, e7_48, e7_49, true_and, and_true, or_true, true_or, if_true, if_false, not_true_eq_false, not_false_eq_true, ne_eq, and_self, Option.toList_some, Option.toList_none, List.cons_append, List.nil_append, catS_0, catS_I, catS_L, catS_R, Option.map_some, Option.map_none, Option.some.injEq, Sum.inl.injEq, exists_eq_left', exists_eq', k2, k9, ht, show (8 : Int32) ≤ nI 8 by decide]
  | succ m ih =>
    intro i hi
    have y1 : ¬ (8 : Int32) ≤ nI i := nI_ge (b := 8) (by omega) (by omega)
    have y2 : (nI i).toInt = (i : Int) := nI_toInt (by omega)
    have y3 : (0 : Int) ≤ (i : Int) := by omega
    have y4 : (i : Int) < ((8 : Nat) : Int) := by omega
    have y6 : (i : Int) < 8 := by omega
    have y5 : (nI i).toNatClampNeg = i := nI_clamp (by omega)
    rw [← ih (i + 1) (by omega), e7_4, ← nI_1 i]
    show _ = Rn (D + 2) Q (7, 4, [some (vR (some (0, 0, z))), some (vI (nI (accF (stF L) i ||| stF L i))), some (vI (nI i + 1))], [], ρ)
    cases hb : (bitsL L).testBit i with
    | true =>
      have g4 := EntS_st L k12 k14 hb
      rw [← nI_or]
      simp +decide only [e7_0, e7_1, e7_2, e7_3, e7_5, e7_7, e7_10, e7_11, e7_12, e7_15, e7_18, e7_19, e7_20, e7_23, e7_24, e7_25, e7_26, e7_27, e7_30, e7_33, e7_34, e7_35, e7_38, e7_39, e7_40, e7_41, e7_44, e7_45, e7_48, e7_49, true_and, and_true, or_true, true_or, if_true, if_false, not_true_eq_false, not_false_eq_true, ne_eq, and_self, Option.toList_some, Option.toList_none, List.cons_append, List.nil_append, catS_0, catS_I, catS_L, catS_R, Option.map_some, Option.map_none, Option.some.injEq, Sum.inl.injEq, exists_eq_left', exists_eq', ctl, hb, g4, k2, y1, y2, y3, y4, y5, y6, L0_4 k1 k2]
    | false =>
      rw [stF_n L hb, Nat.or_zero]
      simp +decide only [e7_0, e7_1, e7_2, e7_3, e7_5, e7_7, e7_10, e7_11, e7_12, e7_15, e7_18, e7_19, e7_20, e7_23, e7_24, e7_25, e7_26, e7_27, e7_30, e7_33, e7_34, e7_35, e7_38, e7_39, e7_40, e7_41, e7_44, e7_45, e7_48, e7_49, true_and, and_true, or_true, true_or, if_true, if_false, not_true_eq_false, not_false_eq_true, ne_eq, and_self, Option.toList_some, Option.toList_none, List.cons_append, List.nil_append, catS_0, catS_I, catS_L, catS_R, Option.map_some, Option.map_none, Option.some.injEq, Sum.inl.injEq, exists_eq_left', exists_eq', ctl, hb, k2, y1, y2, y3, y4, y5, y6]
def ERs (z : Nat) (c : Nat → Int32) (n : Nat) (ρ : St) (x : Sum Nat (List Ent)) (run : Nat → (Option AV → St → Prop) → Prop) : Prop := match x with
  | .inl q => ∃ ρ', frZ z ρ ρ' ∧ gI ρ' 7 2 0 = nI q ∧ ∀ D Q, run D Q = Q (some (vI 0)) ρ'
  | .inr L => ∃ ρ' p, frZ z ρ ρ' ∧ CE z c n p L ρ' ∧ ∀ D Q, run D Q = Q (some (vI 1)) ρ'
theorem c_edL : ∀ k p L ρ, k ≤ 7 → CE z c n p L ρ → ERs z c n ρ (edP c n (k + 1) p L) (fun D Q => Rn (D + 20) Q (47, 11, [some (vR (some (7, 0, 0))), some (vR (some (0, 0, z))), some (vI (nI (8 - k)))], [], ρ)) := by
  intro k
  induction k with
  | zero =>
    intro p L ρ hk h
    have hx := c_less h
    have k1 := h.1
    have k2 := h.2.1
    show ERs z c n ρ (match lesP c n (bitsL L) p with
      | .inl q => .inl q
      | .inr y => if sgn c n y.1 = -1 then (if tdO (y.2 :: L) = true then .inr (y.2 :: L) else .inl (sk c n y.1)) else if 0 = 0 then .inl (sk c n y.1) else if sgn c n y.1 = 59 then edP c n 0 (sk c n y.1 + 1) (y.2 :: L) else .inl (sk c n y.1)) _
    cases hy : lesP c n (bitsL L) p with
    | inl q =>
      rw [hy] at hx
      obtain ⟨ρ', r1, r2, r3⟩ := hx
      refine ⟨ρ', r1, r2, fun D Q => ?_⟩
      have r3 := fun Q => r3 D Q
      dsimp only at r3 ⊢
      rw [e47_11]
      simp +decide only [e47_0, e47_1, e47_4, e47_5, e47_6, e47_9, e47_10, e47_12, e47_14, e47_17, e47_18, e47_19, e47_22, e47_25, e47_26, e47_27, e47_28, e47_31, e47_32, e47_35, e47_36, e47_39, e47_40, e47_41, e47_43, e47_46, e47_47, e47_49, e47_52, e47_55, e47_56, e47_57, e47_60, e47_63, e47_64, true_and, and_true, or_true, true_or, if_true, if_false, not_true_eq_false, not_false_eq_true, ne_eq, and_self, Option.toList_some, Option.toList_none, List.cons_append, List.nil_append, catS_0, catS_I, catS_L, catS_R, Option.map_some, Option.map_none, Option.some.injEq, Sum.inl.injEq, exists_eq_left', exists_eq', r3, show ¬ (8 : Int32) < nI (8 - 0) by decide, N7 k1]
    | inr y =>
      rw [hy] at hx
      obtain ⟨ρ', r1, r2, r3⟩ := hx
      have k1' := r2.1
      have k2' := r2.2.1
      have k8' := r2.2.2.2.2.2.2.2.1
      have sl := sk_le (c := c) k8'
      have nx := fun {d : Nat} {Q : Option AV → St → Prop} => c_nxE (d := d) (Q := Q) r2
      have r2' := CE_p r2 sl.1 sl.2
      have td := fun {D : Nat} {Q : Option AV → St → Prop} => c_told (D := D) (Q := Q) r2' 8 0 (by omega)
      rw [show accF (stF (y.2 :: L)) 0 = 0 from rfl, nI_0] at td
      have r3 := fun D => r3 D
      dsimp only
      by_cases he : sgn c n y.1 = -1
      · rw [if_pos he]
        cases ht : tdO (y.2 :: L) with
        | true =>
          rw [ht, bz_t] at td
          rw [if_pos rfl]
          refine ⟨_, _, frZ_t r1 frZ_p, r2', fun D Q => ?_⟩
          have r3 := fun Q => r3 D Q
          dsimp only at r3 ⊢
          rw [e47_11]
          simp +decide only [e47_0, e47_1, e47_4, e47_5, e47_6, e47_9, e47_10, e47_12, e47_14, e47_17, e47_18, e47_19, e47_22, e47_25, e47_26, e47_27, e47_28, e47_31, e47_32, e47_35, e47_36, e47_39, e47_40, e47_41, e47_43, e47_46, e47_47, e47_49, e47_52, e47_55, e47_56, e47_57, e47_60, e47_63, e47_64, e7_0, e7_1, e7_2, e7_3, e7_5, e7_7, e7_10, e7_11, e7_12, e7_15, e7_18, e7_19, e7_20, e7_23, e7_24, e7_25, e7_26, e7_27, e7_30, e7_33, e7_34, e7_35, e7_38, e7_39, e7_40, e7_41, e7_44, e7_45, e7_48, e7_49, true_and, and_true, or_true, true_or, if_true, if_false, not_true_eq_false, not_false_eq_true, ne_eq, and_self, Option.toList_some, Option.toList_none, List.cons_append, List.nil_append, catS_0, catS_I, catS_L, catS_R, Option.map_some, Option.map_none, Option.some.injEq, Sum.inl.injEq, exists_eq_left', exists_eq', r3, nx, he, td, show ¬ (8 : Int32) < nI (8 - 0) by decide, NI, k2', N7 k1, N7 k1']
        | false =>
          rw [ht, bz_f] at td
          rw [if_neg (by decide)]
          refine ⟨_, frZ_t r1 frZ_p, by simp +decide only [II, AA, RR, QQ, IA, IR, IQ, AI, AR, AQ, RI, RA, RQ, QI, QA, QR, LI, LA, LR, LQ, NI, NA, NR, NQ, HI, HA, HR, HQ, SI, SA, SR, SQ, true_and, and_true, or_true, true_or, if_true, if_false, not_true_eq_false, not_false_eq_true, ne_eq, and_self]; exact updS0, fun D Q => ?_⟩
          have r3 := fun Q => r3 D Q
          dsimp only at r3 ⊢
          rw [e47_11]
          simp +decide only [e47_0, e47_1, e47_4, e47_5, e47_6, e47_9, e47_10, e47_12, e47_14, e47_17, e47_18, e47_19, e47_22, e47_25, e47_26, e47_27, e47_28, e47_31, e47_32, e47_35, e47_36, e47_39, e47_40, e47_41, e47_43, e47_46, e47_47, e47_49, e47_52, e47_55, e47_56, e47_57, e47_60, e47_63, e47_64, e7_0, e7_1, e7_2, e7_3, e7_5, e7_7, e7_10, e7_11, e7_12, e7_15, e7_18, e7_19, e7_20, e7_23, e7_24, e7_25, e7_26, e7_27, e7_30, e7_33, e7_34, e7_35, e7_38, e7_39, e7_40, e7_41, e7_44, e7_45, e7_48, e7_49, true_and, and_true, or_true, true_or, if_true, if_false, not_true_eq_false, not_false_eq_true, ne_eq, and_self, Option.toList_some, Option.toList_none, List.cons_append, List.nil_append, catS_0, catS_I, catS_L, catS_R, Option.map_some, Option.map_none, Option.some.injEq, Sum.inl.injEq, exists_eq_left', exists_eq', r3, nx, he, td, show ¬ (8 : Int32) < nI (8 - 0) by decide, NI, k2', N7 k1, N7 k1']
      · rw [if_neg he, if_pos rfl]
        refine ⟨_, frZ_t r1 frZ_p, by simp +decide only [II, AA, RR, QQ, IA, IR, IQ, AI, AR, AQ, RI, RA, RQ, QI, QA, QR, LI, LA, LR, LQ, NI, NA, NR, NQ, HI, HA, HR, HQ, SI, SA, SR, SQ, true_and, and_true, or_true, true_or, if_true, if_false, not_true_eq_false, not_false_eq_true, ne_eq, and_self]; exact updS0, fun D Q => ?_⟩
        have r3 := fun Q => r3 D Q
        dsimp only at r3 ⊢
        rw [e47_11]
        simp +decide only [e47_0, e47_1, e47_4, e47_5, e47_6, e47_9, e47_10, e47_12, e47_14, e47_17, e47_18, e47_19, e47_22, e47_25, e47_26, e47_27, e47_28, e47_31, e47_32, e47_35, e47_36, e47_39, e47_40, e47_41, e47_43, e47_46, e47_47, e47_49, e47_52, e47_55, e47_56, e47_57, e47_60, e47_63, e47_64, e7_0, e7_1, e7_2, e7_3, e7_5, e7_7, e7_10, e7_11, e7_12, e7_15, e7_18, e7_19, e7_20, e7_23, e7_24, e7_25, e7_26, e7_27, e7_30, e7_33, e7_34, e7_35, e7_38, e7_39, e7_40, e7_41, e7_44, e7_45, e7_48, e7_49, true_and, and_true, or_true, true_or, if_true, if_false, not_true_eq_false, not_false_eq_true, ne_eq, and_self, Option.toList_some, Option.toList_none, List.cons_append, List.nil_append, catS_0, catS_I, catS_L, catS_R, Option.map_some, Option.map_none, Option.some.injEq, Sum.inl.injEq, exists_eq_left', exists_eq', r3, nx, he, show ¬ (8 : Int32) < nI (8 - 0) by decide, show nI (8 - 0) = 8 by decide, NI, k2', N7 k1, N7 k1']
  | succ k ih =>
    intro p L ρ hk h
    have hx := c_less h
    have k1 := h.1
    have k2 := h.2.1
    have y1 : ¬ (8 : Int32) < nI (8 - (k + 1)) := nI_nlt (a := 8) (by omega) (by omega)
    have y2 : ¬ nI (8 - (k + 1)) = 8 := fun w => by
      have := congrArg Int32.toInt w
      rw [nI_toInt (by omega)] at this
      have h8 : (8 : Int32).toInt = 8 := by decide
      omega
    show ERs z c n ρ (match lesP c n (bitsL L) p with
      | .inl q => .inl q
      | .inr y => if sgn c n y.1 = -1 then (if tdO (y.2 :: L) = true then .inr (y.2 :: L) else .inl (sk c n y.1)) else if k + 1 = 0 then .inl (sk c n y.1) else if sgn c n y.1 = 59 then edP c n (k + 1) (sk c n y.1 + 1) (y.2 :: L) else .inl (sk c n y.1)) _
    cases hy : lesP c n (bitsL L) p with
    | inl q =>
      rw [hy] at hx
      obtain ⟨ρ', r1, r2, r3⟩ := hx
      refine ⟨ρ', r1, r2, fun D Q => ?_⟩
      have r3 := fun Q => r3 D Q
      dsimp only at r3 ⊢
      rw [e47_11]
      simp +decide only [e47_0, e47_1, e47_4, e47_5, e47_6, e47_9, e47_10, e47_12, e47_14, e47_17, e47_18, e47_19, e47_22, e47_25, e47_26, e47_27, e47_28, e47_31, e47_32, e47_35, e47_36, e47_39, e47_40, e47_41, e47_43, e47_46, e47_47, e47_49, e47_52, e47_55, e47_56, e47_57, e47_60, e47_63, e47_64, true_and, and_true, or_true, true_or, if_true, if_false, not_true_eq_false, not_false_eq_true, ne_eq, and_self, Option.toList_some, Option.toList_none, List.cons_append, List.nil_append, catS_0, catS_I, catS_L, catS_R, Option.map_some, Option.map_none, Option.some.injEq, Sum.inl.injEq, exists_eq_left', exists_eq', r3, y1, N7 k1]
    | inr y =>
      rw [hy] at hx
      obtain ⟨ρ', r1, r2, r3⟩ := hx
      have k1' := r2.1
      have k2' := r2.2.1
      have k3' := r2.2.2.1
      have k8' := r2.2.2.2.2.2.2.2.1
      have sl := sk_le (c := c) k8'
      have nx := fun {d : Nat} {Q : Option AV → St → Prop} => c_nxE (d := d) (Q := Q) r2
      have r2' := CE_p r2 sl.1 sl.2
      have td := fun {D : Nat} {Q : Option AV → St → Prop} => c_told (D := D) (Q := Q) r2' 8 0 (by omega)
      have tk := fun {d : Nat} {Q : Option AV → St → Prop} {ch : Int32} => c_tkE (d := d) (Q := Q) (ch := ch) r2'
      rw [sgn_sk k3', sk_sk k3'] at tk
      rw [show accF (stF (y.2 :: L)) 0 = 0 from rfl, nI_0] at td
      dsimp only
      by_cases he : sgn c n y.1 = -1
      · rw [if_pos he]
        cases ht : tdO (y.2 :: L) with
        | true =>
          rw [ht, bz_t] at td
          rw [if_pos rfl]
          refine ⟨_, _, frZ_t r1 frZ_p, r2', fun D Q => ?_⟩
          have r3 := fun Q => r3 D Q
          dsimp only at r3 ⊢
          rw [e47_11]
          simp +decide only [e47_0, e47_1, e47_4, e47_5, e47_6, e47_9, e47_10, e47_12, e47_14, e47_17, e47_18, e47_19, e47_22, e47_25, e47_26, e47_27, e47_28, e47_31, e47_32, e47_35, e47_36, e47_39, e47_40, e47_41, e47_43, e47_46, e47_47, e47_49, e47_52, e47_55, e47_56, e47_57, e47_60, e47_63, e47_64, e7_0, e7_1, e7_2, e7_3, e7_5, e7_7, e7_10, e7_11, e7_12, e7_15, e7_18, e7_19, e7_20, e7_23, e7_24, e7_25, e7_26, e7_27, e7_30, e7_33, e7_34, e7_35, e7_38, e7_39, e7_40, e7_41, e7_44, e7_45, e7_48, e7_49, true_and, and_true, or_true, true_or, if_true, if_false, not_true_eq_false, not_false_eq_true, ne_eq, and_self, Option.toList_some, Option.toList_none, List.cons_append, List.nil_append, catS_0, catS_I, catS_L, catS_R, Option.map_some, Option.map_none, Option.some.injEq, Sum.inl.injEq, exists_eq_left', exists_eq', r3, nx, he, td, y1, NI, k2', N7 k1, N7 k1']
        | false =>
          rw [ht, bz_f] at td
          rw [if_neg (by decide)]
          refine ⟨_, frZ_t r1 frZ_p, by simp +decide only [II, AA, RR, QQ, IA, IR, IQ, AI, AR, AQ, RI, RA, RQ, QI, QA, QR, LI, LA, LR, LQ, NI, NA, NR, NQ, HI, HA, HR, HQ, SI, SA, SR, SQ, true_and, and_true, or_true, true_or, if_true, if_false, not_true_eq_false, not_false_eq_true, ne_eq, and_self]; exact updS0, fun D Q => ?_⟩
          have r3 := fun Q => r3 D Q
          dsimp only at r3 ⊢
          rw [e47_11]
          simp +decide only [e47_0, e47_1, e47_4, e47_5, e47_6, e47_9, e47_10, e47_12, e47_14, e47_17, e47_18, e47_19, e47_22, e47_25, e47_26, e47_27, e47_28, e47_31, e47_32, e47_35, e47_36, e47_39, e47_40, e47_41, e47_43, e47_46, e47_47, e47_49, e47_52, e47_55, e47_56, e47_57, e47_60, e47_63, e47_64, e7_0, e7_1, e7_2, e7_3, e7_5, e7_7, e7_10, e7_11, e7_12, e7_15, e7_18, e7_19, e7_20, e7_23, e7_24, e7_25, e7_26, e7_27, e7_30, e7_33, e7_34, e7_35, e7_38, e7_39, e7_40, e7_41, e7_44, e7_45, e7_48, e7_49, true_and, and_true, or_true, true_or, if_true, if_false, not_true_eq_false, not_false_eq_true, ne_eq, and_self, Option.toList_some, Option.toList_none, List.cons_append, List.nil_append, catS_0, catS_I, catS_L, catS_R, Option.map_some, Option.map_none, Option.some.injEq, Sum.inl.injEq, exists_eq_left', exists_eq', r3, nx, he, td, y1, NI, k2', N7 k1, N7 k1']
      · rw [if_neg he, if_neg (by omega)]
        by_cases hs : sgn c n y.1 = 59
        · rw [if_pos hs]
          have hlt := sgn_n k8' hs (by decide)
          have hi := ih (sk c n y.1 + 1) (y.2 :: L) _ (by omega) (CE_p r2' (q := sk c n y.1 + 1) (by omega) (by omega))
          rw [setI_I] at hi
          have first : ∀ D Q, Rn (D + 20) Q (47, 11, [some (vR (some (7, 0, 0))), some (vR (some (0, 0, z))), some (vI (nI (8 - (k + 1))))], [], ρ) = Rn (D + 20) Q (47, 11, [some (vR (some (7, 0, 0))), some (vR (some (0, 0, z))), some (vI (nI (8 - k)))], [], setI ρ' 7 2 0 (nI (sk c n y.1 + 1))) := by
            intro D Q
            have r3 := fun Q => r3 D Q
            dsimp only at r3
            rw [e47_11, show 8 - k = 8 - (k + 1) + 1 by omega, ← nI_1]
            simp +decide only [e47_0, e47_1, e47_4, e47_5, e47_6, e47_9, e47_10, e47_12, e47_14, e47_17, e47_18, e47_19, e47_22, e47_25, e47_26, e47_27, e47_28, e47_31, e47_32, e47_35, e47_36, e47_39, e47_40, e47_41, e47_43, e47_46, e47_47, e47_49, e47_52, e47_55, e47_56, e47_57, e47_60, e47_63, e47_64, true_and, and_true, or_true, true_or, if_true, if_false, not_true_eq_false, not_false_eq_true, ne_eq, and_self, Option.toList_some, Option.toList_none, List.cons_append, List.nil_append, catS_0, catS_I, catS_L, catS_R, Option.map_some, Option.map_none, Option.some.injEq, Sum.inl.injEq, exists_eq_left', exists_eq', r3, nx, tk, he, hs, y1, y2, setI_I, NI, k2', N7 k1, N7 k1']
          cases hw : edP c n (k + 1) (sk c n y.1 + 1) (y.2 :: L) with
          | inl q =>
            rw [hw] at hi
            obtain ⟨ρ2, t1, t2, t3⟩ := hi
            exact ⟨ρ2, frZ_t r1 (frZ_t frZ_p t1), t2, fun D Q => (first D Q).trans (t3 D Q)⟩
          | inr y =>
            rw [hw] at hi
            obtain ⟨ρ2, p2, t1, t2, t3⟩ := hi
            exact ⟨ρ2, p2, frZ_t r1 (frZ_t frZ_p t1), t2, fun D Q => (first D Q).trans (t3 D Q)⟩
        · rw [if_neg hs]
          refine ⟨_, frZ_t r1 frZ_p, by simp +decide only [II, AA, RR, QQ, IA, IR, IQ, AI, AR, AQ, RI, RA, RQ, QI, QA, QR, LI, LA, LR, LQ, NI, NA, NR, NQ, HI, HA, HR, HQ, SI, SA, SR, SQ, true_and, and_true, or_true, true_or, if_true, if_false, not_true_eq_false, not_false_eq_true, ne_eq, and_self]; exact updS0, fun D Q => ?_⟩
          have r3 := fun Q => r3 D Q
          dsimp only at r3 ⊢
          rw [e47_11]
          simp +decide only [e47_0, e47_1, e47_4, e47_5, e47_6, e47_9, e47_10, e47_12, e47_14, e47_17, e47_18, e47_19, e47_22, e47_25, e47_26, e47_27, e47_28, e47_31, e47_32, e47_35, e47_36, e47_39, e47_40, e47_41, e47_43, e47_46, e47_47, e47_49, e47_52, e47_55, e47_56, e47_57, e47_60, e47_63, e47_64, true_and, and_true, or_true, true_or, if_true, if_false, not_true_eq_false, not_false_eq_true, ne_eq, and_self, Option.toList_some, Option.toList_none, List.cons_append, List.nil_append, catS_0, catS_I, catS_L, catS_R, Option.map_some, Option.map_none, Option.some.injEq, Sum.inl.injEq, exists_eq_left', exists_eq', r3, nx, tk, he, hs, y1, y2, setI_I, NI, k2', N7 k1, N7 k1']
end CED
