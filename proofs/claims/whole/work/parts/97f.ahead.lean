def fdN (can : Nat → Bool) (dy : Nat → Nat) : Nat → Nat
  | 0 => 0
  | u + 1 => if can u = true ∧ (fdN can dy u = 0 ∨ dy u < fdN can dy u) then dy u else fdN can dy u
theorem fdN_ok {can : Nat → Bool} {dy : Nat → Nat} : ∀ n, (∀ u, u < n → 0 < dy u) → ∀ u, u < n → can u = true → 0 < fdN can dy n ∧ fdN can dy n ≤ dy u := by
  intro n
  induction n with
  | zero => intro _ u hu; omega
  | succ n ih =>
    intro hp u hu hc
    have h0 := hp n (by omega)
    show 0 < (if can n = true ∧ (fdN can dy n = 0 ∨ dy n < fdN can dy n) then dy n else fdN can dy n) ∧ (if can n = true ∧ (fdN can dy n = 0 ∨ dy n < fdN can dy n) then dy n else fdN can dy n) ≤ dy u
    by_cases hun : u = n
    · subst hun
      by_cases hq : fdN can dy u = 0 ∨ dy u < fdN can dy u
      · rw [if_pos ⟨hc, hq⟩]; omega
      · rw [if_neg (fun z => hq z.2)]; omega
    · have := ih (fun v hv => hp v (by omega)) u (by omega) hc
      by_cases hq : can n = true ∧ (fdN can dy n = 0 ∨ dy n < fdN can dy n)
      · rw [if_pos hq]
        have := hq.2
        omega
      · rw [if_neg hq]; exact this
theorem fdN_le {can : Nat → Bool} {dy : Nat → Nat} {B : Nat} : ∀ n, (∀ u, u < n → dy u ≤ B) → fdN can dy n ≤ B := by
  intro n
  induction n with
  | zero => intro _; exact Nat.zero_le _
  | succ n ih =>
    intro hp
    show (if can n = true ∧ (fdN can dy n = 0 ∨ dy n < fdN can dy n) then dy n else fdN can dy n) ≤ B
    split
    · exact hp n (by omega)
    · exact ih (fun v hv => hp v (by omega))
def dlr (fd : Nat → Nat) (K : Nat) : Nat → Nat
  | 0 => 0
  | n + 1 => dlr fd K n + fd (K - (n + 1))
def mlr (fd : Nat → Nat) (K : Nat) : Nat → Nat
  | 0 => 0
  | n + 1 => mlr fd K n + if 0 < fd (K - (n + 1)) then 1 else 0
theorem dlr_le {fd : Nat → Nat} {K : Nat} (h : ∀ i, fd i ≤ 13) : ∀ n, dlr fd K n ≤ 13 * n ∧ mlr fd K n ≤ n := by
  intro n
  induction n with
  | zero => exact ⟨Nat.le_refl _, Nat.le_refl _⟩
  | succ n ih =>
    have := h (K - (n + 1))
    show dlr fd K n + fd (K - (n + 1)) ≤ 13 * (n + 1) ∧ mlr fd K n + (if 0 < fd (K - (n + 1)) then 1 else 0) ≤ n + 1
    refine ⟨by omega, ?_⟩
    split <;> omega
def CS0 (K U : Nat) (fit : Nat → Nat → Bool) (pace : Nat → Nat) (ρ : St) : Prop := SH ρ ∧ gI ρ 5 8 0 = nI K ∧ gI ρ 5 9 0 = nI U ∧ (∀ i, i < K → ∃ w : Nat, w < 64 ∧ gA ρ 5 1 0 i = nI w ∧ ∀ u, u < U → w.testBit u = fit i u) ∧ ∀ u, u < U → gA ρ 5 7 0 u = nI (pace u) ∧ 1 ≤ pace u ∧ pace u ≤ 9
def PL (c k : Nat) : Bool := decide (c = 5 ∧ (k = 4 ∨ k = 5))
def RN (_ _ : Nat) : Bool := false
theorem CS0_fr {K U : Nat} {fit : Nat → Nat → Bool} {pace : Nat → Nat} {ρ ρ' : St} (h : frB PL RN ρ ρ') (hC : CS0 K U fit pace ρ) : CS0 K U fit pace ρ' := by
  have hS := SH_frB h hC.1
  obtain ⟨h1, h2, h3, h4, h5, h6, h7, h8⟩ := h
  obtain ⟨c1, c2, c3, c4, c5⟩ := hC
  unfold CS0
  rw [h8 5 8 (by decide), h8 5 9 (by decide), h7 5 1 (by decide), h7 5 7 (by decide)]
  exact ⟨hS, c2, c3, c4, c5⟩
section AHEAD
variable {K U : Nat} {fit : Nat → Nat → Bool} {pace ld : Nat → Nat}
theorem c_few {ρ : St} {d : Nat} {Q : Option AV → St → Prop} {i : Nat} (hK : K ≤ 6) (hU : U ≤ 6) (hi : i < K) (hC : CS0 K U fit pace ρ) (hL : ∀ u, u < U → gA ρ 5 6 0 u = nI (ld u) ∧ ld u ≤ 12) : ∀ n u l4, u + n = U → Rn (d + 1) Q (32, 4, [some (vR (some (5, 0, 0))), some (vI (nI i)), some (vI (nI (fdN (fun u => fit i u && decide (ld u < 12)) (fun u => cutN (ld u + 1) (pace u)) u))), some (vI (nI u)), l4], [], ρ) = Q (some (vI (nI (fdN (fun u => fit i u && decide (ld u < 12)) (fun u => cutN (ld u + 1) (pace u)) U)))) ρ := by
  obtain ⟨a1, c2, c3, c4, c5⟩ := hC
  obtain ⟨w, w1, w2, w3⟩ := c4 i hi
  have hle : ∀ u, u ≤ U → fdN (fun u => fit i u && decide (ld u < 12)) (fun u => cutN (ld u + 1) (pace u)) u ≤ 13 := fun u hu => fdN_le u (fun v hv => cutN_le (by have := (hL v (by omega)).2; omega) (by have := (c5 v (by omega)).2.1; omega))
  intro n
  induction n with
  | zero =>
    intro u l4 hu
    have hu : u = U := by omega
    subst hu
    have y1 : nI u ≤ nI u := nI_le (by omega) (by omega)
    rw [e32_4]
    simp +decide only [e32_0, e32_1, e32_2, e32_3, e32_5, e32_6, e32_9, e32_12, e32_13, e32_16, e32_17, e32_18, e32_19, e32_20, e32_21, e32_24, e32_25, e32_26, e32_29, e32_31, e32_32, e32_33, e32_34, e32_37, e32_40, e32_41, e32_44, e32_46, e32_47, e32_50, e32_52, e32_53, e32_56, e32_59, e32_60, true_and, and_true, or_true, true_or, if_true, if_false, not_true_eq_false, not_false_eq_true, ne_eq, and_self, Option.toList_some, Option.toList_none, List.cons_append, List.nil_append, catS_0, catS_I, catS_L, catS_R, Option.map_some, Option.map_none, c3, y1, N5 a1]
  | succ n ih =>
    intro u l4 hu
    have w3 := w3 u (by omega)
    obtain ⟨l1, l2⟩ := hL u (by omega)
    obtain ⟨q1, q2, q3⟩ := c5 u (by omega)
    have ct := fun {d : Nat} {Q : Option AV → St → Prop} => c_canT (d := d) (Q := Q) a1 (show u < 6 by omega) (show i < 6 by omega) w2 w1 l1 (by omega)
    rw [w3] at ct
    have cu := fun {d : Nat} {Q : Option AV → St → Prop} {σ : St} => c_cut (d := d) (Q := Q) (σ := σ) (a := ld u + 1) (p := pace u) (by omega) (by omega) (by omega)
    have y1 : ¬ nI U ≤ nI u := nI_ge (by omega) (by omega)
    have y2 : (nI u).toInt = (u : Int) := nI_toInt (by omega)
    have y3 : (0 : Int) ≤ (u : Int) := by omega
    have y4 : (u : Int) < ((6 : Nat) : Int) := by omega
    have y5 : (nI u).toNatClampNeg = u := nI_clamp (by omega)
    have hfl := hle u (by omega)
    have hcl : cutN (ld u + 1) (pace u) ≤ 13 := cutN_le (by omega) (by omega)
    have hcp : 0 < cutN (ld u + 1) (pace u) := cutN_pos (by omega) (by omega)
    have ih := ih (u + 1) (some (vI (nI (cutN (ld u + 1) (pace u))))) (by omega)
    have hs : fdN (fun u => fit i u && decide (ld u < 12)) (fun u => cutN (ld u + 1) (pace u)) (u + 1) = if (fit i u && decide (ld u < 12)) = true ∧ (fdN (fun u => fit i u && decide (ld u < 12)) (fun u => cutN (ld u + 1) (pace u)) u = 0 ∨ cutN (ld u + 1) (pace u) < fdN (fun u => fit i u && decide (ld u < 12)) (fun u => cutN (ld u + 1) (pace u)) u) then cutN (ld u + 1) (pace u) else fdN (fun u => fit i u && decide (ld u < 12)) (fun u => cutN (ld u + 1) (pace u)) u := rfl
    rw [hs] at ih
    generalize fdN (fun u => fit i u && decide (ld u < 12)) (fun u => cutN (ld u + 1) (pace u)) u = z at *
    generalize cutN (ld u + 1) (pace u) = c at *
    by_cases hc : (fit i u && decide (ld u < 12)) = true
    · by_cases hz : z = 0
      · rw [if_pos ⟨hc, Or.inl hz⟩] at ih
        have z1 : nI z = 0 := by rw [hz, nI_0]
        rw [← ih, ← nI_1 u, e32_4]
        simp +decide only [e32_0, e32_1, e32_2, e32_3, e32_5, e32_6, e32_9, e32_12, e32_13, e32_16, e32_17, e32_18, e32_19, e32_20, e32_21, e32_24, e32_25, e32_26, e32_29, e32_31, e32_32, e32_33, e32_34, e32_37, e32_40, e32_41, e32_44, e32_46, e32_47, e32_50, e32_52, e32_53, e32_56, e32_59, e32_60, true_and, and_true, or_true, true_or, if_true, if_false, not_true_eq_false, not_false_eq_true, ne_eq, and_self, Option.toList_some, Option.toList_none, List.cons_append, List.nil_append, catS_0, catS_I, catS_L, catS_R, Option.map_some, Option.map_none, Option.some.injEq, Sum.inl.injEq, exists_eq_left', exists_eq', c3, y1, y2, y3, y4, y5, ct, hc, l1, q1, cu, nI_1 (ld u), z1, N5 a1, L5_6 a1, L5_7 a1]
      · have z1 : ¬ nI z = 0 := nI_ne0 (by omega) (by omega)
        by_cases hz2 : c < z
        · have z2 : ¬ nI z ≤ nI c := nI_ge (by omega) (by omega)
          rw [if_pos ⟨hc, Or.inr hz2⟩] at ih
          rw [← ih, ← nI_1 u, e32_4]
          simp +decide only [e32_0, e32_1, e32_2, e32_3, e32_5, e32_6, e32_9, e32_12, e32_13, e32_16, e32_17, e32_18, e32_19, e32_20, e32_21, e32_24, e32_25, e32_26, e32_29, e32_31, e32_32, e32_33, e32_34, e32_37, e32_40, e32_41, e32_44, e32_46, e32_47, e32_50, e32_52, e32_53, e32_56, e32_59, e32_60, true_and, and_true, or_true, true_or, if_true, if_false, not_true_eq_false, not_false_eq_true, ne_eq, and_self, Option.toList_some, Option.toList_none, List.cons_append, List.nil_append, catS_0, catS_I, catS_L, catS_R, Option.map_some, Option.map_none, Option.some.injEq, Sum.inl.injEq, exists_eq_left', exists_eq', c3, y1, y2, y3, y4, y5, ct, hc, l1, q1, cu, nI_1 (ld u), z1, z2, N5 a1, L5_6 a1, L5_7 a1]
        · have z2 : nI z ≤ nI c := nI_le (by omega) (by omega)
          rw [if_neg (by omega)] at ih
          rw [← ih, ← nI_1 u, e32_4]
          simp +decide only [e32_0, e32_1, e32_2, e32_3, e32_5, e32_6, e32_9, e32_12, e32_13, e32_16, e32_17, e32_18, e32_19, e32_20, e32_21, e32_24, e32_25, e32_26, e32_29, e32_31, e32_32, e32_33, e32_34, e32_37, e32_40, e32_41, e32_44, e32_46, e32_47, e32_50, e32_52, e32_53, e32_56, e32_59, e32_60, true_and, and_true, or_true, true_or, if_true, if_false, not_true_eq_false, not_false_eq_true, ne_eq, and_self, Option.toList_some, Option.toList_none, List.cons_append, List.nil_append, catS_0, catS_I, catS_L, catS_R, Option.map_some, Option.map_none, Option.some.injEq, Sum.inl.injEq, exists_eq_left', exists_eq', c3, y1, y2, y3, y4, y5, ct, hc, l1, q1, cu, nI_1 (ld u), z1, z2, N5 a1, L5_6 a1, L5_7 a1]
    · rw [if_neg (fun z => hc z.1)] at ih
      rw [← ih, ← nI_1 u, e32_4]
      simp +decide only [e32_0, e32_1, e32_2, e32_3, e32_5, e32_6, e32_9, e32_12, e32_13, e32_16, e32_17, e32_18, e32_19, e32_20, e32_21, e32_24, e32_25, e32_26, e32_29, e32_31, e32_32, e32_33, e32_34, e32_37, e32_40, e32_41, e32_44, e32_46, e32_47, e32_50, e32_52, e32_53, e32_56, e32_59, e32_60, true_and, and_true, or_true, true_or, if_true, if_false, not_true_eq_false, not_false_eq_true, ne_eq, and_self, Option.toList_some, Option.toList_none, List.cons_append, List.nil_append, catS_0, catS_I, catS_L, catS_R, Option.map_some, Option.map_none, Option.some.injEq, Sum.inl.injEq, exists_eq_left', exists_eq', c3, y1, y2, y3, y4, y5, ct, hc, l1, q1, cu, nI_1 (ld u), N5 a1, L5_6 a1, L5_7 a1]
theorem c_ahead (hK : K ≤ 6) (hU : U ≤ 6) : ∀ (m : Nat) (ρ : St) (v : Int32) (l2 : Option AV), m ≤ K → v.toInt = (m : Int) - 1 → CS0 K U fit pace ρ → (∀ u, u < U → gA ρ 5 6 0 u = nI (ld u) ∧ ld u ≤ 12) → (∀ j, m ≤ j → j ≤ K → gA ρ 5 4 0 j = nI (mlr (fun i => fdN (fun u => fit i u && decide (ld u < 12)) (fun u => cutN (ld u + 1) (pace u)) U) K (K - j)) ∧ gA ρ 5 5 0 j = nI (dlr (fun i => fdN (fun u => fit i u && decide (ld u < 12)) (fun u => cutN (ld u + 1) (pace u)) U) K (K - j))) → ∃ ρ', frB PL RN ρ ρ' ∧ (∀ j, j ≤ K → gA ρ' 5 4 0 j = nI (mlr (fun i => fdN (fun u => fit i u && decide (ld u < 12)) (fun u => cutN (ld u + 1) (pace u)) U) K (K - j)) ∧ gA ρ' 5 5 0 j = nI (dlr (fun i => fdN (fun u => fit i u && decide (ld u < 12)) (fun u => cutN (ld u + 1) (pace u)) U) K (K - j))) ∧ ∀ D Q, Rn (D + 2) Q (31, 27, [some (vR (some (5, 0, 0))), some (vI v), l2], [], ρ) = Q none ρ' := by
  intro m
  induction m with
  | zero =>
    intro ρ v l2 hm hv hC hL hR
    refine ⟨ρ, frB_0, fun j hj => hR j (by omega) hj, fun D Q => ?_⟩
    have v1 : v < 0 := by rw [ltI, hv]; decide
    rw [e31_27]
    simp +decide only [e31_0, e31_1, e31_4, e31_5, e31_8, e31_9, e31_10, e31_11, e31_14, e31_15, e31_18, e31_19, e31_20, e31_21, e31_24, e31_25, e31_26, e31_28, e31_31, e31_32, e31_33, e31_36, e31_37, e31_38, e31_41, e31_42, e31_43, e31_46, e31_47, e31_48, e31_49, e31_50, e31_51, e31_54, e31_55, e31_58, e31_59, e31_60, e31_61, e31_62, e31_65, e31_66, e31_67, e31_70, e31_71, e31_72, e31_73, e31_74, e31_75, e31_76, e31_77, e31_80, e31_83, true_and, and_true, or_true, true_or, if_true, if_false, not_true_eq_false, not_false_eq_true, ne_eq, and_self, v1]
  | succ m ih =>
    intro ρ v l2 hm hv hC hL hR
    have hC0 := hC
    obtain ⟨a1, c2, c3, c4, c5⟩ := hC
    have hv : v = nI m := Int32.toInt_inj.mp (by rw [hv, nI_toInt (by omega)]; omega)
    subst hv
    have hfw := fun {d : Nat} {Q : Option AV → St → Prop} {l4 : Option AV} => c_few (d := d) (Q := Q) (i := m) hK hU (by omega) hC0 hL U 0 l4 (by omega)
    obtain ⟨r1, r2⟩ := hR (m + 1) (by omega) (by omega)
    have t1 : mlr (fun i => fdN (fun u => fit i u && decide (ld u < 12)) (fun u => cutN (ld u + 1) (pace u)) U) K (K - m) = mlr (fun i => fdN (fun u => fit i u && decide (ld u < 12)) (fun u => cutN (ld u + 1) (pace u)) U) K (K - (m + 1)) + if 0 < fdN (fun u => fit m u && decide (ld u < 12)) (fun u => cutN (ld u + 1) (pace u)) U then 1 else 0 := by
      rw [show K - m = (K - (m + 1)) + 1 by omega]
      show _ + (if 0 < fdN (fun u => fit (K - (K - (m + 1) + 1)) u && decide (ld u < 12)) (fun u => cutN (ld u + 1) (pace u)) U then 1 else 0) = _
      rw [show K - (K - (m + 1) + 1) = m by omega]
    have t2 : dlr (fun i => fdN (fun u => fit i u && decide (ld u < 12)) (fun u => cutN (ld u + 1) (pace u)) U) K (K - m) = dlr (fun i => fdN (fun u => fit i u && decide (ld u < 12)) (fun u => cutN (ld u + 1) (pace u)) U) K (K - (m + 1)) + fdN (fun u => fit m u && decide (ld u < 12)) (fun u => cutN (ld u + 1) (pace u)) U := by
      rw [show K - m = (K - (m + 1)) + 1 by omega]
      show _ + (fdN (fun u => fit (K - (K - (m + 1) + 1)) u && decide (ld u < 12)) (fun u => cutN (ld u + 1) (pace u)) U) = _
      rw [show K - (K - (m + 1) + 1) = m by omega]
    have hle : fdN (fun u => fit m u && decide (ld u < 12)) (fun u => cutN (ld u + 1) (pace u)) U ≤ 13 := fdN_le U (fun v hv => cutN_le (by have := (hL v (by omega)).2; omega) (by have := (c5 v (by omega)).2.1; omega))
    generalize hF : (fun i => fdN (fun u => fit i u && decide (ld u < 12)) (fun u => cutN (ld u + 1) (pace u)) U) = F at *
    have h0 : fdN (fun u => fit m u && decide (ld u < 12)) (fun u => cutN (ld u + 1) (pace u)) 0 = 0 := rfl
    generalize fdN (fun u => fit m u && decide (ld u < 12)) (fun u => cutN (ld u + 1) (pace u)) U = z at *
    rw [h0, nI_0] at hfw
    have y2 : (nI m).toInt = (m : Int) := nI_toInt (by omega)
    have y3 : (0 : Int) ≤ (m : Int) := by omega
    have y4 : (m : Int) < ((7 : Nat) : Int) := by omega
    have y5 : (nI m).toNatClampNeg = m := nI_clamp (by omega)
    have y6 : ¬ nI m < 0 := nI_pos (by omega)
    have z2 : (nI (m + 1)).toInt = ((m + 1 : Nat) : Int) := nI_toInt (by omega)
    have z3 : (0 : Int) ≤ ((m + 1 : Nat) : Int) := by omega
    have z4 : ((m + 1 : Nat) : Int) < ((7 : Nat) : Int) := by omega
    have z5 : (nI (m + 1)).toNatClampNeg = m + 1 := nI_clamp (by omega)
    have n1 : upd (gA ρ 5 4 0) m (nI (mlr F K (K - m))) (m + 1) = gA ρ 5 4 0 (m + 1) := pk_un (by omega)
    obtain ⟨ρ', p1, p2, p3⟩ := ih (setA (setA ρ 5 4 0 (upd (gA ρ 5 4 0) m (nI (mlr F K (K - m))))) 5 5 0 (upd (gA ρ 5 5 0) m (nI (dlr F K (K - m))))) (nI m + -1) (some (vI (nI z))) (by omega) (by
        cases m with
        | zero => rw [nI_0]; decide
        | succ m => rw [pk_m1, nI_toInt (by omega)]; omega) (CS0_fr (frB_t (frB_A (by decide)) (frB_A (by decide))) hC0) (by simp +decide only [II, AA, RR, QQ, IA, IR, IQ, AI, AR, AQ, RI, RA, RQ, QI, QA, QR, LI, LA, LR, LQ, NI, NA, NR, NQ, HI, HA, HR, HQ, SI, SA, SR, SQ, true_and, and_true, or_true, true_or, if_true, if_false, not_true_eq_false, not_false_eq_true, ne_eq, and_self]; exact hL) (by
        simp +decide only [II, AA, RR, QQ, IA, IR, IQ, AI, AR, AQ, RI, RA, RQ, QI, QA, QR, LI, LA, LR, LQ, NI, NA, NR, NQ, HI, HA, HR, HQ, SI, SA, SR, SQ, true_and, and_true, or_true, true_or, if_true, if_false, not_true_eq_false, not_false_eq_true, ne_eq, and_self]
        intro j hj hjK
        by_cases hjm : j = m
        · subst hjm; rw [updS0, updS0]; exact ⟨rfl, rfl⟩
        · rw [pk_un hjm, pk_un hjm]; exact hR j (by omega) hjK)
    refine ⟨ρ', frB_t (frB_t (frB_A (by decide)) (frB_A (by decide))) p1, p2, fun D Q => ?_⟩
    rw [← p3 D Q, e31_27]
    by_cases hz : 0 < z
    · have q1 : ¬ nI z ≤ 0 := nI_nle hz (by omega)
      rw [if_pos hz] at t1
      rw [t1, t2]
      simp +decide only [e31_0, e31_1, e31_4, e31_5, e31_8, e31_9, e31_10, e31_11, e31_14, e31_15, e31_18, e31_19, e31_20, e31_21, e31_24, e31_25, e31_26, e31_28, e31_31, e31_32, e31_33, e31_36, e31_37, e31_38, e31_41, e31_42, e31_43, e31_46, e31_47, e31_48, e31_49, e31_50, e31_51, e31_54, e31_55, e31_58, e31_59, e31_60, e31_61, e31_62, e31_65, e31_66, e31_67, e31_70, e31_71, e31_72, e31_73, e31_74, e31_75, e31_76, e31_77, e31_80, e31_83, e32_0, e32_1, e32_2, e32_3, e32_5, e32_6, e32_9, e32_12, e32_13, e32_16, e32_17, e32_18, e32_19, e32_20, e32_21, e32_24, e32_25, e32_26, e32_29, e32_31, e32_32, e32_33, e32_34, e32_37, e32_40, e32_41, e32_44, e32_46, e32_47, e32_50, e32_52, e32_53, e32_56, e32_59, e32_60, true_and, and_true, or_true, true_or, if_true, if_false, not_true_eq_false, not_false_eq_true, ne_eq, and_self, Option.toList_some, Option.toList_none, List.cons_append, List.nil_append, catS_0, catS_I, catS_L, catS_R, Option.map_some, Option.map_none, Option.some.injEq, Sum.inl.injEq, exists_eq_left', exists_eq', II, AA, RR, QQ, IA, IR, IQ, AI, AR, AQ, RI, RA, RQ, QI, QA, QR, LI, LA, LR, LQ, NI, NA, NR, NQ, HI, HA, HR, HQ, SI, SA, SR, SQ, hfw, nI_0, y2, y3, y4, y5, y6, z2, z3, z4, z5, r1, r2, q1, nI_1, nI_add, N5 a1, L5_4 a1, L5_5 a1]
    · have q0 : z = 0 := by omega
      have q1 : nI z ≤ 0 := by rw [q0]; decide
      rw [if_neg hz, Nat.add_zero (mlr F K (K - (m + 1)))] at t1
      rw [t1, t2]
      have q2 : ∀ x : Int32, x + 0 = x := fun x => Int32.add_zero x
      simp +decide only [e31_0, e31_1, e31_4, e31_5, e31_8, e31_9, e31_10, e31_11, e31_14, e31_15, e31_18, e31_19, e31_20, e31_21, e31_24, e31_25, e31_26, e31_28, e31_31, e31_32, e31_33, e31_36, e31_37, e31_38, e31_41, e31_42, e31_43, e31_46, e31_47, e31_48, e31_49, e31_50, e31_51, e31_54, e31_55, e31_58, e31_59, e31_60, e31_61, e31_62, e31_65, e31_66, e31_67, e31_70, e31_71, e31_72, e31_73, e31_74, e31_75, e31_76, e31_77, e31_80, e31_83, e32_0, e32_1, e32_2, e32_3, e32_5, e32_6, e32_9, e32_12, e32_13, e32_16, e32_17, e32_18, e32_19, e32_20, e32_21, e32_24, e32_25, e32_26, e32_29, e32_31, e32_32, e32_33, e32_34, e32_37, e32_40, e32_41, e32_44, e32_46, e32_47, e32_50, e32_52, e32_53, e32_56, e32_59, e32_60, true_and, and_true, or_true, true_or, if_true, if_false, not_true_eq_false, not_false_eq_true, ne_eq, and_self, Option.toList_some, Option.toList_none, List.cons_append, List.nil_append, catS_0, catS_I, catS_L, catS_R, Option.map_some, Option.map_none, Option.some.injEq, Sum.inl.injEq, exists_eq_left', exists_eq', II, AA, RR, QQ, IA, IR, IQ, AI, AR, AQ, RI, RA, RQ, QI, QA, QR, LI, LA, LR, LQ, NI, NA, NR, NQ, HI, HA, HR, HQ, SI, SA, SR, SQ, hfw, nI_0, y2, y3, y4, y5, y6, z2, z3, z4, z5, r1, r2, q1, q2, nI_1, nI_add, N5 a1, L5_4 a1, L5_5 a1]
end AHEAD
