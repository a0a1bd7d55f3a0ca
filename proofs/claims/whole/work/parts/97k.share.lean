def P5 (c _ : Nat) : Bool := decide (c = 5)
theorem P5_w {P : Nat → Nat → Bool} (h : ∀ c k, P c k = true → c = 5) : ∀ c k, P5 c k = false → P c k = false := by
  intro c k hc
  cases hp : P c k with
  | false => rfl
  | true =>
    have := h c k hp
    unfold P5 at hc
    rw [decide_eq_false_iff_not] at hc
    exact absurd this hc
theorem c_shareBy {U T : Nat} {o : Nat → Bool} {s : Nat → Nat → Bool} {b : Int32} {pace l0 : Nat → Nat} {σ : St} (hU : U ≤ 6) (hT : T ≤ 80) (hW : GW U T o s b σ) (hl : ∀ u, u < U → gI σ 9 3 u = nI (l0 u) ∧ l0 u ≤ 12 ∧ gI σ 9 1 u = nI (pace u) ∧ 1 ≤ pace u ∧ pace u ≤ 9) : ∃ ρ', frB P5 P5 σ ρ' ∧ gI ρ' 5 8 0 = nI (gcn o T) ∧ (∀ i, i < gcn o T → gA ρ' 5 0 0 i = nI (gls o T i)) ∧ CD (gcn o T) U 0 l0 (fun _ => 0) (BB (gcn o T) U (fun i u => s (gls o T i) u) pace l0) ρ' ∧ ∀ D Q, Rn (D + 12) Q (124, 0, [some (vR (some (11, 0, 0))), some (vI b), none], [], σ) = Q none ρ' := by
  have w1 : ∀ c k, P5 c k = false → PGa c k = false := P5_w (fun c k h => by unfold PGa at h; rw [decide_eq_true_iff] at h; exact h.1)
  have w2 : ∀ c k, P5 c k = false → RGa c k = false := P5_w (fun c k h => by unfold RGa at h; rw [decide_eq_true_iff] at h; exact h.1)
  have w3 : ∀ c k, P5 c k = false → PV c k = false := P5_w (fun c k h => by unfold PV at h; rw [decide_eq_true_iff] at h; exact h.1)
  have w4 : ∀ c k, P5 c k = false → RS c k = false := P5_w (fun c k h => by unfold RS at h; rw [decide_eq_true_iff] at h; exact h.1)
  have hK := gcn_le (o := o) T
  have f0 : frB PGa RGa σ (setI (setI σ 5 8 0 0) 5 9 0 0) := frB_t (frB_I (by decide)) (frB_I (by decide))
  have a1 := hW.1
  obtain ⟨ρ1, p1, p2, p3, p4, p5⟩ := c_gT hU U 0 (setI (setI σ 5 8 0 0) 5 9 0 0) (by omega) (GW_fr f0 hW) (by simp +decide only [II, AA, RR, QQ, IA, IR, IQ, AI, AR, AQ, RI, RA, RQ, QI, QA, QR, LI, LA, LR, LQ, NI, NA, NR, NQ, HI, HA, HR, HQ, SI, SA, SR, SQ, true_and, and_true, or_true, true_or, if_true, if_false, not_true_eq_false, not_false_eq_true, ne_eq, and_self]; exact updS0) (fun v hv => by omega)
  have hW1 := GW_fr p1 (GW_fr f0 hW)
  obtain ⟨ρ2, r1, r2, r3, r4, r5, r6, r7⟩ := c_gH hU hT T 0 ρ1 (by omega) hW1 (by rw [p2]; simp +decide only [II, AA, RR, QQ, IA, IR, IQ, AI, AR, AQ, RI, RA, RQ, QI, QA, QR, LI, LA, LR, LQ, NI, NA, NR, NQ, HI, HA, HR, HQ, SI, SA, SR, SQ, true_and, and_true, or_true, true_or, if_true, if_false, not_true_eq_false, not_false_eq_true, ne_eq, and_self]; exact updS0) (fun i hi => absurd hi (by show ¬ i < 0; omega))
  have hW2 := GW_fr r1 hW1
  have e3 : ∀ u, gI ρ1 9 3 u = gI σ 9 3 u := fun u => by rw [p1.2.2.2.2.2.2.2 9 3 (by decide)]; simp +decide only [II, AA, RR, QQ, IA, IR, IQ, AI, AR, AQ, RI, RA, RQ, QI, QA, QR, LI, LA, LR, LQ, NI, NA, NR, NQ, HI, HA, HR, HQ, SI, SA, SR, SQ, true_and, and_true, or_true, true_or, if_true, if_false, not_true_eq_false, not_false_eq_true, ne_eq, and_self]
  have e1 : ∀ u, gI ρ1 9 1 u = gI σ 9 1 u := fun u => by rw [p1.2.2.2.2.2.2.2 9 1 (by decide)]; simp +decide only [II, AA, RR, QQ, IA, IR, IQ, AI, AR, AQ, RI, RA, RQ, QI, QA, QR, LI, LA, LR, LQ, NI, NA, NR, NQ, HI, HA, HR, HQ, SI, SA, SR, SQ, true_and, and_true, or_true, true_or, if_true, if_false, not_true_eq_false, not_false_eq_true, ne_eq, and_self]
  have hld : ∀ u, u < U → gA ρ2 5 6 0 u = nI (l0 u) ∧ l0 u ≤ 12 := by
    intro u hu
    rw [r3, (p4 u hu).1, e3]
    exact ⟨(hl u hu).1, (hl u hu).2.1⟩
  obtain ⟨ρ3, s1, s2, s3⟩ := c_solve (fit := fun i u => s (gls o T i) u) (pace := pace) (ld := l0) (ρ := ρ2) hK hU ⟨hW2.1, r5, by rw [r2]; exact p3, fun i hi => ⟨accB (s (gls o T i)) U, Nat.lt_of_lt_of_le (accB_lt U) (Nat.pow_le_pow_right (by decide) hU), (r6 i hi).2, fun u hu => by rw [accB_tb, decide_eq_true hu, Bool.true_and]⟩, fun u hu => by rw [r4, (p4 u hu).2, e1]; exact (hl u hu).2.2⟩ hld
  have b1 := hW1.1
  have b2 := hW2.1
  refine ⟨ρ3, frB_t (frB_w f0 w1 w2) (frB_t (frB_w p1 w1 w2) (frB_t (frB_w r1 w1 w2) (frB_w s1 w3 w4))), ?_, ?_, s2, fun D Q => ?_⟩
  · rw [s1.2.2.2.2.2.2.2 5 8 (by decide)]; exact r5
  · rw [s1.2.2.2.2.2.2.1 5 0 (by decide)]; exact fun i hi => (r6 i hi).1
  · have p5 := p5 (D + 11)
    have r7 := r7 (D + 10)
    have s3 := s3 (D + 1)
    rw [nI_0] at p5 r7
    simp +decide only [e124_0, e124_1, e124_4, e124_7, e124_8, e124_10, e124_11, e124_14, e124_17, e124_18, e124_21, e124_22, e124_25, e124_26, e124_27, e124_30, e124_33, e124_36, e124_37, e124_39, e124_40, e124_43, e124_46, e124_47, e124_50, e124_51, e124_52, e124_53, e124_56, e124_59, e124_60, e124_63, e124_64, e124_65, e124_66, e124_69, e124_70, e124_71, e124_74, e124_77, e124_80, e124_83, e124_84, e124_87, e124_90, e27_0, e27_1, e27_2, e27_5, e27_6, e27_7, e27_10, true_and, and_true, or_true, true_or, if_true, if_false, not_true_eq_false, not_false_eq_true, ne_eq, and_self, Option.toList_some, Option.toList_none, List.cons_append, List.nil_append, catS_0, catS_I, catS_L, catS_R, Option.map_some, Option.map_none, Option.some.injEq, Sum.inl.injEq, exists_eq_left', exists_eq', NI, p5, R11_17 a1, N11 a1, N5 a1]
    simp +decide only [e124_0, e124_1, e124_4, e124_7, e124_8, e124_10, e124_11, e124_14, e124_17, e124_18, e124_21, e124_22, e124_25, e124_26, e124_27, e124_30, e124_33, e124_36, e124_37, e124_39, e124_40, e124_43, e124_46, e124_47, e124_50, e124_51, e124_52, e124_53, e124_56, e124_59, e124_60, e124_63, e124_64, e124_65, e124_66, e124_69, e124_70, e124_71, e124_74, e124_77, e124_80, e124_83, e124_84, e124_87, e124_90, true_and, and_true, or_true, true_or, if_true, if_false, not_true_eq_false, not_false_eq_true, ne_eq, and_self, Option.toList_some, Option.toList_none, List.cons_append, List.nil_append, catS_0, catS_I, catS_L, catS_R, Option.map_some, Option.map_none, Option.some.injEq, Sum.inl.injEq, exists_eq_left', exists_eq', r7, s3, R11_17 b2, N11 b2, N5 b2]
theorem gls_inj {o : Nat → Bool} : ∀ t i j, i < gcn o t → j < gcn o t → gls o t i = gls o t j → i = j := by
  intro t
  induction t with
  | zero => intro i j hi; exact absurd hi (by show ¬ i < 0; omega)
  | succ t ih =>
    intro i j hi hj he
    by_cases h : o t = true ∧ gcn o t < 6
    · rw [(gcn_y h.1 h.2).1] at hi hj
      rw [(gcn_y h.1 h.2).2] at he
      by_cases hit : i = gcn o t
      · by_cases hjt : j = gcn o t
        · omega
        · rw [hit, vaS, va_up_ne _ _ hjt] at he
          have := gls_lt (o := o) t j (by omega)
          omega
      · rw [va_up_ne _ _ hit] at he
        by_cases hjt : j = gcn o t
        · rw [hjt, vaS] at he
          have := gls_lt (o := o) t i (by omega)
          omega
        · rw [va_up_ne _ _ hjt] at he
          exact ih i j (by omega) (by omega) he
    · rw [(gcn_n h).1] at hi hj
      rw [(gcn_n h).2] at he
      exact ih i j hi hj he
theorem share_both {h0 n : Nat} {σ : St} {b : Int32} (h : Inv h0 n σ) : ∃ (K U : Nat) (L : Nat → Nat) (B : Int × Nat × (Nat → Nat)) (ρ1 ρ2 : St), (K ≤ 6 ∧ U ≤ 6 ∧ 0 ≤ B.1 ∧ SH ρ1 ∧ gI ρ1 5 8 0 = nI K ∧ (∀ i, i < K → gA ρ1 5 0 0 i = nI (L i) ∧ L i < 80 ∧ ∀ j, j < K → L i = L j → i = j) ∧ (gI ρ1 5 10 0).toInt = B.1 ∧ gI ρ1 5 11 0 = nI B.2.1 ∧ (∀ j, j < K → gA ρ1 5 3 0 j = eU U (B.2.2 j)) ∧ ∀ D Q, Rn (D + 12) Q (124, 0, [some (vR (some (11, 0, 0))), some (vI b), none], [], σ) = Q none ρ1) ∧ (∀ D Q, Rn (D + 3) Q (193, 0, [some (vR (some (12, 0, 0))), some (vI b), none, none], [], ρ1) = Q none ρ2) ∧ SH ρ2 ∧ gI ρ2 12 59 0 = nI K ∧ (∀ i, i < K → gA ρ2 12 60 0 i = nI (L i)) ∧ gI ρ2 12 64 0 = gI ρ1 5 10 0 ∧ gI ρ2 12 65 0 = nI B.2.1 ∧ (∀ j, j < K → gA ρ2 12 62 0 j = nI (B.2.2 j) ∧ B.2.2 j ≤ U) ∧ gI ρ2 12 54 0 = nI U ∧ Inv h0 n ρ1 ∧ Inv h0 n ρ2 ∧ gN ρ1 = gN σ := by
  have hI := h
  obtain ⟨a1, a2, a3, a4, a5, a6, a7, a8, a9, a10, a11, a12, a13⟩ := h
  obtain ⟨u1, u2, u3, u4, u5⟩ := a6
  obtain ⟨t1, t2, t3, t4, t5⟩ := a9
  have hl : ∀ u, u < gN σ 9 → gI σ 9 3 u = nI (cntT (gA σ 12 39 0) (gA σ 12 46 0) u (gN σ 8)) ∧ cntT (gA σ 12 39 0) (gA σ 12 46 0) u (gN σ 8) ≤ 12 ∧ gI σ 9 1 u = nI (gA σ 12 56 0 u).toInt.toNat ∧ 1 ≤ (gA σ 12 56 0 u).toInt.toNat ∧ (gA σ 12 56 0 u).toInt.toNat ≤ 9 := by
    intro u hu
    obtain ⟨v1, v2, v3, v4, v5, v6, v7, v8⟩ := u4 u hu
    obtain ⟨l1, l2⟩ := a7.1 u hu
    refine ⟨by rw [v8, l1], l2, by rw [v4, nI_nat (by omega)], by omega, by omega⟩
  have hW : GW (gN σ 9) (gN σ 8) (fun t => decide (gA σ 12 39 0 t = 1 ∧ gA σ 12 46 0 t = -4 ∧ (gA σ 12 45 0 t).toInt ≤ b.toInt)) (fun t u => decide ((gA σ 12 55 0 u >>> ((gA σ 12 41 0 t / 10) &&& 31)) &&& 1 = 1 ∧ (gA σ 12 57 0 u >>> (gA σ 12 40 0 t &&& 31)) &&& 1 = 0)) b σ := by
    refine ⟨a1, u2, rfl, fun u hu => (u4 u hu).1, t2, rfl, fun t ht => (t4 t ht).1, fun t ht => ?_, fun t u ht hu => ?_⟩
    · obtain ⟨-, -, -, -, -, -, -, x8, -, -, x11, x12, -⟩ := t4 t ht
      rw [x8, x11, x12]
      exact (decide_eq_true_eq).symm
    · obtain ⟨-, x2, -, x4, -⟩ := t4 t ht
      obtain ⟨-, v2, -, -, -, v6, -⟩ := u4 u hu
      rw [x2, x4, v2, v6]
      exact (decide_eq_true_eq).symm
  obtain ⟨ρ1, p1, p2, p3, p4, p5⟩ := c_shareBy u1 t1 hW hl
  have hI1 : Inv h0 n ρ1 := Inv_fr (frB_w p1 (fun c k hc => by unfold PQ at hc; unfold P5; rw [decide_eq_false_iff_not] at *; omega) (fun c k hc => by unfold PQ at hc; unfold P5; rw [decide_eq_false_iff_not] at *; omega)) hI
  have b1 := hI1.1
  obtain ⟨q1, q2, q3, q4, q5, q6, q7, q8⟩ := p1
  obtain ⟨ρ2, r1, r2, r3, r4, r5⟩ := m_findS (ρ := ρ1) (b := b) (o := fun t => decide (gA σ 12 39 0 t = 1 ∧ gA σ 12 46 0 t = -4 ∧ (gA σ 12 45 0 t).toInt ≤ b.toInt)) (s := fun t u => decide ((gA σ 12 55 0 u >>> ((gA σ 12 41 0 t / 10) &&& 31)) &&& 1 = 1 ∧ (gA σ 12 57 0 u >>> (gA σ 12 40 0 t &&& 31)) &&& 1 = 0)) (pace := fun u => (gA σ 12 56 0 u).toInt.toNat) (l0 := fun u => cntT (gA σ 12 39 0) (gA σ 12 46 0) u (gN σ 8)) t1 u1 b1 (by rw [q8 12 38 (by decide)]; exact t3) (by
    rw [q7 12 39 (by decide), q7 12 46 (by decide), q7 12 45 (by decide)]
    exact fun t _ => (decide_eq_true_eq).symm) (by rw [q8 12 54 (by decide)]; exact u3) (by
    rw [q7 12 58 (by decide), q7 12 56 (by decide)]
    intro u hu
    obtain ⟨l1, l2⟩ := a7.1 u hu
    obtain ⟨-, -, z3, z4, z5⟩ := hl u hu
    obtain ⟨-, -, -, -, v5, -⟩ := u4 u hu
    exact ⟨l1, l2, (nI_nat (by omega)).symm, z4, z5⟩) (by
    rw [q7 12 55 (by decide), q7 12 41 (by decide), q7 12 57 (by decide), q7 12 40 (by decide)]
    exact fun t u _ _ => (decide_eq_true_eq).symm)
  have hI2 : Inv h0 n ρ2 := Inv_fr (frB_w r1 (fun c k hc => by unfold PQ at hc; unfold PZ; rw [decide_eq_false_iff_not] at *; omega) (fun c k hc => by unfold PQ at hc; unfold RZ; rw [decide_eq_false_iff_not] at *; omega)) hI1
  obtain ⟨d1, d2, d3, d4, d5, d6, d7⟩ := p4
  obtain ⟨e1, e2, e3⟩ := r4
  have hp := full_pos (U := gN σ 9) (fit := fun i u => (fun t u => decide ((gA σ 12 55 0 u >>> ((gA σ 12 41 0 t / 10) &&& 31)) &&& 1 = 1 ∧ (gA σ 12 57 0 u >>> (gA σ 12 40 0 t &&& 31)) &&& 1 = 0)) (gls (fun t => decide (gA σ 12 39 0 t = 1 ∧ gA σ 12 46 0 t = -4 ∧ (gA σ 12 45 0 t).toInt ≤ b.toInt)) (gN σ 8) i) u) (pace := fun u => (gA σ 12 56 0 u).toInt.toNat) (gcn (fun t => decide (gA σ 12 39 0 t = 1 ∧ gA σ 12 46 0 t = -4 ∧ (gA σ 12 45 0 t).toInt ≤ b.toInt)) (gN σ 8)) 0 (fun u => cntT (gA σ 12 39 0) (gA σ 12 46 0) u (gN σ 8)) 0 0 (fun _ => 0) (-1, 0, fun _ => 0)
  obtain ⟨e4, e5, e6⟩ := e3 hp
  refine ⟨_, _, _, _, ρ1, ρ2, ⟨gcn_le _, u1, hp, b1, p2, fun i hi => ⟨p3 i hi, Nat.lt_of_lt_of_le (gls_lt _ _ hi) t1, fun j hj => gls_inj _ i j hi hj⟩, d3, d5, d7 hp, p5⟩, r5, hI2.1, r2, r3, Int32.toInt_inj.mp (by rw [e1, d3]), e4, e6, ?_, hI1, hI2, q4⟩
  rw [r1.2.2.2.2.2.2.2 12 54 (by decide), q8 12 54 (by decide)]
  exact u3
theorem T_share {h0 n d : Nat} {σ : St} {a b : Int32} (h : Inv h0 n σ) : PR h0 n (d + 40) 91 [some (vR (some (11, 0, 0))), some (vI a), some (vI b)] 194 [some (vR (some (12, 0, 0))), some (vI a), some (vI b)] σ := by
  have hI := h.up
  have a1 := h.1
  unfold PR
  by_cases hA : 0 ≤ a.toInt ∧ a.toInt < 4000
  · have hA' : a.toInt ≤ 3999 := by omega
    by_cases hB : 0 ≤ b.toInt ∧ b.toInt < 2
    · have hB' : b.toInt ≤ 1 := by omega
      obtain ⟨K, U, L, B, ρ1, ρ2, ⟨k1, k2, k3, k4, k5, k6, k7, k8, k9, k10⟩, m1, m2, m3, m4, m5, m6, m7, m8, m9, m10, m11⟩ := share_both (b := a) h
      have k10 := k10 (d + 27)
      have m1 := m1 (d + 36)
      have hI2 := m10.up
      by_cases b0 : b = 0
      · subst b0
        simp +decide only [e91_0, e91_1, e91_4, e91_7, e91_8, e91_9, e91_12, e91_15, e91_16, e91_17, e91_18, e91_19, e91_22, e91_23, e91_26, e91_27, e91_30, e91_33, e91_36, e91_37, e91_40, e91_43, true_and, and_true, or_true, true_or, if_true, if_false, not_true_eq_false, not_false_eq_true, ne_eq, and_self, Option.toList_some, Option.toList_none, List.cons_append, List.nil_append, catS_0, catS_I, catS_L, catS_R, Option.map_some, Option.map_none, c_isIn, m_in, wide_toInt, c_isDay, m_isDay, m_isCourse, c_areParts, tI_m1000, tI_m20, tI_m14, tI_m13, tI_m12, tI_m11, tI_m4, tI_m3, tI_m2, tI_m1, tI_0, tI_1, tI_2, tI_3, tI_4, tI_5, tI_6, tI_7, tI_8, tI_9, tI_10, tI_11, tI_12, tI_14, tI_15, tI_16, tI_19, tI_20, tI_21, tI_30, tI_31, tI_32, tI_40, tI_60, tI_61, tI_80, tI_90, tI_97, tI_100, tI_101, tI_119, tI_120, tI_121, tI_126, tI_128, tI_255, tI_256, tI_500, tI_512, tI_600, tI_999, tI_1000, tI_3999, tI_4000, tI_4095, tI_4096, tI_99999, tI_100000, tL_0, tL_1, tL_2, tL_3, tL_4, tL_5, tL_7, tL_8, tL_9, tL_15, tL_19, tL_20, tL_32, tL_39, tL_48, tL_57, tL_60, tL_97, tL_100, tL_104, tL_126, tL_255, tL_3999, tL_4095, tL_99999, Option.some.injEq, Sum.inl.injEq, exists_eq_left', exists_eq', hA, hA', k10, N11 a1, N11 k4, R11_17 k4, N5 k4]
        simp +decide only [e194_0, e194_1, e194_4, e194_7, e194_8, e194_9, e194_10, e194_11, e194_14, e194_17, e194_18, e194_19, e194_20, e194_21, e194_24, e194_25, e194_28, e194_29, e194_32, e194_35, e194_36, e194_39, true_and, and_true, or_true, true_or, if_true, if_false, not_true_eq_false, not_false_eq_true, ne_eq, and_self, Option.toList_some, Option.toList_none, List.cons_append, List.nil_append, catS_0, catS_I, catS_L, catS_R, Option.map_some, Option.map_none, c_isIn, m_in, wide_toInt, c_isDay, m_isDay, m_isCourse, c_areParts, tI_m1000, tI_m20, tI_m14, tI_m13, tI_m12, tI_m11, tI_m4, tI_m3, tI_m2, tI_m1, tI_0, tI_1, tI_2, tI_3, tI_4, tI_5, tI_6, tI_7, tI_8, tI_9, tI_10, tI_11, tI_12, tI_14, tI_15, tI_16, tI_19, tI_20, tI_21, tI_30, tI_31, tI_32, tI_40, tI_60, tI_61, tI_80, tI_90, tI_97, tI_100, tI_101, tI_119, tI_120, tI_121, tI_126, tI_128, tI_255, tI_256, tI_500, tI_512, tI_600, tI_999, tI_1000, tI_3999, tI_4000, tI_4095, tI_4096, tI_99999, tI_100000, tL_0, tL_1, tL_2, tL_3, tL_4, tL_5, tL_7, tL_8, tL_9, tL_15, tL_19, tL_20, tL_32, tL_39, tL_48, tL_57, tL_60, tL_97, tL_100, tL_104, tL_126, tL_255, tL_3999, tL_4095, tL_99999, Option.some.injEq, Sum.inl.injEq, exists_eq_left', exists_eq', hA, hA', m1, m5, N12 k4, N12 m2, hI2]
      · simp +decide only [e91_0, e91_1, e91_4, e91_7, e91_8, e91_9, e91_12, e91_15, e91_16, e91_17, e91_18, e91_19, e91_22, e91_23, e91_26, e91_27, e91_30, e91_33, e91_36, e91_37, e91_40, e91_43, true_and, and_true, or_true, true_or, if_true, if_false, not_true_eq_false, not_false_eq_true, ne_eq, and_self, Option.toList_some, Option.toList_none, List.cons_append, List.nil_append, catS_0, catS_I, catS_L, catS_R, Option.map_some, Option.map_none, c_isIn, m_in, wide_toInt, c_isDay, m_isDay, m_isCourse, c_areParts, tI_m1000, tI_m20, tI_m14, tI_m13, tI_m12, tI_m11, tI_m4, tI_m3, tI_m2, tI_m1, tI_0, tI_1, tI_2, tI_3, tI_4, tI_5, tI_6, tI_7, tI_8, tI_9, tI_10, tI_11, tI_12, tI_14, tI_15, tI_16, tI_19, tI_20, tI_21, tI_30, tI_31, tI_32, tI_40, tI_60, tI_61, tI_80, tI_90, tI_97, tI_100, tI_101, tI_119, tI_120, tI_121, tI_126, tI_128, tI_255, tI_256, tI_500, tI_512, tI_600, tI_999, tI_1000, tI_3999, tI_4000, tI_4095, tI_4096, tI_99999, tI_100000, tL_0, tL_1, tL_2, tL_3, tL_4, tL_5, tL_7, tL_8, tL_9, tL_15, tL_19, tL_20, tL_32, tL_39, tL_48, tL_57, tL_60, tL_97, tL_100, tL_104, tL_126, tL_255, tL_3999, tL_4095, tL_99999, Option.some.injEq, Sum.inl.injEq, exists_eq_left', exists_eq', hA, hA', hB, hB', b0, k10, k8, N11 a1, N11 k4, R11_17 k4, N5 k4]
        simp +decide only [e194_0, e194_1, e194_4, e194_7, e194_8, e194_9, e194_10, e194_11, e194_14, e194_17, e194_18, e194_19, e194_20, e194_21, e194_24, e194_25, e194_28, e194_29, e194_32, e194_35, e194_36, e194_39, true_and, and_true, or_true, true_or, if_true, if_false, not_true_eq_false, not_false_eq_true, ne_eq, and_self, Option.toList_some, Option.toList_none, List.cons_append, List.nil_append, catS_0, catS_I, catS_L, catS_R, Option.map_some, Option.map_none, c_isIn, m_in, wide_toInt, c_isDay, m_isDay, m_isCourse, c_areParts, tI_m1000, tI_m20, tI_m14, tI_m13, tI_m12, tI_m11, tI_m4, tI_m3, tI_m2, tI_m1, tI_0, tI_1, tI_2, tI_3, tI_4, tI_5, tI_6, tI_7, tI_8, tI_9, tI_10, tI_11, tI_12, tI_14, tI_15, tI_16, tI_19, tI_20, tI_21, tI_30, tI_31, tI_32, tI_40, tI_60, tI_61, tI_80, tI_90, tI_97, tI_100, tI_101, tI_119, tI_120, tI_121, tI_126, tI_128, tI_255, tI_256, tI_500, tI_512, tI_600, tI_999, tI_1000, tI_3999, tI_4000, tI_4095, tI_4096, tI_99999, tI_100000, tL_0, tL_1, tL_2, tL_3, tL_4, tL_5, tL_7, tL_8, tL_9, tL_15, tL_19, tL_20, tL_32, tL_39, tL_48, tL_57, tL_60, tL_97, tL_100, tL_104, tL_126, tL_255, tL_3999, tL_4095, tL_99999, Option.some.injEq, Sum.inl.injEq, exists_eq_left', exists_eq', hA, hA', hB, hB', b0, m1, m6, N12 k4, N12 m2, hI2]
    · have hB' : ¬ (0 ≤ b.toInt ∧ b.toInt ≤ 1) := by omega
      simp +decide only [e91_0, e91_1, e91_4, e91_7, e91_8, e91_9, e91_12, e91_15, e91_16, e91_17, e91_18, e91_19, e91_22, e91_23, e91_26, e91_27, e91_30, e91_33, e91_36, e91_37, e91_40, e91_43, true_and, and_true, or_true, true_or, if_true, if_false, not_true_eq_false, not_false_eq_true, ne_eq, and_self, Option.toList_some, Option.toList_none, List.cons_append, List.nil_append, catS_0, catS_I, catS_L, catS_R, Option.map_some, Option.map_none, c_isIn, m_in, wide_toInt, c_isDay, m_isDay, m_isCourse, c_areParts, tI_m1000, tI_m20, tI_m14, tI_m13, tI_m12, tI_m11, tI_m4, tI_m3, tI_m2, tI_m1, tI_0, tI_1, tI_2, tI_3, tI_4, tI_5, tI_6, tI_7, tI_8, tI_9, tI_10, tI_11, tI_12, tI_14, tI_15, tI_16, tI_19, tI_20, tI_21, tI_30, tI_31, tI_32, tI_40, tI_60, tI_61, tI_80, tI_90, tI_97, tI_100, tI_101, tI_119, tI_120, tI_121, tI_126, tI_128, tI_255, tI_256, tI_500, tI_512, tI_600, tI_999, tI_1000, tI_3999, tI_4000, tI_4095, tI_4096, tI_99999, tI_100000, tL_0, tL_1, tL_2, tL_3, tL_4, tL_5, tL_7, tL_8, tL_9, tL_15, tL_19, tL_20, tL_32, tL_39, tL_48, tL_57, tL_60, tL_97, tL_100, tL_104, tL_126, tL_255, tL_3999, tL_4095, tL_99999, Option.some.injEq, Sum.inl.injEq, exists_eq_left', exists_eq', hA, hA', hB, N11 a1]
      simp +decide only [e194_0, e194_1, e194_4, e194_7, e194_8, e194_9, e194_10, e194_11, e194_14, e194_17, e194_18, e194_19, e194_20, e194_21, e194_24, e194_25, e194_28, e194_29, e194_32, e194_35, e194_36, e194_39, true_and, and_true, or_true, true_or, if_true, if_false, not_true_eq_false, not_false_eq_true, ne_eq, and_self, Option.toList_some, Option.toList_none, List.cons_append, List.nil_append, catS_0, catS_I, catS_L, catS_R, Option.map_some, Option.map_none, c_isIn, m_in, wide_toInt, c_isDay, m_isDay, m_isCourse, c_areParts, tI_m1000, tI_m20, tI_m14, tI_m13, tI_m12, tI_m11, tI_m4, tI_m3, tI_m2, tI_m1, tI_0, tI_1, tI_2, tI_3, tI_4, tI_5, tI_6, tI_7, tI_8, tI_9, tI_10, tI_11, tI_12, tI_14, tI_15, tI_16, tI_19, tI_20, tI_21, tI_30, tI_31, tI_32, tI_40, tI_60, tI_61, tI_80, tI_90, tI_97, tI_100, tI_101, tI_119, tI_120, tI_121, tI_126, tI_128, tI_255, tI_256, tI_500, tI_512, tI_600, tI_999, tI_1000, tI_3999, tI_4000, tI_4095, tI_4096, tI_99999, tI_100000, tL_0, tL_1, tL_2, tL_3, tL_4, tL_5, tL_7, tL_8, tL_9, tL_15, tL_19, tL_20, tL_32, tL_39, tL_48, tL_57, tL_60, tL_97, tL_100, tL_104, tL_126, tL_255, tL_3999, tL_4095, tL_99999, Option.some.injEq, Sum.inl.injEq, exists_eq_left', exists_eq', hA, hA', hB', N12 a1, hI]
  · have hA' : ¬ (0 ≤ a.toInt ∧ a.toInt ≤ 3999) := by omega
    simp +decide only [e91_0, e91_1, e91_4, e91_7, e91_8, e91_9, e91_12, e91_15, e91_16, e91_17, e91_18, e91_19, e91_22, e91_23, e91_26, e91_27, e91_30, e91_33, e91_36, e91_37, e91_40, e91_43, true_and, and_true, or_true, true_or, if_true, if_false, not_true_eq_false, not_false_eq_true, ne_eq, and_self, Option.toList_some, Option.toList_none, List.cons_append, List.nil_append, catS_0, catS_I, catS_L, catS_R, Option.map_some, Option.map_none, c_isIn, m_in, wide_toInt, c_isDay, m_isDay, m_isCourse, c_areParts, tI_m1000, tI_m20, tI_m14, tI_m13, tI_m12, tI_m11, tI_m4, tI_m3, tI_m2, tI_m1, tI_0, tI_1, tI_2, tI_3, tI_4, tI_5, tI_6, tI_7, tI_8, tI_9, tI_10, tI_11, tI_12, tI_14, tI_15, tI_16, tI_19, tI_20, tI_21, tI_30, tI_31, tI_32, tI_40, tI_60, tI_61, tI_80, tI_90, tI_97, tI_100, tI_101, tI_119, tI_120, tI_121, tI_126, tI_128, tI_255, tI_256, tI_500, tI_512, tI_600, tI_999, tI_1000, tI_3999, tI_4000, tI_4095, tI_4096, tI_99999, tI_100000, tL_0, tL_1, tL_2, tL_3, tL_4, tL_5, tL_7, tL_8, tL_9, tL_15, tL_19, tL_20, tL_32, tL_39, tL_48, tL_57, tL_60, tL_97, tL_100, tL_104, tL_126, tL_255, tL_3999, tL_4095, tL_99999, Option.some.injEq, Sum.inl.injEq, exists_eq_left', exists_eq', hA, N11 a1]
    simp +decide only [e194_0, e194_1, e194_4, e194_7, e194_8, e194_9, e194_10, e194_11, e194_14, e194_17, e194_18, e194_19, e194_20, e194_21, e194_24, e194_25, e194_28, e194_29, e194_32, e194_35, e194_36, e194_39, true_and, and_true, or_true, true_or, if_true, if_false, not_true_eq_false, not_false_eq_true, ne_eq, and_self, Option.toList_some, Option.toList_none, List.cons_append, List.nil_append, catS_0, catS_I, catS_L, catS_R, Option.map_some, Option.map_none, c_isIn, m_in, wide_toInt, c_isDay, m_isDay, m_isCourse, c_areParts, tI_m1000, tI_m20, tI_m14, tI_m13, tI_m12, tI_m11, tI_m4, tI_m3, tI_m2, tI_m1, tI_0, tI_1, tI_2, tI_3, tI_4, tI_5, tI_6, tI_7, tI_8, tI_9, tI_10, tI_11, tI_12, tI_14, tI_15, tI_16, tI_19, tI_20, tI_21, tI_30, tI_31, tI_32, tI_40, tI_60, tI_61, tI_80, tI_90, tI_97, tI_100, tI_101, tI_119, tI_120, tI_121, tI_126, tI_128, tI_255, tI_256, tI_500, tI_512, tI_600, tI_999, tI_1000, tI_3999, tI_4000, tI_4095, tI_4096, tI_99999, tI_100000, tL_0, tL_1, tL_2, tL_3, tL_4, tL_5, tL_7, tL_8, tL_9, tL_15, tL_19, tL_20, tL_32, tL_39, tL_48, tL_57, tL_60, tL_97, tL_100, tL_104, tL_126, tL_255, tL_3999, tL_4095, tL_99999, Option.some.injEq, Sum.inl.injEq, exists_eq_left', exists_eq', hA, hA', N12 a1, hI]

def tofN (L : Nat → Nat) (C : Nat → Int32) (x : Nat) : Nat → Nat → Int32
  | _, 0 => -4
  | i, n + 1 => if L i = x then C i else tofN L C x (i + 1) n
section TOF
variable {K U x : Nat} {L B : Nat → Nat} {ρ : St} {d : Nat} {Q : Option AV → St → Prop}
theorem c_tof (hK : K ≤ 6) (hx : x < 80) (a1 : SH ρ) (h1 : gI ρ 5 8 0 = nI K) (h2 : ∀ i, i < K → gA ρ 5 0 0 i = nI (L i) ∧ L i < 80) (h3 : ∀ j, j < K → gA ρ 5 3 0 j = eU U (B j)) : ∀ n i, i + n = K → Rn d Q (36, 2, [some (vR (some (5, 0, 0))), some (vI (nI x)), some (vI (nI i))], [], ρ) = Q (some (vI (tofN L (fun j => eU U (B j)) x i n))) ρ := by
  intro n
  induction n with
  | zero =>
    intro i hi
    have y1 : nI K ≤ nI i := nI_le (by omega) (by omega)
    rw [e36_2]
    simp +decide only [e36_0, e36_1, e36_3, e36_4, e36_7, e36_10, e36_11, e36_14, e36_15, e36_16, e36_17, e36_20, e36_21, e36_24, e36_25, e36_26, e36_27, e36_30, e36_33, e36_35, true_and, and_true, or_true, true_or, if_true, if_false, not_true_eq_false, not_false_eq_true, ne_eq, and_self, Option.toList_some, Option.toList_none, List.cons_append, List.nil_append, catS_0, catS_I, catS_L, catS_R, Option.map_some, Option.map_none, h1, y1, N5 a1]
    rfl
  | succ n ih =>
    intro i hi
    have y1 : ¬ nI K ≤ nI i := nI_ge (by omega) (by omega)
    have y2 : (nI i).toInt = (i : Int) := nI_toInt (by omega)
    have y3 : (0 : Int) ≤ (i : Int) := by omega
    have y4 : (i : Int) < ((6 : Nat) : Int) := by omega
    have y5 : (nI i).toNatClampNeg = i := nI_clamp (by omega)
    obtain ⟨g1, g2⟩ := h2 i (by omega)
    have g3 := h3 i (by omega)
    rw [e36_2]
    show _ = Q (some (vI (if L i = x then eU U (B i) else tofN L (fun j => eU U (B j)) x (i + 1) n))) ρ
    by_cases hlx : L i = x
    · rw [if_pos hlx]
      rw [hlx] at g1
      simp +decide only [e36_0, e36_1, e36_3, e36_4, e36_7, e36_10, e36_11, e36_14, e36_15, e36_16, e36_17, e36_20, e36_21, e36_24, e36_25, e36_26, e36_27, e36_30, e36_33, e36_35, true_and, and_true, or_true, true_or, if_true, if_false, not_true_eq_false, not_false_eq_true, ne_eq, and_self, Option.toList_some, Option.toList_none, List.cons_append, List.nil_append, catS_0, catS_I, catS_L, catS_R, Option.map_some, Option.map_none, Option.some.injEq, Sum.inl.injEq, exists_eq_left', exists_eq', h1, y1, y2, y3, y4, y5, g1, g3, N5 a1, L5_0 a1, L5_3 a1]
    · have q1 : ¬ nI (L i) = nI x := fun z => by rw [nI_eq (by omega) (by omega)] at z; exact hlx z
      rw [if_neg hlx, ← ih (i + 1) (by omega), ← nI_1 i]
      simp +decide only [e36_0, e36_1, e36_3, e36_4, e36_7, e36_10, e36_11, e36_14, e36_15, e36_16, e36_17, e36_20, e36_21, e36_24, e36_25, e36_26, e36_27, e36_30, e36_33, e36_35, true_and, and_true, or_true, true_or, if_true, if_false, not_true_eq_false, not_false_eq_true, ne_eq, and_self, Option.toList_some, Option.toList_none, List.cons_append, List.nil_append, catS_0, catS_I, catS_L, catS_R, Option.map_some, Option.map_none, Option.some.injEq, Sum.inl.injEq, exists_eq_left', exists_eq', h1, y1, y2, y3, y4, y5, g1, q1, N5 a1, L5_0 a1]
theorem m_tof0 {dy acc : Int32} (hK : K ≤ 6) (hx : x < 80) (a1 : SH ρ) (h1 : gI ρ 12 59 0 = nI K) (h2 : ∀ i, i < K → gA ρ 12 60 0 i = nI (L i) ∧ L i < 80) : ∀ n i, i + n = K → (∀ j, i ≤ j → j < K → ¬ L j = x) → Rn d Q (195, 28, [some (vR (some (12, 0, 0))), some (vI dy), some (vI (nI x)), some (vI acc), some (vI (nI i))], [], ρ) = Q (some (vI acc)) ρ := by
  intro n
  induction n with
  | zero =>
    intro i hi hn
    have y1 : nI K ≤ nI i := nI_le (by omega) (by omega)
    rw [e195_28]
    simp +decide only [e195_0, e195_1, e195_4, e195_7, e195_8, e195_9, e195_12, e195_15, e195_16, e195_17, e195_18, e195_19, e195_22, e195_24, e195_25, e195_26, e195_30, e195_31, e195_34, e195_37, e195_38, e195_41, e195_43, e195_44, e195_45, e195_48, e195_49, e195_52, e195_54, e195_55, e195_56, e195_59, e195_62, e195_63, e195_66, e195_68, e195_69, e195_72, e195_73, e195_74, e195_77, e195_80, e195_81, true_and, and_true, or_true, true_or, if_true, if_false, not_true_eq_false, not_false_eq_true, ne_eq, and_self, Option.toList_some, Option.toList_none, List.cons_append, List.nil_append, catS_0, catS_I, catS_L, catS_R, Option.map_some, Option.map_none, h1, y1, N12 a1]
  | succ n ih =>
    intro i hi hn
    have y1 : ¬ nI K ≤ nI i := nI_ge (by omega) (by omega)
    have y2 : (nI i).toInt = (i : Int) := nI_toInt (by omega)
    have y3 : (0 : Int) ≤ (i : Int) := by omega
    have y4 : (i : Int) < ((6 : Nat) : Int) := by omega
    have y5 : (nI i).toNatClampNeg = i := nI_clamp (by omega)
    obtain ⟨g1, g2⟩ := h2 i (by omega)
    have q1 : ¬ nI (L i) = nI x := fun z => by rw [nI_eq (by omega) (by omega)] at z; exact hn i (by omega) (by omega) z
    rw [← ih (i + 1) (by omega) (fun j h1 h2 => hn j (by omega) h2), e195_28, ← nI_1 i]
    simp +decide only [e195_0, e195_1, e195_4, e195_7, e195_8, e195_9, e195_12, e195_15, e195_16, e195_17, e195_18, e195_19, e195_22, e195_24, e195_25, e195_26, e195_30, e195_31, e195_34, e195_37, e195_38, e195_41, e195_43, e195_44, e195_45, e195_48, e195_49, e195_52, e195_54, e195_55, e195_56, e195_59, e195_62, e195_63, e195_66, e195_68, e195_69, e195_72, e195_73, e195_74, e195_77, e195_80, e195_81, true_and, and_true, or_true, true_or, if_true, if_false, not_true_eq_false, not_false_eq_true, ne_eq, and_self, Option.toList_some, Option.toList_none, List.cons_append, List.nil_append, catS_0, catS_I, catS_L, catS_R, Option.map_some, Option.map_none, Option.some.injEq, Sum.inl.injEq, exists_eq_left', exists_eq', h1, y1, y2, y3, y4, y5, g1, q1, N12 a1, L12_60 a1]
theorem m_tof {dy : Int32} (hK : K ≤ 6) (hU : U ≤ 6) (hx : x < 80) (a1 : SH ρ) (h1 : gI ρ 12 59 0 = nI K) (h2 : ∀ i, i < K → gA ρ 12 60 0 i = nI (L i) ∧ L i < 80) (hj : ∀ i j, i < K → j < K → L i = L j → i = j) (h3 : ∀ j, j < K → gA ρ 12 62 0 j = nI (B j) ∧ B j ≤ U) (h4 : gI ρ 12 54 0 = nI U) : ∀ n i, i + n = K → Rn d Q (195, 28, [some (vR (some (12, 0, 0))), some (vI dy), some (vI (nI x)), some (vI (-4)), some (vI (nI i))], [], ρ) = Q (some (vI (tofN L (fun j => eU U (B j)) x i n))) ρ := by
  intro n
  induction n with
  | zero =>
    intro i hi
    have y1 : nI K ≤ nI i := nI_le (by omega) (by omega)
    rw [e195_28]
    simp +decide only [e195_0, e195_1, e195_4, e195_7, e195_8, e195_9, e195_12, e195_15, e195_16, e195_17, e195_18, e195_19, e195_22, e195_24, e195_25, e195_26, e195_30, e195_31, e195_34, e195_37, e195_38, e195_41, e195_43, e195_44, e195_45, e195_48, e195_49, e195_52, e195_54, e195_55, e195_56, e195_59, e195_62, e195_63, e195_66, e195_68, e195_69, e195_72, e195_73, e195_74, e195_77, e195_80, e195_81, true_and, and_true, or_true, true_or, if_true, if_false, not_true_eq_false, not_false_eq_true, ne_eq, and_self, Option.toList_some, Option.toList_none, List.cons_append, List.nil_append, catS_0, catS_I, catS_L, catS_R, Option.map_some, Option.map_none, h1, y1, N12 a1]
    rfl
  | succ n ih =>
    intro i hi
    have y1 : ¬ nI K ≤ nI i := nI_ge (by omega) (by omega)
    have y2 : (nI i).toInt = (i : Int) := nI_toInt (by omega)
    have y3 : (0 : Int) ≤ (i : Int) := by omega
    have y4 : (i : Int) < ((6 : Nat) : Int) := by omega
    have y5 : (nI i).toNatClampNeg = i := nI_clamp (by omega)
    obtain ⟨g1, g2⟩ := h2 i (by omega)
    obtain ⟨g3, g4⟩ := h3 i (by omega)
    show _ = Q (some (vI (if L i = x then eU U (B i) else tofN L (fun j => eU U (B j)) x (i + 1) n))) ρ
    by_cases hlx : L i = x
    · rw [if_pos hlx]
      rw [hlx] at g1
      have hn : ∀ j, i + 1 ≤ j → j < K → ¬ L j = x := fun j z1 z2 z => by have := hj i j (by omega) z2 (by rw [hlx, z]); omega
      rw [← m_tof0 (d := d) (Q := Q) (dy := dy) (acc := eU U (B i)) hK hx a1 h1 h2 n (i + 1) (by omega) hn, ← nI_1 i, e195_28]
      unfold eU
      by_cases hB : B i < U
      · have q1 : ¬ nI U ≤ nI (B i) := nI_ge (by omega) (by omega)
        rw [if_pos hB]
        simp +decide only [e195_0, e195_1, e195_4, e195_7, e195_8, e195_9, e195_12, e195_15, e195_16, e195_17, e195_18, e195_19, e195_22, e195_24, e195_25, e195_26, e195_30, e195_31, e195_34, e195_37, e195_38, e195_41, e195_43, e195_44, e195_45, e195_48, e195_49, e195_52, e195_54, e195_55, e195_56, e195_59, e195_62, e195_63, e195_66, e195_68, e195_69, e195_72, e195_73, e195_74, e195_77, e195_80, e195_81, true_and, and_true, or_true, true_or, if_true, if_false, not_true_eq_false, not_false_eq_true, ne_eq, and_self, Option.toList_some, Option.toList_none, List.cons_append, List.nil_append, catS_0, catS_I, catS_L, catS_R, Option.map_some, Option.map_none, Option.some.injEq, Sum.inl.injEq, exists_eq_left', exists_eq', h1, h4, y1, y2, y3, y4, y5, g1, g3, q1, N12 a1, L12_60 a1, L12_62 a1]
      · have q1 : nI U ≤ nI (B i) := nI_le (by omega) (by omega)
        rw [if_neg hB]
        simp +decide only [e195_0, e195_1, e195_4, e195_7, e195_8, e195_9, e195_12, e195_15, e195_16, e195_17, e195_18, e195_19, e195_22, e195_24, e195_25, e195_26, e195_30, e195_31, e195_34, e195_37, e195_38, e195_41, e195_43, e195_44, e195_45, e195_48, e195_49, e195_52, e195_54, e195_55, e195_56, e195_59, e195_62, e195_63, e195_66, e195_68, e195_69, e195_72, e195_73, e195_74, e195_77, e195_80, e195_81, true_and, and_true, or_true, true_or, if_true, if_false, not_true_eq_false, not_false_eq_true, ne_eq, and_self, Option.toList_some, Option.toList_none, List.cons_append, List.nil_append, catS_0, catS_I, catS_L, catS_R, Option.map_some, Option.map_none, Option.some.injEq, Sum.inl.injEq, exists_eq_left', exists_eq', h1, h4, y1, y2, y3, y4, y5, g1, g3, q1, N12 a1, L12_60 a1, L12_62 a1]
    · have q1 : ¬ nI (L i) = nI x := fun z => by rw [nI_eq (by omega) (by omega)] at z; exact hlx z
      rw [if_neg hlx, ← ih (i + 1) (by omega), ← nI_1 i, e195_28]
      simp +decide only [e195_0, e195_1, e195_4, e195_7, e195_8, e195_9, e195_12, e195_15, e195_16, e195_17, e195_18, e195_19, e195_22, e195_24, e195_25, e195_26, e195_30, e195_31, e195_34, e195_37, e195_38, e195_41, e195_43, e195_44, e195_45, e195_48, e195_49, e195_52, e195_54, e195_55, e195_56, e195_59, e195_62, e195_63, e195_66, e195_68, e195_69, e195_72, e195_73, e195_74, e195_77, e195_80, e195_81, true_and, and_true, or_true, true_or, if_true, if_false, not_true_eq_false, not_false_eq_true, ne_eq, and_self, Option.toList_some, Option.toList_none, List.cons_append, List.nil_append, catS_0, catS_I, catS_L, catS_R, Option.map_some, Option.map_none, Option.some.injEq, Sum.inl.injEq, exists_eq_left', exists_eq', h1, y1, y2, y3, y4, y5, g1, q1, N12 a1, L12_60 a1]
end TOF
theorem T_shareOf {h0 n d : Nat} {σ : St} {a b : Int32} (h : Inv h0 n σ) : PR h0 n (d + 40) 92 [some (vR (some (11, 0, 0))), some (vI a), some (vI b)] 195 [some (vR (some (12, 0, 0))), some (vI a), some (vI b), none, none] σ := by
  have hI := h.up
  have h' := h
  obtain ⟨a1, a2, a3, a4, a5, a6, a7, a8, a9, a10, a11, a12, a13⟩ := h'
  obtain ⟨t1, t2, t3, t4, t5⟩ := a9
  have ct := fun {d : Nat} {Q : Option AV → St → Prop} {a : Int32} => c_thingAt (d := d) (Q := Q) (a := a) a1 t2 t1 (fun p hp => (t4 p hp).1)
  unfold PR
  by_cases hA : 0 ≤ a.toInt ∧ a.toInt < 4000
  · have hA' : a.toInt ≤ 3999 := by omega
    by_cases hB : 0 ≤ b.toInt ∧ b.toInt < (gN σ 8 : Int)
    · obtain ⟨x, hx, rfl, e4⟩ := nI_ex hB
      have e3 : (nI x).toInt = (x : Int) := nI_toInt (by omega)
      have hx0 : (0 : Int) ≤ (x : Int) := by omega
      have hx1 : (x : Int) < (gN σ 8 : Int) := by omega
      obtain ⟨K, U, L, B, ρ1, ρ2, ⟨k1, k2, k3, k4, k5, k6, k7, k8, k9, k10⟩, m1, m2, m3, m4, m5, m6, m7, m8, m9, m10, m11⟩ := share_both (b := a) h
      have hT1 := m9.2.2.2.2.2.2.2.2.1
      have hn8 : gN ρ1 8 = gN σ 8 := by rw [m11]
      have mt := fun {d : Nat} {Q : Option AV → St → Prop} {a : Int32} => m_isThing (d := d) (Q := Q) (a := a) k4 (hT1.2.2.1) hT1.1
      rw [hn8] at mt
      have k10 := k10 (d + 27)
      have m1 := m1 (d + 36)
      have hI2 := m10.up
      have ctf := fun {d : Nat} {Q : Option AV → St → Prop} => c_tof (d := d) (Q := Q) k1 (show x < 80 by omega) k4 k5 (fun i hi => ⟨(k6 i hi).1, (k6 i hi).2.1⟩) k9 K 0 (by omega)
      have mtf := fun {d : Nat} {Q : Option AV → St → Prop} {dy : Int32} => m_tof (d := d) (Q := Q) (dy := dy) k1 k2 (show x < 80 by omega) m2 m3 (fun i hi => ⟨m4 i hi, (k6 i hi).2.1⟩) (fun i j hi hj => (k6 i hi).2.2 j hj) m7 m8 K 0 (by omega)
      rw [nI_0] at ctf mtf
      simp +decide only [e92_0, e92_1, e92_4, e92_7, e92_8, e92_9, e92_12N, e92_12S, e92_15, e92_16, e92_17, e92_18, e92_19, e92_22, e92_23, e92_26, e92_27, e92_30, e36_0, e36_1, e36_3, e36_4, e36_7, e36_10, e36_11, e36_14, e36_15, e36_16, e36_17, e36_20, e36_21, e36_24, e36_25, e36_26, e36_27, e36_30, e36_33, e36_35, true_and, and_true, or_true, true_or, if_true, if_false, not_true_eq_false, not_false_eq_true, ne_eq, and_self, Option.toList_some, Option.toList_none, List.cons_append, List.nil_append, catS_0, catS_I, catS_L, catS_R, Option.map_some, Option.map_none, c_isIn, m_in, wide_toInt, c_isDay, m_isDay, m_isCourse, c_areParts, tI_m1000, tI_m20, tI_m14, tI_m13, tI_m12, tI_m11, tI_m4, tI_m3, tI_m2, tI_m1, tI_0, tI_1, tI_2, tI_3, tI_4, tI_5, tI_6, tI_7, tI_8, tI_9, tI_10, tI_11, tI_12, tI_14, tI_15, tI_16, tI_19, tI_20, tI_21, tI_30, tI_31, tI_32, tI_40, tI_60, tI_61, tI_80, tI_90, tI_97, tI_100, tI_101, tI_119, tI_120, tI_121, tI_126, tI_128, tI_255, tI_256, tI_500, tI_512, tI_600, tI_999, tI_1000, tI_3999, tI_4000, tI_4095, tI_4096, tI_99999, tI_100000, tL_0, tL_1, tL_2, tL_3, tL_4, tL_5, tL_7, tL_8, tL_9, tL_15, tL_19, tL_20, tL_32, tL_39, tL_48, tL_57, tL_60, tL_97, tL_100, tL_104, tL_126, tL_255, tL_3999, tL_4095, tL_99999, Option.some.injEq, Sum.inl.injEq, exists_eq_left', exists_eq', ct, hA, hA', hx, e3, e4, hx0, hx1, k10, ctf, N11 a1, N11 k4, R11_17 k4, N5 k4]
      simp +decide only [e195_0, e195_1, e195_4, e195_7, e195_8, e195_9, e195_12, e195_15, e195_16, e195_17, e195_18, e195_19, e195_22, e195_24, e195_25, e195_26, e195_30, e195_31, e195_34, e195_37, e195_38, e195_41, e195_43, e195_44, e195_45, e195_48, e195_49, e195_52, e195_54, e195_55, e195_56, e195_59, e195_62, e195_63, e195_66, e195_68, e195_69, e195_72, e195_73, e195_74, e195_77, e195_80, e195_81, true_and, and_true, or_true, true_or, if_true, if_false, not_true_eq_false, not_false_eq_true, ne_eq, and_self, Option.toList_some, Option.toList_none, List.cons_append, List.nil_append, catS_0, catS_I, catS_L, catS_R, Option.map_some, Option.map_none, c_isIn, m_in, wide_toInt, c_isDay, m_isDay, m_isCourse, c_areParts, tI_m1000, tI_m20, tI_m14, tI_m13, tI_m12, tI_m11, tI_m4, tI_m3, tI_m2, tI_m1, tI_0, tI_1, tI_2, tI_3, tI_4, tI_5, tI_6, tI_7, tI_8, tI_9, tI_10, tI_11, tI_12, tI_14, tI_15, tI_16, tI_19, tI_20, tI_21, tI_30, tI_31, tI_32, tI_40, tI_60, tI_61, tI_80, tI_90, tI_97, tI_100, tI_101, tI_119, tI_120, tI_121, tI_126, tI_128, tI_255, tI_256, tI_500, tI_512, tI_600, tI_999, tI_1000, tI_3999, tI_4000, tI_4095, tI_4096, tI_99999, tI_100000, tL_0, tL_1, tL_2, tL_3, tL_4, tL_5, tL_7, tL_8, tL_9, tL_15, tL_19, tL_20, tL_32, tL_39, tL_48, tL_57, tL_60, tL_97, tL_100, tL_104, tL_126, tL_255, tL_3999, tL_4095, tL_99999, Option.some.injEq, Sum.inl.injEq, exists_eq_left', exists_eq', mt, hA, hA', e3, hx0, hx1, m1, mtf, N12 k4, N12 m2, hI2]
    · have mt := fun {d : Nat} {Q : Option AV → St → Prop} {a : Int32} => m_isThing (d := d) (Q := Q) (a := a) a1 t3 t1
      simp +decide only [e92_0, e92_1, e92_4, e92_7, e92_8, e92_9, e92_12N, e92_12S, e92_15, e92_16, e92_17, e92_18, e92_19, e92_22, e92_23, e92_26, e92_27, e92_30, true_and, and_true, or_true, true_or, if_true, if_false, not_true_eq_false, not_false_eq_true, ne_eq, and_self, Option.toList_some, Option.toList_none, List.cons_append, List.nil_append, catS_0, catS_I, catS_L, catS_R, Option.map_some, Option.map_none, c_isIn, m_in, wide_toInt, c_isDay, m_isDay, m_isCourse, c_areParts, tI_m1000, tI_m20, tI_m14, tI_m13, tI_m12, tI_m11, tI_m4, tI_m3, tI_m2, tI_m1, tI_0, tI_1, tI_2, tI_3, tI_4, tI_5, tI_6, tI_7, tI_8, tI_9, tI_10, tI_11, tI_12, tI_14, tI_15, tI_16, tI_19, tI_20, tI_21, tI_30, tI_31, tI_32, tI_40, tI_60, tI_61, tI_80, tI_90, tI_97, tI_100, tI_101, tI_119, tI_120, tI_121, tI_126, tI_128, tI_255, tI_256, tI_500, tI_512, tI_600, tI_999, tI_1000, tI_3999, tI_4000, tI_4095, tI_4096, tI_99999, tI_100000, tL_0, tL_1, tL_2, tL_3, tL_4, tL_5, tL_7, tL_8, tL_9, tL_15, tL_19, tL_20, tL_32, tL_39, tL_48, tL_57, tL_60, tL_97, tL_100, tL_104, tL_126, tL_255, tL_3999, tL_4095, tL_99999, Option.some.injEq, Sum.inl.injEq, exists_eq_left', exists_eq', ct, hA, hA', hB, N11 a1]
      simp +decide only [e195_0, e195_1, e195_4, e195_7, e195_8, e195_9, e195_12, e195_15, e195_16, e195_17, e195_18, e195_19, e195_22, e195_24, e195_25, e195_26, e195_30, e195_31, e195_34, e195_37, e195_38, e195_41, e195_43, e195_44, e195_45, e195_48, e195_49, e195_52, e195_54, e195_55, e195_56, e195_59, e195_62, e195_63, e195_66, e195_68, e195_69, e195_72, e195_73, e195_74, e195_77, e195_80, e195_81, true_and, and_true, or_true, true_or, if_true, if_false, not_true_eq_false, not_false_eq_true, ne_eq, and_self, Option.toList_some, Option.toList_none, List.cons_append, List.nil_append, catS_0, catS_I, catS_L, catS_R, Option.map_some, Option.map_none, c_isIn, m_in, wide_toInt, c_isDay, m_isDay, m_isCourse, c_areParts, tI_m1000, tI_m20, tI_m14, tI_m13, tI_m12, tI_m11, tI_m4, tI_m3, tI_m2, tI_m1, tI_0, tI_1, tI_2, tI_3, tI_4, tI_5, tI_6, tI_7, tI_8, tI_9, tI_10, tI_11, tI_12, tI_14, tI_15, tI_16, tI_19, tI_20, tI_21, tI_30, tI_31, tI_32, tI_40, tI_60, tI_61, tI_80, tI_90, tI_97, tI_100, tI_101, tI_119, tI_120, tI_121, tI_126, tI_128, tI_255, tI_256, tI_500, tI_512, tI_600, tI_999, tI_1000, tI_3999, tI_4000, tI_4095, tI_4096, tI_99999, tI_100000, tL_0, tL_1, tL_2, tL_3, tL_4, tL_5, tL_7, tL_8, tL_9, tL_15, tL_19, tL_20, tL_32, tL_39, tL_48, tL_57, tL_60, tL_97, tL_100, tL_104, tL_126, tL_255, tL_3999, tL_4095, tL_99999, Option.some.injEq, Sum.inl.injEq, exists_eq_left', exists_eq', mt, hA, hA', hB, N12 a1, hI]
  · have hA' : ¬ (0 ≤ a.toInt ∧ a.toInt ≤ 3999) := by omega
    simp +decide only [e92_0, e92_1, e92_4, e92_7, e92_8, e92_9, e92_12N, e92_12S, e92_15, e92_16, e92_17, e92_18, e92_19, e92_22, e92_23, e92_26, e92_27, e92_30, true_and, and_true, or_true, true_or, if_true, if_false, not_true_eq_false, not_false_eq_true, ne_eq, and_self, Option.toList_some, Option.toList_none, List.cons_append, List.nil_append, catS_0, catS_I, catS_L, catS_R, Option.map_some, Option.map_none, c_isIn, m_in, wide_toInt, c_isDay, m_isDay, m_isCourse, c_areParts, tI_m1000, tI_m20, tI_m14, tI_m13, tI_m12, tI_m11, tI_m4, tI_m3, tI_m2, tI_m1, tI_0, tI_1, tI_2, tI_3, tI_4, tI_5, tI_6, tI_7, tI_8, tI_9, tI_10, tI_11, tI_12, tI_14, tI_15, tI_16, tI_19, tI_20, tI_21, tI_30, tI_31, tI_32, tI_40, tI_60, tI_61, tI_80, tI_90, tI_97, tI_100, tI_101, tI_119, tI_120, tI_121, tI_126, tI_128, tI_255, tI_256, tI_500, tI_512, tI_600, tI_999, tI_1000, tI_3999, tI_4000, tI_4095, tI_4096, tI_99999, tI_100000, tL_0, tL_1, tL_2, tL_3, tL_4, tL_5, tL_7, tL_8, tL_9, tL_15, tL_19, tL_20, tL_32, tL_39, tL_48, tL_57, tL_60, tL_97, tL_100, tL_104, tL_126, tL_255, tL_3999, tL_4095, tL_99999, Option.some.injEq, Sum.inl.injEq, exists_eq_left', exists_eq', hA, N11 a1]
    simp +decide only [e195_0, e195_1, e195_4, e195_7, e195_8, e195_9, e195_12, e195_15, e195_16, e195_17, e195_18, e195_19, e195_22, e195_24, e195_25, e195_26, e195_30, e195_31, e195_34, e195_37, e195_38, e195_41, e195_43, e195_44, e195_45, e195_48, e195_49, e195_52, e195_54, e195_55, e195_56, e195_59, e195_62, e195_63, e195_66, e195_68, e195_69, e195_72, e195_73, e195_74, e195_77, e195_80, e195_81, true_and, and_true, or_true, true_or, if_true, if_false, not_true_eq_false, not_false_eq_true, ne_eq, and_self, Option.toList_some, Option.toList_none, List.cons_append, List.nil_append, catS_0, catS_I, catS_L, catS_R, Option.map_some, Option.map_none, c_isIn, m_in, wide_toInt, c_isDay, m_isDay, m_isCourse, c_areParts, tI_m1000, tI_m20, tI_m14, tI_m13, tI_m12, tI_m11, tI_m4, tI_m3, tI_m2, tI_m1, tI_0, tI_1, tI_2, tI_3, tI_4, tI_5, tI_6, tI_7, tI_8, tI_9, tI_10, tI_11, tI_12, tI_14, tI_15, tI_16, tI_19, tI_20, tI_21, tI_30, tI_31, tI_32, tI_40, tI_60, tI_61, tI_80, tI_90, tI_97, tI_100, tI_101, tI_119, tI_120, tI_121, tI_126, tI_128, tI_255, tI_256, tI_500, tI_512, tI_600, tI_999, tI_1000, tI_3999, tI_4000, tI_4095, tI_4096, tI_99999, tI_100000, tL_0, tL_1, tL_2, tL_3, tL_4, tL_5, tL_7, tL_8, tL_9, tL_15, tL_19, tL_20, tL_32, tL_39, tL_48, tL_57, tL_60, tL_97, tL_100, tL_104, tL_126, tL_255, tL_3999, tL_4095, tL_99999, Option.some.injEq, Sum.inl.injEq, exists_eq_left', exists_eq', hA, hA', N12 a1, hI]
