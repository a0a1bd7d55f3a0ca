theorem full_pos {U : Nat} {fit : Nat → Nat → Bool} {pace : Nat → Nat} : ∀ f at' ld given days now b, 0 ≤ (fullS U fit pace f at' ld given days now b).1 := by
  intro f
  induction f with
  | zero =>
    intro at' ld given days now b
    show 0 ≤ (leafS given days now b).1
    unfold leafS
    by_cases h : b.1 < (given : Int) ∨ (b.1 = (given : Int) ∧ days < b.2.1)
    · rw [if_pos h]
      show (0 : Int) ≤ (given : Int)
      omega
    · rw [if_neg h]; omega
  | succ f ih =>
    intro at' ld given days now b
    show 0 ≤ (fullS U fit pace f (at' + 1) ld given days (va_up now at' U) (lpT _ _ U b)).1
    exact ih _ _ _ _ _ _
/-- the best sharing -/
def BB (K U : Nat) (fit : Nat → Nat → Bool) (pace ld : Nat → Nat) : Int × Nat × (Nat → Nat) := fullS U fit pace K 0 ld 0 0 (fun _ => 0) (-1, 0, fun _ => 0)
def PV (c k : Nat) : Bool := decide (c = 5 ∧ 2 ≤ k ∧ k ≤ 6)
theorem c_solve {K U : Nat} {fit : Nat → Nat → Bool} {pace ld : Nat → Nat} {ρ : St} (hK : K ≤ 6) (hU : U ≤ 6) (hC : CS0 K U fit pace ρ) (hL : ∀ u, u < U → gA ρ 5 6 0 u = nI (ld u) ∧ ld u ≤ 12) : ∃ ρ', frB PV RS ρ ρ' ∧ CD K U 0 ld (fun _ => 0) (BB K U fit pace ld) ρ' ∧ ∀ D Q, Rn (D + 10) Q (30, 0, [some (vR (some (5, 0, 0)))], [], ρ) = Q none ρ' := by
  have hC0 := hC
  obtain ⟨a1, c2, c3, c4, c5⟩ := hC
  have hwP : ∀ c k, PV c k = false → PL c k = false := by
    intro c k h
    unfold PV at h
    unfold PL
    rw [decide_eq_false_iff_not] at *
    omega
  have hwR : ∀ c k, RS c k = false → RN c k = false := fun _ _ _ => rfl
  have hwS : ∀ c k, PV c k = false → PS c k = false := by
    intro c k h
    unfold PV at h
    unfold PS
    rw [decide_eq_false_iff_not] at *
    omega
  have y2 : (nI K).toInt = (K : Int) := nI_toInt (by omega)
  have y3 : (0 : Int) ≤ (K : Int) := by omega
  have y4 : (K : Int) < ((7 : Nat) : Int) := by omega
  have y5 : (nI K).toNatClampNeg = K := nI_clamp (by omega)
  obtain ⟨ρ1, p1, p2, p3⟩ := c_ahead (fit := fit) (pace := pace) (ld := ld) hK hU K (setA (setA (setI (setI ρ 5 10 0 (-1)) 5 11 0 0) 5 4 0 (upd (gA ρ 5 4 0) K 0)) 5 5 0 (upd (gA ρ 5 5 0) K 0)) (nI K - 1) none (by omega) (nI_m1 (by omega)) (by
    unfold CS0
    simp +decide only [II, AA, RR, QQ, IA, IR, IQ, AI, AR, AQ, RI, RA, RQ, QI, QA, QR, LI, LA, LR, LQ, NI, NA, NR, NQ, HI, HA, HR, HQ, SI, SA, SR, SQ, true_and, and_true, or_true, true_or, if_true, if_false, not_true_eq_false, not_false_eq_true, ne_eq, and_self]
    exact ⟨a1, c2, c3, c4, c5⟩) (by simp +decide only [II, AA, RR, QQ, IA, IR, IQ, AI, AR, AQ, RI, RA, RQ, QI, QA, QR, LI, LA, LR, LQ, NI, NA, NR, NQ, HI, HA, HR, HQ, SI, SA, SR, SQ, true_and, and_true, or_true, true_or, if_true, if_false, not_true_eq_false, not_false_eq_true, ne_eq, and_self]; exact hL) (by
    simp +decide only [II, AA, RR, QQ, IA, IR, IQ, AI, AR, AQ, RI, RA, RQ, QI, QA, QR, LI, LA, LR, LQ, NI, NA, NR, NQ, HI, HA, HR, HQ, SI, SA, SR, SQ, true_and, and_true, or_true, true_or, if_true, if_false, not_true_eq_false, not_false_eq_true, ne_eq, and_self]
    intro j hj hjK
    have : j = K := by omega
    subst this
    rw [updS0, updS0, Nat.sub_self]
    exact ⟨rfl, rfl⟩)
  have hS1 := SH_frB p1 a1
  have hb1 := p1
  obtain ⟨q1, q2, q3, q4, q5, q6, q7, q8⟩ := p1
  have hF : ∀ i, fdN (fun u => fit i u && decide (ld u < 12)) (fun u => cutN (ld u + 1) (pace u)) U ≤ 13 := fun i => fdN_le U (fun v hv => cutN_le (by have := (hL v (by omega)).2; omega) (by have := (c5 v (by omega)).2.1; omega))
  have hdl := dlr_le (fd := fun i => fdN (fun u => fit i u && decide (ld u < 12)) (fun u => cutN (ld u + 1) (pace u)) U) (K := K) hF
  have hLk : LkA K U fit pace ld (fun j => mlr (fun i => fdN (fun u => fit i u && decide (ld u < 12)) (fun u => cutN (ld u + 1) (pace u)) U) K (K - j)) (fun j => dlr (fun i => fdN (fun u => fit i u && decide (ld u < 12)) (fun u => cutN (ld u + 1) (pace u)) U) K (K - j)) := by
    refine ⟨by show mlr _ K (K - K) = 0; rw [Nat.sub_self]; rfl, by show dlr _ K (K - K) = 0; rw [Nat.sub_self]; rfl, fun m hm => ⟨fdN (fun u => fit m u && decide (ld u < 12)) (fun u => cutN (ld u + 1) (pace u)) U, ?_, ?_, ?_⟩⟩
    · show dlr _ K (K - m) = dlr _ K (K - (m + 1)) + _
      rw [show K - m = (K - (m + 1)) + 1 by omega]
      show _ + (fdN (fun u => fit (K - (K - (m + 1) + 1)) u && decide (ld u < 12)) (fun u => cutN (ld u + 1) (pace u)) U) = _
      rw [show K - (K - (m + 1) + 1) = m by omega]
    · show mlr _ K (K - m) = mlr _ K (K - (m + 1)) + _
      rw [show K - m = (K - (m + 1)) + 1 by omega]
      show _ + (if 0 < fdN (fun u => fit (K - (K - (m + 1) + 1)) u && decide (ld u < 12)) (fun u => cutN (ld u + 1) (pace u)) U then 1 else 0) = _
      rw [show K - (K - (m + 1) + 1) = m by omega]
    · intro u hu h1 h2
      exact fdN_ok (can := fun u => fit m u && decide (ld u < 12)) (dy := fun u => cutN (ld u + 1) (pace u)) U (fun v hv => cutN_pos (by have := (c5 v hv).2.1; omega) (by omega)) u hu (by show (fit m u && decide (ld u < 12)) = true; rw [h1, decide_eq_true h2]; rfl)
  obtain ⟨ρ2, r1, r2, r3⟩ := c_seek (fit := fit) (pace := pace) (ml := fun j => mlr (fun i => fdN (fun u => fit i u && decide (ld u < 12)) (fun u => cutN (ld u + 1) (pace u)) U) K (K - j)) (dl := fun j => dlr (fun i => fdN (fun u => fit i u && decide (ld u < 12)) (fun u => cutN (ld u + 1) (pace u)) U) K (K - j)) hK hU K 0 0 0 ld (fun _ => 0) (-1, 0, fun _ => 0) ρ1 (by omega) (by omega) (by omega) (by
    unfold CS
    rw [q8 5 8 (by decide), q8 5 9 (by decide), q7 5 1 (by decide), q7 5 7 (by decide)]
    simp +decide only [II, AA, RR, QQ, IA, IR, IQ, AI, AR, AQ, RI, RA, RQ, QI, QA, QR, LI, LA, LR, LQ, NI, NA, NR, NQ, HI, HA, HR, HQ, SI, SA, SR, SQ, true_and, and_true, or_true, true_or, if_true, if_false, not_true_eq_false, not_false_eq_true, ne_eq, and_self]
    refine ⟨hS1, c2, c3, c4, c5, fun i hi => ?_⟩
    obtain ⟨z1, z2⟩ := p2 i hi
    obtain ⟨z3, z4⟩ := hdl (K - i)
    exact ⟨z1, by omega, z2, by omega⟩) (by
    unfold CD
    rw [q8 5 10 (by decide), q8 5 11 (by decide), q7 5 6 (by decide)]
    simp +decide only [II, AA, RR, QQ, IA, IR, IQ, AI, AR, AQ, RI, RA, RQ, QI, QA, QR, LI, LA, LR, LQ, NI, NA, NR, NQ, HI, HA, HR, HQ, SI, SA, SR, SQ, true_and, and_true, or_true, true_or, if_true, if_false, not_true_eq_false, not_false_eq_true, ne_eq, and_self]
    refine ⟨hL, fun j hj => by omega, by rw [updS0]; rfl, updS0.trans rfl, fun z => z.elim⟩)
  rw [cut_full hLk K 0 ld 0 0 (fun _ => 0) (-1, 0, fun _ => 0) (by omega) (fun _ => Nat.le_refl _)] at r2
  have hfr : frB PV RS ρ ρ1 := frB_t (frB_t (frB_t (frB_t (frB_I (by decide)) (frB_I (by decide))) (frB_A (by decide))) (frB_A (by decide))) (frB_w hb1 hwP hwR)
  refine ⟨ρ2, frB_t hfr (frB_w r1 hwS (fun _ _ h => h)), r2, fun D Q => ?_⟩
  have r3 := fun Q => r3 (D + 9) Q (by omega)
  rw [nI_0] at r3
  have p3 := fun Q => p3 (D + 7) Q
  simp +decide only [e30_0, e30_1, e30_2, e30_5, e30_6, e30_7, e30_10, e30_11, e30_14, e30_15, e30_16, e30_17, e30_18, e30_21, e31_0, e31_1, e31_4, e31_5, e31_8, e31_9, e31_10, e31_11, e31_14, e31_15, e31_18, e31_19, e31_20, e31_21, e31_24, e31_25, e31_26, e31_28, e31_31, e31_32, e31_33, e31_36, e31_37, e31_38, e31_41, e31_42, e31_43, e31_46, e31_47, e31_48, e31_49, e31_50, e31_51, e31_54, e31_55, e31_58, e31_59, e31_60, e31_61, e31_62, e31_65, e31_66, e31_67, e31_70, e31_71, e31_72, e31_73, e31_74, e31_75, e31_76, e31_77, e31_80, e31_83, true_and, and_true, or_true, true_or, if_true, if_false, not_true_eq_false, not_false_eq_true, ne_eq, and_self, Option.toList_some, Option.toList_none, List.cons_append, List.nil_append, catS_0, catS_I, catS_L, catS_R, Option.map_some, Option.map_none, Option.some.injEq, Sum.inl.injEq, exists_eq_left', exists_eq', II, AA, RR, QQ, IA, IR, IQ, AI, AR, AQ, RI, RA, RQ, QI, QA, QR, LI, LA, LR, LQ, NI, NA, NR, NQ, HI, HA, HR, HQ, SI, SA, SR, SQ, p3, r3, c2, y2, y3, y4, y5, N5 a1, N5 hS1, L5_4 a1, L5_5 a1]
/-- the first six of those that o names, among the first t -/
def gcn (o : Nat → Bool) : Nat → Nat
  | 0 => 0
  | t + 1 => if o t = true ∧ gcn o t < 6 then gcn o t + 1 else gcn o t
def gls (o : Nat → Bool) : Nat → Nat → Nat
  | 0 => fun _ => 0
  | t + 1 => if o t = true ∧ gcn o t < 6 then va_up (gls o t) (gcn o t) t else gls o t
theorem gcn_y {o : Nat → Bool} {t : Nat} (h1 : o t = true) (h2 : gcn o t < 6) : gcn o (t + 1) = gcn o t + 1 ∧ gls o (t + 1) = va_up (gls o t) (gcn o t) t := ⟨if_pos ⟨h1, h2⟩, if_pos ⟨h1, h2⟩⟩
theorem gcn_n {o : Nat → Bool} {t : Nat} (h : ¬ (o t = true ∧ gcn o t < 6)) : gcn o (t + 1) = gcn o t ∧ gls o (t + 1) = gls o t := ⟨if_neg h, if_neg h⟩
theorem gcn_le {o : Nat → Bool} : ∀ t, gcn o t ≤ 6 := by
  intro t
  induction t with
  | zero => exact Nat.zero_le _
  | succ t ih =>
    by_cases h : o t = true ∧ gcn o t < 6
    · rw [(gcn_y h.1 h.2).1]; omega
    · rw [(gcn_n h).1]; exact ih
theorem gls_lt {o : Nat → Bool} : ∀ t i, i < gcn o t → gls o t i < t := by
  intro t
  induction t with
  | zero => intro i hi; exact absurd hi (by show ¬ i < 0; omega)
  | succ t ih =>
    intro i hi
    by_cases h : o t = true ∧ gcn o t < 6
    · rw [(gcn_y h.1 h.2).1] at hi
      rw [(gcn_y h.1 h.2).2]
      by_cases hit : i = gcn o t
      · rw [hit, vaS]; omega
      · rw [va_up_ne _ _ hit]; have := ih i (by omega); omega
    · rw [(gcn_n h).1] at hi
      rw [(gcn_n h).2]
      have := ih i hi
      omega
theorem gcn_6 {o : Nat → Bool} {t : Nat} (h : ¬ gcn o t < 6) : ∀ n, gcn o (t + n) = gcn o t ∧ gls o (t + n) = gls o t := by
  intro n
  induction n with
  | zero => exact ⟨rfl, rfl⟩
  | succ n ih =>
    have hn : ¬ (o (t + n) = true ∧ gcn o (t + n) < 6) := fun z => by rw [ih.1] at z; exact h z.2
    show gcn o (t + n + 1) = _ ∧ gls o (t + n + 1) = _
    rw [(gcn_n hn).1, (gcn_n hn).2]
    exact ih
def PGa (c k : Nat) : Bool := decide (c = 5 ∧ (k = 0 ∨ k = 1 ∨ k = 6 ∨ k = 7))
def RGa (c k : Nat) : Bool := decide (c = 5 ∧ (k = 8 ∨ k = 9))
/-- what the gathering reads -/
def GW (U T : Nat) (o : Nat → Bool) (s : Nat → Nat → Bool) (b : Int32) (ρ : St) : Prop := SH ρ ∧ gI ρ 11 9 0 = nI U ∧ gN ρ 9 = U ∧ (∀ u, u < U → gQ ρ 11 8 0 u = some u) ∧ gI ρ 11 11 0 = nI T ∧ gN ρ 8 = T ∧ (∀ t, t < T → gQ ρ 11 10 0 t = some t) ∧ (∀ t, t < T → (gI ρ 8 5 t = 1 ∧ gI ρ 8 8 t = -4 ∧ (gI ρ 8 7 t).toInt ≤ b.toInt) = (o t = true)) ∧ ∀ t u, t < T → u < U → ((gI ρ 9 0 u >>> ((gI ρ 8 1 t / 10) &&& 31)) &&& 1 = 1 ∧ (gI ρ 9 2 u >>> (gI ρ 8 0 t &&& 31)) &&& 1 = 0) = (s t u = true)
theorem GW_fr {U T : Nat} {o : Nat → Bool} {s : Nat → Nat → Bool} {b : Int32} {ρ ρ' : St} (h : frB PGa RGa ρ ρ') (hW : GW U T o s b ρ) : GW U T o s b ρ' := by
  have hS := SH_frB h hW.1
  obtain ⟨h1, h2, h3, h4, h5, h6, h7, h8⟩ := h
  obtain ⟨c1, c2⟩ := hW
  refine ⟨hS, ?_⟩
  rw [h8 11 9 (by decide), h8 11 11 (by decide), h8 8 5 (by decide), h8 8 8 (by decide), h8 8 7 (by decide), h8 8 1 (by decide), h8 8 0 (by decide), h8 9 0 (by decide), h8 9 2 (by decide), h4, h2]
  exact c2
section GATH
variable {U T : Nat} {o : Nat → Bool} {s : Nat → Nat → Bool} {b : Int32}
theorem c_gT (hU : U ≤ 6) : ∀ (n u : Nat) (ρ : St), u + n = U → GW U T o s b ρ → gI ρ 5 9 0 = nI u → (∀ v, v < u → gA ρ 5 6 0 v = gI ρ 9 3 v ∧ gA ρ 5 7 0 v = gI ρ 9 1 v) → ∃ ρ', frB PGa RGa ρ ρ' ∧ gI ρ' 5 8 = gI ρ 5 8 ∧ gI ρ' 5 9 0 = nI U ∧ (∀ v, v < U → gA ρ' 5 6 0 v = gI ρ' 9 3 v ∧ gA ρ' 5 7 0 v = gI ρ' 9 1 v) ∧ ∀ D Q, Rn (D + 1) Q (124, 9, [some (vR (some (11, 0, 0))), some (vI b), some (vI (nI u))], [], ρ) = Rn (D + 1) Q (124, 36, [some (vR (some (11, 0, 0))), some (vI b), some (vI (nI U))], [], ρ') := by
  intro n
  induction n with
  | zero =>
    intro u ρ hu hW h1 h2
    obtain ⟨a1, c1, c2, c3, c4⟩ := hW
    have hu : u = U := by omega
    subst hu
    have y1 : nI u ≤ nI u := nI_le (by omega) (by omega)
    refine ⟨ρ, frB_0, rfl, h1, h2, fun D Q => ?_⟩
    rw [e124_9]
    simp +decide only [e124_0, e124_1, e124_4, e124_7, e124_8, e124_10, e124_11, e124_14, e124_17, e124_18, e124_21, e124_22, e124_25, e124_26, e124_27, e124_30, e124_33, e124_36, e124_37, e124_39, e124_40, e124_43, e124_46, e124_47, e124_50, e124_51, e124_52, e124_53, e124_56, e124_59, e124_60, e124_63, e124_64, e124_65, e124_66, e124_69, e124_70, e124_71, e124_74, e124_77, e124_80, e124_83, e124_84, e124_87, e124_90, true_and, and_true, or_true, true_or, if_true, if_false, not_true_eq_false, not_false_eq_true, ne_eq, and_self, Option.toList_some, Option.toList_none, List.cons_append, List.nil_append, catS_0, catS_I, catS_L, catS_R, Option.map_some, Option.map_none, c1, y1, N11 a1]
  | succ n ih =>
    intro u ρ hu hW h1 h2
    have hW0 := hW
    obtain ⟨a1, c1, c2, c3, c4⟩ := hW
    have y1 : ¬ nI U ≤ nI u := nI_ge (by omega) (by omega)
    have y2 : (nI u).toInt = (u : Int) := nI_toInt (by omega)
    have y3 : (0 : Int) ≤ (u : Int) := by omega
    have y4 : (u : Int) < ((6 : Nat) : Int) := by omega
    have y5 : (nI u).toNatClampNeg = u := nI_clamp (by omega)
    have y6 : ¬ (6 : Int32) ≤ nI u := nI_ge (b := 6) (by omega) (by omega)
    have y7 : u < gN ρ 9 := by omega
    have cq := c3 u (by omega)
    obtain ⟨ρ', p1, p4, p2, p3, p5⟩ := ih (u + 1) (setI (setA (setA ρ 5 6 0 (upd (gA ρ 5 6 0) u (gI ρ 9 3 u))) 5 7 0 (upd (gA ρ 5 7 0) u (gI ρ 9 1 u))) 5 9 0 (nI (u + 1))) (by omega) (GW_fr (frB_t (frB_t (frB_A (by decide)) (frB_A (by decide))) (frB_I (by decide))) hW0) (by simp +decide only [II, AA, RR, QQ, IA, IR, IQ, AI, AR, AQ, RI, RA, RQ, QI, QA, QR, LI, LA, LR, LQ, NI, NA, NR, NQ, HI, HA, HR, HQ, SI, SA, SR, SQ, true_and, and_true, or_true, true_or, if_true, if_false, not_true_eq_false, not_false_eq_true, ne_eq, and_self]; exact updS0) (by
      simp +decide only [II, AA, RR, QQ, IA, IR, IQ, AI, AR, AQ, RI, RA, RQ, QI, QA, QR, LI, LA, LR, LQ, NI, NA, NR, NQ, HI, HA, HR, HQ, SI, SA, SR, SQ, true_and, and_true, or_true, true_or, if_true, if_false, not_true_eq_false, not_false_eq_true, ne_eq, and_self]
      intro v hv
      by_cases hvu : v = u
      · rw [hvu, updS0, updS0]; exact ⟨rfl, rfl⟩
      · rw [pk_un hvu, pk_un hvu]; exact h2 v (by omega))
    refine ⟨ρ', frB_t (frB_t (frB_t (frB_A (by decide)) (frB_A (by decide))) (frB_I (by decide))) p1, by rw [p4]; simp +decide only [II, AA, RR, QQ, IA, IR, IQ, AI, AR, AQ, RI, RA, RQ, QI, QA, QR, LI, LA, LR, LQ, NI, NA, NR, NQ, HI, HA, HR, HQ, SI, SA, SR, SQ, true_and, and_true, or_true, true_or, if_true, if_false, not_true_eq_false, not_false_eq_true, ne_eq, and_self], p2, p3, fun D Q => ?_⟩
    rw [← p5 D Q, e124_9, ← nI_1 u]
    simp +decide only [e124_0, e124_1, e124_4, e124_7, e124_8, e124_10, e124_11, e124_14, e124_17, e124_18, e124_21, e124_22, e124_25, e124_26, e124_27, e124_30, e124_33, e124_36, e124_37, e124_39, e124_40, e124_43, e124_46, e124_47, e124_50, e124_51, e124_52, e124_53, e124_56, e124_59, e124_60, e124_63, e124_64, e124_65, e124_66, e124_69, e124_70, e124_71, e124_74, e124_77, e124_80, e124_83, e124_84, e124_87, e124_90, e28_0, e28_1, e28_4, e28_6, e28_9, e28_10, e28_13, e28_14, e28_17, e28_18, e28_21, e28_22, e28_23, e28_26, e28_27, e28_30, e28_31, e28_34, e28_35, e28_36, e28_37, e28_40, e28_41, e28_42, e28_45, true_and, and_true, or_true, true_or, if_true, if_false, not_true_eq_false, not_false_eq_true, ne_eq, and_self, Option.toList_some, Option.toList_none, List.cons_append, List.nil_append, catS_0, catS_I, catS_L, catS_R, Option.map_some, Option.map_none, Option.some.injEq, Sum.inl.injEq, exists_eq_left', exists_eq', II, AA, RR, QQ, IA, IR, IQ, AI, AR, AQ, RI, RA, RQ, QI, QA, QR, LI, LA, LR, LQ, NI, NA, NR, NQ, HI, HA, HR, HQ, SI, SA, SR, SQ, c1, cq, h1, y1, y2, y3, y4, y5, y6, y7, nI_1, N11 a1, N5 a1, L11_8 a1, R11_17 a1, L5_6 a1, L5_7 a1]
theorem c_tutF {ρ : St} {D t : Nat} {Q : Option AV → St → Prop} (hU : U ≤ 6) (hW : GW U T o s b ρ) (ht : t < T) : ∀ n u, u + n = U → Rn (D + 1) Q (125, 4, [some (vR (some (11, 0, 0))), some (vR (some (8, 0, t))), some (vI (nI (accB (s t) u))), some (vI (nI u))], [], ρ) = Q (some (vI (nI (accB (s t) U)))) ρ := by
  obtain ⟨a1, c1, c2, c3, c4, c5, c6, c7, c8⟩ := hW
  intro n
  induction n with
  | zero =>
    intro u hu
    have hu : u = U := by omega
    subst hu
    have y1 : nI u ≤ nI u := nI_le (by omega) (by omega)
    rw [e125_4]
    simp +decide only [e125_0, e125_1, e125_2, e125_3, e125_5, e125_6, e125_9, e125_12, e125_13, e125_16, e125_17, e125_18, e125_19, e125_22, e125_25, e125_26, e125_27, e125_28, e125_29, e125_30, e125_31, e125_34, e125_37, e125_38, true_and, and_true, or_true, true_or, if_true, if_false, not_true_eq_false, not_false_eq_true, ne_eq, and_self, Option.toList_some, Option.toList_none, List.cons_append, List.nil_append, catS_0, catS_I, catS_L, catS_R, Option.map_some, Option.map_none, c1, y1, N11 a1]
  | succ n ih =>
    intro u hu
    have y1 : ¬ nI U ≤ nI u := nI_ge (by omega) (by omega)
    have y2 : (nI u).toInt = (u : Int) := nI_toInt (by omega)
    have y3 : (0 : Int) ≤ (u : Int) := by omega
    have y4 : (u : Int) < ((6 : Nat) : Int) := by omega
    have y5 : (nI u).toNatClampNeg = u := nI_clamp (by omega)
    have y7 : u < gN ρ 9 := by omega
    have y8 : t < gN ρ 8 := by omega
    have cq := c3 u (by omega)
    have mm := fun {d : Nat} {Q : Option AV → St → Prop} => c_mayMark (d := d) (Q := Q) y8 y7
    simp only [c8 t u ht (by omega)] at mm
    have ih := ih (u + 1) (by omega)
    rw [← ih, e125_4, ← nI_1 u]
    cases hs : s t u with
    | true =>
      have os : (1 : Int32) <<< (nI u &&& 31) = nI (2 ^ u) := one_sh (by omega)
      rw [hs] at mm
      rw [accB_t hs, ← nI_or]
      simp +decide only [e125_0, e125_1, e125_2, e125_3, e125_5, e125_6, e125_9, e125_12, e125_13, e125_16, e125_17, e125_18, e125_19, e125_22, e125_25, e125_26, e125_27, e125_28, e125_29, e125_30, e125_31, e125_34, e125_37, e125_38, true_and, and_true, or_true, true_or, if_true, if_false, not_true_eq_false, not_false_eq_true, ne_eq, and_self, Option.toList_some, Option.toList_none, List.cons_append, List.nil_append, catS_0, catS_I, catS_L, catS_R, Option.map_some, Option.map_none, Option.some.injEq, Sum.inl.injEq, exists_eq_left', exists_eq', c1, cq, mm, y1, y2, y3, y4, y5, y7, os, N11 a1, L11_8 a1]
    | false =>
      rw [hs] at mm
      rw [accB_f hs]
      simp +decide only [e125_0, e125_1, e125_2, e125_3, e125_5, e125_6, e125_9, e125_12, e125_13, e125_16, e125_17, e125_18, e125_19, e125_22, e125_25, e125_26, e125_27, e125_28, e125_29, e125_30, e125_31, e125_34, e125_37, e125_38, true_and, and_true, or_true, true_or, if_true, if_false, not_true_eq_false, not_false_eq_true, ne_eq, and_self, Option.toList_some, Option.toList_none, List.cons_append, List.nil_append, catS_0, catS_I, catS_L, catS_R, Option.map_some, Option.map_none, Option.some.injEq, Sum.inl.injEq, exists_eq_left', exists_eq', c1, cq, mm, y1, y2, y3, y4, y5, y7, N11 a1, L11_8 a1]
theorem c_gH (hU : U ≤ 6) (hT : T ≤ 80) : ∀ (n t : Nat) (ρ : St), t + n = T → GW U T o s b ρ → gI ρ 5 8 0 = nI (gcn o t) → (∀ i, i < gcn o t → gA ρ 5 0 0 i = nI (gls o t i) ∧ gA ρ 5 1 0 i = nI (accB (s (gls o t i)) U)) → ∃ ρ', frB PGa RGa ρ ρ' ∧ gI ρ' 5 9 = gI ρ 5 9 ∧ gA ρ' 5 6 = gA ρ 5 6 ∧ gA ρ' 5 7 = gA ρ 5 7 ∧ gI ρ' 5 8 0 = nI (gcn o T) ∧ (∀ i, i < gcn o T → gA ρ' 5 0 0 i = nI (gls o T i) ∧ gA ρ' 5 1 0 i = nI (accB (s (gls o T i)) U)) ∧ ∀ D Q, Rn (D + 2) Q (124, 38, [some (vR (some (11, 0, 0))), some (vI b), some (vI (nI t))], [], ρ) = Rn (D + 2) Q (124, 83, [some (vR (some (11, 0, 0))), some (vI b), some (vI (nI T))], [], ρ') := by
  intro n
  induction n with
  | zero =>
    intro t ρ hu hW h1 h2
    obtain ⟨a1, c1, c2, c3, c4, c5⟩ := hW
    have hu : t = T := by omega
    subst hu
    have y1 : nI t ≤ nI t := nI_le (by omega) (by omega)
    refine ⟨ρ, frB_0, rfl, rfl, rfl, h1, h2, fun D Q => ?_⟩
    rw [e124_38]
    simp +decide only [e124_0, e124_1, e124_4, e124_7, e124_8, e124_10, e124_11, e124_14, e124_17, e124_18, e124_21, e124_22, e124_25, e124_26, e124_27, e124_30, e124_33, e124_36, e124_37, e124_39, e124_40, e124_43, e124_46, e124_47, e124_50, e124_51, e124_52, e124_53, e124_56, e124_59, e124_60, e124_63, e124_64, e124_65, e124_66, e124_69, e124_70, e124_71, e124_74, e124_77, e124_80, e124_83, e124_84, e124_87, e124_90, true_and, and_true, or_true, true_or, if_true, if_false, not_true_eq_false, not_false_eq_true, ne_eq, and_self, Option.toList_some, Option.toList_none, List.cons_append, List.nil_append, catS_0, catS_I, catS_L, catS_R, Option.map_some, Option.map_none, c4, y1, N11 a1]
  | succ n ih =>
    intro t ρ hu hW h1 h2
    have hW0 := hW
    obtain ⟨a1, c1, c2, c3, c4, c5, c6, c7, c8⟩ := hW
    have y1 : ¬ nI T ≤ nI t := nI_ge (by omega) (by omega)
    have y2 : (nI t).toInt = (t : Int) := nI_toInt (by omega)
    have y3 : (0 : Int) ≤ (t : Int) := by omega
    have y4 : (t : Int) < ((80 : Nat) : Int) := by omega
    have y5 : (nI t).toNatClampNeg = t := nI_clamp (by omega)
    have y8 : t < gN ρ 8 := by omega
    have cq := c6 t (by omega)
    have io := fun {d : Nat} {Q : Option AV → St → Prop} => c_isOpenBy (d := d) (Q := Q) (b := b) y8
    simp only [c7 t (by omega)] at io
    have tf := fun {D : Nat} {Q : Option AV → St → Prop} => c_tutF (D := D) (Q := Q) (t := t) hU hW0 (by omega) U 0 (by omega)
    rw [show accB (s t) 0 = 0 from rfl, nI_0] at tf
    have gl := gcn_le (o := o) t
    cases ho : o t with
    | false =>
      rw [ho] at io
      obtain ⟨k1, k2⟩ := gcn_n (o := o) (t := t) (fun z => by rw [ho] at z; exact absurd z.1 (by decide))
      obtain ⟨ρ', p1, p2⟩ := ih (t + 1) ρ (by omega) hW0 (by rw [k1]; exact h1) (by rw [k1, k2]; exact h2)
      obtain ⟨p2, p3, p4, p5, p6, p7⟩ := p2
      refine ⟨ρ', p1, p2, p3, p4, p5, p6, fun D Q => ?_⟩
      rw [← p7 D Q, e124_38, ← nI_1 t]
      simp +decide only [e124_0, e124_1, e124_4, e124_7, e124_8, e124_10, e124_11, e124_14, e124_17, e124_18, e124_21, e124_22, e124_25, e124_26, e124_27, e124_30, e124_33, e124_36, e124_37, e124_39, e124_40, e124_43, e124_46, e124_47, e124_50, e124_51, e124_52, e124_53, e124_56, e124_59, e124_60, e124_63, e124_64, e124_65, e124_66, e124_69, e124_70, e124_71, e124_74, e124_77, e124_80, e124_83, e124_84, e124_87, e124_90, true_and, and_true, or_true, true_or, if_true, if_false, not_true_eq_false, not_false_eq_true, ne_eq, and_self, Option.toList_some, Option.toList_none, List.cons_append, List.nil_append, catS_0, catS_I, catS_L, catS_R, Option.map_some, Option.map_none, Option.some.injEq, Sum.inl.injEq, exists_eq_left', exists_eq', c4, cq, io, y1, y2, y3, y4, y5, y8, N11 a1, L11_10 a1]
    | true =>
      rw [ho] at io
      by_cases h6 : gcn o t < 6
      · obtain ⟨k1, k2⟩ := gcn_y ho h6
        have z1 : ¬ (6 : Int32) ≤ nI (gcn o t) := nI_ge (b := 6) (by omega) (by omega)
        have z2 : (nI (gcn o t)).toInt = (gcn o t : Int) := nI_toInt (by omega)
        have z3 : (0 : Int) ≤ (gcn o t : Int) := by omega
        have z4 : (gcn o t : Int) < ((6 : Nat) : Int) := by omega
        have z5 : (nI (gcn o t)).toNatClampNeg = gcn o t := nI_clamp (by omega)
        obtain ⟨ρ', p1, p2, p3, p4, p5, p6, p7⟩ := ih (t + 1) (setI (setA (setA ρ 5 0 0 (upd (gA ρ 5 0 0) (gcn o t) (nI t))) 5 1 0 (upd (gA ρ 5 1 0) (gcn o t) (nI (accB (s t) U)))) 5 8 0 (nI (gcn o t + 1))) (by omega) (GW_fr (frB_t (frB_t (frB_A (by decide)) (frB_A (by decide))) (frB_I (by decide))) hW0) (by simp +decide only [II, AA, RR, QQ, IA, IR, IQ, AI, AR, AQ, RI, RA, RQ, QI, QA, QR, LI, LA, LR, LQ, NI, NA, NR, NQ, HI, HA, HR, HQ, SI, SA, SR, SQ, true_and, and_true, or_true, true_or, if_true, if_false, not_true_eq_false, not_false_eq_true, ne_eq, and_self]; rw [updS0, k1]) (by
          simp +decide only [II, AA, RR, QQ, IA, IR, IQ, AI, AR, AQ, RI, RA, RQ, QI, QA, QR, LI, LA, LR, LQ, NI, NA, NR, NQ, HI, HA, HR, HQ, SI, SA, SR, SQ, true_and, and_true, or_true, true_or, if_true, if_false, not_true_eq_false, not_false_eq_true, ne_eq, and_self]
          rw [k1, k2]
          intro i hi
          by_cases hit : i = gcn o t
          · rw [hit, updS0, updS0, vaS]; exact ⟨rfl, rfl⟩
          · rw [pk_un hit, pk_un hit, va_up_ne _ _ hit]; exact h2 i (by omega))
        refine ⟨ρ', frB_t (frB_t (frB_t (frB_A (by decide)) (frB_A (by decide))) (frB_I (by decide))) p1, by rw [p2]; simp +decide only [II, AA, RR, QQ, IA, IR, IQ, AI, AR, AQ, RI, RA, RQ, QI, QA, QR, LI, LA, LR, LQ, NI, NA, NR, NQ, HI, HA, HR, HQ, SI, SA, SR, SQ, true_and, and_true, or_true, true_or, if_true, if_false, not_true_eq_false, not_false_eq_true, ne_eq, and_self], by rw [p3]; simp +decide only [II, AA, RR, QQ, IA, IR, IQ, AI, AR, AQ, RI, RA, RQ, QI, QA, QR, LI, LA, LR, LQ, NI, NA, NR, NQ, HI, HA, HR, HQ, SI, SA, SR, SQ, true_and, and_true, or_true, true_or, if_true, if_false, not_true_eq_false, not_false_eq_true, ne_eq, and_self], by rw [p4]; simp +decide only [II, AA, RR, QQ, IA, IR, IQ, AI, AR, AQ, RI, RA, RQ, QI, QA, QR, LI, LA, LR, LQ, NI, NA, NR, NQ, HI, HA, HR, HQ, SI, SA, SR, SQ, true_and, and_true, or_true, true_or, if_true, if_false, not_true_eq_false, not_false_eq_true, ne_eq, and_self], p5, p6, fun D Q => ?_⟩
        rw [← p7 D Q, e124_38, ← nI_1 t]
        simp +decide only [e124_0, e124_1, e124_4, e124_7, e124_8, e124_10, e124_11, e124_14, e124_17, e124_18, e124_21, e124_22, e124_25, e124_26, e124_27, e124_30, e124_33, e124_36, e124_37, e124_39, e124_40, e124_43, e124_46, e124_47, e124_50, e124_51, e124_52, e124_53, e124_56, e124_59, e124_60, e124_63, e124_64, e124_65, e124_66, e124_69, e124_70, e124_71, e124_74, e124_77, e124_80, e124_83, e124_84, e124_87, e124_90, e125_0, e125_1, e125_2, e125_3, e125_5, e125_6, e125_9, e125_12, e125_13, e125_16, e125_17, e125_18, e125_19, e125_22, e125_25, e125_26, e125_27, e125_28, e125_29, e125_30, e125_31, e125_34, e125_37, e125_38, e29_0, e29_1, e29_4, e29_6, e29_9, e29_10, e29_13, e29_14, e29_17, e29_18, e29_19, e29_20, e29_23, e29_24, e29_27, e29_28, e29_29, e29_30, e29_31, e29_34, e29_35, e29_36, e29_39, true_and, and_true, or_true, true_or, if_true, if_false, not_true_eq_false, not_false_eq_true, ne_eq, and_self, Option.toList_some, Option.toList_none, List.cons_append, List.nil_append, catS_0, catS_I, catS_L, catS_R, Option.map_some, Option.map_none, Option.some.injEq, Sum.inl.injEq, exists_eq_left', exists_eq', II, AA, RR, QQ, IA, IR, IQ, AI, AR, AQ, RI, RA, RQ, QI, QA, QR, LI, LA, LR, LQ, NI, NA, NR, NQ, HI, HA, HR, HQ, SI, SA, SR, SQ, c4, cq, h1, io, tf, y1, y2, y3, y4, y5, y8, z1, z2, z3, z4, z5, nI_1 (gcn o t), N11 a1, N5 a1, L11_10 a1, R11_17 a1, L5_0 a1, L5_1 a1]
      · obtain ⟨k1, k2⟩ := gcn_n (o := o) (t := t) (fun z => h6 z.2)
        have z1 : (6 : Int32) ≤ nI (gcn o t) := nI_le (a := 6) (by omega) (by omega)
        obtain ⟨ρ', p1, p2, p3, p4, p5, p6, p7⟩ := ih (t + 1) ρ (by omega) hW0 (by rw [k1]; exact h1) (by rw [k1, k2]; exact h2)
        refine ⟨ρ', p1, p2, p3, p4, p5, p6, fun D Q => ?_⟩
        rw [← p7 D Q, e124_38, ← nI_1 t]
        simp +decide only [e124_0, e124_1, e124_4, e124_7, e124_8, e124_10, e124_11, e124_14, e124_17, e124_18, e124_21, e124_22, e124_25, e124_26, e124_27, e124_30, e124_33, e124_36, e124_37, e124_39, e124_40, e124_43, e124_46, e124_47, e124_50, e124_51, e124_52, e124_53, e124_56, e124_59, e124_60, e124_63, e124_64, e124_65, e124_66, e124_69, e124_70, e124_71, e124_74, e124_77, e124_80, e124_83, e124_84, e124_87, e124_90, e125_0, e125_1, e125_2, e125_3, e125_5, e125_6, e125_9, e125_12, e125_13, e125_16, e125_17, e125_18, e125_19, e125_22, e125_25, e125_26, e125_27, e125_28, e125_29, e125_30, e125_31, e125_34, e125_37, e125_38, e29_0, e29_1, e29_4, e29_6, e29_9, e29_10, e29_13, e29_14, e29_17, e29_18, e29_19, e29_20, e29_23, e29_24, e29_27, e29_28, e29_29, e29_30, e29_31, e29_34, e29_35, e29_36, e29_39, true_and, and_true, or_true, true_or, if_true, if_false, not_true_eq_false, not_false_eq_true, ne_eq, and_self, Option.toList_some, Option.toList_none, List.cons_append, List.nil_append, catS_0, catS_I, catS_L, catS_R, Option.map_some, Option.map_none, Option.some.injEq, Sum.inl.injEq, exists_eq_left', exists_eq', II, AA, RR, QQ, IA, IR, IQ, AI, AR, AQ, RI, RA, RQ, QI, QA, QR, LI, LA, LR, LQ, NI, NA, NR, NQ, HI, HA, HR, HQ, SI, SA, SR, SQ, c4, cq, h1, io, tf, y1, y2, y3, y4, y5, y8, z1, N11 a1, N5 a1, L11_10 a1, R11_17 a1]
end GATH
