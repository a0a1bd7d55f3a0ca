def PX0 (c k : Nat) : Bool := decide (c = 12 ∧ ((4 ≤ k ∧ k ≤ 8) ∨ k = 13))
/-- what a reading may have touched -/
def FA (z : Nat) (σ τ : St) : Prop := (∀ c k, c ≠ 0 → PX0 c k = false → gA τ c k = gA σ c k) ∧ (∀ c k, c ≠ 0 → RX c k = false → gI τ c k = gI σ c k) ∧ (∀ k i, i ≠ z → gA τ 0 k i = gA σ 0 k i ∧ gI τ 0 k i = gI σ 0 k i) ∧ gR τ = gR σ ∧ gQ τ = gQ σ ∧ gL τ = gL σ ∧ gN τ = gN σ ∧ gH τ = gH σ ∧ gS τ = gS σ
theorem FA_t {z : Nat} {σ τ υ : St} (h1 : FA z σ τ) (h2 : FA z τ υ) : FA z σ υ := by
  obtain ⟨a1, a2, a3, a4, a5, a6, a7, a8, a9⟩ := h1
  obtain ⟨b1, b2, b3, b4, b5, b6, b7, b8, b9⟩ := h2
  exact ⟨fun c k hc hp => (b1 c k hc hp).trans (a1 c k hc hp), fun c k hc hp => (b2 c k hc hp).trans (a2 c k hc hp), fun k i hi => ⟨(b3 k i hi).1.trans (a3 k i hi).1, (b3 k i hi).2.trans (a3 k i hi).2⟩, b4.trans a4, b5.trans a5, b6.trans a6, b7.trans a7, b8.trans a8, b9.trans a9⟩
theorem FA_I {z : Nat} {σ : St} {c k i : Nat} {v : Int32} (h : (c ≠ 0 ∧ RX c k = true) ∨ (c = 0 ∧ i = z)) : FA z σ (setI σ c k i v) := by
  refine ⟨fun _ _ _ _ => rfl, fun a b ha hp => ?_, fun b j hj => ⟨rfl, ?_⟩, rfl, rfl, rfl, rfl, rfl, rfl⟩
  · rw [II, if_neg]
    rintro ⟨rfl, rfl⟩
    rcases h with h | h
    · rw [h.2] at hp; cases hp
    · exact ha h.1
  · rcases h with h | h
    · rw [II, if_neg (fun w => h.1 w.1.symm)]
    · rw [h.2]; exact gI_oi hj
theorem FA_Z {z : Nat} {σ τ : St} (h : frZ z σ τ) : FA z σ τ := by
  obtain ⟨⟨h1, h2, h3, h4, h5, h6, h7, h8⟩, f2, f3⟩ := h
  refine ⟨fun c k hc _ => h7 c k (by unfold PEz; rw [decide_eq_false_iff_not]; omega), fun c k hc hp => h8 c k ?_, fun k i hi => ⟨f2 k i hi, f3 k i hi⟩, h1, h2, h3, h4, h5, h6⟩
  unfold RX at hp
  unfold REz
  rw [decide_eq_false_iff_not] at *
  omega
theorem FA_M {z : Nat} {σ τ : St} (h : frB PMl RMe σ τ) : FA z σ τ := by
  obtain ⟨h1, h2, h3, h4, h5, h6, h7, h8⟩ := h
  refine ⟨fun c k hc hp => h7 c k ?_, fun c k hc hp => h8 c k ?_, fun k i _ => ⟨?_, ?_⟩, h1, h2, h3, h4, h5, h6⟩
  · unfold PX0 at hp
    unfold PMl
    exact hp
  · unfold RX at hp
    unfold RMe
    rw [decide_eq_false_iff_not] at *
    omega
  · rw [h7 0 k (by unfold PMl; rw [decide_eq_false_iff_not]; omega)]
  · rw [h8 0 k (by unfold RMe; rw [decide_eq_false_iff_not]; omega)]
theorem FA_SH {z : Nat} {σ τ : St} (h : FA z σ τ) (a1 : SH σ) : SH τ := by
  obtain ⟨-, -, -, h4, h5, h6, h7, -⟩ := h
  unfold SH
  rw [h4, h5, h6, h7]
  exact a1
theorem Inv_fail {h0 n z : Nat} {σ τ : St} (h : Inv h0 n σ) (hz : gR σ 11 4 0 = some z) (hf : FA z σ τ) (t1 : gI τ 7 1 0 = 0) (t2 : gI τ 12 1 0 = 0) : Inv h0 (n + 1) τ := by
  have a1 := h.1
  have a8 := h.2.2.2.2.2.2.2.1
  have a12 := h.2.2.2.2.2.2.2.2.2.2.2.1
  have a13 := h.2.2.2.2.2.2.2.2.2.2.2.2
  have hS := FA_SH hf a1
  obtain ⟨f1, f2, f3, f4, f5, f6, f7, f8, f9⟩ := hf
  have hp : ∀ c k, PX c k = false → PX0 c k = false := by
    intro c k hh
    unfold PX at hh
    unfold PX0
    rw [decide_eq_false_iff_not] at *
    omega
  refine Inv_X h hS (fun c k hc hpx => f1 c k hc (hp c k hpx)) f2 (by rw [f5]) (by rw [f5]) (by rw [f5]) (by rw [f5]) (by rw [f4]) (by rw [f4]) (by rw [f7]) (by rw [f7]) (by rw [f7]) (by rw [f8, f9]; exact a13.up) t1 t2 ?_ ?_
  · rw [f5, f1 12 15 (by decide) (by decide)]
    exact a8
  · rw [f7, f4, f5, f1 11 2 (by decide) (by decide), f1 12 15 (by decide) (by decide), f1 12 16 (by decide) (by decide), f1 12 17 (by decide) (by decide), f1 12 18 (by decide) (by decide), f1 12 19 (by decide) (by decide), f1 12 20 (by decide) (by decide), f1 12 21 (by decide) (by decide), f1 12 22 (by decide) (by decide)]
    obtain ⟨⟨z', e1, e2, e3⟩, e4⟩ := a12
    have hzz : z' = z := by rw [e2] at hz; cases hz; rfl
    subst hzz
    refine ⟨⟨z', e1, e2, fun co y hco hy hm => ?_⟩, e4⟩
    obtain ⟨i, i1, i2, i3⟩ := e3 co y hco hy hm
    refine ⟨i, i1, i2, ?_⟩
    have hne : i ≠ z' := by omega
    rw [(f3 0 i hne).2, (f3 1 i hne).2, (f3 2 i hne).1, (f3 3 i hne).1, (f3 4 i hne).1, (f3 5 i hne).1, (f3 6 i hne).1, (f3 7 i hne).1]
    exact i3
theorem c_latest {σ : St} {x y z : Nat} {D : Nat} {Q : Option AV → St → Prop} {l2 : Option AV} (a1 : SH σ) (hx : x < 4) (hy : y ≤ 6) (hm : gA σ 12 15 0 x = nI y) (hec : ∀ co, co < 4 → gA σ 11 2 0 co = gA σ 12 15 0 co) (hgn : gN σ 0 = z + 1) (hed : 0 < y → ∃ i, i < z ∧ gQ σ 11 1 0 (6 * x + (y - 1)) = some i ∧ gI σ 0 0 i = gA σ 12 16 0 (6 * x + (y - 1))) : Rn (D + 2) Q (117, 0, [some (vR (some (11, 0, 0))), some (vI (nI x)), l2], [], σ) = Q (some (vI (if 0 < y then gA σ 12 16 0 (6 * x + (y - 1)) else 0))) σ := by
  have e3 : (nI x).toInt = (x : Int) := nI_toInt (by omega)
  have e4 : (nI x).toNatClampNeg = x := nI_clamp (by omega)
  have x0 : (0 : Int) ≤ (x : Int) := by omega
  have x1 : (x : Int) < ((4 : Nat) : Int) := by omega
  have hex := hec x hx
  rw [hm] at hex
  cases y with
  | zero =>
    rw [if_neg (by omega)]
    have ce := fun {d : Nat} {Q : Option AV → St → Prop} => c_ed_n (d := d) (Q := Q) (a := nI x) (c := nI 0 - 1) a1 hec (fun w => by
      have := w.2.1
      rw [nI_m1 (by omega)] at this
      omega)
    simp +decide only [e117_0, e117_1, e117_2, e117_3, e117_6, e117_7, e117_8, e117_9, e117_10, e117_13, e117_14, e117_15N, e117_15S, e117_18, e117_19, e117_22, e117_23, e117_26, true_and, and_true, or_true, true_or, if_true, if_false, not_true_eq_false, not_false_eq_true, ne_eq, and_self, Option.toList_some, Option.toList_none, List.cons_append, List.nil_append, catS_0, catS_I, catS_L, catS_R, Option.map_some, Option.map_none, Option.some.injEq, Sum.inl.injEq, exists_eq_left', exists_eq', hex, ce, e3, e4, x0, x1, N11 a1, L11_2 a1]
  | succ y =>
    rw [if_pos (by omega)]
    obtain ⟨i, i1, i2, i3⟩ := hed (by omega)
    rw [Nat.add_sub_cancel] at i2 i3 ⊢
    have hi0 : i < gN σ 0 := by omega
    have hyi : (nI (y + 1)).toInt = ((y + 1 : Nat) : Int) := nI_toInt (by omega)
    have ce := fun {d : Nat} {Q : Option AV → St → Prop} => c_ed_y (d := d) (Q := Q) a1 hx (show y < 6 by omega) (hec x hx) (by rw [hm, hyi]; omega) i2
    have yp : nI (y + 1) - 1 = nI y := nI_pred y
    simp +decide only [e117_0, e117_1, e117_2, e117_3, e117_6, e117_7, e117_8, e117_9, e117_10, e117_13, e117_14, e117_15N, e117_15S, e117_18, e117_19, e117_22, e117_23, e117_26, true_and, and_true, or_true, true_or, if_true, if_false, not_true_eq_false, not_false_eq_true, ne_eq, and_self, Option.toList_some, Option.toList_none, List.cons_append, List.nil_append, catS_0, catS_I, catS_L, catS_R, Option.map_some, Option.map_none, Option.some.injEq, Sum.inl.injEq, exists_eq_left', exists_eq', hex, yp, ce, i3, hi0, e3, e4, x0, x1, N11 a1, L11_2 a1]
def miS (τ : St) : St := setI (setI (setI (setI (setI (setI τ 12 2 0 0) 12 3 0 0) 12 9 0 0) 12 10 0 0) 12 11 0 0) 12 12 0 0
theorem ME_0 {c : Nat → Int32} {n : Nat} {τ : St} (a1 : SH τ) (hn : n ≤ 120) (h1 : gI τ 12 1 0 = nI n) (h2 : ∀ j, j < n → gA τ 12 0 0 j = c j) (h3 : ∀ j, j < n → 32 ≤ (c j).toInt ∧ (c j).toInt ≤ 126) : ME c n 0 [] (miS τ) ∧ gI (miS τ) 12 12 0 = nI (7 - 7) ∧ frB PMl RMe τ (miS τ) ∧ ∀ D Q, Rn (D + 7) Q (144, 0, [some (vR (some (12, 0, 0))), none], [], τ) = Rn (D + 7) Q (144, 32, [some (vR (some (12, 0, 0))), some (vI 1)], [], miS τ) := by
  unfold miS
  refine ⟨⟨⟨SH_I (SH_I (SH_I (SH_I (SH_I (SH_I a1))))), ?_⟩, ?_⟩, ?_, frB_t (frB_t (frB_t (frB_t (frB_t (frB_I (by decide)) (frB_I (by decide))) (frB_I (by decide))) (frB_I (by decide))) (frB_I (by decide))) (frB_I (by decide)), fun D Q => ?_⟩
  · simp +decide only [II, AA, RR, QQ, IA, IR, IQ, AI, AR, AQ, RI, RA, RQ, QI, QA, QR, LI, LA, LR, LQ, NI, NA, NR, NQ, HI, HA, HR, HQ, SI, SA, SR, SQ, true_and, and_true, or_true, true_or, if_true, if_false, not_true_eq_false, not_false_eq_true, ne_eq, and_self]
    exact ⟨hn, h1, h2, h3, updS0, updS0, by omega⟩
  · simp +decide only [II, AA, RR, QQ, IA, IR, IQ, AI, AR, AQ, RI, RA, RQ, QI, QA, QR, LI, LA, LR, LQ, NI, NA, NR, NQ, HI, HA, HR, HQ, SI, SA, SR, SQ, true_and, and_true, or_true, true_or, if_true, if_false, not_true_eq_false, not_false_eq_true, ne_eq, and_self]
    exact ⟨updS0, updS0, updS0, True.intro, True.intro⟩
  · simp +decide only [II, AA, RR, QQ, IA, IR, IQ, AI, AR, AQ, RI, RA, RQ, QI, QA, QR, LI, LA, LR, LQ, NI, NA, NR, NQ, HI, HA, HR, HQ, SI, SA, SR, SQ, true_and, and_true, or_true, true_or, if_true, if_false, not_true_eq_false, not_false_eq_true, ne_eq, and_self]
    exact updS0
  · simp +decide only [e144_0, e144_1, e144_2, e144_5, e144_6, e144_7, e144_10, e144_11, e144_12, e144_15, e144_16, e144_17, e144_20, e144_21, e144_22, e144_25, e144_26, e144_27, e144_30, e144_31, e144_33, e144_36, e144_37, e144_40, e144_43, e144_44, e144_47, e144_48, e144_49, e144_52, e144_53, e144_54, e144_57, e144_58, e144_61, e144_63, e144_66, e144_67, e144_69, e144_72, e144_75, e144_76, e144_79, e144_80, e144_81, e144_84, e144_85, e144_88, e144_91, e144_92, e144_95, e144_98, e144_99, e144_102, e144_103, e144_106, e144_107, e144_108, e144_109, e144_112, e144_113, e144_114, e144_117, e144_120, e144_121, e144_124, e144_127, e144_128, e144_131, e144_134, true_and, and_true, or_true, true_or, if_true, if_false, not_true_eq_false, not_false_eq_true, ne_eq, and_self, Option.toList_some, Option.toList_none, List.cons_append, List.nil_append, catS_0, catS_I, catS_L, catS_R, Option.map_some, Option.map_none, Option.some.injEq, Sum.inl.injEq, exists_eq_left', exists_eq', N12 a1, NI]
def ciS (τ : St) (z : Nat) : St := setI (setI (setI τ 0 1 z 0) 0 8 z 0) 7 2 0 0
theorem CE_0 {c : Nat → Int32} {n z : Nat} {τ : St} (a1 : SH τ) (hz : z < gN τ 0) (hn : n ≤ 120) (h1 : gI τ 7 1 0 = nI n) (h2 : ∀ j, j < n → gA τ 7 0 0 j = c j) (h3 : ∀ j, j < n → 32 ≤ (c j).toInt ∧ (c j).toInt ≤ 126) : CE z c n 0 [] (ciS τ z) ∧ FA z τ (ciS τ z) ∧ ∀ D Q, Rn (D + 20) Q (47, 0, [some (vR (some (7, 0, 0))), some (vR (some (0, 0, z))), none], [], τ) = Rn (D + 20) Q (47, 11, [some (vR (some (7, 0, 0))), some (vR (some (0, 0, z))), some (vI (nI (8 - 7)))], [], ciS τ z) := by
  unfold ciS
  refine ⟨⟨SH_I (SH_I (SH_I a1)), ?_⟩, FA_t (FA_t (FA_I (Or.inr ⟨rfl, rfl⟩)) (FA_I (Or.inr ⟨rfl, rfl⟩))) (FA_I (Or.inl ⟨by decide, by decide⟩)), fun D Q => ?_⟩
  · simp +decide only [II, AA, RR, QQ, IA, IR, IQ, AI, AR, AQ, RI, RA, RQ, QI, QA, QR, LI, LA, LR, LQ, NI, NA, NR, NQ, HI, HA, HR, HQ, SI, SA, SR, SQ, true_and, and_true, or_true, true_or, if_true, if_false, not_true_eq_false, not_false_eq_true, ne_eq, and_self]
    exact ⟨hz, hn, h1, h2, h3, updS0, by omega, updS0, updS0, True.intro, True.intro, True.intro⟩
  · have e1 : nI (8 - 7) = 1 := rfl
    rw [e1]
    simp +decide only [e47_0, e47_1, e47_4, e47_5, e47_6, e47_9, e47_10, e47_12, e47_14, e47_17, e47_18, e47_19, e47_22, e47_25, e47_26, e47_27, e47_28, e47_31, e47_32, e47_35, e47_36, e47_39, e47_40, e47_41, e47_43, e47_46, e47_47, e47_49, e47_52, e47_55, e47_56, e47_57, e47_60, e47_63, e47_64, e1_0, e1_1, e1_2, e1_5, e1_6, e1_7, e1_10, true_and, and_true, or_true, true_or, if_true, if_false, not_true_eq_false, not_false_eq_true, ne_eq, and_self, Option.toList_some, Option.toList_none, List.cons_append, List.nil_append, catS_0, catS_I, catS_L, catS_R, Option.map_some, Option.map_none, Option.some.injEq, Sum.inl.injEq, exists_eq_left', exists_eq', hz, N7 a1, NI]

/-- what a new edition may have touched, but for the rows of editions -/
def FY (σ τ : St) : Prop := (∀ c k, c ≠ 0 → PX c k = false → gA τ c k = gA σ c k) ∧ (∀ c k, c ≠ 0 → RX c k = false → gI τ c k = gI σ c k) ∧ (gQ τ 11 3 = gQ σ 11 3 ∧ gQ τ 11 6 = gQ σ 11 6 ∧ gQ τ 11 8 = gQ σ 11 8 ∧ gQ τ 11 10 = gQ σ 11 10) ∧ (gR τ 4 4 = gR σ 4 4 ∧ gR τ 11 5 = gR σ 11 5) ∧ gN τ 4 = gN σ 4 ∧ gN τ 8 = gN σ 8 ∧ gN τ 9 = gN σ 9
theorem FY_t {σ τ υ : St} (h1 : FY σ τ) (h2 : FY τ υ) : FY σ υ := by
  obtain ⟨a1, a2, ⟨a3, a4, a5, a6⟩, ⟨a7, a8⟩, a9, a10, a11⟩ := h1
  obtain ⟨b1, b2, ⟨b3, b4, b5, b6⟩, ⟨b7, b8⟩, b9, b10, b11⟩ := h2
  exact ⟨fun c k hc hp => (b1 c k hc hp).trans (a1 c k hc hp), fun c k hc hp => (b2 c k hc hp).trans (a2 c k hc hp), ⟨b3.trans a3, b4.trans a4, b5.trans a5, b6.trans a6⟩, ⟨b7.trans a7, b8.trans a8⟩, b9.trans a9, b10.trans a10, b11.trans a11⟩
theorem FY_A {z : Nat} {σ τ : St} (h : FA z σ τ) : FY σ τ := by
  obtain ⟨f1, f2, f3, f4, f5, f6, f7, f8, f9⟩ := h
  refine ⟨fun c k hc hp => f1 c k hc ?_, f2, by rw [f5]; exact ⟨rfl, rfl, rfl, rfl⟩, by rw [f4]; exact ⟨rfl, rfl⟩, by rw [f7], by rw [f7], by rw [f7]⟩
  unfold PX at hp
  unfold PX0
  rw [decide_eq_false_iff_not] at *
  omega
theorem FY_N {σ τ : St} (h : NEW σ τ) : FY σ τ := by
  obtain ⟨h1, h2, h3, h4, h5, h6, h7, h8, h9⟩ := h
  refine ⟨fun c k hc _ => (h2 c k hc).1, fun c k hc _ => (h2 c k hc).2.1, ⟨(h2 11 3 (by decide)).2.2, (h2 11 6 (by decide)).2.2, (h2 11 8 (by decide)).2.2, (h2 11 10 (by decide)).2.2⟩, ⟨h4, h5⟩, ?_, ?_, ?_⟩
  · rw [h7 4]; rfl
  · rw [h7 8]; rfl
  · rw [h7 9]; rfl
theorem FY_B {P R : Nat → Nat → Bool} {σ τ : St} (h : frB P R σ τ) (hP : ∀ c k, PX c k = false → P c k = false) (hR : ∀ c k, RX c k = false → R c k = false) : FY σ τ := by
  obtain ⟨h1, h2, h3, h4, h5, h6, h7, h8⟩ := h
  exact ⟨fun c k _ hp => h7 c k (hP c k hp), fun c k _ hp => h8 c k (hR c k hp), by rw [h2]; exact ⟨rfl, rfl, rfl, rfl⟩, by rw [h1]; exact ⟨rfl, rfl⟩, by rw [h4], by rw [h4], by rw [h4]⟩
def P12 (c _ : Nat) : Bool := decide (c = 12)
theorem P12_w {P : Nat → Nat → Bool} (h : ∀ c k, P c k = true → c = 12) : ∀ c k, P12 c k = false → P c k = false := by
  intro c k hc
  cases hp : P c k with
  | false => rfl
  | true =>
    have := h c k hp
    unfold P12 at hc
    rw [decide_eq_false_iff_not] at hc
    exact absurd this hc
