/-- a pupil's best marks for the lessons of an edition -/
def bE (kd wh na md ma nm : Nat → Int32) (x : Nat) (N : Nat) (l : Nat) : Int32 := bN kd wh na md ma (nI x) (nm l) 3999 N
section FIL
variable {σ : St} {i b x : Nat} {kd wh na md ma : Nat → Int32}
theorem c_fillB_l (a1 : SH σ) (hn : gN σ 8 ≤ 80) (hc : gI σ 11 11 0 = nI (gN σ 8)) (hk : ∀ t, t < gN σ 8 → gQ σ 11 10 0 t = some t ∧ gI σ 8 5 t = kd t ∧ gI σ 8 0 t = wh t ∧ gI σ 8 1 t = na t ∧ gI σ 8 12 t = md t ∧ gI σ 8 11 t = ma t) (hi : i < gN σ 0) (hb : b < 256) (hl1 : gI σ 0 1 i = nI b) : ∀ n m f, m + n = 8 → (∀ l, l < m → b.testBit l = true → f l = bE kd wh na md ma (gA σ 0 2 i) x (gN σ 8) l) → ∃ f' : Nat → Int32, (∀ l, l < 8 → b.testBit l = true → f' l = bE kd wh na md ma (gA σ 0 2 i) x (gN σ 8) l) ∧ ∀ d Q, Rn (d + 2) Q (120, 2, [some (vR (some (11, 0, 0))), some (vI (nI x)), some (vR (some (0, 0, i))), some (vI (nI m))], [], setA σ 11 19 0 f) = Q none (setA σ 11 19 0 f') := by
  intro n
  induction n with
  | zero =>
    intro m f hm hf
    have e1 : (8 : Int32) ≤ nI m := nI_le (a := 8) (by omega) (by omega)
    refine ⟨f, fun l hl => hf l (by omega), fun d Q => ?_⟩
    rw [e120_2]
    simp +decide only [e120_0, e120_1, e120_3, e120_5, e120_8, e120_9, e120_12, e120_13, e120_14, e120_15, e120_18, e120_21, e120_22, e120_23, e120_24, e120_27, e120_28, e120_29, e120_32, e120_35, e120_38, e120_39, e120_40, e120_43, e120_46, true_and, and_true, or_true, true_or, if_true, if_false, not_true_eq_false, not_false_eq_true, ne_eq, and_self, Option.toList_some, Option.toList_none, List.cons_append, List.nil_append, catS_0, catS_I, catS_L, catS_R, Option.map_some, Option.map_none, e1]
  | succ n ih =>
    intro m f hm hf
    have e1 : ¬ (8 : Int32) ≤ nI m := nI_ge (b := 8) (by omega) (by omega)
    have e2 : (nI m).toInt = (m : Int) := nI_toInt (by omega)
    have e3 : (0 : Int) ≤ (m : Int) := by omega
    have e4 : (m : Int) < 8 := by omega
    have e4' : (m : Int) < ((8 : Nat) : Int) := by omega
    have e5 : (nI m).toNatClampNeg = m := nI_clamp (by omega)
    have ct := fun {d : Nat} {Q : Option AV → St → Prop} => c_tells (d := d) (Q := Q) (σ := setA σ 11 19 0 f) (a := nI m) hi hb hl1
    rw [e2, e5] at ct
    by_cases hT : b.testBit m = true
    · have cb := fun {d : Nat} {Q : Option AV → St → Prop} => c_best (d := d) (Q := Q) (σ := setA σ 11 19 0 f) (p := nI x) (w := gA σ 0 2 i m) (D := 3999) a1 hn hc hk
      obtain ⟨f', q1, q2⟩ := ih (m + 1) (upd f m (bE kd wh na md ma (gA σ 0 2 i) x (gN σ 8) m)) (by omega) (fun l hl hl2 => by
        by_cases hlm : l = m
        · subst hlm; rw [updS0]
        · rw [pk_un hlm]; exact hf l (by omega) hl2)
      refine ⟨f', q1, fun d Q => ?_⟩
      rw [← q2 d Q, ← nI_1, e120_2]
      simp +decide only [e120_0, e120_1, e120_3, e120_5, e120_8, e120_9, e120_12, e120_13, e120_14, e120_15, e120_18, e120_21, e120_22, e120_23, e120_24, e120_27, e120_28, e120_29, e120_32, e120_35, e120_38, e120_39, e120_40, e120_43, e120_46, true_and, and_true, or_true, true_or, if_true, if_false, not_true_eq_false, not_false_eq_true, ne_eq, and_self, Option.toList_some, Option.toList_none, List.cons_append, List.nil_append, catS_0, catS_I, catS_L, catS_R, Option.map_some, Option.map_none, Option.some.injEq, Sum.inl.injEq, exists_eq_left', exists_eq', II, AA, RR, QQ, IA, IR, IQ, AI, AR, AQ, RI, RA, RQ, QI, QA, QR, LI, LA, LR, LQ, NI, NA, NR, NQ, HI, HA, HR, HQ, SI, SA, SR, SQ, ct, cb, e1, e2, e3, e4, e4', e5, hT, hi, N11 a1, L11_19 a1, L0_2 a1 hi, gA_A, setA_A]
      rfl
    · obtain ⟨f', q1, q2⟩ := ih (m + 1) (upd f m (-1)) (by omega) (fun l hl hl2 => by
        by_cases hlm : l = m
        · subst hlm; exact absurd hl2 hT
        · rw [pk_un hlm]; exact hf l (by omega) hl2)
      refine ⟨f', q1, fun d Q => ?_⟩
      rw [← q2 d Q, ← nI_1, e120_2]
      simp +decide only [e120_0, e120_1, e120_3, e120_5, e120_8, e120_9, e120_12, e120_13, e120_14, e120_15, e120_18, e120_21, e120_22, e120_23, e120_24, e120_27, e120_28, e120_29, e120_32, e120_35, e120_38, e120_39, e120_40, e120_43, e120_46, true_and, and_true, or_true, true_or, if_true, if_false, not_true_eq_false, not_false_eq_true, ne_eq, and_self, Option.toList_some, Option.toList_none, List.cons_append, List.nil_append, catS_0, catS_I, catS_L, catS_R, Option.map_some, Option.map_none, Option.some.injEq, Sum.inl.injEq, exists_eq_left', exists_eq', II, AA, RR, QQ, IA, IR, IQ, AI, AR, AQ, RI, RA, RQ, QI, QA, QR, LI, LA, LR, LQ, NI, NA, NR, NQ, HI, HA, HR, HQ, SI, SA, SR, SQ, ct, e1, e2, e3, e4, e4', e5, hT, hi, N11 a1, L11_19 a1, gA_A, setA_A]
theorem c_fillB (x : Nat) (a1 : SH σ) (hn : gN σ 8 ≤ 80) (hc : gI σ 11 11 0 = nI (gN σ 8)) (hk : ∀ t, t < gN σ 8 → gQ σ 11 10 0 t = some t ∧ gI σ 8 5 t = kd t ∧ gI σ 8 0 t = wh t ∧ gI σ 8 1 t = na t ∧ gI σ 8 12 t = md t ∧ gI σ 8 11 t = ma t) (hi : i < gN σ 0) (hb : b < 256) (hl1 : gI σ 0 1 i = nI b) : ∃ f' : Nat → Int32, (∀ l, l < 8 → b.testBit l = true → f' l = bE kd wh na md ma (gA σ 0 2 i) x (gN σ 8) l) ∧ ∀ d Q, Rn (d + 2) Q (120, 0, [some (vR (some (11, 0, 0))), some (vI (nI x)), some (vR (some (0, 0, i))), none], [], σ) = Q none (setA σ 11 19 0 f') := by
  obtain ⟨f', q1, q2⟩ := c_fillB_l (x := x) a1 hn hc hk hi hb hl1 8 0 (gA σ 11 19 0) (by omega) (fun l hl => absurd hl (by omega))
  refine ⟨f', q1, fun d Q => ?_⟩
  have t := q2 d Q
  rw [setA_self, nI_0] at t
  simp +decide only [e120_0, e120_1, e120_3, e120_5, e120_8, e120_9, e120_12, e120_13, e120_14, e120_15, e120_18, e120_21, e120_22, e120_23, e120_24, e120_27, e120_28, e120_29, e120_32, e120_35, e120_38, e120_39, e120_40, e120_43, e120_46, t]
/-- the reference's best marks and bits, for an edition of its own columns -/
theorem ER_B {nm ps' sd sr en cd mn mp mf mt mw : Nat → Int32} {g : Nat → Int32} {N b : Nat} (hg : ∀ w, w < 40 → g w = bN kd wh na md ma (nI x) (nI w) 3999 N) (h6 : ∀ l, l < 8 → b.testBit l = true → nm l = mn l ∧ (0 ≤ (mn l).toInt ∧ (mn l).toInt < 40) ∧ ps' l = mp l ∧ (0 ≤ (mp l).toInt ∧ (mp l).toInt ≤ 100) ∧ ∃ s e : Nat, s ≤ e ∧ e ≤ 120 ∧ sr l = nI s ∧ mf l = nI s ∧ en l = nI e ∧ mt l = nI e ∧ sd l = nI (orS mw s (e - s)) ∧ CW b cd mw s e) : ∀ on, on < 8 → b.testBit on = true → mp on = mp on ∧ ∃ w, w < 40 ∧ mn on = nI w ∧ g w = bE kd wh na md ma mn x N on := by
  intro on h1 h2
  obtain ⟨w, hw, hw1, -⟩ := nI_ex (n := 40) (h6 on h1 h2).2.1
  refine ⟨rfl, w, hw, hw1, ?_⟩
  rw [hg w hw]
  unfold bE
  rw [hw1]
end FIL
theorem T_may {h0 n d : Nat} {σ : St} {a c : Int32} (h : Inv h0 n σ) : PR h0 n (d + 4) 74 [some (vR (some (11, 0, 0))), some (vI a), some (vI c), none, none] 164 [some (vR (some (12, 0, 0))), some (vI a), some (vI c)] σ := by
  have hI := h.up
  obtain ⟨a1, a2, a3, a4, a5, a6, a7, a8, a9, a10, a11, a12, a13⟩ := h
  have a12' := a12
  have a9' := a9
  have a8' := a8
  obtain ⟨u1, u2, u3, u4⟩ := a8
  obtain ⟨⟨z, z1, z2, z3⟩, z4⟩ := a12
  obtain ⟨t1, t2, t3, t4, t5⟩ := a9
  have ct := fun {d : Nat} {Q : Option AV → St → Prop} {a : Int32} => c_pupAt (d := d) (Q := Q) (a := a) a1 u2 u1 (fun p hp => (u4 p hp).1)
  unfold PR
  by_cases hA : 0 ≤ a.toInt ∧ a.toInt < (gN σ 4 : Int)
  · obtain ⟨x, hx, rfl, e4⟩ := nI_ex hA
    have e3 : (nI x).toInt = (x : Int) := nI_toInt (by omega)
    have hx0 : (0 : Int) ≤ (x : Int) := by omega
    have hx1 : (x : Int) < (gN σ 4 : Int) := by omega
    have hx3 : (x : Int) < ((12 : Nat) : Int) := by omega
    by_cases hC : 0 ≤ c.toInt ∧ c.toInt < 3
    · have hC' : c.toInt ≤ 2 := by omega
      obtain ⟨-, w1, -, w2, -, w3, w4, X, Y, hX, hY, w5, w6, w7, w8, w9⟩ := u4 x hx
      obtain ⟨i, i1, i2, i3⟩ := z3 X Y hX hY w8
      obtain ⟨r1, r2, bb, r3, r4, r5, r6⟩ := i3
      have hi0 : i < gN σ 0 := by omega
      have hR : gR σ 4 4 x = some i := w9.trans i2
      obtain ⟨f', q1, q2⟩ := c_fillB (i := i) (b := bb) (kd := gA σ 12 39 0) (wh := gA σ 12 40 0) (na := gA σ 12 41 0) (md := gA σ 12 50 0) (ma := gA σ 12 49 0) x a1 t1 t2 (fun t ht => by
        obtain ⟨y0, y1, -, y2, -, -, -, y5, -, -, -, -, -, -, -, -, y11, -, y12, -, -, -, -⟩ := t4 t ht
        exact ⟨y0, y5, y1, y2, y12, y11⟩) hi0 r3 r4
      have hBc : ∀ on, on < 8 → bb.testBit on = true → gA (setA σ 11 19 0 f') 11 19 0 on = bE (gA σ 12 39 0) (gA σ 12 40 0) (gA σ 12 41 0) (gA σ 12 50 0) (gA σ 12 49 0) (fun l => gA σ 12 18 0 (8 * (6 * X + Y) + l)) x (gN σ 8) on ∧ gA (setA σ 11 19 0 f') 0 3 i on = (fun l => gA σ 12 19 0 (8 * (6 * X + Y) + l)) on := by
        intro on k1 k2
        rw [gA_A, q1 on k1 k2]
        refine ⟨?_, ?_⟩
        · unfold bE
          rw [(r6 on k1 k2).1]
        · simp +decide only [II, AA, RR, QQ, IA, IR, IQ, AI, AR, AQ, RI, RA, RQ, QI, QA, QR, LI, LA, LR, LQ, NI, NA, NR, NQ, HI, HA, HR, HQ, SI, SA, SR, SQ, true_and, and_true, or_true, true_or, if_true, if_false, not_true_eq_false, not_false_eq_true, ne_eq, and_self]
          exact (r6 on k1 k2).2.2.1
      have hRc : ∀ l, l < 8 → bb.testBit l = true → ∃ s e : Nat, s ≤ e ∧ e ≤ 120 ∧ gA (setA σ 11 19 0 f') 0 5 i l = nI s ∧ (fun l => gA σ 12 20 0 (8 * (6 * X + Y) + l)) l = nI s ∧ gA (setA σ 11 19 0 f') 0 6 i l = nI e ∧ (fun l => gA σ 12 21 0 (8 * (6 * X + Y) + l)) l = nI e ∧ CW bb (gA (setA σ 11 19 0 f') 0 7 i) (fun k => gA σ 12 22 0 (128 * (6 * X + Y) + k)) s e := by
        intro l k1 k2
        obtain ⟨-, -, -, -, s, e, s1, s2, s3, s4, s5, s6, -, s8⟩ := r6 l k1 k2
        simp +decide only [II, AA, RR, QQ, IA, IR, IQ, AI, AR, AQ, RI, RA, RQ, QI, QA, QR, LI, LA, LR, LQ, NI, NA, NR, NQ, HI, HA, HR, HQ, SI, SA, SR, SQ, true_and, and_true, or_true, true_or, if_true, if_false, not_true_eq_false, not_false_eq_true, ne_eq, and_self]
        exact ⟨s, e, s1, s2, s3, s4, s5, s6, s8⟩
      have cpa := fun {d : Nat} {Q : Option AV → St → Prop} => c_passed (d := d) (Q := Q) (σ := setA σ 11 19 0 f') (C := 11) (K := 19) (mf := fun l => gA σ 12 20 0 (8 * (6 * X + Y) + l)) (mt := fun l => gA σ 12 21 0 (8 * (6 * X + Y) + l)) (mw := fun k => gA σ 12 22 0 (128 * (6 * X + Y) + k)) a1 hi0 rfl (L11_19 a1) (by rw [NA, N11 a1]; omega) r3 r4 hBc
      have cop := fun {d : Nat} {Q : Option AV → St → Prop} => c_open (d := d) (Q := Q) (σ := setA σ 11 19 0 f') (C := 11) (K := 19) a1 hi0 rfl (L11_19 a1) (by rw [NA, N11 a1]; omega) r3 r4 hBc hRc
      have mt := fun {d : Nat} {Q : Option AV → St → Prop} {a : Int32} => m_isPupil (d := d) (Q := Q) (σ := setA σ 11 19 0 f') (a := a) a1 u3 (by omega)
      obtain ⟨g', g1, g2⟩ := m_find (σ := setA σ 11 19 0 f') (nI x) 3999 a1 t1 t3 (fun t ht => by simp +decide only [II, AA, RR, QQ, IA, IR, IQ, AI, AR, AQ, RI, RA, RQ, QI, QA, QR, LI, LA, LR, LQ, NI, NA, NR, NQ, HI, HA, HR, HQ, SI, SA, SR, SQ, true_and, and_true, or_true, true_or, if_true, if_false, not_true_eq_false, not_false_eq_true, ne_eq, and_self]; exact (t4 t ht).2.2.2.2.1)
      simp +decide only [II, AA, RR, QQ, IA, IR, IQ, AI, AR, AQ, RI, RA, RQ, QI, QA, QR, LI, LA, LR, LQ, NI, NA, NR, NQ, HI, HA, HR, HQ, SI, SA, SR, SQ, true_and, and_true, or_true, true_or, if_true, if_false, not_true_eq_false, not_false_eq_true, ne_eq, and_self] at g1
      have g1' : ∀ w, w < 40 → g' w = bN (gA σ 12 39 0) (gA σ 12 40 0) (gA σ 12 41 0) (gA σ 12 50 0) (gA σ 12 49 0) (nI x) (nI w) 3999 (gN σ 8) := g1
      have hEB := ER_B (x := x) g1' r6
      have mb := fun (w : Nat) (hw : w < 3) => m_bits (σ := setA (setA σ 11 19 0 f') 12 31 0 g') (E := 6 * X + Y) (b := bb) (w := w) (B := bE (gA σ 12 39 0) (gA σ 12 40 0) (gA σ 12 41 0) (gA σ 12 50 0) (gA σ 12 49 0) (fun l => gA σ 12 18 0 (8 * (6 * X + Y) + l)) x (gN σ 8)) (ps := fun l => gA σ 12 19 0 (8 * (6 * X + Y) + l)) (cd := gA σ 0 7 i) a1 (by omega) r3 (by simp +decide only [II, AA, RR, QQ, IA, IR, IQ, AI, AR, AQ, RI, RA, RQ, QI, QA, QR, LI, LA, LR, LQ, NI, NA, NR, NQ, HI, HA, HR, HQ, SI, SA, SR, SQ, true_and, and_true, or_true, true_or, if_true, if_false, not_true_eq_false, not_false_eq_true, ne_eq, and_self]; exact r5) hw (fun on k1 k2 => by simp +decide only [II, AA, RR, QQ, IA, IR, IQ, AI, AR, AQ, RI, RA, RQ, QI, QA, QR, LI, LA, LR, LQ, NI, NA, NR, NQ, HI, HA, HR, HQ, SI, SA, SR, SQ, true_and, and_true, or_true, true_or, if_true, if_false, not_true_eq_false, not_false_eq_true, ne_eq, and_self]; exact (hEB on k1 k2).2) (fun l k1 k2 => by
        obtain ⟨-, -, -, -, s, e, s1, s2, s3, s4, s5, s6, -, s8⟩ := r6 l k1 k2
        simp +decide only [II, AA, RR, QQ, IA, IR, IQ, AI, AR, AQ, RI, RA, RQ, QI, QA, QR, LI, LA, LR, LQ, NI, NA, NR, NQ, HI, HA, HR, HQ, SI, SA, SR, SQ, true_and, and_true, or_true, true_or, if_true, if_false, not_true_eq_false, not_false_eq_true, ne_eq, and_self]
        exact ⟨s, e, s1, s2, s4, s6, s8⟩)
      simp +decide only [II, AA, RR, QQ, IA, IR, IQ, AI, AR, AQ, RI, RA, RQ, QI, QA, QR, LI, LA, LR, LQ, NI, NA, NR, NQ, HI, HA, HR, HQ, SI, SA, SR, SQ, true_and, and_true, or_true, true_or, if_true, if_false, not_true_eq_false, not_false_eq_true, ne_eq, and_self] at mb
      have fin : ∀ k, Inv h0 (n + 1) (setA (setA (setA σ 11 19 0 f') 12 31 0 g') 12 32 0 k) := by
        intro k
        refine ⟨a1, ?_⟩
        simp +decide only [II, AA, RR, QQ, IA, IR, IQ, AI, AR, AQ, RI, RA, RQ, QI, QA, QR, LI, LA, LR, LQ, NI, NA, NR, NQ, HI, HA, HR, HQ, SI, SA, SR, SQ, true_and, and_true, or_true, true_or, if_true, if_false, not_true_eq_false, not_false_eq_true, ne_eq, and_self]
        exact ⟨a2, a3, a4.up, a5, a6, a7, a8', a9', a10.up, a11, a12', a13.up⟩
      by_cases c0 : c = 0
      · subst c0
        obtain ⟨k, mk⟩ := mb 0 (by omega)
        rw [nI_0] at mk
        simp +decide only [e74_0, e74_1, e74_2, e74_5, e74_6, e74_7N, e74_7S, e74_10, e74_11, e74_12, e74_15, e74_18, e74_19, e74_20, e74_21, e74_22, e74_23, e74_26, e74_29, e74_30, e74_33, e74_34, e74_37, e74_38, e74_41, e74_44, e74_45, e74_46, e74_49, e74_50, e74_53, e74_56, e74_58, e74_59, e74_60, e74_63, e74_65, e74_68, e74_69, e74_72, e74_75, e74_77, e74_78, e74_79, e74_80, true_and, and_true, or_true, true_or, if_true, if_false, not_true_eq_false, not_false_eq_true, ne_eq, and_self, Option.toList_some, Option.toList_none, List.cons_append, List.nil_append, catS_0, catS_I, catS_L, catS_R, Option.map_some, Option.map_none, c_isIn, m_in, wide_toInt, c_isDay, m_isDay, m_isCourse, c_areParts, tI_m1000, tI_m20, tI_m14, tI_m13, tI_m12, tI_m11, tI_m4, tI_m3, tI_m2, tI_m1, tI_0, tI_1, tI_2, tI_3, tI_4, tI_5, tI_6, tI_7, tI_8, tI_9, tI_10, tI_11, tI_12, tI_14, tI_15, tI_16, tI_19, tI_20, tI_21, tI_30, tI_31, tI_32, tI_40, tI_60, tI_61, tI_80, tI_90, tI_97, tI_100, tI_101, tI_119, tI_120, tI_121, tI_126, tI_128, tI_255, tI_256, tI_500, tI_512, tI_600, tI_999, tI_1000, tI_3999, tI_4000, tI_4095, tI_4096, tI_99999, tI_100000, tL_0, tL_1, tL_2, tL_3, tL_4, tL_5, tL_7, tL_8, tL_9, tL_15, tL_19, tL_20, tL_32, tL_39, tL_48, tL_57, tL_60, tL_97, tL_100, tL_104, tL_126, tL_255, tL_3999, tL_4095, tL_99999, Option.some.injEq, Sum.inl.injEq, exists_eq_left', exists_eq', ct, q2, cop, hR, e3, e4, hx0, hx1, hx, hi0, N11 a1, L11_19 a1, II, AA, RR, QQ, IA, IR, IQ, AI, AR, AQ, RI, RA, RQ, QI, QA, QR, LI, LA, LR, LQ, NI, NA, NR, NQ, HI, HA, HR, HQ, SI, SA, SR, SQ]
        simp +decide only [e164_0, e164_1, e164_2, e164_5, e164_8, e164_9, e164_10, e164_11, e164_14, e164_17, e164_20, e164_21, e164_22, e164_23, e164_24, e164_27, e164_30, e164_31, e164_32, e164_35, e164_36, e164_37, e164_38, e164_41, true_and, and_true, or_true, true_or, if_true, if_false, not_true_eq_false, not_false_eq_true, ne_eq, and_self, Option.toList_some, Option.toList_none, List.cons_append, List.nil_append, catS_0, catS_I, catS_L, catS_R, Option.map_some, Option.map_none, c_isIn, m_in, wide_toInt, c_isDay, m_isDay, m_isCourse, c_areParts, tI_m1000, tI_m20, tI_m14, tI_m13, tI_m12, tI_m11, tI_m4, tI_m3, tI_m2, tI_m1, tI_0, tI_1, tI_2, tI_3, tI_4, tI_5, tI_6, tI_7, tI_8, tI_9, tI_10, tI_11, tI_12, tI_14, tI_15, tI_16, tI_19, tI_20, tI_21, tI_30, tI_31, tI_32, tI_40, tI_60, tI_61, tI_80, tI_90, tI_97, tI_100, tI_101, tI_119, tI_120, tI_121, tI_126, tI_128, tI_255, tI_256, tI_500, tI_512, tI_600, tI_999, tI_1000, tI_3999, tI_4000, tI_4095, tI_4096, tI_99999, tI_100000, tL_0, tL_1, tL_2, tL_3, tL_4, tL_5, tL_7, tL_8, tL_9, tL_15, tL_19, tL_20, tL_32, tL_39, tL_48, tL_57, tL_60, tL_97, tL_100, tL_104, tL_126, tL_255, tL_3999, tL_4095, tL_99999, Option.some.injEq, Sum.inl.injEq, exists_eq_left', exists_eq', mt, g2, mk, w7, e3, e4, hx0, hx1, hx3, N12 a1, L12_25 a1, II, AA, RR, QQ, IA, IR, IQ, AI, AR, AQ, RI, RA, RQ, QI, QA, QR, LI, LA, LR, LQ, NI, NA, NR, NQ, HI, HA, HR, HQ, SI, SA, SR, SQ, fin]
      · by_cases c1 : c = 1
        · subst c1
          obtain ⟨k, mk⟩ := mb 1 (by omega)
          rw [← lN1] at mk
          simp +decide only [e74_0, e74_1, e74_2, e74_5, e74_6, e74_7N, e74_7S, e74_10, e74_11, e74_12, e74_15, e74_18, e74_19, e74_20, e74_21, e74_22, e74_23, e74_26, e74_29, e74_30, e74_33, e74_34, e74_37, e74_38, e74_41, e74_44, e74_45, e74_46, e74_49, e74_50, e74_53, e74_56, e74_58, e74_59, e74_60, e74_63, e74_65, e74_68, e74_69, e74_72, e74_75, e74_77, e74_78, e74_79, e74_80, true_and, and_true, or_true, true_or, if_true, if_false, not_true_eq_false, not_false_eq_true, ne_eq, and_self, Option.toList_some, Option.toList_none, List.cons_append, List.nil_append, catS_0, catS_I, catS_L, catS_R, Option.map_some, Option.map_none, c_isIn, m_in, wide_toInt, c_isDay, m_isDay, m_isCourse, c_areParts, tI_m1000, tI_m20, tI_m14, tI_m13, tI_m12, tI_m11, tI_m4, tI_m3, tI_m2, tI_m1, tI_0, tI_1, tI_2, tI_3, tI_4, tI_5, tI_6, tI_7, tI_8, tI_9, tI_10, tI_11, tI_12, tI_14, tI_15, tI_16, tI_19, tI_20, tI_21, tI_30, tI_31, tI_32, tI_40, tI_60, tI_61, tI_80, tI_90, tI_97, tI_100, tI_101, tI_119, tI_120, tI_121, tI_126, tI_128, tI_255, tI_256, tI_500, tI_512, tI_600, tI_999, tI_1000, tI_3999, tI_4000, tI_4095, tI_4096, tI_99999, tI_100000, tL_0, tL_1, tL_2, tL_3, tL_4, tL_5, tL_7, tL_8, tL_9, tL_15, tL_19, tL_20, tL_32, tL_39, tL_48, tL_57, tL_60, tL_97, tL_100, tL_104, tL_126, tL_255, tL_3999, tL_4095, tL_99999, Option.some.injEq, Sum.inl.injEq, exists_eq_left', exists_eq', ct, q2, cpa, hR, e3, e4, hx0, hx1, hx, hi0, N11 a1, L11_19 a1, II, AA, RR, QQ, IA, IR, IQ, AI, AR, AQ, RI, RA, RQ, QI, QA, QR, LI, LA, LR, LQ, NI, NA, NR, NQ, HI, HA, HR, HQ, SI, SA, SR, SQ]
          simp +decide only [e164_0, e164_1, e164_2, e164_5, e164_8, e164_9, e164_10, e164_11, e164_14, e164_17, e164_20, e164_21, e164_22, e164_23, e164_24, e164_27, e164_30, e164_31, e164_32, e164_35, e164_36, e164_37, e164_38, e164_41, true_and, and_true, or_true, true_or, if_true, if_false, not_true_eq_false, not_false_eq_true, ne_eq, and_self, Option.toList_some, Option.toList_none, List.cons_append, List.nil_append, catS_0, catS_I, catS_L, catS_R, Option.map_some, Option.map_none, c_isIn, m_in, wide_toInt, c_isDay, m_isDay, m_isCourse, c_areParts, tI_m1000, tI_m20, tI_m14, tI_m13, tI_m12, tI_m11, tI_m4, tI_m3, tI_m2, tI_m1, tI_0, tI_1, tI_2, tI_3, tI_4, tI_5, tI_6, tI_7, tI_8, tI_9, tI_10, tI_11, tI_12, tI_14, tI_15, tI_16, tI_19, tI_20, tI_21, tI_30, tI_31, tI_32, tI_40, tI_60, tI_61, tI_80, tI_90, tI_97, tI_100, tI_101, tI_119, tI_120, tI_121, tI_126, tI_128, tI_255, tI_256, tI_500, tI_512, tI_600, tI_999, tI_1000, tI_3999, tI_4000, tI_4095, tI_4096, tI_99999, tI_100000, tL_0, tL_1, tL_2, tL_3, tL_4, tL_5, tL_7, tL_8, tL_9, tL_15, tL_19, tL_20, tL_32, tL_39, tL_48, tL_57, tL_60, tL_97, tL_100, tL_104, tL_126, tL_255, tL_3999, tL_4095, tL_99999, Option.some.injEq, Sum.inl.injEq, exists_eq_left', exists_eq', mt, g2, mk, w7, e3, e4, hx0, hx1, hx3, N12 a1, L12_25 a1, II, AA, RR, QQ, IA, IR, IQ, AI, AR, AQ, RI, RA, RQ, QI, QA, QR, LI, LA, LR, LQ, NI, NA, NR, NQ, HI, HA, HR, HQ, SI, SA, SR, SQ, fin]
        · have c2 : c = 2 := by
            have q0 : c.toInt ≠ 0 := fun z => c0 (Int32.toInt_inj.mp (z.trans (by decide)))
            have q1 : c.toInt ≠ 1 := fun z => c1 (Int32.toInt_inj.mp (z.trans (by decide)))
            exact Int32.toInt_inj.mp (show c.toInt = 2 by omega)
          subst c2
          obtain ⟨k, mk⟩ := mb 2 (by omega)
          have l2 : nI 2 = 2 := rfl
          rw [l2] at mk
          have lp := less_pass (b := bb) (P := pz (bE (gA σ 12 39 0) (gA σ 12 40 0) (gA σ 12 41 0) (gA σ 12 50 0) (gA σ 12 49 0) (fun l => gA σ 12 18 0 (8 * (6 * X + Y) + l)) x (gN σ 8)) (fun l => gA σ 12 19 0 (8 * (6 * X + Y) + l))) r3
          have lp' : nI bb &&& (nI (accB (PW 1 bb (bE (gA σ 12 39 0) (gA σ 12 40 0) (gA σ 12 41 0) (gA σ 12 50 0) (gA σ 12 49 0) (fun l => gA σ 12 18 0 (8 * (6 * X + Y) + l)) x (gN σ 8)) (fun l => gA σ 12 19 0 (8 * (6 * X + Y) + l)) (fun l => gA σ 12 20 0 (8 * (6 * X + Y) + l)) (fun l => gA σ 12 21 0 (8 * (6 * X + Y) + l)) (fun k => gA σ 12 22 0 (128 * (6 * X + Y) + k))) 8) ^^^ -1) = nI (accB (PW 2 bb (bE (gA σ 12 39 0) (gA σ 12 40 0) (gA σ 12 41 0) (gA σ 12 50 0) (gA σ 12 49 0) (fun l => gA σ 12 18 0 (8 * (6 * X + Y) + l)) x (gN σ 8)) (fun l => gA σ 12 19 0 (8 * (6 * X + Y) + l)) (fun l => gA σ 12 20 0 (8 * (6 * X + Y) + l)) (fun l => gA σ 12 21 0 (8 * (6 * X + Y) + l)) (fun k => gA σ 12 22 0 (128 * (6 * X + Y) + k))) 8) := lp
          simp +decide only [e74_0, e74_1, e74_2, e74_5, e74_6, e74_7N, e74_7S, e74_10, e74_11, e74_12, e74_15, e74_18, e74_19, e74_20, e74_21, e74_22, e74_23, e74_26, e74_29, e74_30, e74_33, e74_34, e74_37, e74_38, e74_41, e74_44, e74_45, e74_46, e74_49, e74_50, e74_53, e74_56, e74_58, e74_59, e74_60, e74_63, e74_65, e74_68, e74_69, e74_72, e74_75, e74_77, e74_78, e74_79, e74_80, true_and, and_true, or_true, true_or, if_true, if_false, not_true_eq_false, not_false_eq_true, ne_eq, and_self, Option.toList_some, Option.toList_none, List.cons_append, List.nil_append, catS_0, catS_I, catS_L, catS_R, Option.map_some, Option.map_none, c_isIn, m_in, wide_toInt, c_isDay, m_isDay, m_isCourse, c_areParts, tI_m1000, tI_m20, tI_m14, tI_m13, tI_m12, tI_m11, tI_m4, tI_m3, tI_m2, tI_m1, tI_0, tI_1, tI_2, tI_3, tI_4, tI_5, tI_6, tI_7, tI_8, tI_9, tI_10, tI_11, tI_12, tI_14, tI_15, tI_16, tI_19, tI_20, tI_21, tI_30, tI_31, tI_32, tI_40, tI_60, tI_61, tI_80, tI_90, tI_97, tI_100, tI_101, tI_119, tI_120, tI_121, tI_126, tI_128, tI_255, tI_256, tI_500, tI_512, tI_600, tI_999, tI_1000, tI_3999, tI_4000, tI_4095, tI_4096, tI_99999, tI_100000, tL_0, tL_1, tL_2, tL_3, tL_4, tL_5, tL_7, tL_8, tL_9, tL_15, tL_19, tL_20, tL_32, tL_39, tL_48, tL_57, tL_60, tL_97, tL_100, tL_104, tL_126, tL_255, tL_3999, tL_4095, tL_99999, Option.some.injEq, Sum.inl.injEq, exists_eq_left', exists_eq', ct, q2, cpa, hR, r4, lp', e3, e4, hx0, hx1, hx, hi0, N11 a1, L11_19 a1, II, AA, RR, QQ, IA, IR, IQ, AI, AR, AQ, RI, RA, RQ, QI, QA, QR, LI, LA, LR, LQ, NI, NA, NR, NQ, HI, HA, HR, HQ, SI, SA, SR, SQ]
          simp +decide only [e164_0, e164_1, e164_2, e164_5, e164_8, e164_9, e164_10, e164_11, e164_14, e164_17, e164_20, e164_21, e164_22, e164_23, e164_24, e164_27, e164_30, e164_31, e164_32, e164_35, e164_36, e164_37, e164_38, e164_41, true_and, and_true, or_true, true_or, if_true, if_false, not_true_eq_false, not_false_eq_true, ne_eq, and_self, Option.toList_some, Option.toList_none, List.cons_append, List.nil_append, catS_0, catS_I, catS_L, catS_R, Option.map_some, Option.map_none, c_isIn, m_in, wide_toInt, c_isDay, m_isDay, m_isCourse, c_areParts, tI_m1000, tI_m20, tI_m14, tI_m13, tI_m12, tI_m11, tI_m4, tI_m3, tI_m2, tI_m1, tI_0, tI_1, tI_2, tI_3, tI_4, tI_5, tI_6, tI_7, tI_8, tI_9, tI_10, tI_11, tI_12, tI_14, tI_15, tI_16, tI_19, tI_20, tI_21, tI_30, tI_31, tI_32, tI_40, tI_60, tI_61, tI_80, tI_90, tI_97, tI_100, tI_101, tI_119, tI_120, tI_121, tI_126, tI_128, tI_255, tI_256, tI_500, tI_512, tI_600, tI_999, tI_1000, tI_3999, tI_4000, tI_4095, tI_4096, tI_99999, tI_100000, tL_0, tL_1, tL_2, tL_3, tL_4, tL_5, tL_7, tL_8, tL_9, tL_15, tL_19, tL_20, tL_32, tL_39, tL_48, tL_57, tL_60, tL_97, tL_100, tL_104, tL_126, tL_255, tL_3999, tL_4095, tL_99999, Option.some.injEq, Sum.inl.injEq, exists_eq_left', exists_eq', mt, g2, mk, w7, e3, e4, hx0, hx1, hx3, N12 a1, L12_25 a1, II, AA, RR, QQ, IA, IR, IQ, AI, AR, AQ, RI, RA, RQ, QI, QA, QR, LI, LA, LR, LQ, NI, NA, NR, NQ, HI, HA, HR, HQ, SI, SA, SR, SQ, fin]
    · have hC' : ¬ (0 ≤ c.toInt ∧ c.toInt ≤ 2) := by omega
      have mt := fun {d : Nat} {Q : Option AV → St → Prop} {a : Int32} => m_isPupil (d := d) (Q := Q) (a := a) a1 u3 (by omega)
      simp +decide only [e74_0, e74_1, e74_2, e74_5, e74_6, e74_7N, e74_7S, e74_10, e74_11, e74_12, e74_15, e74_18, e74_19, e74_20, e74_21, e74_22, e74_23, e74_26, e74_29, e74_30, e74_33, e74_34, e74_37, e74_38, e74_41, e74_44, e74_45, e74_46, e74_49, e74_50, e74_53, e74_56, e74_58, e74_59, e74_60, e74_63, e74_65, e74_68, e74_69, e74_72, e74_75, e74_77, e74_78, e74_79, e74_80, true_and, and_true, or_true, true_or, if_true, if_false, not_true_eq_false, not_false_eq_true, ne_eq, and_self, Option.toList_some, Option.toList_none, List.cons_append, List.nil_append, catS_0, catS_I, catS_L, catS_R, Option.map_some, Option.map_none, c_isIn, m_in, wide_toInt, c_isDay, m_isDay, m_isCourse, c_areParts, tI_m1000, tI_m20, tI_m14, tI_m13, tI_m12, tI_m11, tI_m4, tI_m3, tI_m2, tI_m1, tI_0, tI_1, tI_2, tI_3, tI_4, tI_5, tI_6, tI_7, tI_8, tI_9, tI_10, tI_11, tI_12, tI_14, tI_15, tI_16, tI_19, tI_20, tI_21, tI_30, tI_31, tI_32, tI_40, tI_60, tI_61, tI_80, tI_90, tI_97, tI_100, tI_101, tI_119, tI_120, tI_121, tI_126, tI_128, tI_255, tI_256, tI_500, tI_512, tI_600, tI_999, tI_1000, tI_3999, tI_4000, tI_4095, tI_4096, tI_99999, tI_100000, tL_0, tL_1, tL_2, tL_3, tL_4, tL_5, tL_7, tL_8, tL_9, tL_15, tL_19, tL_20, tL_32, tL_39, tL_48, tL_57, tL_60, tL_97, tL_100, tL_104, tL_126, tL_255, tL_3999, tL_4095, tL_99999, Option.some.injEq, Sum.inl.injEq, exists_eq_left', exists_eq', ct, hC, e3, e4, hx0, hx1, hx, N11 a1]
      simp +decide only [e164_0, e164_1, e164_2, e164_5, e164_8, e164_9, e164_10, e164_11, e164_14, e164_17, e164_20, e164_21, e164_22, e164_23, e164_24, e164_27, e164_30, e164_31, e164_32, e164_35, e164_36, e164_37, e164_38, e164_41, true_and, and_true, or_true, true_or, if_true, if_false, not_true_eq_false, not_false_eq_true, ne_eq, and_self, Option.toList_some, Option.toList_none, List.cons_append, List.nil_append, catS_0, catS_I, catS_L, catS_R, Option.map_some, Option.map_none, c_isIn, m_in, wide_toInt, c_isDay, m_isDay, m_isCourse, c_areParts, tI_m1000, tI_m20, tI_m14, tI_m13, tI_m12, tI_m11, tI_m4, tI_m3, tI_m2, tI_m1, tI_0, tI_1, tI_2, tI_3, tI_4, tI_5, tI_6, tI_7, tI_8, tI_9, tI_10, tI_11, tI_12, tI_14, tI_15, tI_16, tI_19, tI_20, tI_21, tI_30, tI_31, tI_32, tI_40, tI_60, tI_61, tI_80, tI_90, tI_97, tI_100, tI_101, tI_119, tI_120, tI_121, tI_126, tI_128, tI_255, tI_256, tI_500, tI_512, tI_600, tI_999, tI_1000, tI_3999, tI_4000, tI_4095, tI_4096, tI_99999, tI_100000, tL_0, tL_1, tL_2, tL_3, tL_4, tL_5, tL_7, tL_8, tL_9, tL_15, tL_19, tL_20, tL_32, tL_39, tL_48, tL_57, tL_60, tL_97, tL_100, tL_104, tL_126, tL_255, tL_3999, tL_4095, tL_99999, Option.some.injEq, Sum.inl.injEq, exists_eq_left', exists_eq', mt, hC', e3, e4, hx0, hx1, hx3, N12 a1, hI]
  · have mt := fun {d : Nat} {Q : Option AV → St → Prop} {a : Int32} => m_isPupil (d := d) (Q := Q) (a := a) a1 u3 (by omega)
    simp +decide only [e74_0, e74_1, e74_2, e74_5, e74_6, e74_7N, e74_7S, e74_10, e74_11, e74_12, e74_15, e74_18, e74_19, e74_20, e74_21, e74_22, e74_23, e74_26, e74_29, e74_30, e74_33, e74_34, e74_37, e74_38, e74_41, e74_44, e74_45, e74_46, e74_49, e74_50, e74_53, e74_56, e74_58, e74_59, e74_60, e74_63, e74_65, e74_68, e74_69, e74_72, e74_75, e74_77, e74_78, e74_79, e74_80, true_and, and_true, or_true, true_or, if_true, if_false, not_true_eq_false, not_false_eq_true, ne_eq, and_self, Option.toList_some, Option.toList_none, List.cons_append, List.nil_append, catS_0, catS_I, catS_L, catS_R, Option.map_some, Option.map_none, Option.some.injEq, Sum.inl.injEq, exists_eq_left', exists_eq', ct, hA, N11 a1]
    simp +decide only [e164_0, e164_1, e164_2, e164_5, e164_8, e164_9, e164_10, e164_11, e164_14, e164_17, e164_20, e164_21, e164_22, e164_23, e164_24, e164_27, e164_30, e164_31, e164_32, e164_35, e164_36, e164_37, e164_38, e164_41, true_and, and_true, or_true, true_or, if_true, if_false, not_true_eq_false, not_false_eq_true, ne_eq, and_self, Option.toList_some, Option.toList_none, List.cons_append, List.nil_append, catS_0, catS_I, catS_L, catS_R, Option.map_some, Option.map_none, Option.some.injEq, Sum.inl.injEq, exists_eq_left', exists_eq', mt, hA, N12 a1, hI]
