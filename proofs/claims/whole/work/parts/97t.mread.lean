/-- what waits: 1000 a turn, 1001 both, 1002 either, 1003 an open ( -/
def wvT (t : Nat) : Int32 := if t = 1003 then -1 else if t = 1000 then -2 else if t = 1001 then -3 else -4
def PMc (c k : Nat) : Bool := decide (c = 12 ∧ (k = 8 ∨ k = 13))
def RMc (c k : Nat) : Bool := decide (c = 12 ∧ (k = 2 ∨ k = 3 ∨ k = 9 ∨ k = 11 ∨ k = 14))
def frM (s : Nat) (σ σ' : St) : Prop := frB PMc RMc σ σ' ∧ ∀ j, j < s → gA σ' 12 8 0 j = gA σ 12 8 0 j
theorem frM_0 {s : Nat} {σ : St} : frM s σ σ := ⟨frB_0, fun _ _ => rfl⟩
theorem frM_t {s : Nat} {σ σ1 σ2 : St} (h1 : frM s σ σ1) (h2 : frM s σ1 σ2) : frM s σ σ2 := ⟨frB_t h1.1 h2.1, fun j h => (h2.2 j h).trans (h1.2 j h)⟩
theorem frM_I {s k : Nat} {σ : St} {v : Int32} (h : RMc 12 k = true) : frM s σ (setI σ 12 k 0 v) := ⟨frB_I h, fun _ _ => rfl⟩
theorem frM_w {s : Nat} {σ : St} {f : Nat → Int32} : frM s σ (setA σ 12 13 0 f) := ⟨frB_A (by decide), fun j _ => by simp +decide only [II, AA, RR, QQ, IA, IR, IQ, AI, AR, AQ, RI, RA, RQ, QI, QA, QR, LI, LA, LR, LQ, NI, NA, NR, NQ, HI, HA, HR, HQ, SI, SA, SR, SQ, true_and, and_true, or_true, true_or, if_true, if_false, not_true_eq_false, not_false_eq_true, ne_eq, and_self]⟩
def emS (ρ : St) (k : Nat) (v : Int32) : St := setI (setA ρ 12 8 0 (upd (gA ρ 12 8 0) k v)) 12 9 0 (nI (k + 1))
theorem frM_em {s k : Nat} {σ : St} {v : Int32} (h : s ≤ k) : frM s σ (emS σ k v) := by
  unfold emS
  refine ⟨frB_t (frB_A (by decide)) (frB_I (by decide)), fun j hj => ?_⟩
  simp +decide only [II, AA, RR, QQ, IA, IR, IQ, AI, AR, AQ, RI, RA, RQ, QI, QA, QR, LI, LA, LR, LQ, NI, NA, NR, NQ, HI, HA, HR, HQ, SI, SA, SR, SQ, true_and, and_true, or_true, true_or, if_true, if_false, not_true_eq_false, not_false_eq_true, ne_eq, and_self]
  exact pk_un (by omega)
/-- the reference in the midst of a lesson's text -/
def MS (s T0 : Nat) (c : Nat → Int32) (n p : Nat) (C S : List Nat) (ρ : St) : Prop := SH ρ ∧ n ≤ 120 ∧ gI ρ 12 1 0 = nI n ∧ (∀ j, j < n → gA ρ 12 0 0 j = c j) ∧ (∀ j, j < n → 32 ≤ (c j).toInt ∧ (c j).toInt ≤ 126) ∧ gI ρ 12 3 0 = 0 ∧ gI ρ 12 2 0 = nI p ∧ p ≤ n ∧ gI ρ 12 9 0 = nI (s + C.length) ∧ RowL rvT (gA ρ 12 8 0) s C ∧ gI ρ 12 11 0 = nI (T0 ||| orC C) ∧ gI ρ 12 14 0 = nI S.length ∧ RowL wvT (gA ρ 12 13 0) 0 S ∧ s + C.length + S.length ≤ p
/-- the reference once it has failed -/
def MWr (k q : Nat) (S : List Nat) (ρ : St) : Prop := SH ρ ∧ gI ρ 12 3 0 = 1 ∧ gI ρ 12 2 0 = nI q ∧ gI ρ 12 9 0 = nI k ∧ gI ρ 12 14 0 = nI S.length ∧ RowL wvT (gA ρ 12 13 0) 0 S ∧ k + S.length ≤ 127
section MREAD
variable {s T0 : Nat} {c : Nat → Int32} {n p : Nat} {C S : List Nat} {ρ : St}
theorem MS_p {q : Nat} (h : MS s T0 c n p C S ρ) (h1 : p ≤ q) (h2 : q ≤ n) : MS s T0 c n q C S (setI ρ 12 2 0 (nI q)) := by
  obtain ⟨k1, k2, k3, k4, k5, k6, k7, k8, k9, k10, k11, k12, k13, k14⟩ := h
  refine ⟨SH_I k1, ?_⟩
  simp +decide only [II, AA, RR, QQ, IA, IR, IQ, AI, AR, AQ, RI, RA, RQ, QI, QA, QR, LI, LA, LR, LQ, NI, NA, NR, NQ, HI, HA, HR, HQ, SI, SA, SR, SQ, true_and, and_true, or_true, true_or, if_true, if_false, not_true_eq_false, not_false_eq_true, ne_eq, and_self]
  exact ⟨k2, k3, k4, k5, k6, updS0, h2, k9, k10, k11, k12, k13, by omega⟩
theorem MS_em {t : Nat} (h : MS s T0 c n p C S ρ) (ht : ¬ t < 1000) (hl : s + C.length + S.length + 1 ≤ p) : MS s T0 c n p (t :: C) S (emS ρ (s + C.length) (rvT t)) := by
  obtain ⟨k1, k2, k3, k4, k5, k6, k7, k8, k9, k10, k11, k12, k13, k14⟩ := h
  unfold emS
  refine ⟨SH_I (SH_A k1), ?_⟩
  simp +decide only [II, AA, RR, QQ, IA, IR, IQ, AI, AR, AQ, RI, RA, RQ, QI, QA, QR, LI, LA, LR, LQ, NI, NA, NR, NQ, HI, HA, HR, HQ, SI, SA, SR, SQ, true_and, and_true, or_true, true_or, if_true, if_false, not_true_eq_false, not_false_eq_true, ne_eq, and_self]
  refine ⟨k2, k3, k4, k5, k6, k7, k8, updS0, ⟨updS0, RowL_up C (Nat.le_refl _) k10⟩, ?_, k12, k13, by show s + (C.length + 1) + S.length ≤ p; omega⟩
  rw [orC_j ht]
  exact k11
theorem MS_cl {t : Nat} (h : MS s T0 c n p C S ρ) (ht : t < 1000) (hl : s + C.length + S.length + 1 ≤ p) : MS s T0 c n p (t :: C) S (emS (setI ρ 12 11 0 (nI (T0 ||| orC C ||| 2 ^ (t % 8)))) (s + C.length) (rvT t)) := by
  obtain ⟨k1, k2, k3, k4, k5, k6, k7, k8, k9, k10, k11, k12, k13, k14⟩ := h
  unfold emS
  refine ⟨SH_I (SH_A (SH_I k1)), ?_⟩
  simp +decide only [II, AA, RR, QQ, IA, IR, IQ, AI, AR, AQ, RI, RA, RQ, QI, QA, QR, LI, LA, LR, LQ, NI, NA, NR, NQ, HI, HA, HR, HQ, SI, SA, SR, SQ, true_and, and_true, or_true, true_or, if_true, if_false, not_true_eq_false, not_false_eq_true, ne_eq, and_self]
  refine ⟨k2, k3, k4, k5, k6, k7, k8, updS0, ⟨updS0, RowL_up C (Nat.le_refl _) k10⟩, ?_, k12, k13, by show s + (C.length + 1) + S.length ≤ p; omega⟩
  rw [updS0, Nat.or_assoc]
  show nI (T0 ||| (orC C ||| 2 ^ (t % 8))) = nI (T0 ||| (orC C ||| if t < 1000 then 2 ^ (t % 8) else 0))
  rw [if_pos ht]
theorem MS_pop {t : Nat} (h : MS s T0 c n p C (t :: S) ρ) : MS s T0 c n p C S (setI ρ 12 14 0 (nI S.length)) ∧ gA ρ 12 13 0 S.length = wvT t ∧ gI ρ 12 14 0 = nI (S.length + 1) ∧ s + C.length + S.length + 1 ≤ p := by
  obtain ⟨k1, k2, k3, k4, k5, k6, k7, k8, k9, k10, k11, k12, k13, k14⟩ := h
  have k14 : s + C.length + (S.length + 1) ≤ p := k14
  refine ⟨⟨SH_I k1, ?_⟩, ?_, k12, by omega⟩
  · simp +decide only [II, AA, RR, QQ, IA, IR, IQ, AI, AR, AQ, RI, RA, RQ, QI, QA, QR, LI, LA, LR, LQ, NI, NA, NR, NQ, HI, HA, HR, HQ, SI, SA, SR, SQ, true_and, and_true, or_true, true_or, if_true, if_false, not_true_eq_false, not_false_eq_true, ne_eq, and_self]
    exact ⟨k2, k3, k4, k5, k6, k7, k8, k9, k10, k11, updS0, k13.2, by omega⟩
  · have := k13.1
    rw [Nat.zero_add] at this
    exact this
theorem MS_push {t : Nat} (h : MS s T0 c n p C S ρ) (hl : s + C.length + S.length + 1 ≤ p) : MS s T0 c n p C (t :: S) (setI (setA ρ 12 13 0 (upd (gA ρ 12 13 0) S.length (wvT t))) 12 14 0 (nI (S.length + 1))) ∧ frM s ρ (setI (setA ρ 12 13 0 (upd (gA ρ 12 13 0) S.length (wvT t))) 12 14 0 (nI (S.length + 1))) := by
  obtain ⟨k1, k2, k3, k4, k5, k6, k7, k8, k9, k10, k11, k12, k13, k14⟩ := h
  refine ⟨⟨SH_I (SH_A k1), ?_⟩, frM_t frM_w (frM_I (by decide))⟩
  simp +decide only [II, AA, RR, QQ, IA, IR, IQ, AI, AR, AQ, RI, RA, RQ, QI, QA, QR, LI, LA, LR, LQ, NI, NA, NR, NQ, HI, HA, HR, HQ, SI, SA, SR, SQ, true_and, and_true, or_true, true_or, if_true, if_false, not_true_eq_false, not_false_eq_true, ne_eq, and_self]
  refine ⟨k2, k3, k4, k5, k6, k7, k8, k9, k10, k11, updS0, ⟨?_, RowL_up S (by omega) k13⟩, by show s + C.length + (S.length + 1) ≤ p; omega⟩
  rw [Nat.zero_add, updS0]
theorem m_nx {d : Nat} {Q : Option AV → St → Prop} (h : MS s T0 c n p C S ρ) : Rn d Q (133, 0, [some (vR (some (12, 0, 0)))], [], ρ) = Q (some (vI (sgn c n p))) (setI ρ 12 2 0 (nI (sk c n p))) := by
  obtain ⟨k1, k2, k3, k4, k5, k6, k7, k8, k9⟩ := h
  have h3 : setI ρ 12 3 0 0 = ρ := by rw [← k6, setI_self]
  have h2 : setI ρ 12 2 0 (nI p) = ρ := by rw [← k7, setI_self]
  have ct := m_next (d := d) (Q := Q) (σ := ρ) (c := c) (w := 0) k1 k2 k3 k4 k8
  rw [h3, h2] at ct
  exact ct
theorem m_tk {d : Nat} {Q : Option AV → St → Prop} {ch : Int32} (h : MS s T0 c n p C S ρ) : Rn (d + 1) Q (135, 0, [some (vR (some (12, 0, 0))), some (vI ch), none], [], ρ) = if sgn c n p = ch then Q (some (vI 1)) (setI ρ 12 2 0 (nI (sk c n p + 1))) else Q (some (vI 0)) (setI ρ 12 2 0 (nI (sk c n p))) := by
  obtain ⟨k1, k2, k3, k4, k5, k6, k7, k8, k9⟩ := h
  have h3 : setI ρ 12 3 0 0 = ρ := by rw [← k6, setI_self]
  have h2 : setI ρ 12 2 0 (nI p) = ρ := by rw [← k7, setI_self]
  have ct := m_takes (d := d) (Q := Q) (σ := ρ) (c := c) (ch := ch) k1 k2 k3 k4 k8
  rw [h3, h2] at ct
  exact ct
theorem m_nm {d : Nat} {Q : Option AV → St → Prop} {H : Nat} (hH : H ≤ 99999) (h : MS s T0 c n p C S ρ) : Rn (d + 2) Q (137, 0, [some (vR (some (12, 0, 0))), some (vI (nI H)), none, none, none], [], ρ) = if nuY c n H (sk c n p) = true then Q (some (vI (nI (nuV c n H (sk c n p))))) (setI ρ 12 2 0 (nI (nuP c n (sk c n p)))) else Q (some (vI (nI (nuV c n H (sk c n p))))) (setI (setI ρ 12 3 0 1) 12 2 0 (nI (sk c n p))) := by
  obtain ⟨k1, k2, k3, k4, k5, k6, k7, k8, k9⟩ := h
  have h3 : setI ρ 12 3 0 0 = ρ := by rw [← k6, setI_self]
  have h2 : setI ρ 12 2 0 (nI p) = ρ := by rw [← k7, setI_self]
  have ct := m_num (d := d) (Q := Q) (σ := ρ) (c := c) (H := H) k1 k2 k3 k4 hH k8 (fun j hj => (k5 j hj).1)
  rw [h3, h2] at ct
  rw [ct]
  unfold nuY nuV nuP
  by_cases hy : (48 ≤ (pkv c n (sk c n p)).toInt ∧ (pkv c n (sk c n p)).toInt ≤ 57) ∧ numV c n H 120 (sk c n p) 0 ≤ H
  · rw [if_pos hy, if_pos (decide_eq_true hy)]
  · rw [if_neg hy, if_neg (by rw [decide_eq_false hy]; decide)]
theorem m_fl {d : Nat} {Q : Option AV → St → Prop} {q : Nat} (h : MS s T0 c n p C S ρ) : Rn d Q (134, 0, [some (vR (some (12, 0, 0))), some (vI (nI q))], [], ρ) = Q none (setI (setI ρ 12 3 0 1) 12 2 0 (nI q)) := by
  obtain ⟨k1, k2, k3, k4, k5, k6, k7, k8, k9⟩ := h
  have h3 : setI ρ 12 3 0 0 = ρ := by rw [← k6, setI_self]
  have h2 : setI ρ 12 2 0 (nI p) = ρ := by rw [← k7, setI_self]
  have ct := m_fail0 (d := d) (Q := Q) (σ := ρ) (p := p) (q := q) k1
  rw [h3, h2] at ct
  exact ct
theorem MS_wr {q : Nat} (h : MS s T0 c n p C S ρ) : MWr (s + C.length) q S (setI (setI ρ 12 3 0 1) 12 2 0 (nI q)) := by
  obtain ⟨k1, k2, k3, k4, k5, k6, k7, k8, k9, k10, k11, k12, k13, k14⟩ := h
  refine ⟨SH_I (SH_I k1), ?_⟩
  simp +decide only [II, AA, RR, QQ, IA, IR, IQ, AI, AR, AQ, RI, RA, RQ, QI, QA, QR, LI, LA, LR, LQ, NI, NA, NR, NQ, HI, HA, HR, HQ, SI, SA, SR, SQ, true_and, and_true, or_true, true_or, if_true, if_false, not_true_eq_false, not_false_eq_true, ne_eq, and_self]
  exact ⟨updS0, updS0, k9, k12, k13, by omega⟩
theorem m_emit {d k : Nat} {Q : Option AV → St → Prop} {v : Int32} (a1 : SH ρ) (hk : k < 128) (hg : gI ρ 12 9 0 = nI k) : Rn d Q (138, 0, [some (vR (some (12, 0, 0))), some (vI v)], [], ρ) = Q none (emS ρ k v) := by
  have y2 : (nI k).toInt = (k : Int) := nI_toInt (by omega)
  have y3 : (0 : Int) ≤ (k : Int) := by omega
  have y4 : (k : Int) < ((128 : Nat) : Int) := by omega
  have y5 : (nI k).toNatClampNeg = k := nI_clamp (by omega)
  unfold emS
  simp +decide only [e138_0, e138_1, e138_4, e138_5, e138_8, e138_9, e138_10, e138_11, e138_12, e138_15, e138_16, e138_17, e138_20, true_and, and_true, or_true, true_or, if_true, if_false, not_true_eq_false, not_false_eq_true, ne_eq, and_self, Option.toList_some, Option.toList_none, List.cons_append, List.nil_append, catS_0, catS_I, catS_L, catS_R, Option.map_some, Option.map_none, Option.some.injEq, Sum.inl.injEq, exists_eq_left', exists_eq', II, AA, RR, QQ, IA, IR, IQ, AI, AR, AQ, RI, RA, RQ, QI, QA, QR, LI, LA, LR, LQ, NI, NA, NR, NQ, HI, HA, HR, HQ, SI, SA, SR, SQ, hg, y2, y3, y4, y5, nI_1 k, N12 a1, L12_8 a1]
/-- a failed comeOut: it ends -/
theorem m_comeD : ∀ (S : List Nat) (k q : Nat) (ρ : St), MWr k q S ρ → ∃ ρ', frB PMc RMc ρ ρ' ∧ gI ρ' 12 3 0 = 1 ∧ gI ρ' 12 2 0 = nI q ∧ ∀ D Q, Rn (D + 1) Q (140, 0, [some (vR (some (12, 0, 0))), some (vI (-4))], [], ρ) = Q none ρ' := by
  intro S
  induction S with
  | nil =>
    intro k q ρ h
    obtain ⟨a1, w1, w2, w3, w4, w5, w6⟩ := h
    have w4 : gI ρ 12 14 0 = 0 := w4
    refine ⟨ρ, frB_0, w1, w2, fun D Q => ?_⟩
    rw [e140_0]
    simp +decide only [e140_1, e140_4, e140_7, e140_8, e140_11, e140_12, e140_15, e140_16, e140_17, e140_18, e140_19, e140_22, e140_23, e140_25, e140_28, e140_29, e140_32, e140_33, e140_36, e140_37, e140_38, e140_39, e140_41, e140_44, e140_45, e140_46, e140_49, e140_50, e140_51, e140_54, e140_55, e140_56, e140_59, e140_60, e140_63, e140_64, e140_67, e140_70, true_and, and_true, or_true, true_or, if_true, if_false, not_true_eq_false, not_false_eq_true, ne_eq, and_self, Option.toList_some, Option.toList_none, List.cons_append, List.nil_append, catS_0, catS_I, catS_L, catS_R, Option.map_some, Option.map_none, w4, N12 a1]
  | cons t S ih =>
    intro k q ρ h
    obtain ⟨a1, w1, w2, w3, w4, w5, w6⟩ := h
    have w4 : gI ρ 12 14 0 = nI (S.length + 1) := w4
    have w6 : k + (S.length + 1) ≤ 127 := w6
    have w5' := w5.1
    rw [Nat.zero_add] at w5'
    have y1 : ¬ nI (S.length + 1) ≤ 0 := nI_nle (by omega) (by omega)
    have y0 : nI (S.length + 1) - 1 = nI S.length := nI_pred _
    have y2 : (nI S.length).toInt = (S.length : Int) := nI_toInt (by omega)
    have y3 : (0 : Int) ≤ (S.length : Int) := by omega
    have y4 : (S.length : Int) < ((128 : Nat) : Int) := by omega
    have y5 : (nI S.length).toNatClampNeg = S.length := nI_clamp (by omega)
    by_cases ht : t = 1003
    · have hv : wvT t = -1 := by rw [ht]; decide
      rw [hv] at w5'
      refine ⟨ρ, frB_0, w1, w2, fun D Q => ?_⟩
      rw [e140_0]
      simp +decide only [e140_1, e140_4, e140_7, e140_8, e140_11, e140_12, e140_15, e140_16, e140_17, e140_18, e140_19, e140_22, e140_23, e140_25, e140_28, e140_29, e140_32, e140_33, e140_36, e140_37, e140_38, e140_39, e140_41, e140_44, e140_45, e140_46, e140_49, e140_50, e140_51, e140_54, e140_55, e140_56, e140_59, e140_60, e140_63, e140_64, e140_67, e140_70, true_and, and_true, or_true, true_or, if_true, if_false, not_true_eq_false, not_false_eq_true, ne_eq, and_self, Option.toList_some, Option.toList_none, List.cons_append, List.nil_append, catS_0, catS_I, catS_L, catS_R, Option.map_some, Option.map_none, Option.some.injEq, Sum.inl.injEq, exists_eq_left', exists_eq', w4, w5', y0, y1, y2, y3, y4, y5, N12 a1, L12_13 a1]
    · have hv : ¬ wvT t = -1 := by
        unfold wvT
        rw [if_neg ht]
        split
        · decide
        · split <;> decide
      have em := fun {d : Nat} {Q : Option AV → St → Prop} {v : Int32} => m_emit (d := d) (Q := Q) (v := v) (k := k) (ρ := setI ρ 12 14 0 (nI S.length)) (SH_I a1) (by omega) (by simp +decide only [II, AA, RR, QQ, IA, IR, IQ, AI, AR, AQ, RI, RA, RQ, QI, QA, QR, LI, LA, LR, LQ, NI, NA, NR, NQ, HI, HA, HR, HQ, SI, SA, SR, SQ, true_and, and_true, or_true, true_or, if_true, if_false, not_true_eq_false, not_false_eq_true, ne_eq, and_self]; exact w3)
      obtain ⟨ρ', p1, p2, p3, p4⟩ := ih (k + 1) q (emS (setI ρ 12 14 0 (nI S.length)) k (wvT t)) (by
        unfold emS
        refine ⟨SH_I (SH_A (SH_I a1)), ?_⟩
        simp +decide only [II, AA, RR, QQ, IA, IR, IQ, AI, AR, AQ, RI, RA, RQ, QI, QA, QR, LI, LA, LR, LQ, NI, NA, NR, NQ, HI, HA, HR, HQ, SI, SA, SR, SQ, true_and, and_true, or_true, true_or, if_true, if_false, not_true_eq_false, not_false_eq_true, ne_eq, and_self]
        exact ⟨w1, w2, updS0, updS0, w5.2, by omega⟩)
      refine ⟨ρ', frB_t (frB_t (frB_I (by decide)) (frM_em (s := 0) (by omega)).1) p1, p2, p3, fun D Q => ?_⟩
      rw [← p4 D Q, e140_0]
      simp +decide only [e140_1, e140_4, e140_7, e140_8, e140_11, e140_12, e140_15, e140_16, e140_17, e140_18, e140_19, e140_22, e140_23, e140_25, e140_28, e140_29, e140_32, e140_33, e140_36, e140_37, e140_38, e140_39, e140_41, e140_44, e140_45, e140_46, e140_49, e140_50, e140_51, e140_54, e140_55, e140_56, e140_59, e140_60, e140_63, e140_64, e140_67, e140_70, true_and, and_true, or_true, true_or, if_true, if_false, not_true_eq_false, not_false_eq_true, ne_eq, and_self, Option.toList_some, Option.toList_none, List.cons_append, List.nil_append, catS_0, catS_I, catS_L, catS_R, Option.map_some, Option.map_none, Option.some.injEq, Sum.inl.injEq, exists_eq_left', exists_eq', II, AA, RR, QQ, IA, IR, IQ, AI, AR, AQ, RI, RA, RQ, QI, QA, QR, LI, LA, LR, LQ, NI, NA, NR, NQ, HI, HA, HR, HQ, SI, SA, SR, SQ, w4, w5', hv, em, updS0, y0, y1, y2, y3, y4, y5, N12 a1, L12_13 a1]
def fl4 : List Nat → List Nat → List Nat × List Nat
  | [], C => ([], C)
  | t :: S, C => if t = 1003 then (t :: S, C) else fl4 S (t :: C)
def tkO (t : Nat) : Prop := t = 1000 ∨ t = 1001 ∨ t = 1002
theorem wv_rv {t : Nat} (h : tkO t) : wvT t = rvT t ∧ ¬ t = 1003 ∧ ¬ t < 1000 ∧ ¬ wvT t = -1 := by
  rcases h with h | h | h <;> (subst h; decide)
theorem m_popE {t : Nat} (ht : tkO t) (h : MS s T0 c n p C (t :: S) ρ) : MS s T0 c n p (t :: C) S (emS (setI ρ 12 14 0 (nI S.length)) (s + C.length) (wvT t)) ∧ frM s ρ (emS (setI ρ 12 14 0 (nI S.length)) (s + C.length) (wvT t)) ∧ ∀ D Q, Rn D Q (138, 0, [some (vR (some (12, 0, 0))), some (vI (wvT t))], [], setI ρ 12 14 0 (nI S.length)) = Q none (emS (setI ρ 12 14 0 (nI S.length)) (s + C.length) (wvT t)) := by
  obtain ⟨r1, r2, r3, r4⟩ := MS_pop h
  obtain ⟨v1, v2, v3, v4⟩ := wv_rv ht
  have h8 := h.2.2.2.2.2.2.2.1
  have h2 := h.2.1
  refine ⟨by rw [v1]; exact MS_em r1 v3 (by omega), frM_t (frM_I (by decide)) (frM_em (by omega)), fun D Q => ?_⟩
  exact m_emit r1.1 (by omega) r1.2.2.2.2.2.2.2.2.1
/-- pops at (140, 0) with what may be popped -/
theorem m_come1 {t : Nat} {kk : Int32} (ht : tkO t) (hk : kk = -4 ∨ t = 1001) (h : MS s T0 c n p C (t :: S) ρ) : ∃ ρ', frM s ρ ρ' ∧ MS s T0 c n p (t :: C) S ρ' ∧ ∀ D Q, Rn (D + 1) Q (140, 0, [some (vR (some (12, 0, 0))), some (vI kk)], [], ρ) = Rn (D + 1) Q (140, 0, [some (vR (some (12, 0, 0))), some (vI kk)], [], ρ') := by
  obtain ⟨e1, e2, e3⟩ := m_popE ht h
  obtain ⟨r1, r2, r3, r4⟩ := MS_pop h
  obtain ⟨v1, v2, v3, v4⟩ := wv_rv ht
  have a1 := h.1
  have h8 := h.2.2.2.2.2.2.2.1
  have h2 := h.2.1
  have y1 : ¬ nI (S.length + 1) ≤ 0 := nI_nle (by omega) (by omega)
  have y0 : nI (S.length + 1) - 1 = nI S.length := nI_pred _
  have y2 : (nI S.length).toInt = (S.length : Int) := nI_toInt (by omega)
  have y3 : (0 : Int) ≤ (S.length : Int) := by omega
  have y4 : (S.length : Int) < ((128 : Nat) : Int) := by omega
  have y5 : (nI S.length).toNatClampNeg = S.length := nI_clamp (by omega)
  refine ⟨_, e2, e1, fun D Q => ?_⟩
  by_cases hk4 : kk = -4
  · subst hk4
    rw [e140_0]
    simp +decide only [e140_1, e140_4, e140_7, e140_8, e140_11, e140_12, e140_15, e140_16, e140_17, e140_18, e140_19, e140_22, e140_23, e140_25, e140_28, e140_29, e140_32, e140_33, e140_36, e140_37, e140_38, e140_39, e140_41, e140_44, e140_45, e140_46, e140_49, e140_50, e140_51, e140_54, e140_55, e140_56, e140_59, e140_60, e140_63, e140_64, e140_67, e140_70, true_and, and_true, or_true, true_or, if_true, if_false, not_true_eq_false, not_false_eq_true, ne_eq, and_self, Option.toList_some, Option.toList_none, List.cons_append, List.nil_append, catS_0, catS_I, catS_L, catS_R, Option.map_some, Option.map_none, Option.some.injEq, Sum.inl.injEq, exists_eq_left', exists_eq', II, AA, RR, QQ, IA, IR, IQ, AI, AR, AQ, RI, RA, RQ, QI, QA, QR, LI, LA, LR, LQ, NI, NA, NR, NQ, HI, HA, HR, HQ, SI, SA, SR, SQ, r2, r3, v4, e3, updS0, y0, y1, y2, y3, y4, y5, N12 a1, L12_13 a1]
  · have ht1 : t = 1001 := by
      rcases hk with hk | hk
      · exact absurd hk hk4
      · exact hk
    have hv : wvT t = -3 := by rw [ht1]; decide
    rw [hv] at r2 e3 ⊢
    rw [e140_0]
    simp +decide only [e140_1, e140_4, e140_7, e140_8, e140_11, e140_12, e140_15, e140_16, e140_17, e140_18, e140_19, e140_22, e140_23, e140_25, e140_28, e140_29, e140_32, e140_33, e140_36, e140_37, e140_38, e140_39, e140_41, e140_44, e140_45, e140_46, e140_49, e140_50, e140_51, e140_54, e140_55, e140_56, e140_59, e140_60, e140_63, e140_64, e140_67, e140_70, true_and, and_true, or_true, true_or, if_true, if_false, not_true_eq_false, not_false_eq_true, ne_eq, and_self, Option.toList_some, Option.toList_none, List.cons_append, List.nil_append, catS_0, catS_I, catS_L, catS_R, Option.map_some, Option.map_none, Option.some.injEq, Sum.inl.injEq, exists_eq_left', exists_eq', II, AA, RR, QQ, IA, IR, IQ, AI, AR, AQ, RI, RA, RQ, QI, QA, QR, LI, LA, LR, LQ, NI, NA, NR, NQ, HI, HA, HR, HQ, SI, SA, SR, SQ, r2, r3, e3, hk4, updS0, y0, y1, y2, y3, y4, y5, N12 a1, L12_13 a1]
/-- stops at (140, 0) -/
theorem m_come0 {kk : Int32} (hS : S = [] ∨ (∃ t R, S = t :: R ∧ (t = 1003 ∨ (t = 1002 ∧ kk = -3)))) (h : MS s T0 c n p C S ρ) : ∀ D Q, Rn (D + 1) Q (140, 0, [some (vR (some (12, 0, 0))), some (vI kk)], [], ρ) = Q none ρ := by
  intro D Q
  have a1 := h.1
  rcases hS with hS | ⟨t, R, hS, ht⟩
  · subst hS
    have w4 : gI ρ 12 14 0 = 0 := h.2.2.2.2.2.2.2.2.2.2.2.1
    rw [e140_0]
    simp +decide only [e140_1, e140_4, e140_7, e140_8, e140_11, e140_12, e140_15, e140_16, e140_17, e140_18, e140_19, e140_22, e140_23, e140_25, e140_28, e140_29, e140_32, e140_33, e140_36, e140_37, e140_38, e140_39, e140_41, e140_44, e140_45, e140_46, e140_49, e140_50, e140_51, e140_54, e140_55, e140_56, e140_59, e140_60, e140_63, e140_64, e140_67, e140_70, true_and, and_true, or_true, true_or, if_true, if_false, not_true_eq_false, not_false_eq_true, ne_eq, and_self, Option.toList_some, Option.toList_none, List.cons_append, List.nil_append, catS_0, catS_I, catS_L, catS_R, Option.map_some, Option.map_none, w4, N12 a1]
  · subst hS
    obtain ⟨r1, r2, r3, r4⟩ := MS_pop h
    have h8 := h.2.2.2.2.2.2.2.1
    have h2 := h.2.1
    have y1 : ¬ nI (R.length + 1) ≤ 0 := nI_nle (by omega) (by omega)
    have y0 : nI (R.length + 1) - 1 = nI R.length := nI_pred _
    have y2 : (nI R.length).toInt = (R.length : Int) := nI_toInt (by omega)
    have y3 : (0 : Int) ≤ (R.length : Int) := by omega
    have y4 : (R.length : Int) < ((128 : Nat) : Int) := by omega
    have y5 : (nI R.length).toNatClampNeg = R.length := nI_clamp (by omega)
    rcases ht with ht | ⟨ht, hk⟩
    · have hv : wvT t = -1 := by rw [ht]; decide
      rw [hv] at r2
      rw [e140_0]
      simp +decide only [e140_1, e140_4, e140_7, e140_8, e140_11, e140_12, e140_15, e140_16, e140_17, e140_18, e140_19, e140_22, e140_23, e140_25, e140_28, e140_29, e140_32, e140_33, e140_36, e140_37, e140_38, e140_39, e140_41, e140_44, e140_45, e140_46, e140_49, e140_50, e140_51, e140_54, e140_55, e140_56, e140_59, e140_60, e140_63, e140_64, e140_67, e140_70, true_and, and_true, or_true, true_or, if_true, if_false, not_true_eq_false, not_false_eq_true, ne_eq, and_self, Option.toList_some, Option.toList_none, List.cons_append, List.nil_append, catS_0, catS_I, catS_L, catS_R, Option.map_some, Option.map_none, Option.some.injEq, Sum.inl.injEq, exists_eq_left', exists_eq', r2, r3, y0, y1, y2, y3, y4, y5, N12 a1, L12_13 a1]
    · subst hk
      have hv : wvT t = -4 := by rw [ht]; decide
      rw [hv] at r2
      rw [e140_0]
      simp +decide only [e140_1, e140_4, e140_7, e140_8, e140_11, e140_12, e140_15, e140_16, e140_17, e140_18, e140_19, e140_22, e140_23, e140_25, e140_28, e140_29, e140_32, e140_33, e140_36, e140_37, e140_38, e140_39, e140_41, e140_44, e140_45, e140_46, e140_49, e140_50, e140_51, e140_54, e140_55, e140_56, e140_59, e140_60, e140_63, e140_64, e140_67, e140_70, true_and, and_true, or_true, true_or, if_true, if_false, not_true_eq_false, not_false_eq_true, ne_eq, and_self, Option.toList_some, Option.toList_none, List.cons_append, List.nil_append, catS_0, catS_I, catS_L, catS_R, Option.map_some, Option.map_none, Option.some.injEq, Sum.inl.injEq, exists_eq_left', exists_eq', r2, r3, y0, y1, y2, y3, y4, y5, N12 a1, L12_13 a1]
/-- turnIfTold -/
theorem m_turn1 (h : MS s T0 c n p C (1000 :: S) ρ) : ∃ ρ', frM s ρ ρ' ∧ MS s T0 c n p (1000 :: C) S ρ' ∧ ∀ D Q, Rn (D + 1) Q (139, 0, [some (vR (some (12, 0, 0)))], [], ρ) = Q none ρ' := by
  obtain ⟨e1, e2, e3⟩ := m_popE (Or.inl rfl) h
  obtain ⟨r1, r2, r3, r4⟩ := MS_pop h
  have a1 := h.1
  have h8 := h.2.2.2.2.2.2.2.1
  have h2 := h.2.1
  have y1 : ¬ nI (S.length + 1) ≤ 0 := nI_nle (by omega) (by omega)
  have y0 : nI (S.length + 1) - 1 = nI S.length := nI_pred _
  have y2 : (nI S.length).toInt = (S.length : Int) := nI_toInt (by omega)
  have y3 : (0 : Int) ≤ (S.length : Int) := by omega
  have y4 : (S.length : Int) < ((128 : Nat) : Int) := by omega
  have y5 : (nI S.length).toNatClampNeg = S.length := nI_clamp (by omega)
  refine ⟨_, e2, e1, fun D Q => ?_⟩
  have hv : wvT 1000 = -2 := by decide
  rw [hv] at r2 e3 ⊢
  simp +decide only [e139_0, e139_1, e139_4, e139_7, e139_8, e139_11, e139_12, e139_15, e139_16, e139_17, e139_18, e139_20, e139_23, e139_24, e139_25, e139_28, e139_29, e139_30, e139_33, e139_34, e139_36, e139_39, true_and, and_true, or_true, true_or, if_true, if_false, not_true_eq_false, not_false_eq_true, ne_eq, and_self, Option.toList_some, Option.toList_none, List.cons_append, List.nil_append, catS_0, catS_I, catS_L, catS_R, Option.map_some, Option.map_none, Option.some.injEq, Sum.inl.injEq, exists_eq_left', exists_eq', II, AA, RR, QQ, IA, IR, IQ, AI, AR, AQ, RI, RA, RQ, QI, QA, QR, LI, LA, LR, LQ, NI, NA, NR, NQ, HI, HA, HR, HQ, SI, SA, SR, SQ, r2, r3, e3, y0, y1, y2, y3, y4, y5, N12 a1, L12_13 a1]
theorem m_turn0 (hS : S = [] ∨ (∃ t R, S = t :: R ∧ ¬ wvT t = -2)) (h : MS s T0 c n p C S ρ) : ∀ D Q, Rn (D + 1) Q (139, 0, [some (vR (some (12, 0, 0)))], [], ρ) = Q none ρ := by
  intro D Q
  have a1 := h.1
  rcases hS with hS | ⟨t, R, hS, hv⟩
  · subst hS
    have w4 : gI ρ 12 14 0 = 0 := h.2.2.2.2.2.2.2.2.2.2.2.1
    simp +decide only [e139_0, e139_1, e139_4, e139_7, e139_8, e139_11, e139_12, e139_15, e139_16, e139_17, e139_18, e139_20, e139_23, e139_24, e139_25, e139_28, e139_29, e139_30, e139_33, e139_34, e139_36, e139_39, true_and, and_true, or_true, true_or, if_true, if_false, not_true_eq_false, not_false_eq_true, ne_eq, and_self, Option.toList_some, Option.toList_none, List.cons_append, List.nil_append, catS_0, catS_I, catS_L, catS_R, Option.map_some, Option.map_none, w4, N12 a1]
  · subst hS
    obtain ⟨r1, r2, r3, r4⟩ := MS_pop h
    have h8 := h.2.2.2.2.2.2.2.1
    have h2 := h.2.1
    have y1 : ¬ nI (R.length + 1) ≤ 0 := nI_nle (by omega) (by omega)
    have y0 : nI (R.length + 1) - 1 = nI R.length := nI_pred _
    have y2 : (nI R.length).toInt = (R.length : Int) := nI_toInt (by omega)
    have y3 : (0 : Int) ≤ (R.length : Int) := by omega
    have y4 : (R.length : Int) < ((128 : Nat) : Int) := by omega
    have y5 : (nI R.length).toNatClampNeg = R.length := nI_clamp (by omega)
    simp +decide only [e139_0, e139_1, e139_4, e139_7, e139_8, e139_11, e139_12, e139_15, e139_16, e139_17, e139_18, e139_20, e139_23, e139_24, e139_25, e139_28, e139_29, e139_30, e139_33, e139_34, e139_36, e139_39, true_and, and_true, or_true, true_or, if_true, if_false, not_true_eq_false, not_false_eq_true, ne_eq, and_self, Option.toList_some, Option.toList_none, List.cons_append, List.nil_append, catS_0, catS_I, catS_L, catS_R, Option.map_some, Option.map_none, Option.some.injEq, Sum.inl.injEq, exists_eq_left', exists_eq', r2, r3, hv, y0, y1, y2, y3, y4, y5, N12 a1, L12_13 a1]
/-- turnIfTold once failed -/
theorem m_turnD {k q : Nat} (h : MWr k q S ρ) (hk : k + S.length ≤ 126) : ∃ k' S' ρ', frB PMc RMc ρ ρ' ∧ MWr k' q S' ρ' ∧ ∀ D Q, Rn (D + 1) Q (139, 0, [some (vR (some (12, 0, 0)))], [], ρ) = Q none ρ' := by
  obtain ⟨a1, w1, w2, w3, w4, w5, w6⟩ := h
  cases S with
  | nil =>
    have w4' : gI ρ 12 14 0 = 0 := w4
    refine ⟨k, [], ρ, frB_0, ⟨a1, w1, w2, w3, w4, w5, w6⟩, fun D Q => ?_⟩
    simp +decide only [e139_0, e139_1, e139_4, e139_7, e139_8, e139_11, e139_12, e139_15, e139_16, e139_17, e139_18, e139_20, e139_23, e139_24, e139_25, e139_28, e139_29, e139_30, e139_33, e139_34, e139_36, e139_39, true_and, and_true, or_true, true_or, if_true, if_false, not_true_eq_false, not_false_eq_true, ne_eq, and_self, Option.toList_some, Option.toList_none, List.cons_append, List.nil_append, catS_0, catS_I, catS_L, catS_R, Option.map_some, Option.map_none, w4', N12 a1]
  | cons t S =>
    have w4' : gI ρ 12 14 0 = nI (S.length + 1) := w4
    have hk : k + (S.length + 1) ≤ 126 := hk
    have w5' := w5.1
    rw [Nat.zero_add] at w5'
    have y1 : ¬ nI (S.length + 1) ≤ 0 := nI_nle (by omega) (by omega)
    have y0 : nI (S.length + 1) - 1 = nI S.length := nI_pred _
    have y2 : (nI S.length).toInt = (S.length : Int) := nI_toInt (by omega)
    have y3 : (0 : Int) ≤ (S.length : Int) := by omega
    have y4 : (S.length : Int) < ((128 : Nat) : Int) := by omega
    have y5 : (nI S.length).toNatClampNeg = S.length := nI_clamp (by omega)
    by_cases hv : wvT t = -2
    · have em := fun {d : Nat} {Q : Option AV → St → Prop} {v : Int32} => m_emit (d := d) (Q := Q) (v := v) (k := k) (ρ := setI ρ 12 14 0 (nI S.length)) (SH_I a1) (by omega) (by simp +decide only [II, AA, RR, QQ, IA, IR, IQ, AI, AR, AQ, RI, RA, RQ, QI, QA, QR, LI, LA, LR, LQ, NI, NA, NR, NQ, HI, HA, HR, HQ, SI, SA, SR, SQ, true_and, and_true, or_true, true_or, if_true, if_false, not_true_eq_false, not_false_eq_true, ne_eq, and_self]; exact w3)
      refine ⟨k + 1, S, emS (setI ρ 12 14 0 (nI S.length)) k (-2), frB_t (frB_I (by decide)) (frM_em (s := 0) (by omega)).1, ?_, fun D Q => ?_⟩
      · unfold emS
        refine ⟨SH_I (SH_A (SH_I a1)), ?_⟩
        simp +decide only [II, AA, RR, QQ, IA, IR, IQ, AI, AR, AQ, RI, RA, RQ, QI, QA, QR, LI, LA, LR, LQ, NI, NA, NR, NQ, HI, HA, HR, HQ, SI, SA, SR, SQ, true_and, and_true, or_true, true_or, if_true, if_false, not_true_eq_false, not_false_eq_true, ne_eq, and_self]
        exact ⟨w1, w2, updS0, updS0, w5.2, by omega⟩
      · rw [hv] at w5'
        simp +decide only [e139_0, e139_1, e139_4, e139_7, e139_8, e139_11, e139_12, e139_15, e139_16, e139_17, e139_18, e139_20, e139_23, e139_24, e139_25, e139_28, e139_29, e139_30, e139_33, e139_34, e139_36, e139_39, true_and, and_true, or_true, true_or, if_true, if_false, not_true_eq_false, not_false_eq_true, ne_eq, and_self, Option.toList_some, Option.toList_none, List.cons_append, List.nil_append, catS_0, catS_I, catS_L, catS_R, Option.map_some, Option.map_none, Option.some.injEq, Sum.inl.injEq, exists_eq_left', exists_eq', II, AA, RR, QQ, IA, IR, IQ, AI, AR, AQ, RI, RA, RQ, QI, QA, QR, LI, LA, LR, LQ, NI, NA, NR, NQ, HI, HA, HR, HQ, SI, SA, SR, SQ, w4', w5', em, y0, y1, y2, y3, y4, y5, N12 a1, L12_13 a1]
    · refine ⟨k, t :: S, ρ, frB_0, ⟨a1, w1, w2, w3, w4, w5, w6⟩, fun D Q => ?_⟩
      simp +decide only [e139_0, e139_1, e139_4, e139_7, e139_8, e139_11, e139_12, e139_15, e139_16, e139_17, e139_18, e139_20, e139_23, e139_24, e139_25, e139_28, e139_29, e139_30, e139_33, e139_34, e139_36, e139_39, true_and, and_true, or_true, true_or, if_true, if_false, not_true_eq_false, not_false_eq_true, ne_eq, and_self, Option.toList_some, Option.toList_none, List.cons_append, List.nil_append, catS_0, catS_I, catS_L, catS_R, Option.map_some, Option.map_none, Option.some.injEq, Sum.inl.injEq, exists_eq_left', exists_eq', w4', w5', hv, y0, y1, y2, y3, y4, y5, N12 a1, L12_13 a1]
/-- once failed, readLeans ends -/
theorem m_dead {k q o : Nat} (ho : o < 100) (h : MWr k q S ρ) : ∃ ρ', frB PMc RMc ρ ρ' ∧ gI ρ' 12 3 0 = 1 ∧ gI ρ' 12 2 0 = nI q ∧ ∀ D Q, Rn (D + 2) Q (142, 26, [some (vR (some (12, 0, 0))), some (vI (nI o)), some (vI 1)], [], ρ) = Q none ρ' := by
  obtain ⟨ρ', p1, p2, p3, p4⟩ := m_comeD S k q ρ h
  obtain ⟨a1, w1, w2, w3, w4, w5, w6⟩ := h
  have h3 : setI ρ 12 3 0 1 = ρ := by rw [← w1, setI_self]
  have h2 : setI ρ 12 2 0 (nI q) = ρ := by rw [← w2, setI_self]
  have ct := fun {d : Nat} {Q : Option AV → St → Prop} {ch : Int32} => m_takes1 (d := d) (Q := Q) (σ := ρ) (p := q) (ch := ch) a1
  have cf := fun {d : Nat} {Q : Option AV → St → Prop} {x : Int32} => m_fail1 (d := d) (Q := Q) (σ := ρ) (p := q) (q := x) a1
  rw [h3, h2] at ct cf
  refine ⟨ρ', p1, p2, p3, fun D Q => ?_⟩
  have p4 := fun Q => p4 D Q
  rw [e142_26]
  by_cases h0 : o = 0
  · subst h0
    have y1 : nI 0 ≤ 0 := by decide
    simp +decide only [e142_0, e142_1, e142_2, e142_3, e142_4, e142_7, e142_8, e142_10, e142_13, e142_14, e142_17, e142_20, e142_21, e142_22, e142_25, e142_27, e142_30, e142_31, e142_33, e142_36, e142_39, e142_40, e142_42, e142_45, e142_46, e142_47, e142_50, e142_51, e142_52, e142_55, e142_58, e142_59, e142_62, e142_65, e142_66, e142_67, e142_68, e142_70, e142_73, e142_76, e142_77, e142_79, e142_82, e142_83, e142_86, e142_87, e142_90, e142_92, e142_93, e142_94, e142_95, e142_98, e142_99, e142_100, e142_103, e142_104, e142_105, e142_108, e142_109, e142_111, e142_114, e142_117, e142_118, e142_120, e142_123, e142_124, e142_127, e142_128, e142_131, e142_133, e142_134, e142_135, e142_136, e142_139, e142_140, e142_141, e142_144, e142_145, e142_146, e142_149, e142_150, e142_153, e142_154, e142_155, e142_158, e142_161, e142_162, e142_164, e142_167, true_and, and_true, or_true, true_or, if_true, if_false, not_true_eq_false, not_false_eq_true, ne_eq, and_self, Option.toList_some, Option.toList_none, List.cons_append, List.nil_append, catS_0, catS_I, catS_L, catS_R, Option.map_some, Option.map_none, ct, y1, N12 a1]
    rw [e142_9]
    simp +decide only [e142_0, e142_1, e142_2, e142_3, e142_4, e142_7, e142_8, e142_10, e142_13, e142_14, e142_17, e142_20, e142_21, e142_22, e142_25, e142_27, e142_30, e142_31, e142_33, e142_36, e142_39, e142_40, e142_42, e142_45, e142_46, e142_47, e142_50, e142_51, e142_52, e142_55, e142_58, e142_59, e142_62, e142_65, e142_66, e142_67, e142_68, e142_70, e142_73, e142_76, e142_77, e142_79, e142_82, e142_83, e142_86, e142_87, e142_90, e142_92, e142_93, e142_94, e142_95, e142_98, e142_99, e142_100, e142_103, e142_104, e142_105, e142_108, e142_109, e142_111, e142_114, e142_117, e142_118, e142_120, e142_123, e142_124, e142_127, e142_128, e142_131, e142_133, e142_134, e142_135, e142_136, e142_139, e142_140, e142_141, e142_144, e142_145, e142_146, e142_149, e142_150, e142_153, e142_154, e142_155, e142_158, e142_161, e142_162, e142_164, e142_167, true_and, and_true, or_true, true_or, if_true, if_false, not_true_eq_false, not_false_eq_true, ne_eq, and_self, Option.toList_some, Option.toList_none, List.cons_append, List.nil_append, catS_0, catS_I, catS_L, catS_R, Option.map_some, Option.map_none, p4, y1, N12 a1]
  · have y1 : ¬ nI o ≤ 0 := nI_nle (by omega) (by omega)
    simp +decide only [e142_0, e142_1, e142_2, e142_3, e142_4, e142_7, e142_8, e142_10, e142_13, e142_14, e142_17, e142_20, e142_21, e142_22, e142_25, e142_27, e142_30, e142_31, e142_33, e142_36, e142_39, e142_40, e142_42, e142_45, e142_46, e142_47, e142_50, e142_51, e142_52, e142_55, e142_58, e142_59, e142_62, e142_65, e142_66, e142_67, e142_68, e142_70, e142_73, e142_76, e142_77, e142_79, e142_82, e142_83, e142_86, e142_87, e142_90, e142_92, e142_93, e142_94, e142_95, e142_98, e142_99, e142_100, e142_103, e142_104, e142_105, e142_108, e142_109, e142_111, e142_114, e142_117, e142_118, e142_120, e142_123, e142_124, e142_127, e142_128, e142_131, e142_133, e142_134, e142_135, e142_136, e142_139, e142_140, e142_141, e142_144, e142_145, e142_146, e142_149, e142_150, e142_153, e142_154, e142_155, e142_158, e142_161, e142_162, e142_164, e142_167, true_and, and_true, or_true, true_or, if_true, if_false, not_true_eq_false, not_false_eq_true, ne_eq, and_self, Option.toList_some, Option.toList_none, List.cons_append, List.nil_append, catS_0, catS_I, catS_L, catS_R, Option.map_some, Option.map_none, ct, y1, N12 a1]
    rw [e142_9]
    simp +decide only [e142_0, e142_1, e142_2, e142_3, e142_4, e142_7, e142_8, e142_10, e142_13, e142_14, e142_17, e142_20, e142_21, e142_22, e142_25, e142_27, e142_30, e142_31, e142_33, e142_36, e142_39, e142_40, e142_42, e142_45, e142_46, e142_47, e142_50, e142_51, e142_52, e142_55, e142_58, e142_59, e142_62, e142_65, e142_66, e142_67, e142_68, e142_70, e142_73, e142_76, e142_77, e142_79, e142_82, e142_83, e142_86, e142_87, e142_90, e142_92, e142_93, e142_94, e142_95, e142_98, e142_99, e142_100, e142_103, e142_104, e142_105, e142_108, e142_109, e142_111, e142_114, e142_117, e142_118, e142_120, e142_123, e142_124, e142_127, e142_128, e142_131, e142_133, e142_134, e142_135, e142_136, e142_139, e142_140, e142_141, e142_144, e142_145, e142_146, e142_149, e142_150, e142_153, e142_154, e142_155, e142_158, e142_161, e142_162, e142_164, e142_167, true_and, and_true, or_true, true_or, if_true, if_false, not_true_eq_false, not_false_eq_true, ne_eq, and_self, Option.toList_some, Option.toList_none, List.cons_append, List.nil_append, catS_0, catS_I, catS_L, catS_R, Option.map_some, Option.map_none, cf, p4, y1, N12 a1]
end MREAD
