section PACK
variable {σ : St} {i b x E N : Nat} {kd wh na md ma mn mp mf mt mw nm ps' sd sr en cd : Nat → Int32}
/-- the class's side: best marks, then what is passed and what is open -/
theorem pack_c (x : Nat) (a1 : SH σ) (hn : gN σ 8 ≤ 80) (hc : gI σ 11 11 0 = nI (gN σ 8)) (hk : ∀ t, t < gN σ 8 → gQ σ 11 10 0 t = some t ∧ gI σ 8 5 t = kd t ∧ gI σ 8 0 t = wh t ∧ gI σ 8 1 t = na t ∧ gI σ 8 12 t = md t ∧ gI σ 8 11 t = ma t) (hi : i < gN σ 0) (hb : b < 256) (hl1 : gI σ 0 1 i = nI b) (h6 : ∀ l, l < 8 → b.testBit l = true → gA σ 0 2 i l = mn l ∧ (0 ≤ (mn l).toInt ∧ (mn l).toInt < 40) ∧ gA σ 0 3 i l = mp l ∧ (0 ≤ (mp l).toInt ∧ (mp l).toInt ≤ 100) ∧ ∃ s e : Nat, s ≤ e ∧ e ≤ 120 ∧ gA σ 0 5 i l = nI s ∧ mf l = nI s ∧ gA σ 0 6 i l = nI e ∧ mt l = nI e ∧ gA σ 0 4 i l = nI (orS mw s (e - s)) ∧ CW b (gA σ 0 7 i) mw s e) : ∃ f' : Nat → Int32, (∀ l, l < 8 → b.testBit l = true → f' l = bE kd wh na md ma mn x (gN σ 8) l) ∧ (∀ d Q, Rn (d + 2) Q (120, 0, [some (vR (some (11, 0, 0))), some (vI (nI x)), some (vR (some (0, 0, i))), none], [], σ) = Q none (setA σ 11 19 0 f')) ∧ (∀ d Q, Rn (d + 2) Q (11, 0, [some (vR (some (0, 0, i))), some (vR (some (11, 20, 0))), none, none], [], setA σ 11 19 0 f') = Q (some (vI (nI (accB (PW 1 b (bE kd wh na md ma mn x (gN σ 8)) mp mf mt mw) 8)))) (setA σ 11 19 0 f')) ∧ (∀ d Q, Rn (d + 3) Q (12, 0, [some (vR (some (0, 0, i))), some (vR (some (11, 20, 0))), none, none], [], setA σ 11 19 0 f') = Q (some (vI (nI (accB (PW 0 b (bE kd wh na md ma mn x (gN σ 8)) mp mf mt mw) 8)))) (setA σ 11 19 0 f')) := by
  obtain ⟨f', q1, q2⟩ := c_fillB (i := i) (b := b) x a1 hn hc hk hi hb hl1
  have q1' : ∀ l, l < 8 → b.testBit l = true → f' l = bE kd wh na md ma mn x (gN σ 8) l := by
    intro l k1 k2
    rw [q1 l k1 k2]
    unfold bE
    rw [(h6 l k1 k2).1]
  have hBc : ∀ on, on < 8 → b.testBit on = true → gA (setA σ 11 19 0 f') 11 19 0 on = bE kd wh na md ma mn x (gN σ 8) on ∧ gA (setA σ 11 19 0 f') 0 3 i on = mp on := by
    intro on k1 k2
    rw [gA_A, q1' on k1 k2]
    refine ⟨rfl, ?_⟩
    simp +decide only [II, AA, RR, QQ, IA, IR, IQ, AI, AR, AQ, RI, RA, RQ, QI, QA, QR, LI, LA, LR, LQ, NI, NA, NR, NQ, HI, HA, HR, HQ, SI, SA, SR, SQ, true_and, and_true, or_true, true_or, if_true, if_false, not_true_eq_false, not_false_eq_true, ne_eq, and_self]
    exact (h6 on k1 k2).2.2.1
  have hRc : ∀ l, l < 8 → b.testBit l = true → ∃ s e : Nat, s ≤ e ∧ e ≤ 120 ∧ gA (setA σ 11 19 0 f') 0 5 i l = nI s ∧ mf l = nI s ∧ gA (setA σ 11 19 0 f') 0 6 i l = nI e ∧ mt l = nI e ∧ CW b (gA (setA σ 11 19 0 f') 0 7 i) mw s e := by
    intro l k1 k2
    obtain ⟨-, -, -, -, s, e, s1, s2, s3, s4, s5, s6, -, s8⟩ := h6 l k1 k2
    simp +decide only [II, AA, RR, QQ, IA, IR, IQ, AI, AR, AQ, RI, RA, RQ, QI, QA, QR, LI, LA, LR, LQ, NI, NA, NR, NQ, HI, HA, HR, HQ, SI, SA, SR, SQ, true_and, and_true, or_true, true_or, if_true, if_false, not_true_eq_false, not_false_eq_true, ne_eq, and_self]
    exact ⟨s, e, s1, s2, s3, s4, s5, s6, s8⟩
  refine ⟨f', q1', q2, fun d Q => ?_, fun d Q => ?_⟩
  · exact c_passed (d := d) (Q := Q) (σ := setA σ 11 19 0 f') (C := 11) (K := 19) a1 hi rfl (L11_19 a1) (by rw [NA, N11 a1]; omega) hb hl1 hBc
  · exact c_open (d := d) (Q := Q) (σ := setA σ 11 19 0 f') (C := 11) (K := 19) a1 hi rfl (L11_19 a1) (by rw [NA, N11 a1]; omega) hb hl1 hBc hRc
/-- the reference's side -/
theorem pack_m (x : Nat) (a1 : SH σ) (hN : N ≤ 80) (hc : gI σ 12 38 0 = nI N) (k1 : gA σ 12 39 0 = kd) (k2 : gA σ 12 40 0 = wh) (k3 : gA σ 12 41 0 = na) (k4 : gA σ 12 50 0 = md) (k5 : gA σ 12 49 0 = ma) (hna : ∀ t, t < N → 0 ≤ (na t).toInt ∧ (na t).toInt < 40) (hE : E < 24) (hb : b < 256) (hl1 : gA σ 12 17 0 E = nI b) (m1 : ∀ l, gA σ 12 18 0 (8 * E + l) = mn l) (m2 : ∀ l, gA σ 12 19 0 (8 * E + l) = mp l) (m3 : ∀ l, gA σ 12 20 0 (8 * E + l) = mf l) (m4 : ∀ l, gA σ 12 21 0 (8 * E + l) = mt l) (m5 : ∀ k, gA σ 12 22 0 (128 * E + k) = mw k) (h6 : ∀ l, l < 8 → b.testBit l = true → nm l = mn l ∧ (0 ≤ (mn l).toInt ∧ (mn l).toInt < 40) ∧ ps' l = mp l ∧ (0 ≤ (mp l).toInt ∧ (mp l).toInt ≤ 100) ∧ ∃ s e : Nat, s ≤ e ∧ e ≤ 120 ∧ sr l = nI s ∧ mf l = nI s ∧ en l = nI e ∧ mt l = nI e ∧ sd l = nI (orS mw s (e - s)) ∧ CW b cd mw s e) : ∃ g' : Nat → Int32, (∀ w, w < 40 → g' w = bN kd wh na md ma (nI x) (nI w) 3999 N) ∧ (∀ d Q, Rn d Q (158, 0, [some (vR (some (12, 0, 0))), some (vI (nI x)), some (vI 3999), none, none], [], σ) = Q none (setA σ 12 31 0 g')) ∧ ∀ w, w < 3 → ∃ k : Nat → Int32, ∀ d Q, Rn (d + 3) Q (162, 0, [some (vR (some (12, 0, 0))), some (vI (nI E)), some (vI (nI w)), none, none, none, none], [], setA σ 12 31 0 g') = Q (some (vI (nI (accB (PW w b (bE kd wh na md ma mn x N) mp mf mt mw) 8)))) (setA (setA σ 12 31 0 g') 12 32 0 k) := by
  subst k1 k2 k3 k4 k5
  have e1 : (fun l => gA σ 12 18 0 (8 * E + l)) = mn := funext m1
  have e2 : (fun l => gA σ 12 19 0 (8 * E + l)) = mp := funext m2
  have e3 : (fun l => gA σ 12 20 0 (8 * E + l)) = mf := funext m3
  have e4 : (fun l => gA σ 12 21 0 (8 * E + l)) = mt := funext m4
  have e5 : (fun l => gA σ 12 22 0 (128 * E + l)) = mw := funext m5
  obtain ⟨g', g1, g2⟩ := m_find (σ := σ) (nI x) 3999 a1 hN hc hna
  have g1' : ∀ w, w < 40 → g' w = bN (gA σ 12 39 0) (gA σ 12 40 0) (gA σ 12 41 0) (gA σ 12 50 0) (gA σ 12 49 0) (nI x) (nI w) 3999 N := g1
  have hEB := ER_B (x := x) g1' h6
  refine ⟨g', g1', g2, fun w hw => ?_⟩
  have mb := m_bits (σ := setA σ 12 31 0 g') (E := E) (b := b) (w := w) (B := bE (gA σ 12 39 0) (gA σ 12 40 0) (gA σ 12 41 0) (gA σ 12 50 0) (gA σ 12 49 0) mn x N) (ps := mp) (cd := cd) a1 hE hb (by simp +decide only [II, AA, RR, QQ, IA, IR, IQ, AI, AR, AQ, RI, RA, RQ, QI, QA, QR, LI, LA, LR, LQ, NI, NA, NR, NQ, HI, HA, HR, HQ, SI, SA, SR, SQ, true_and, and_true, or_true, true_or, if_true, if_false, not_true_eq_false, not_false_eq_true, ne_eq, and_self]; exact hl1) hw (fun on k1 k2 => by
    simp +decide only [II, AA, RR, QQ, IA, IR, IQ, AI, AR, AQ, RI, RA, RQ, QI, QA, QR, LI, LA, LR, LQ, NI, NA, NR, NQ, HI, HA, HR, HQ, SI, SA, SR, SQ, true_and, and_true, or_true, true_or, if_true, if_false, not_true_eq_false, not_false_eq_true, ne_eq, and_self]
    rw [m1, m2]
    exact hEB on k1 k2) (fun l k1 k2 => by
    obtain ⟨-, -, -, -, s, e, s1, s2, s3, s4, s5, s6, -, s8⟩ := h6 l k1 k2
    simp +decide only [II, AA, RR, QQ, IA, IR, IQ, AI, AR, AQ, RI, RA, RQ, QI, QA, QR, LI, LA, LR, LQ, NI, NA, NR, NQ, HI, HA, HR, HQ, SI, SA, SR, SQ, true_and, and_true, or_true, true_or, if_true, if_false, not_true_eq_false, not_false_eq_true, ne_eq, and_self]
    rw [m3, m4, e5]
    exact ⟨s, e, s1, s2, s4, s6, s8⟩)
  simp +decide only [II, AA, RR, QQ, IA, IR, IQ, AI, AR, AQ, RI, RA, RQ, QI, QA, QR, LI, LA, LR, LQ, NI, NA, NR, NQ, HI, HA, HR, HQ, SI, SA, SR, SQ, true_and, and_true, or_true, true_or, if_true, if_false, not_true_eq_false, not_false_eq_true, ne_eq, and_self] at mb
  rw [e3, e4, e5] at mb
  exact mb
end PACK
