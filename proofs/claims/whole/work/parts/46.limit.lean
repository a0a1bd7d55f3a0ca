theorem T_limit {h0 n d : Nat} {σ : St} {a : Int32} (h : Inv h0 n σ) : PR h0 n (d + 1) 97 [some (vR (some (11, 0, 0))), some (vI a), none] 201 [some (vR (some (12, 0, 0))), some (vI a), none] σ := by
  obtain ⟨a1, a2, a3, a4, a5, a6, a7, a8, a9, a10, a11, a12, a13⟩ := h
  unfold PR
  rw [c_limit a1]
  by_cases hc : 0 ≤ a.toInt ∧ a.toInt < 20
  · rw [if_pos hc]
    refine ⟨_, rfl, ?_⟩
    rw [m_limit (show SH (setI σ 11 15 0 a) from a1), if_pos (by omega)]
    refine ⟨by rw [show gI (setI σ 11 15 0 a) 12 69 0 = gI σ 12 69 0 from rfl, a3.1], ?_⟩
    refine ⟨a1, ?_⟩
    simp +decide only [II, AI, NI, RI, QI, HI, SI, upd, true_and, and_true, or_true, true_or, if_true, if_false, not_true_eq_false, not_false_eq_true, ne_eq, and_self]
    exact ⟨a2, ⟨rfl, hc, a3.2.2⟩, a4.up, a5, a6, a7, a8, a9, a10.up, a11, a12, a13.up⟩
  · rw [if_neg hc]
    refine ⟨_, rfl, ?_⟩
    rw [m_limit a1, if_neg (by omega)]
    exact ⟨rfl, Inv.up ⟨a1, a2, a3, a4, a5, a6, a7, a8, a9, a10, a11, a12, a13⟩⟩
