theorem br_e {c : Prop} [Decidable c] {A B : Prop} (h1 : c → A) (h2 : ¬ c → B) : if c then A else B := by
  by_cases h : c
  · rw [if_pos h]; exact h1 h
  · rw [if_neg h]; exact h2 h
theorem law_l {h0 L : Nat} {xs : Nat → Int32} (hL : L ≤ 3072) {Q : Option AV → St → Prop} (hQ : ∀ m σ, m ≤ 512 → Inv h0 m σ → Q (some (vI 1)) σ) : ∀ k m σ, L < 6 * m + 6 * k + 6 → 6 * m ≤ L → Inv h0 m σ → SC L xs σ → Rn 100 Q (218, 18, [some (vR (some (13, 1, 0))), some (vR (some (11, 0, 0))), some (vR (some (12, 0, 0))), some (vI (nI (6 * m)))], [], σ) := by
  intro k
  induction k with
  | zero =>
    intro m σ hk hm h hs
    obtain ⟨s1, s2, s3, s4⟩ := hs
    have e1 : (nI L - 6).toInt = (L : Int) - 6 := by rw [lN6, pk_sub_toInt (by omega) (by omega)]; rfl
    have e2 : (nI (6 * m)).toInt = ((6 * m : Nat) : Int) := nI_toInt (by omega)
    have e3 : nI L - 6 < nI (6 * m) := by rw [ltI, e1, e2]; omega
    have e4 : Int32.ofNat L = nI L := rfl
    rw [e218_18]
    simp +decide only [e218_19, e218_20, e218_21, e218_23, e218_24, e218_1818, e218_1819, true_and, and_true, or_true, true_or, if_true, if_false, not_true_eq_false, not_false_eq_true, ne_eq, and_self, Option.toList_some, Option.toList_none, List.cons_append, List.nil_append, catS_0, catS_I, catS_L, catS_R, Option.map_some, Option.map_none, Option.some.injEq, Sum.inl.injEq, exists_eq_left', exists_eq', s2, s3, e4, e3]
    exact hQ m σ (by omega) h
  | succ k ih =>
    intro m σ hk hm h hs
    obtain ⟨s1, s2, s3, s4⟩ := hs
    have e1 : (nI L - 6).toInt = (L : Int) - 6 := by rw [lN6, pk_sub_toInt (by omega) (by omega)]; rfl
    have e2 : (nI (6 * m)).toInt = ((6 * m : Nat) : Int) := nI_toInt (by omega)
    have e4 : Int32.ofNat L = nI L := rfl
    by_cases hlt : 6 * m + 6 ≤ L
    · have e3 : ¬ nI L - 6 < nI (6 * m) := by rw [ltI, e1, e2]; omega
      have e5 : (nI (6 * m)).toNatClampNeg = 6 * m := nI_clamp (by omega)
      have e6 : (0 : Int) ≤ ((6 * m : Nat) : Int) ∧ ((6 * m : Nat) : Int) < (L : Int) := by omega
      have hs : SC L xs σ := ⟨s1, s2, s3, s4⟩
      have ih' : ∀ σ', Inv h0 (m + 1) σ' → SC L xs σ' → Rn 100 Q (218, 18, [some (vR (some (13, 1, 0))), some (vR (some (11, 0, 0))), some (vR (some (12, 0, 0))), some (vI (nI (6 * (m + 1))))], [], σ') := fun σ' h1 h2 => ih (m + 1) σ' (by omega) (by omega) h1 h2
      rw [e218_18]
      simp +decide only [e218_19, e218_20, e218_21, e218_23, e218_24, e218_27, e218_28, e218_29, e218_30, e218_32, true_and, and_true, or_true, true_or, if_true, if_false, not_true_eq_false, not_false_eq_true, ne_eq, and_self, Option.toList_some, Option.toList_none, List.cons_append, List.nil_append, catS_0, catS_I, catS_L, catS_R, Option.map_some, Option.map_none, Option.some.injEq, Sum.inl.injEq, exists_eq_left', exists_eq', s1, s2, s3, e4, e3, e2, e5, e6]
      rw [e218_33]
      refine br_e (fun _ => law_type h hs hlt hL ih') (fun _ => ?_)
      refine br_e (fun _ => law_edition h hs hlt hL ih') (fun _ => ?_)
      refine br_e (fun _ => law_told h hs hlt hL ih') (fun _ => ?_)
      refine br_e (fun _ => law_lesson h hs hlt hL ih') (fun _ => ?_)
      refine br_e (fun _ => law_pupil h hs hlt hL ih') (fun _ => ?_)
      refine br_e (fun _ => law_who h hs hlt hL ih') (fun _ => ?_)
      refine br_e (fun _ => law_habit h hs hlt hL ih') (fun _ => ?_)
      refine br_e (fun _ => law_best h hs hlt hL ih') (fun _ => ?_)
      refine br_e (fun _ => law_may h hs hlt hL ih') (fun _ => ?_)
      refine br_e (fun _ => law_lean h hs hlt hL ih') (fun _ => ?_)
      refine br_e (fun _ => law_post h hs hlt hL ih') (fun _ => ?_)
      refine br_e (fun _ => law_send h hs hlt hL ih') (fun _ => ?_)
      refine br_e (fun _ => law_answer h hs hlt hL ih') (fun _ => ?_)
      refine br_e (fun _ => law_give h hs hlt hL ih') (fun _ => ?_)
      refine br_e (fun _ => law_mark h hs hlt hL ih') (fun _ => ?_)
      refine br_e (fun _ => law_again h hs hlt hL ih') (fun _ => ?_)
      refine br_e (fun _ => law_second h hs hlt hL ih') (fun _ => ?_)
      refine br_e (fun _ => law_thing h hs hlt hL ih') (fun _ => ?_)
      refine br_e (fun _ => law_marks h hs hlt hL ih') (fun _ => ?_)
      refine br_e (fun _ => law_count h hs hlt hL ih') (fun _ => ?_)
      refine br_e (fun _ => law_tutor h hs hlt hL ih') (fun _ => ?_)
      refine br_e (fun _ => law_kin h hs hlt hL ih') (fun _ => ?_)
      refine br_e (fun _ => law_load h hs hlt hL ih') (fun _ => ?_)
      refine br_e (fun _ => law_wait h hs hlt hL ih') (fun _ => ?_)
      refine br_e (fun _ => law_took h hs hlt hL ih') (fun _ => ?_)
      refine br_e (fun _ => law_share h hs hlt hL ih') (fun _ => ?_)
      refine br_e (fun _ => law_shareOf h hs hlt hL ih') (fun _ => ?_)
      refine br_e (fun _ => law_offset h hs hlt hL ih') (fun _ => ?_)
      refine br_e (fun _ => law_key h hs hlt hL ih') (fun _ => ?_)
      refine br_e (fun _ => law_choose h hs hlt hL ih') (fun _ => ?_)
      refine br_e (fun _ => law_like h hs hlt hL ih') (fun _ => ?_)
      refine br_e (fun _ => law_limit h hs hlt hL ih') (fun _ => ?_)
      refine br_e (fun _ => law_doubted h hs hlt hL ih') (fun _ => ?_)
      refine br_e (fun _ => law_fees h hs hlt hL ih') (fun _ => ?_)
      refine br_e (fun _ => law_pay h hs hlt hL ih') (fun _ => ?_)
      refine br_e (fun _ => law_due h hs hlt hL ih') (fun _ => ?_)
      refine br_e (fun _ => law_leave h hs hlt hL ih') (fun _ => ?_)
      refine br_e (fun _ => law_move h hs hlt hL ih') (fun _ => ?_)
      refine br_e (fun _ => law_sheet h hs hlt hL ih') (fun _ => ?_)
      refine br_e (fun _ => law_drop h hs hlt hL ih') (fun _ => ?_)
      refine br_e (fun _ => law_item h hs hlt hL ih') (fun _ => ?_)
      refine br_e (fun _ => law_choices h hs hlt hL ih') (fun _ => ?_)
      have lw6 : nI (6 * m) + 6 = nI (6 * (m + 1)) := by rw [lN6, nI_add]; congr 1
      rw [e218_1812, e218_1815, lw6]
      exact ih' σ h.up hs
    · have e3 : nI L - 6 < nI (6 * m) := by rw [ltI, e1, e2]; omega
      rw [e218_18]
      simp +decide only [e218_19, e218_20, e218_21, e218_23, e218_24, e218_1818, e218_1819, true_and, and_true, or_true, true_or, if_true, if_false, not_true_eq_false, not_false_eq_true, ne_eq, and_self, Option.toList_some, Option.toList_none, List.cons_append, List.nil_append, catS_0, catS_I, catS_L, catS_R, Option.map_some, Option.map_none, Option.some.injEq, Sum.inl.injEq, exists_eq_left', exists_eq', s2, s3, e4, e3]
      exact hQ m σ (by omega) h
theorem law_pure (h0 b L : Nat) (xs : Nat → Int32) (hL : L ≤ 3072) : Rn 100 (fun r σ' => r = some (vI 1) ∧ gH σ' ≤ h0 + 600000 ∧ gS σ' ≤ room_1.slots) (218, 0, ent 218 [vR (some (13, 1, 0))], [], σS h0 b L xs) := by
  have hr : 274800 ≤ room_1.slots := by decide
  have hent : ent 218 [vR (some (13, 1, 0))] = [some (vR (some (13, 1, 0))), none, none, none] := by
    unfold ent; rw [mxl_law]; rfl
  have hz : σS h0 b L xs = Z0 h0 b L xs := rfl
  have z1 : newO (Z0 h0 b L xs) 11 = Z1 h0 b L xs := rfl
  have z2 : newO (Z136 h0 b L xs) 12 = Z137 h0 b L xs := rfl
  have c1 : gN (Z0 h0 b L xs) 11 = 0 := by rw [NZ0]; rfl
  have c2 : gN (Z136 h0 b L xs) 12 = 0 := by rw [NZ136]; decide
  have c3 : gN (Z1 h0 b L xs) 11 = 1 := by rw [NZ1]; decide
  have c4 : gN (Z137 h0 b L xs) 12 = 1 := by rw [NZ137]; decide
  rw [hent, hz]
  simp +decide only [e218_0, e218_3, e218_4, e218_7, e218_8, e218_11, e218_12, e218_15, e218_16, e218_17, true_and, and_true, or_true, true_or, if_true, if_false, not_true_eq_false, not_false_eq_true, ne_eq, and_self, Option.toList_some, Option.toList_none, List.cons_append, List.nil_append, catS_0, catS_I, catS_L, catS_R, Option.map_some, Option.map_none, Option.some.injEq, Sum.inl.injEq, exists_eq_left', exists_eq', z1, z2, c1, c2, c3, c4, ctor_c, ctor_m]
  have t := law_l (h0 := h0) (L := L) (xs := xs) hL (Q := fun r σ' => r = some (vI 1) ∧ gH σ' ≤ h0 + 600000 ∧ gS σ' ≤ room_1.slots) (fun m σ hm h => ⟨rfl, by have := h.2.2.2.2.2.2.2.2.2.2.2.2.1; omega, by have := h.2.2.2.2.2.2.2.2.2.2.2.2.2; omega⟩) (L / 6) 0 (Z213 h0 b L xs) (by omega) (by omega) Inv_0 ⟨?_, ?_, by rw [NZ213]; decide, by rw [NZ213]; decide⟩
  · rw [Nat.mul_zero, nI_0] at t
    exact t
  · exact (AZ213 13 0 0).trans rfl
  · exact GL213
