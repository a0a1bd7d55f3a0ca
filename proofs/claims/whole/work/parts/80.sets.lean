/-- the lessons below m of which P holds, as bits -/
def accB (P : Nat → Bool) : Nat → Nat
  | 0 => 0
  | m + 1 => accB P m ||| if P m then 2 ^ m else 0
theorem accB_t {P : Nat → Bool} {m : Nat} (h : P m = true) : accB P (m + 1) = accB P m ||| 2 ^ m := by
  show (accB P m ||| if P m then 2 ^ m else 0) = _
  rw [if_pos h]
theorem accB_f {P : Nat → Bool} {m : Nat} (h : P m = false) : accB P (m + 1) = accB P m := by
  show (accB P m ||| if P m then 2 ^ m else 0) = _
  rw [if_neg (by rw [h]; decide), Nat.or_zero]
theorem accB_tb {P : Nat → Bool} {i : Nat} : ∀ m, (accB P m).testBit i = (decide (i < m) && P i) := by
  intro m
  induction m with
  | zero =>
    show (0 : Nat).testBit i = _
    rw [Nat.zero_testBit, decide_eq_false (by omega)]; rfl
  | succ m ih =>
    cases hp : P m with
    | true =>
      rw [accB_t hp, Nat.testBit_or, ih, Nat.testBit_two_pow]
      by_cases h1 : i = m
      · subst h1
        rw [decide_eq_false (show ¬ i < i by omega), decide_eq_true (show i = i from rfl), decide_eq_true (show i < i + 1 by omega), hp]; rfl
      · rw [decide_eq_false (show ¬ m = i by omega), Bool.or_false]
        by_cases h2 : i < m
        · rw [decide_eq_true h2, decide_eq_true (show i < m + 1 by omega)]
        · rw [decide_eq_false h2, decide_eq_false (show ¬ i < m + 1 by omega)]
    | false =>
      rw [accB_f hp, ih]
      by_cases h1 : i = m
      · subst h1
        rw [hp, Bool.and_false, Bool.and_false]
      · by_cases h2 : i < m
        · rw [decide_eq_true h2, decide_eq_true (show i < m + 1 by omega)]
        · rw [decide_eq_false h2, decide_eq_false (show ¬ i < m + 1 by omega)]
theorem accB_lt {P : Nat → Bool} : ∀ m, accB P m < 2 ^ m := by
  intro m
  induction m with
  | zero => exact (by decide : 0 < 2 ^ 0)
  | succ m ih =>
    have hp : 2 ^ m < 2 ^ (m + 1) := Nat.pow_lt_pow_right (by omega) (by omega)
    cases h : P m with
    | true => rw [accB_t h]; exact Nat.or_lt_two_pow (by omega) hp
    | false => rw [accB_f h]; omega
theorem accB_256 {P : Nat → Bool} : accB P 8 < 256 := accB_lt 8
theorem accB_ext {P P' : Nat → Bool} : ∀ m, (∀ l, l < m → P l = P' l) → accB P m = accB P' m := by
  intro m
  induction m with
  | zero => intro _; rfl
  | succ m ih =>
    intro h
    show (accB P m ||| if P m then 2 ^ m else 0) = (accB P' m ||| if P' m then 2 ^ m else 0)
    rw [ih (fun l hl => h l (by omega)), h m (by omega)]
theorem m1_bit : ∀ i, i < 32 → (-1 : Int32).toBitVec.getLsbD i = true := by decide +kernel
theorem nI_bit {n i : Nat} (hi : i < 32) : (nI n).toBitVec.getLsbD i = n.testBit i := by
  show (BitVec.ofNat 32 n).getLsbD i = _
  rw [BitVec.getLsbD_ofNat, decide_eq_true hi, Bool.true_and]
theorem tb_256 {b i : Nat} (hb : b < 256) (hi : 8 ≤ i) : b.testBit i = false := Nat.testBit_lt_two_pow (Nat.lt_of_lt_of_le hb (show 2 ^ 8 ≤ 2 ^ i from Nat.pow_le_pow_right (by omega) hi))
theorem less_pass {b : Nat} {P : Nat → Bool} (hb : b < 256) : nI b &&& (nI (accB (fun l => b.testBit l && P l) 8) ^^^ -1) = nI (accB (fun l => b.testBit l && !P l) 8) := by
  apply Int32.toBitVec_inj.1
  apply BitVec.eq_of_getLsbD_eq
  intro i hi
  rw [Int32.toBitVec_and, BitVec.getLsbD_and, Int32.toBitVec_xor, BitVec.getLsbD_xor, m1_bit i hi, nI_bit hi, nI_bit hi, nI_bit hi, accB_tb, accB_tb]
  by_cases h8 : i < 8
  · rw [decide_eq_true h8]
    cases b.testBit i <;> cases P i <;> rfl
  · rw [decide_eq_false h8, tb_256 hb (by omega)]
    rfl
/-- what leads up to a lesson holds -/
def hz (B ps mf mt mw : Nat → Int32) (l : Nat) : Bool := hv (stk B ps mw (mf l).toNatClampNeg ((mt l).toNatClampNeg - (mf l).toNatClampNeg))
/-- bits of what (0 open, 1 passed, 2 lacking) -/
def PW (w b : Nat) (B ps mf mt mw : Nat → Int32) (l : Nat) : Bool := b.testBit l && (if w = 0 then !pz B ps l && hz B ps mf mt mw l else if w = 1 then pz B ps l else !pz B ps l)
section SETS
variable {d : Nat} {Q : Option AV → St → Prop} {σ : St} {i C K b E : Nat} {B ps mf mt mw : Nat → Int32}
theorem c_pass_l (a1 : SH σ) (hi : i < gN σ 0) (hk : fk C K = (1, 1)) (hL : gL σ C K 0 = some 8) (hN : 0 < gN σ C) (hb : b < 256) (hl1 : gI σ 0 1 i = nI b) (hB : ∀ on, on < 8 → b.testBit on = true → gA σ C K 0 on = B on ∧ gA σ 0 3 i on = ps on) : ∀ n m, m + n = 8 → Rn (d + 2) Q (11, 4, [some (vR (some (0, 0, i))), some (vR (some (C, K + 1, 0))), some (vI (nI (accB (PW 1 b B ps mf mt mw) m))), some (vI (nI m))], [], σ) = Q (some (vI (nI (accB (PW 1 b B ps mf mt mw) 8)))) σ := by
  intro n
  induction n with
  | zero =>
    intro m hm
    have e1 : (8 : Int32) ≤ nI m := nI_le (a := 8) (by omega) (by omega)
    rw [e11_4]
    simp +decide only [e11_0, e11_1, e11_2, e11_3, e11_5, e11_7, e11_10, e11_11, e11_12, e11_15, e11_18, e11_19, e11_20, e11_21, e11_24, e11_27, e11_28, e11_29, e11_30, e11_31, e11_32, e11_33, e11_36, e11_39, e11_40, true_and, and_true, or_true, true_or, if_true, if_false, not_true_eq_false, not_false_eq_true, ne_eq, and_self, Option.toList_some, Option.toList_none, List.cons_append, List.nil_append, catS_0, catS_I, catS_L, catS_R, Option.map_some, Option.map_none, e1]
    rw [show m = 8 by omega]
  | succ n ih =>
    intro m hm
    have e1 : ¬ (8 : Int32) ≤ nI m := nI_ge (b := 8) (by omega) (by omega)
    have e2 : (nI m).toInt = (m : Int) := nI_toInt (by omega)
    have e3 : (0 : Int) ≤ (m : Int) := by omega
    have e4 : (m : Int) < 8 := by omega
    have e5 : (nI m).toNatClampNeg = m := nI_clamp (by omega)
    have t := ih (m + 1) (by omega)
    rw [← nI_1] at t
    have ct := fun {d : Nat} {Q : Option AV → St → Prop} => c_tells (d := d) (Q := Q) (a := nI m) hi hb hl1
    rw [e2, e5] at ct
    rw [← t, e11_4]
    by_cases hT : b.testBit m = true
    · have cp := fun {d : Nat} {Q : Option AV → St → Prop} => c_isP (d := d) (Q := Q) (l := m) (B := B) (ps := ps) a1 hi (by omega) hk hL hN (hB m (by omega) hT).1 (hB m (by omega) hT).2
      cases hp : pz B ps m with
      | true =>
        rw [hp, bz_t] at cp
        rw [accB_t (show PW 1 b B ps mf mt mw m = true by unfold PW; rw [hT, hp]; rfl), ← nI_or, ← one_sh (by omega)]
        simp +decide only [e11_0, e11_1, e11_2, e11_3, e11_5, e11_7, e11_10, e11_11, e11_12, e11_15, e11_18, e11_19, e11_20, e11_21, e11_24, e11_27, e11_28, e11_29, e11_30, e11_31, e11_32, e11_33, e11_36, e11_39, e11_40, true_and, and_true, or_true, true_or, if_true, if_false, not_true_eq_false, not_false_eq_true, ne_eq, and_self, Option.toList_some, Option.toList_none, List.cons_append, List.nil_append, catS_0, catS_I, catS_L, catS_R, Option.map_some, Option.map_none, Option.some.injEq, Sum.inl.injEq, exists_eq_left', exists_eq', ct, cp, e1, e3, e4, hT, hi]
      | false =>
        rw [hp, bz_f] at cp
        rw [accB_f (show PW 1 b B ps mf mt mw m = false by unfold PW; rw [hT, hp]; rfl)]
        simp +decide only [e11_0, e11_1, e11_2, e11_3, e11_5, e11_7, e11_10, e11_11, e11_12, e11_15, e11_18, e11_19, e11_20, e11_21, e11_24, e11_27, e11_28, e11_29, e11_30, e11_31, e11_32, e11_33, e11_36, e11_39, e11_40, true_and, and_true, or_true, true_or, if_true, if_false, not_true_eq_false, not_false_eq_true, ne_eq, and_self, Option.toList_some, Option.toList_none, List.cons_append, List.nil_append, catS_0, catS_I, catS_L, catS_R, Option.map_some, Option.map_none, Option.some.injEq, Sum.inl.injEq, exists_eq_left', exists_eq', ct, cp, e1, e3, e4, hT, hi]
    · rw [accB_f (show PW 1 b B ps mf mt mw m = false by unfold PW; rw [(by simpa using hT : b.testBit m = false)]; rfl)]
      simp +decide only [e11_0, e11_1, e11_2, e11_3, e11_5, e11_7, e11_10, e11_11, e11_12, e11_15, e11_18, e11_19, e11_20, e11_21, e11_24, e11_27, e11_28, e11_29, e11_30, e11_31, e11_32, e11_33, e11_36, e11_39, e11_40, true_and, and_true, or_true, true_or, if_true, if_false, not_true_eq_false, not_false_eq_true, ne_eq, and_self, Option.toList_some, Option.toList_none, List.cons_append, List.nil_append, catS_0, catS_I, catS_L, catS_R, Option.map_some, Option.map_none, Option.some.injEq, Sum.inl.injEq, exists_eq_left', exists_eq', ct, e1, e3, e4, hT, hi]
theorem c_passed (a1 : SH σ) (hi : i < gN σ 0) (hk : fk C K = (1, 1)) (hL : gL σ C K 0 = some 8) (hN : 0 < gN σ C) (hb : b < 256) (hl1 : gI σ 0 1 i = nI b) (hB : ∀ on, on < 8 → b.testBit on = true → gA σ C K 0 on = B on ∧ gA σ 0 3 i on = ps on) : Rn (d + 2) Q (11, 0, [some (vR (some (0, 0, i))), some (vR (some (C, K + 1, 0))), none, none], [], σ) = Q (some (vI (nI (accB (PW 1 b B ps mf mt mw) 8)))) σ := by
  have t := c_pass_l (d := d) (Q := Q) (mf := mf) (mt := mt) (mw := mw) a1 hi hk hL hN hb hl1 hB 8 0 (by omega)
  have z0 : nI (accB (PW 1 b B ps mf mt mw) 0) = 0 := rfl
  rw [z0, nI_0] at t
  simp +decide only [e11_0, e11_1, e11_2, e11_3, e11_5, e11_7, e11_10, e11_11, e11_12, e11_15, e11_18, e11_19, e11_20, e11_21, e11_24, e11_27, e11_28, e11_29, e11_30, e11_31, e11_32, e11_33, e11_36, e11_39, e11_40, t]
theorem c_open_l (a1 : SH σ) (hi : i < gN σ 0) (hk : fk C K = (1, 1)) (hL : gL σ C K 0 = some 8) (hN : 0 < gN σ C) (hb : b < 256) (hl1 : gI σ 0 1 i = nI b) (hB : ∀ on, on < 8 → b.testBit on = true → gA σ C K 0 on = B on ∧ gA σ 0 3 i on = ps on) (hR : ∀ l, l < 8 → b.testBit l = true → ∃ s e : Nat, s ≤ e ∧ e ≤ 120 ∧ gA σ 0 5 i l = nI s ∧ mf l = nI s ∧ gA σ 0 6 i l = nI e ∧ mt l = nI e ∧ CW b (gA σ 0 7 i) mw s e) : ∀ n m, m + n = 8 → Rn (d + 3) Q (12, 4, [some (vR (some (0, 0, i))), some (vR (some (C, K + 1, 0))), some (vI (nI (accB (PW 0 b B ps mf mt mw) m))), some (vI (nI m))], [], σ) = Q (some (vI (nI (accB (PW 0 b B ps mf mt mw) 8)))) σ := by
  intro n
  induction n with
  | zero =>
    intro m hm
    have e1 : (8 : Int32) ≤ nI m := nI_le (a := 8) (by omega) (by omega)
    rw [e12_4]
    simp +decide only [e12_0, e12_1, e12_2, e12_3, e12_5, e12_7, e12_10, e12_11, e12_12, e12_15, e12_18, e12_19, e12_20, e12_21, e12_24, e12_27, e12_28, e12_29, e12_30, e12_33, e12_36, e12_37, e12_38, e12_39, e12_40, e12_41, e12_42, e12_45, e12_48, e12_49, true_and, and_true, or_true, true_or, if_true, if_false, not_true_eq_false, not_false_eq_true, ne_eq, and_self, Option.toList_some, Option.toList_none, List.cons_append, List.nil_append, catS_0, catS_I, catS_L, catS_R, Option.map_some, Option.map_none, e1]
    rw [show m = 8 by omega]
  | succ n ih =>
    intro m hm
    have e1 : ¬ (8 : Int32) ≤ nI m := nI_ge (b := 8) (by omega) (by omega)
    have e2 : (nI m).toInt = (m : Int) := nI_toInt (by omega)
    have e3 : (0 : Int) ≤ (m : Int) := by omega
    have e4 : (m : Int) < 8 := by omega
    have e5 : (nI m).toNatClampNeg = m := nI_clamp (by omega)
    have t := ih (m + 1) (by omega)
    rw [← nI_1] at t
    have ct := fun {d : Nat} {Q : Option AV → St → Prop} => c_tells (d := d) (Q := Q) (a := nI m) hi hb hl1
    rw [e2, e5] at ct
    rw [← t, e12_4]
    by_cases hT : b.testBit m = true
    · have cp := fun {d : Nat} {Q : Option AV → St → Prop} => c_isP (d := d) (Q := Q) (l := m) (B := B) (ps := ps) a1 hi (by omega) hk hL hN (hB m (by omega) hT).1 (hB m (by omega) hT).2
      obtain ⟨s, e, s1, s2, s3, s4, s5, s6, s7⟩ := hR m (by omega) hT
      have ch := fun {d : Nat} {Q : Option AV → St → Prop} => c_holds (d := d) (Q := Q) (l := m) (B := B) (ps := ps) a1 hi (by omega) hk hL hN s1 s2 s3 s5 s7 hB
      have hh : hz B ps mf mt mw m = hv (stk B ps mw s (e - s)) := by
        unfold hz
        rw [s4, s6, nI_clamp (by omega), nI_clamp (by omega)]
      rw [← hh] at ch
      cases hp : pz B ps m with
      | true =>
        rw [hp, bz_t] at cp
        rw [accB_f (show PW 0 b B ps mf mt mw m = false by unfold PW; rw [hT, hp]; rfl)]
        simp +decide only [e12_0, e12_1, e12_2, e12_3, e12_5, e12_7, e12_10, e12_11, e12_12, e12_15, e12_18, e12_19, e12_20, e12_21, e12_24, e12_27, e12_28, e12_29, e12_30, e12_33, e12_36, e12_37, e12_38, e12_39, e12_40, e12_41, e12_42, e12_45, e12_48, e12_49, true_and, and_true, or_true, true_or, if_true, if_false, not_true_eq_false, not_false_eq_true, ne_eq, and_self, Option.toList_some, Option.toList_none, List.cons_append, List.nil_append, catS_0, catS_I, catS_L, catS_R, Option.map_some, Option.map_none, Option.some.injEq, Sum.inl.injEq, exists_eq_left', exists_eq', ct, cp, e1, e3, e4, hT, hi]
      | false =>
        rw [hp, bz_f] at cp
        cases hq : hz B ps mf mt mw m with
        | true =>
          rw [hq, bz_t] at ch
          rw [accB_t (show PW 0 b B ps mf mt mw m = true by unfold PW; rw [hT, hp, hq]; rfl), ← nI_or, ← one_sh (by omega)]
          simp +decide only [e12_0, e12_1, e12_2, e12_3, e12_5, e12_7, e12_10, e12_11, e12_12, e12_15, e12_18, e12_19, e12_20, e12_21, e12_24, e12_27, e12_28, e12_29, e12_30, e12_33, e12_36, e12_37, e12_38, e12_39, e12_40, e12_41, e12_42, e12_45, e12_48, e12_49, true_and, and_true, or_true, true_or, if_true, if_false, not_true_eq_false, not_false_eq_true, ne_eq, and_self, Option.toList_some, Option.toList_none, List.cons_append, List.nil_append, catS_0, catS_I, catS_L, catS_R, Option.map_some, Option.map_none, Option.some.injEq, Sum.inl.injEq, exists_eq_left', exists_eq', ct, cp, ch, e1, e3, e4, hT, hi]
        | false =>
          rw [hq, bz_f] at ch
          rw [accB_f (show PW 0 b B ps mf mt mw m = false by unfold PW; rw [hT, hp, hq]; rfl)]
          simp +decide only [e12_0, e12_1, e12_2, e12_3, e12_5, e12_7, e12_10, e12_11, e12_12, e12_15, e12_18, e12_19, e12_20, e12_21, e12_24, e12_27, e12_28, e12_29, e12_30, e12_33, e12_36, e12_37, e12_38, e12_39, e12_40, e12_41, e12_42, e12_45, e12_48, e12_49, true_and, and_true, or_true, true_or, if_true, if_false, not_true_eq_false, not_false_eq_true, ne_eq, and_self, Option.toList_some, Option.toList_none, List.cons_append, List.nil_append, catS_0, catS_I, catS_L, catS_R, Option.map_some, Option.map_none, Option.some.injEq, Sum.inl.injEq, exists_eq_left', exists_eq', ct, cp, ch, e1, e3, e4, hT, hi]
    · rw [accB_f (show PW 0 b B ps mf mt mw m = false by unfold PW; rw [(by simpa using hT : b.testBit m = false)]; rfl)]
      simp +decide only [e12_0, e12_1, e12_2, e12_3, e12_5, e12_7, e12_10, e12_11, e12_12, e12_15, e12_18, e12_19, e12_20, e12_21, e12_24, e12_27, e12_28, e12_29, e12_30, e12_33, e12_36, e12_37, e12_38, e12_39, e12_40, e12_41, e12_42, e12_45, e12_48, e12_49, true_and, and_true, or_true, true_or, if_true, if_false, not_true_eq_false, not_false_eq_true, ne_eq, and_self, Option.toList_some, Option.toList_none, List.cons_append, List.nil_append, catS_0, catS_I, catS_L, catS_R, Option.map_some, Option.map_none, Option.some.injEq, Sum.inl.injEq, exists_eq_left', exists_eq', ct, e1, e3, e4, hT, hi]
theorem c_open (a1 : SH σ) (hi : i < gN σ 0) (hk : fk C K = (1, 1)) (hL : gL σ C K 0 = some 8) (hN : 0 < gN σ C) (hb : b < 256) (hl1 : gI σ 0 1 i = nI b) (hB : ∀ on, on < 8 → b.testBit on = true → gA σ C K 0 on = B on ∧ gA σ 0 3 i on = ps on) (hR : ∀ l, l < 8 → b.testBit l = true → ∃ s e : Nat, s ≤ e ∧ e ≤ 120 ∧ gA σ 0 5 i l = nI s ∧ mf l = nI s ∧ gA σ 0 6 i l = nI e ∧ mt l = nI e ∧ CW b (gA σ 0 7 i) mw s e) : Rn (d + 3) Q (12, 0, [some (vR (some (0, 0, i))), some (vR (some (C, K + 1, 0))), none, none], [], σ) = Q (some (vI (nI (accB (PW 0 b B ps mf mt mw) 8)))) σ := by
  have t := c_open_l (d := d) (Q := Q) (mf := mf) (mt := mt) (mw := mw) a1 hi hk hL hN hb hl1 hB hR 8 0 (by omega)
  have z0 : nI (accB (PW 0 b B ps mf mt mw) 0) = 0 := rfl
  rw [z0, nI_0] at t
  simp +decide only [e12_0, e12_1, e12_2, e12_3, e12_5, e12_7, e12_10, e12_11, e12_12, e12_15, e12_18, e12_19, e12_20, e12_21, e12_24, e12_27, e12_28, e12_29, e12_30, e12_33, e12_36, e12_37, e12_38, e12_39, e12_40, e12_41, e12_42, e12_45, e12_48, e12_49, t]
end SETS
