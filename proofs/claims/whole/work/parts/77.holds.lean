def bz (b : Bool) : Int32 := if b then 1 else 0
theorem bz_t : bz true = 1 := rfl
theorem bz_f : bz false = 0 := rfl
theorem bz01 (b : Bool) : (bz b = 0 ∨ bz b = 1) = True := by cases b <;> simp +decide only [bz_t, bz_f, or_true, true_or]
theorem a11 : (1 : Int32) &&& 1 = 1 := rfl
theorem a01 : (0 : Int32) &&& 1 = 0 := rfl
def bn (b : Bool) : Nat := if b then 1 else 0
/-- passed, with such best marks -/
def pz (B ps : Nat → Int32) (l : Nat) : Bool := decide ((ps l).toInt ≤ (B l).toInt)
/-- a claim: 8 * q + on -/
def clz (B ps : Nat → Int32) (q on : Nat) : Bool := if q = 0 then pz B ps on else decide ((q : Int) - 1 < (B on).toInt)
def clv (B ps : Nat → Int32) (v : Int32) : Bool := clz B ps (v.toInt.toNat / 8) (v.toInt.toNat % 8)
theorem clv_n {B ps : Nat → Int32} {q on : Nat} (h : on < 8) (hq : q ≤ 101) : clv B ps (nI (8 * q + on)) = clz B ps q on := by
  unfold clv
  rw [nI_toInt (by omega)]
  congr 1 <;> omega
/-- one code: what stands waiting -/
def stp (B ps : Nat → Int32) (v : Int32) (st : List Bool) : List Bool := if v = -2 then (match st with | b :: r => (!b) :: r | [] => []) else if v = -3 then (match st with | b2 :: b1 :: r => (b1 && b2) :: r | r => r) else if v = -4 then (match st with | b2 :: b1 :: r => (b1 || b2) :: r | r => r) else clv B ps v :: st
def stk (B ps mw : Nat → Int32) (s : Nat) : Nat → List Bool
  | 0 => []
  | m + 1 => stp B ps (mw (s + m)) (stk B ps mw s m)
def hv : List Bool → Bool
  | [] => true
  | b :: _ => b
def enc : List Bool → Nat
  | [] => 1
  | b :: r => 2 * enc r + bn b
theorem bn_le (b : Bool) : bn b ≤ 1 := by cases b <;> decide
theorem enc_lt : ∀ st : List Bool, enc st < 2 ^ (st.length + 1) := by
  intro st
  induction st with
  | nil => decide
  | cons b r ih =>
    have := bn_le b
    show 2 * enc r + bn b < 2 ^ (r.length + 1 + 1)
    rw [Nat.pow_succ]
    omega
theorem nI_q {q on : Nat} (h : on < 8) (hq : q ≤ 101) : ¬ nI (8 * q + on) = -2 ∧ ¬ nI (8 * q + on) = -3 ∧ ¬ nI (8 * q + on) = -4 ∧ ¬ nI (8 * q + on) = -1 := by
  have h1 : (nI (8 * q + on)).toInt = ((8 * q + on : Nat) : Int) := nI_toInt (by omega)
  refine ⟨fun z => ?_, fun z => ?_, fun z => ?_, fun z => ?_⟩
  · rw [z] at h1; have : (-2 : Int32).toInt = -2 := by decide
    omega
  · rw [z] at h1; have : (-3 : Int32).toInt = -3 := by decide
    omega
  · rw [z] at h1; have : (-4 : Int32).toInt = -4 := by decide
    omega
  · rw [z] at h1; have : (-1 : Int32).toInt = -1 := by decide
    omega
theorem stp_c {B ps : Nat → Int32} {q on : Nat} {st : List Bool} (h : on < 8) (hq : q ≤ 101) : stp B ps (nI (8 * q + on)) st = clz B ps q on :: st := by
  obtain ⟨h1, h2, h3, -⟩ := nI_q h hq
  unfold stp
  rw [if_neg h1, if_neg h2, if_neg h3, clv_n h hq]
theorem stp_t {B ps : Nat → Int32} {b : Bool} {r : List Bool} : stp B ps (-2) (b :: r) = (!b) :: r := if_pos rfl
theorem stp_b {B ps : Nat → Int32} {b b' : Bool} {r : List Bool} : stp B ps (-3) (b :: b' :: r) = (b' && b) :: r := by
  unfold stp
  rw [if_neg (by decide), if_pos rfl]
theorem stp_e {B ps : Nat → Int32} {b b' : Bool} {r : List Bool} : stp B ps (-4) (b :: b' :: r) = (b' || b) :: r := by
  unfold stp
  rw [if_neg (by decide), if_neg (by decide), if_pos rfl]
theorem stk_len {B ps mw cd : Nat → Int32} {b s e : Nat} {D : Nat → Nat} (h0 : D s = 0) (hD : ∀ k, s ≤ k → k < e → D (k + 1) ≤ 20 ∧ ((∃ on m : Nat, on < 8 ∧ m ≤ 101 ∧ b.testBit on = true ∧ cd k = nI (8 * m + on) ∧ mw k = nI (8 * m + on) ∧ D (k + 1) = D k + 1) ∨ (cd k = -1 ∧ mw k = -2 ∧ 1 ≤ D k ∧ D (k + 1) = D k) ∨ (cd k = -2 ∧ mw k = -3 ∧ 2 ≤ D k ∧ D (k + 1) + 1 = D k) ∨ (cd k = -3 ∧ mw k = -4 ∧ 2 ≤ D k ∧ D (k + 1) + 1 = D k))) : ∀ m, s + m ≤ e → (stk B ps mw s m).length = D (s + m) := by
  intro m
  induction m with
  | zero => intro _; exact h0.symm
  | succ m ih =>
    intro hm
    have hl := ih (by omega)
    show (stp B ps (mw (s + m)) (stk B ps mw s m)).length = D (s + m + 1)
    rcases (hD (s + m) (by omega) (by omega)).2 with ⟨on, q, d1, d2, -, -, d3, d4⟩ | ⟨-, d3, d4, d5⟩ | ⟨-, d3, d4, d5⟩ | ⟨-, d3, d4, d5⟩
    · rw [d3, stp_c d1 d2, d4, ← hl]; rfl
    · rw [d3, d5, ← hl]
      rw [← hl] at d4
      match stk B ps mw s m, d4 with
      | b :: r, _ => rw [stp_t]; rfl
    · rw [d3]
      rw [← hl] at d4 d5
      match stk B ps mw s m, d4, d5 with
      | b :: b' :: r, _, d5 =>
        have d5 : D (s + m + 1) + 1 = r.length + 1 + 1 := d5
        rw [stp_b]
        show r.length + 1 = _
        omega
    · rw [d3]
      rw [← hl] at d4 d5
      match stk B ps mw s m, d4, d5 with
      | b :: b' :: r, _, d5 =>
        have d5 : D (s + m + 1) + 1 = r.length + 1 + 1 := d5
        rw [stp_e]
        show r.length + 1 = _
        omega
theorem tb_s (x i : Nat) : x.testBit (i + 1) = (x / 2).testBit i := by
  first | exact Nat.testBit_add_one x i | exact Nat.testBit_succ x i
theorem n_xor1 (e b : Nat) (hb : b ≤ 1) : (2 * e + b) ^^^ 1 = 2 * e + (1 - b) := by
  apply Nat.eq_of_testBit_eq
  intro i
  rw [Nat.testBit_xor]
  cases i with
  | zero =>
    rw [Nat.testBit_zero, Nat.testBit_zero, Nat.testBit_zero]
    rcases (show b = 0 ∨ b = 1 by omega) with rfl | rfl
    · rw [show (2 * e + 0) % 2 = 0 by omega, show (2 * e + (1 - 0)) % 2 = 1 by omega]; rfl
    · rw [show (2 * e + 1) % 2 = 1 by omega, show (2 * e + (1 - 1)) % 2 = 0 by omega]; rfl
  | succ i =>
    rw [tb_s, tb_s, tb_s, show (2 * e + b) / 2 = e by omega, show 1 / 2 = 0 from rfl, show (2 * e + (1 - b)) / 2 = e by omega, Nat.zero_testBit, Bool.xor_false]
theorem n_or1 (e b c : Nat) (hb : b ≤ 1) (hc : c ≤ 1) : (2 * e + b) ||| c = 2 * e + (if b = 1 ∨ c = 1 then 1 else 0) := by
  apply Nat.eq_of_testBit_eq
  intro i
  rw [Nat.testBit_or]
  cases i with
  | zero =>
    rw [Nat.testBit_zero, Nat.testBit_zero, Nat.testBit_zero]
    rcases (show b = 0 ∨ b = 1 by omega) with rfl | rfl
    · rw [show (2 * e + 0) % 2 = 0 by omega]
      rcases (show c = 0 ∨ c = 1 by omega) with rfl | rfl
      · rw [if_neg (by omega), show (2 * e + 0) % 2 = 0 by omega]; rfl
      · rw [if_pos (by omega), show (2 * e + 1) % 2 = 1 by omega]; rfl
    · rw [if_pos (by omega), show (2 * e + 1) % 2 = 1 by omega]; rfl
  | succ i =>
    rw [tb_s, tb_s, tb_s, show (2 * e + b) / 2 = e by omega, show c / 2 = 0 by omega, show (2 * e + (if b = 1 ∨ c = 1 then 1 else 0)) / 2 = e by split <;> omega, Nat.zero_testBit, Bool.or_false]
theorem k_and1 {e b : Nat} (hb : b ≤ 1) (h : 2 * e + b < 2 ^ 31) : nI (2 * e + b) &&& 1 = nI b := by
  rw [pk_andN (by omega) (m := 1) 1 (by decide)]
  congr 1; omega
theorem nI_xo (a b : Nat) : nI a ^^^ nI b = nI (a ^^^ b) := by
  apply Int32.toBitVec_inj.1
  show BitVec.ofNat 32 a ^^^ BitVec.ofNat 32 b = BitVec.ofNat 32 (a ^^^ b)
  apply BitVec.eq_of_getLsbD_eq
  intro i hi
  simp [hi]
theorem k_xor1 {e b : Nat} (hb : b ≤ 1) : nI (2 * e + b) ^^^ 1 = nI (2 * e + (1 - b)) := by
  rw [lN1, nI_xo, n_xor1 e b hb]
theorem k_shr1 {e b : Nat} (hb : b ≤ 1) (h : 2 * e + b < 2 ^ 31) : nI (2 * e + b) >>> (1 &&& 31) = nI e := by
  rw [pk_shrN h (1 &&& 31) 1 (by decide)]
  congr 1; omega
theorem k_shl1 {e : Nat} (h : 2 * e < 2 ^ 31) : nI e <<< (1 &&& 31) = nI (2 * e) := by
  rw [pk_shlN (1 &&& 31) 1 (by decide) (by omega)]
  congr 1; omega
theorem m2_bit : ∀ i, i < 32 → (-2 : Int32).toBitVec.getLsbD i = decide (i ≠ 0) := by decide +kernel
theorem k_andm2 {e b : Nat} (hb : b ≤ 1) : nI (2 * e + b) &&& (-2) = nI (2 * e) := by
  apply Int32.toBitVec_inj.1
  apply BitVec.eq_of_getLsbD_eq
  intro i hi
  rw [Int32.toBitVec_and, BitVec.getLsbD_and, m2_bit i hi]
  show ((BitVec.ofNat 32 (2 * e + b)).getLsbD i && decide (i ≠ 0)) = (BitVec.ofNat 32 (2 * e)).getLsbD i
  rw [BitVec.getLsbD_ofNat, BitVec.getLsbD_ofNat]
  cases i with
  | zero =>
    rw [Nat.testBit_zero, Nat.testBit_zero, show (2 * e) % 2 = 0 by omega]
    simp
  | succ i =>
    rw [tb_s, tb_s, show (2 * e + b) / 2 = e by omega, show (2 * e) / 2 = e by omega]
    simp
theorem k_or1 {e b c : Nat} (hb : b ≤ 1) (hc : c ≤ 1) : nI (2 * e + b) ||| nI c = nI (2 * e + (if b = 1 ∨ c = 1 then 1 else 0)) := by
  rw [nI_or, n_or1 e b c hb hc]
theorem nI_bn (b : Bool) : nI (bn b) = bz b := by cases b <;> rfl
section HOL
variable {d : Nat} {Q : Option AV → St → Prop} {σ : St} {i l C K q on : Nat} {B ps : Nat → Int32}
theorem c_isP (a1 : SH σ) (hi : i < gN σ 0) (hl : l < 8) (hk : fk C K = (1, 1)) (hL : gL σ C K 0 = some 8) (hN : 0 < gN σ C) (h1 : gA σ C K 0 l = B l) (h2 : gA σ 0 3 i l = ps l) : Rn d Q (8, 0, [some (vR (some (0, 0, i))), some (vI (nI l)), some (vR (some (C, K + 1, 0)))], [], σ) = Q (some (vI (bz (pz B ps l)))) σ := by
  have l2 : (nI l).toInt = (l : Int) := nI_toInt (by omega)
  have l3 : (0 : Int) ≤ (l : Int) := by omega
  have l4 : (l : Int) < ((8 : Nat) : Int) := by omega
  have l5 : (nI l).toNatClampNeg = l := nI_clamp (by omega)
  unfold pz
  by_cases h3 : (B l).toInt < (ps l).toInt
  · rw [decide_eq_false (by omega), bz_f]
    simp +decide only [e8_0, e8_1, e8_2, e8_3, e8_4, e8_7, e8_8, e8_9, e8_12, e8_13, e8_16, e8_17, true_and, and_true, or_true, true_or, if_true, if_false, not_true_eq_false, not_false_eq_true, ne_eq, and_self, Option.toList_some, Option.toList_none, List.cons_append, List.nil_append, catS_0, catS_I, catS_L, catS_R, Option.map_some, Option.map_none, Option.some.injEq, Sum.inl.injEq, exists_eq_left', exists_eq', ltI, hk, hL, hN, hi, l2, l3, l4, l5, h1, h2, h3, L0_3 a1 hi]
  · rw [decide_eq_true (by omega), bz_t]
    simp +decide only [e8_0, e8_1, e8_2, e8_3, e8_4, e8_7, e8_8, e8_9, e8_12, e8_13, e8_16, e8_17, true_and, and_true, or_true, true_or, if_true, if_false, not_true_eq_false, not_false_eq_true, ne_eq, and_self, Option.toList_some, Option.toList_none, List.cons_append, List.nil_append, catS_0, catS_I, catS_L, catS_R, Option.map_some, Option.map_none, Option.some.injEq, Sum.inl.injEq, exists_eq_left', exists_eq', ltI, hk, hL, hN, hi, l2, l3, l4, l5, h1, h2, h3, L0_3 a1 hi]
theorem c_claim (a1 : SH σ) (hi : i < gN σ 0) (ho : on < 8) (hq : q ≤ 101) (hk : fk C K = (1, 1)) (hL : gL σ C K 0 = some 8) (hN : 0 < gN σ C) (h1 : gA σ C K 0 on = B on) (h2 : gA σ 0 3 i on = ps on) : Rn (d + 1) Q (9, 0, [some (vR (some (0, 0, i))), some (vI (nI (8 * q + on))), some (vR (some (C, K + 1, 0))), none], [], σ) = Q (some (vI (bz (clz B ps q on)))) σ := by
  have l2 : (nI on).toInt = (on : Int) := nI_toInt (by omega)
  have l3 : (0 : Int) ≤ (on : Int) := by omega
  have l4 : (on : Int) < ((8 : Nat) : Int) := by omega
  have l5 : (nI on).toNatClampNeg = on := nI_clamp (by omega)
  have v1 : nI (8 * q + on) &&& 7 = nI on := by
    rw [pk_andN (by omega) (m := 7) 3 (by decide)]
    congr 1; omega
  have ci := fun {d : Nat} {Q : Option AV → St → Prop} => c_isP (d := d) (Q := Q) (B := B) (ps := ps) a1 hi ho hk hL hN h1 h2
  unfold clz
  by_cases hq0 : q = 0
  · have v2 : ¬ (8 : Int32) ≤ nI (8 * q + on) := nI_ge (b := 8) (by omega) (by omega)
    rw [if_pos hq0]
    simp +decide only [e9_0, e9_1, e9_3, e9_4, e9_5, e9_6, e9_8, e9_11, e9_12, e9_13, e9_14, e9_17, e9_20, e9_21, e9_22, e9_23, e9_24, e9_26, e9_27, e9_28, e9_29, e9_32, e9_33, e9_36, e9_37, true_and, and_true, or_true, true_or, if_true, if_false, not_true_eq_false, not_false_eq_true, ne_eq, and_self, Option.toList_some, Option.toList_none, List.cons_append, List.nil_append, catS_0, catS_I, catS_L, catS_R, Option.map_some, Option.map_none, Option.some.injEq, Sum.inl.injEq, exists_eq_left', exists_eq', hi, v1, v2, ci, bz01]
  · have v2 : (8 : Int32) ≤ nI (8 * q + on) := nI_le (a := 8) (by omega) (by omega)
    have v3 : nI (8 * q + on) / 8 = nI q := by
      rw [lN8, pk_div (by omega) (by omega) (by omega)]
      congr 1; omega
    have v4 := nI_m1 (n := q) (by omega)
    rw [if_neg hq0]
    by_cases h3 : (B on).toInt ≤ (q : Int) - 1
    · rw [decide_eq_false (by omega), bz_f]
      simp +decide only [e9_0, e9_1, e9_3, e9_4, e9_5, e9_6, e9_8, e9_11, e9_12, e9_13, e9_14, e9_17, e9_20, e9_21, e9_22, e9_23, e9_24, e9_26, e9_27, e9_28, e9_29, e9_32, e9_33, e9_36, e9_37, true_and, and_true, or_true, true_or, if_true, if_false, not_true_eq_false, not_false_eq_true, ne_eq, and_self, Option.toList_some, Option.toList_none, List.cons_append, List.nil_append, catS_0, catS_I, catS_L, catS_R, Option.map_some, Option.map_none, Option.some.injEq, Sum.inl.injEq, exists_eq_left', exists_eq', leI, hi, v1, v2, v3, v4, hk, hL, hN, l2, l3, l4, l5, h1, h3]
    · rw [decide_eq_true (by omega), bz_t]
      simp +decide only [e9_0, e9_1, e9_3, e9_4, e9_5, e9_6, e9_8, e9_11, e9_12, e9_13, e9_14, e9_17, e9_20, e9_21, e9_22, e9_23, e9_24, e9_26, e9_27, e9_28, e9_29, e9_32, e9_33, e9_36, e9_37, true_and, and_true, or_true, true_or, if_true, if_false, not_true_eq_false, not_false_eq_true, ne_eq, and_self, Option.toList_some, Option.toList_none, List.cons_append, List.nil_append, catS_0, catS_I, catS_L, catS_R, Option.map_some, Option.map_none, Option.some.injEq, Sum.inl.injEq, exists_eq_left', exists_eq', leI, hi, v1, v2, v3, v4, hk, hL, hN, l2, l3, l4, l5, h1, h3]
end HOL
