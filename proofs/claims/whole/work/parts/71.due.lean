theorem rk_y {pt : Nat → Int32} {k : Nat} (h : pt k = 1) : rk pt (k + 1) = rk pt k + 1 := by
  show rk pt k + (if pt k = 1 then 1 else 0) = _
  rw [if_pos h]
theorem rk_n {pt : Nat → Int32} {k : Nat} (h : ¬ pt k = 1) : rk pt (k + 1) = rk pt k := by
  show rk pt k + (if pt k = 1 then 1 else 0) = _
  rw [if_neg h]; rfl
theorem rk_le {pt : Nat → Int32} : ∀ k, rk pt k ≤ k := by
  intro k
  induction k with
  | zero => exact Nat.le_refl _
  | succ k ih =>
    show rk pt k + (if pt k = 1 then 1 else 0) ≤ k + 1
    split <;> omega
theorem rk_mono {pt : Nat → Int32} : ∀ n k, rk pt k ≤ rk pt (k + n) ∧ rk pt (k + n) ≤ rk pt k + n := by
  intro n
  induction n with
  | zero => intro k; exact ⟨Nat.le_refl _, Nat.le_refl _⟩
  | succ n ih =>
    intro k
    have := ih k
    show rk pt k ≤ rk pt (k + n) + (if pt (k + n) = 1 then 1 else 0) ∧ rk pt (k + n) + (if pt (k + n) = 1 then 1 else 0) ≤ rk pt k + (n + 1)
    split <;> omega
/-- the pence of the first k clauses that are parts and due -/
def pS (pt dy am : Nat → Int32) (s : Int) : Nat → Nat
  | 0 => 0
  | k + 1 => pS pt dy am s k + if pt k = 1 ∧ (dy k).toInt ≤ s then (am k).toInt.toNat else 0
theorem pS_y {pt dy am : Nat → Int32} {s : Int} {k : Nat} (h : pt k = 1 ∧ (dy k).toInt ≤ s) : pS pt dy am s (k + 1) = pS pt dy am s k + (am k).toInt.toNat := by
  show pS pt dy am s k + (if pt k = 1 ∧ (dy k).toInt ≤ s then (am k).toInt.toNat else 0) = _
  rw [if_pos h]
theorem pS_n {pt dy am : Nat → Int32} {s : Int} {k : Nat} (h : ¬ (pt k = 1 ∧ (dy k).toInt ≤ s)) : pS pt dy am s (k + 1) = pS pt dy am s k := by
  show pS pt dy am s k + (if pt k = 1 ∧ (dy k).toInt ≤ s then (am k).toInt.toNat else 0) = _
  rw [if_neg h]; rfl
theorem pS_le {pt dy am : Nat → Int32} {s : Int} : ∀ k, (∀ j, j < k → (am j).toInt ≤ 99999) → pS pt dy am s k ≤ 99999 * k := by
  intro k
  induction k with
  | zero => intro _; exact Nat.le_refl _
  | succ k ih =>
    intro h
    have h1 := ih (fun j hj => h j (by omega))
    have h2 := h k (by omega)
    show pS pt dy am s k + (if pt k = 1 ∧ (dy k).toInt ≤ s then (am k).toInt.toNat else 0) ≤ 99999 * (k + 1)
    split <;> omega
theorem lgc_ge {x y : Int64} : (0 ≤ lg_cmp x y) = (y.toInt ≤ x.toInt) := by
  have h := lgc_lt (x := x) (y := y)
  apply propext
  rw [← Int32.not_lt, h]
  omega
theorem l_dif {S P : Nat} (hS : S < 2 ^ 31) (hP : P < 2 ^ 31) : (-(lN S) + lN P).toInt = (P : Int) - S := by
  rw [Int64.toInt_add, Int64.toInt_neg, lN_toInt hS, lN_toInt hP]
  rw [Int.bmod_eq_of_le (n := -(S : Int)) (by omega) (by omega), Int.bmod_eq_of_le (by omega) (by omega)]
  omega
section DUE
variable {d : Nat} {Q : Option AV → St → Prop} {σ : St} {x y X F c S g : Nat} {s : Int32} {l : Option AV}
theorem c_parts_l (a1 : SH σ) (hF : F < gN σ 1) (hc6 : c ≤ 6) (hc : gI σ 1 0 F = nI c) (hf : ∀ k, k < c → 0 ≤ (gA σ 1 3 F k).toInt ∧ (gA σ 1 1 F k = 1 ∨ gA σ 1 1 F k = 0)) : ∀ n m, m + n = c → Rn d Q (16, 4, [some (vR (some (1, 0, F))), some (vI s), some (vI (nI (pS (gA σ 1 1 F) (gA σ 1 2 F) (gA σ 1 3 F) s.toInt m))), some (vI (nI m))], [], σ) = Q (some (vI (nI (pS (gA σ 1 1 F) (gA σ 1 2 F) (gA σ 1 3 F) s.toInt c)))) σ := by
  intro n
  induction n with
  | zero =>
    intro m hm
    have e1 : nI c ≤ nI m := nI_le (by omega) (by omega)
    rw [e16_4]
    simp +decide only [e16_0, e16_1, e16_2, e16_3, e16_5, e16_6, e16_9, e16_12, e16_13, e16_16, e16_17, e16_18, e16_21, e16_22, e16_25, e16_26, e16_27, e16_28, e16_31, e16_32, e16_33, e16_36, e16_37, e16_38, e16_39, e16_40, e16_43, e16_46, e16_47, true_and, and_true, or_true, true_or, if_true, if_false, not_true_eq_false, not_false_eq_true, ne_eq, and_self, Option.toList_some, Option.toList_none, List.cons_append, List.nil_append, catS_0, catS_I, catS_L, catS_R, Option.map_some, Option.map_none, e1, hc, hF]
    rw [show m = c by omega]
  | succ n ih =>
    intro m hm
    have e1 : ¬ nI c ≤ nI m := nI_ge (by omega) (by omega)
    have e2 : (nI m).toInt = (m : Int) := nI_toInt (by omega)
    have e3 : (0 : Int) ≤ (m : Int) := by omega
    have e4 : (m : Int) < ((6 : Nat) : Int) := by omega
    have e5 : (nI m).toNatClampNeg = m := nI_clamp (by omega)
    have t1 := ih (m + 1) (by omega)
    obtain ⟨k1, k2⟩ := hf m (by omega)
    rw [← nI_1 m] at t1
    rw [e16_4]
    by_cases hv : gA σ 1 1 F m = 1
    · by_cases hv2 : s.toInt < (gA σ 1 2 F m).toInt
      · rw [pS_n (fun z => by have := z.2; omega)] at t1
        simp +decide only [e16_0, e16_1, e16_2, e16_3, e16_5, e16_6, e16_9, e16_12, e16_13, e16_16, e16_17, e16_18, e16_21, e16_22, e16_25, e16_26, e16_27, e16_28, e16_31, e16_32, e16_33, e16_36, e16_37, e16_38, e16_39, e16_40, e16_43, e16_46, e16_47, true_and, and_true, or_true, true_or, if_true, if_false, not_true_eq_false, not_false_eq_true, ne_eq, and_self, Option.toList_some, Option.toList_none, List.cons_append, List.nil_append, catS_0, catS_I, catS_L, catS_R, Option.map_some, Option.map_none, Option.some.injEq, Sum.inl.injEq, exists_eq_left', exists_eq', e1, e2, e3, e4, e5, hc, hF, hv, hv2, ltI, L1_1 a1 hF, L1_2 a1 hF, L1_3 a1 hF]
        exact t1
      · rw [pS_y ⟨hv, by omega⟩, ← nI_add, nI_nat k1] at t1
        simp +decide only [e16_0, e16_1, e16_2, e16_3, e16_5, e16_6, e16_9, e16_12, e16_13, e16_16, e16_17, e16_18, e16_21, e16_22, e16_25, e16_26, e16_27, e16_28, e16_31, e16_32, e16_33, e16_36, e16_37, e16_38, e16_39, e16_40, e16_43, e16_46, e16_47, true_and, and_true, or_true, true_or, if_true, if_false, not_true_eq_false, not_false_eq_true, ne_eq, and_self, Option.toList_some, Option.toList_none, List.cons_append, List.nil_append, catS_0, catS_I, catS_L, catS_R, Option.map_some, Option.map_none, Option.some.injEq, Sum.inl.injEq, exists_eq_left', exists_eq', e1, e2, e3, e4, e5, hc, hF, hv, hv2, ltI, L1_1 a1 hF, L1_2 a1 hF, L1_3 a1 hF]
        exact t1
    · have hv0 : gA σ 1 1 F m = 0 := k2.resolve_left hv
      rw [pS_n (fun z => hv z.1)] at t1
      simp +decide only [e16_0, e16_1, e16_2, e16_3, e16_5, e16_6, e16_9, e16_12, e16_13, e16_16, e16_17, e16_18, e16_21, e16_22, e16_25, e16_26, e16_27, e16_28, e16_31, e16_32, e16_33, e16_36, e16_37, e16_38, e16_39, e16_40, e16_43, e16_46, e16_47, true_and, and_true, or_true, true_or, if_true, if_false, not_true_eq_false, not_false_eq_true, ne_eq, and_self, Option.toList_some, Option.toList_none, List.cons_append, List.nil_append, catS_0, catS_I, catS_L, catS_R, Option.map_some, Option.map_none, Option.some.injEq, Sum.inl.injEq, exists_eq_left', exists_eq', e1, e2, e3, e4, e5, hc, hF, hv0, L1_1 a1 hF]
      exact t1
theorem c_partsBy (a1 : SH σ) (hF : F < gN σ 1) (hc6 : c ≤ 6) (hc : gI σ 1 0 F = nI c) (hf : ∀ k, k < c → 0 ≤ (gA σ 1 3 F k).toInt ∧ (gA σ 1 1 F k = 1 ∨ gA σ 1 1 F k = 0)) : Rn d Q (16, 0, [some (vR (some (1, 0, F))), some (vI s), none, none], [], σ) = Q (some (vI (nI (pS (gA σ 1 1 F) (gA σ 1 2 F) (gA σ 1 3 F) s.toInt c)))) σ := by
  have cl := fun {d : Nat} {Q : Option AV → St → Prop} => c_parts_l (d := d) (Q := Q) (s := s) a1 hF hc6 hc hf c 0 (by omega)
  have z0 : nI (pS (gA σ 1 1 F) (gA σ 1 2 F) (gA σ 1 3 F) s.toInt 0) = 0 := rfl
  simp only [z0, nI_0] at cl
  simp +decide only [e16_0, e16_1, e16_2, e16_3, e16_5, e16_6, e16_9, e16_12, e16_13, e16_16, e16_17, e16_18, e16_21, e16_22, e16_25, e16_26, e16_27, e16_28, e16_31, e16_32, e16_33, e16_36, e16_37, e16_38, e16_39, e16_40, e16_43, e16_46, e16_47, cl]
theorem m_due_l {pt dy am : Nat → Int32} (a1 : SH σ) (hx : x < 12) (hX : X < 4) (hy : y < 4000) (hg : g < 4000) (hb : gA σ 12 26 0 x = nI g) (hc6 : c ≤ 6) (hR : gA σ 12 70 0 X = nI (rk pt c)) (hf : ∀ k, k < c → (0 ≤ (dy k).toInt ∧ (dy k).toInt ≤ 999) ∧ (0 ≤ (am k).toInt ∧ (am k).toInt ≤ 99999) ∧ (pt k = 1 → gA σ 12 71 0 (6 * X + rk pt k) = dy k ∧ gA σ 12 72 0 (6 * X + rk pt k) = am k)) : ∀ n k, k + n = c → Rn d Q (207, 39, [some (vR (some (12, 0, 0))), some (vI (nI x)), some (vI (nI y)), some (vI (nI X)), some (vL (-(lN S) + lN (pS pt dy am ((y : Int) - g) k))), none, some (vI (nI (rk pt k)))], [], σ) = Rn d Q (207, 101, [some (vR (some (12, 0, 0))), some (vI (nI x)), some (vI (nI y)), some (vI (nI X)), some (vL (-(lN S) + lN (pS pt dy am ((y : Int) - g) c))), none, some (vI (nI (rk pt c)))], [], σ) := by
  have x2 : (nI X).toInt = (X : Int) := nI_toInt (by omega)
  have x3 : (0 : Int) ≤ (X : Int) := by omega
  have x4 : (X : Int) < ((4 : Nat) : Int) := by omega
  have x5 : (nI X).toNatClampNeg = X := nI_clamp (by omega)
  intro n
  induction n with
  | zero =>
    intro k hk
    have hkc : k = c := by omega
    subst hkc
    have e1 : nI (rk pt k) ≤ nI (rk pt k) := nI_le (Nat.le_refl _) (by have := rk_le (pt := pt) k; omega)
    rw [e207_39]
    simp +decide only [e207_41, e207_42, e207_45, e207_46, e207_47, true_and, and_true, or_true, true_or, if_true, if_false, not_true_eq_false, not_false_eq_true, ne_eq, and_self, Option.toList_some, Option.toList_none, List.cons_append, List.nil_append, catS_0, catS_I, catS_L, catS_R, Option.map_some, Option.map_none, Option.some.injEq, Sum.inl.injEq, exists_eq_left', exists_eq', hR, e1, x2, x3, x4, x5, N12 a1, L12_70 a1]
  | succ n ih =>
    intro k hk
    obtain ⟨k1, k2, k3⟩ := hf k (by omega)
    have hrk := rk_le (pt := pt) k
    have t1 := ih (k + 1) (by omega)
    by_cases hv : pt k = 1
    · obtain ⟨q1, q2⟩ := k3 hv
      have hm := rk_mono (pt := pt) n (k + 1)
      rw [show k + 1 + n = c by omega, rk_y hv] at hm
      have hc' := rk_le (pt := pt) c
      have e1 : ¬ nI (rk pt c) ≤ nI (rk pt k) := nI_ge (by omega) (by omega)
      have f2 : (nI x).toInt = (x : Int) := nI_toInt (by omega)
      have f3 : (0 : Int) ≤ (x : Int) := by omega
      have f4 : (x : Int) < ((12 : Nat) : Int) := by omega
      have f5 : (nI x).toNatClampNeg = x := nI_clamp (by omega)
      have g2 : 6 * nI X + nI (rk pt k) = nI (6 * X + rk pt k) := by rw [lN6, pk_mul, nI_add]
      have g3 : (nI (6 * X + rk pt k)).toInt = ((6 * X + rk pt k : Nat) : Int) := nI_toInt (by omega)
      have g4 : (nI (6 * X + rk pt k)).toNatClampNeg = 6 * X + rk pt k := nI_clamp (by omega)
      have g5 : (0 : Int) ≤ ((6 * X + rk pt k : Nat) : Int) ∧ ((6 * X + rk pt k : Nat) : Int) < ((24 : Nat) : Int) := by omega
      have y1 : (nI y).toInt = (y : Int) := nI_toInt (by omega)
      have s1 : (nI g + dy k).toInt = (g : Int) + (dy k).toInt := by
        rw [← nI_nat k1.1, nI_add, nI_toInt (by omega), nI_toInt (by omega)]
        omega
      rw [rk_y hv, ← nI_1] at t1
      rw [e207_39]
      by_cases hv2 : (y : Int) < (g : Int) + (dy k).toInt
      · rw [pS_n (fun z => by have := z.2; omega)] at t1
        simp +decide only [e207_0, e207_1, e207_2, e207_5, e207_8, e207_9, e207_12, e207_15, e207_16, e207_17, e207_18, e207_21, e207_22, e207_23, e207_25, e207_26, e207_27, e207_28, e207_29, e207_30, e207_33, e207_34, e207_36, e207_37, e207_41, e207_42, e207_45, e207_46, e207_47, e207_50, e207_52, e207_53, e207_56, e207_57, e207_58, e207_59, e207_62, e207_64, e207_65, e207_66, e207_68, e207_69, e207_70, e207_71, e207_72, e207_75, e207_76, e207_79, e207_81, e207_82, e207_83, e207_85, e207_86, e207_87, e207_88, e207_91, e207_92, e207_93, e207_95, e207_98, e207_103, e207_104, e207_105, e207_108, e207_109, e207_112, e207_114, e207_115, true_and, and_true, or_true, true_or, if_true, if_false, not_true_eq_false, not_false_eq_true, ne_eq, and_self, Option.toList_some, Option.toList_none, List.cons_append, List.nil_append, catS_0, catS_I, catS_L, catS_R, Option.map_some, Option.map_none, Option.some.injEq, Sum.inl.injEq, exists_eq_left', exists_eq', hR, e1, x2, x3, x4, x5, f2, f3, f4, f5, g2, g3, g4, g5, q1, q2, hb, y1, s1, hv2, ltI, N12 a1, L12_70 a1, L12_26 a1, L12_71 a1, L12_72 a1, Int64.add_zero]
        exact t1
      · have am1 : (am k).toInt64 = lN (am k).toInt.toNat := by
          conv => lhs; rw [← nI_nat k2.1]
          exact nI_l (by omega)
        rw [pS_y ⟨hv, by omega⟩, ← lN_add, ← Int64.add_assoc, ← am1] at t1
        simp +decide only [e207_0, e207_1, e207_2, e207_5, e207_8, e207_9, e207_12, e207_15, e207_16, e207_17, e207_18, e207_21, e207_22, e207_23, e207_25, e207_26, e207_27, e207_28, e207_29, e207_30, e207_33, e207_34, e207_36, e207_37, e207_41, e207_42, e207_45, e207_46, e207_47, e207_50, e207_52, e207_53, e207_56, e207_57, e207_58, e207_59, e207_62, e207_64, e207_65, e207_66, e207_68, e207_69, e207_70, e207_71, e207_72, e207_75, e207_76, e207_79, e207_81, e207_82, e207_83, e207_85, e207_86, e207_87, e207_88, e207_91, e207_92, e207_93, e207_95, e207_98, e207_103, e207_104, e207_105, e207_108, e207_109, e207_112, e207_114, e207_115, true_and, and_true, or_true, true_or, if_true, if_false, not_true_eq_false, not_false_eq_true, ne_eq, and_self, Option.toList_some, Option.toList_none, List.cons_append, List.nil_append, catS_0, catS_I, catS_L, catS_R, Option.map_some, Option.map_none, Option.some.injEq, Sum.inl.injEq, exists_eq_left', exists_eq', hR, e1, x2, x3, x4, x5, f2, f3, f4, f5, g2, g3, g4, g5, q1, q2, hb, y1, s1, hv2, ltI, N12 a1, L12_70 a1, L12_26 a1, L12_71 a1, L12_72 a1]
        exact t1
    · rw [rk_n hv, pS_n (fun z => hv z.1)] at t1
      exact t1
end DUE
theorem T_due {h0 n d : Nat} {σ : St} {a b : Int32} (hn : n ≤ 512) (h : Inv h0 n σ) : PR h0 n (d + 2) 101 [some (vR (some (11, 0, 0))), some (vI a), some (vI b), none] 207 [some (vR (some (12, 0, 0))), some (vI a), some (vI b), none, none, none, none] σ := by
  have hI := h.up
  obtain ⟨a1, a2, a3, a4, a5, a6, a7, a8, a9, a10, a11, a12, a13⟩ := h
  obtain ⟨u1, u2, u3, u4⟩ := a8
  have ct := fun {d : Nat} {Q : Option AV → St → Prop} {a : Int32} => c_pupAt (d := d) (Q := Q) (a := a) a1 u2 u1 (fun p hp => (u4 p hp).1)
  have mt := fun {d : Nat} {Q : Option AV → St → Prop} {a : Int32} => m_isPupil (d := d) (Q := Q) (a := a) a1 u3 (by omega)
  unfold PR
  by_cases hA : 0 ≤ a.toInt ∧ a.toInt < (gN σ 4 : Int)
  · obtain ⟨x, hx, rfl, e4⟩ := nI_ex hA
    have e3 : (nI x).toInt = (x : Int) := nI_toInt (by omega)
    have hx0 : (0 : Int) ≤ (x : Int) := by omega
    have hx1 : (x : Int) < (gN σ 4 : Int) := by omega
    have hx3 : (x : Int) < ((12 : Nat) : Int) := by omega
    obtain ⟨-, w1, -, w2, w2r, w3, w4, X, Y, hX, hY, w5, w6, w7, -, -⟩ := u4 x hx
    by_cases hB : 0 ≤ b.toInt ∧ b.toInt < 4000
    · obtain ⟨y, hy, rfl, f4⟩ := nI_ex (n := 4000) hB
      have f3 : (nI y).toInt = (y : Int) := nI_toInt (by omega)
      have f5 : (0 : Int) ≤ (y : Int) := by omega
      have f6 : (y : Int) < 4000 := by omega
      have f7 : (y : Int) ≤ 3999 := by omega
      obtain ⟨g, hg, wg, -⟩ := nI_ex (n := 4000) w2r
      obtain ⟨f, q1, q2, q3, q4, q5⟩ := a11
      obtain ⟨c, c1, c2, c3, c4, c5⟩ := q5 X hX
      obtain ⟨M, M1, M2, M3, M4, M5⟩ := a10
      have x2 : (nI X).toInt = (X : Int) := nI_toInt (by omega)
      have x3 : (0 : Int) ≤ (X : Int) := by omega
      have x4 : (X : Int) < ((4 : Nat) : Int) := by omega
      have x5 : (nI X).toNatClampNeg = X := nI_clamp (by omega)
      have hF : f X < gN σ 1 := by rw [N1 a1]; exact q1 X (by omega)
      have hF' : f X < 5 := q1 X (by omega)
      have hs : (nI y - nI g).toInt = (y : Int) - g := pk_sub_toInt (by omega) (by omega)
      have g1 : nI (6 * X + Y) / 6 = nI X := by
        rw [lN6, pk_div (by omega) (by omega) (by omega)]
        congr 1; omega
      have cq := fun {d : Nat} {Q : Option AV → St → Prop} => c_partsBy (d := d) (Q := Q) (s := nI y - nI g) a1 hF c1 c2 (fun k hk => ⟨(c5 k hk).2.1.1, (c5 k hk).2.2.elim (fun z => Or.inl z.1) (fun z => Or.inr z.1)⟩)
      rw [hs] at cq
      have cp := fun {d : Nat} {Q : Option AV → St → Prop} => c_paidBy (d := d) (Q := Q) (p := x) (D := y) a1 (show M ≤ 512 by omega) M2 (fun j hj => by have := (M3 j hj).2.1.1; omega) hy
      have hbnd : ∀ c, psum c (gA σ 2 1 0) M ≤ 99999 * M := fun c => psum_le M (fun j hj => (M3 j hj).2.1.2)
      have hmul : 99999 * M ≤ 99999 * 512 := Nat.mul_le_mul_left _ (by omega)
      have mp := fun {d : Nat} {Q : Option AV → St → Prop} => m_paidBy (d := d) (Q := Q) (p := x) (D := y) (py := gA σ 2 0 0) (pe := gA σ 2 1 0) (pd := gA σ 2 2 0) (M := M) a1 (by omega) hy (fun c => by have := hbnd c; omega) (fun j hj => (M3 j hj).2.2.1) (fun z hz => M5 x z (by omega) hz)
      have ml := fun {d : Nat} {Q : Option AV → St → Prop} => m_due_l (d := d) (Q := Q) (S := paidN (gA σ 2 0 0) (gA σ 2 1 0) (gA σ 2 2 0) x (y + 1) M) (pt := gA σ 1 1 (f X)) (dy := gA σ 1 2 (f X)) (am := gA σ 1 3 (f X)) a1 (show x < 12 by omega) hX hy hg wg c1 c3 (fun k hk => ⟨(c5 k hk).1, (c5 k hk).2.1, fun z => (c5 k hk).2.2.elim (fun w => w.2) (fun w => by rw [w.1] at z; exact absurd z (by decide))⟩) c 0 (by omega)
      have z0 : pS (gA σ 1 1 (f X)) (gA σ 1 2 (f X)) (gA σ 1 3 (f X)) ((y : Int) - g) 0 = 0 := rfl
      have z1 : rk (gA σ 1 1 (f X)) 0 = 0 := rfl
      have z2 : lN 0 = 0 := rfl
      simp only [z0, z1, z2, nI_0, Int64.add_zero] at ml
      have hP : pS (gA σ 1 1 (f X)) (gA σ 1 2 (f X)) (gA σ 1 3 (f X)) ((y : Int) - g) c < 2 ^ 30 := by
        have := pS_le (pt := gA σ 1 1 (f X)) (dy := gA σ 1 2 (f X)) (s := (y : Int) - g) c (fun j hj => (c5 j hj).2.1.2)
        omega
      have hS : paidN (gA σ 2 0 0) (gA σ 2 1 0) (gA σ 2 2 0) x (y + 1) M < 2 ^ 30 := by
        have := hbnd (fun j => decide (gA σ 2 0 0 j = nI x ∧ (gA σ 2 2 0 j).toInt < ((y + 1 : Nat) : Int)))
        unfold paidN
        omega
      simp +decide only [e101_0, e101_1, e101_2, e101_5, e101_6, e101_7N, e101_7S, e101_10, e101_11, e101_14, e101_17, e101_18, e101_19, e101_20, e101_21, e101_24, e101_25, e101_28, e101_29, e101_30, e101_31, e101_34, e101_35, e101_38, e101_39, e101_42, e101_43, e101_44, e101_47, e101_48, e101_51, true_and, and_true, or_true, true_or, if_true, if_false, not_true_eq_false, not_false_eq_true, ne_eq, and_self, Option.toList_some, Option.toList_none, List.cons_append, List.nil_append, catS_0, catS_I, catS_L, catS_R, Option.map_some, Option.map_none, c_isIn, m_in, wide_toInt, c_isDay, m_isDay, m_isCourse, c_areParts, tI_m1000, tI_m20, tI_m14, tI_m13, tI_m12, tI_m11, tI_m4, tI_m3, tI_m2, tI_m1, tI_0, tI_1, tI_2, tI_3, tI_4, tI_5, tI_6, tI_7, tI_8, tI_9, tI_10, tI_11, tI_12, tI_14, tI_15, tI_16, tI_19, tI_20, tI_21, tI_30, tI_31, tI_32, tI_40, tI_60, tI_61, tI_80, tI_90, tI_97, tI_100, tI_101, tI_119, tI_120, tI_121, tI_126, tI_128, tI_255, tI_256, tI_500, tI_512, tI_600, tI_999, tI_1000, tI_3999, tI_4000, tI_4095, tI_4096, tI_99999, tI_100000, tL_0, tL_1, tL_2, tL_3, tL_4, tL_5, tL_7, tL_8, tL_9, tL_15, tL_19, tL_20, tL_32, tL_39, tL_48, tL_57, tL_60, tL_97, tL_100, tL_104, tL_126, tL_255, tL_3999, tL_4095, tL_99999, Option.some.injEq, Sum.inl.injEq, exists_eq_left', exists_eq', ct, cq, cp, w2, wg, w5, e3, e4, hx0, hx1, hx, f3, f5, f6, x2, x3, x4, x5, q3 X hX, hF', N11 a1, N2 a1, N1 a1, R11_13 a1, L11_3 a1]
      revert hP hS
      intro hP hS
      have key : ∀ P S : Nat, P < 2 ^ 30 → S < 2 ^ 30 → (if (0 : Int32) < nI P - nI S then nI P - nI S else 0) = if 0 ≤ (-(lN S) + lN P).toInt then (-(lN S) + lN P).toInt32 else 0 := by
        intro P S hP hS
        have hlt : (0 : Int32) < nI P - nI S ↔ (0 : Int) < (P : Int) - S := by
          rw [Int32.lt_iff_toInt_lt, pk_sub_toInt hP hS]
          exact Iff.rfl
        rw [l_dif (by omega) (by omega)]
        by_cases k : S ≤ P
        · have k1 : -(lN S) + lN P = lN (P - S) := by
            apply Int64.toInt_inj.mp
            rw [l_dif (by omega) (by omega), lN_toInt (by omega)]
            omega
          rw [k1, lN_i, if_pos (show 0 ≤ (P : Int) - S by omega)]
          by_cases k2 : (0 : Int) < (P : Int) - S
          · rw [if_pos (hlt.mpr k2), pk_sub k]
          · rw [if_neg (fun z => k2 (hlt.mp z)), show P - S = 0 by omega, nI_0]
        · rw [if_neg (fun z => by have := hlt.mp z; omega), if_neg (by omega)]
      rw [key _ _ hP hS]
      by_cases hz : 0 ≤ (-(lN (paidN (gA σ 2 0 0) (gA σ 2 1 0) (gA σ 2 2 0) x (y + 1) M)) + lN (pS (gA σ 1 1 (f X)) (gA σ 1 2 (f X)) (gA σ 1 3 (f X)) ((y : Int) - g) c)).toInt
      · rw [if_pos hz]
        simp +decide only [e207_0, e207_1, e207_2, e207_5, e207_8, e207_9, e207_12, e207_15, e207_16, e207_17, e207_18, e207_21, e207_22, e207_23, e207_25, e207_26, e207_27, e207_28, e207_29, e207_30, e207_33, e207_34, e207_36, e207_37, e207_41, e207_42, e207_45, e207_46, e207_47, e207_50, e207_52, e207_53, e207_56, e207_57, e207_58, e207_59, e207_62, e207_64, e207_65, e207_66, e207_68, e207_69, e207_70, e207_71, e207_72, e207_75, e207_76, e207_79, e207_81, e207_82, e207_83, e207_85, e207_86, e207_87, e207_88, e207_91, e207_92, e207_93, e207_95, e207_98, e207_101, e207_103, e207_104, e207_105, e207_108, e207_109, e207_112, e207_114, e207_115, true_and, and_true, or_true, true_or, if_true, if_false, not_true_eq_false, not_false_eq_true, ne_eq, and_self, Option.toList_some, Option.toList_none, List.cons_append, List.nil_append, catS_0, catS_I, catS_L, catS_R, Option.map_some, Option.map_none, c_isIn, m_in, wide_toInt, c_isDay, m_isDay, m_isCourse, c_areParts, tI_m1000, tI_m20, tI_m14, tI_m13, tI_m12, tI_m11, tI_m4, tI_m3, tI_m2, tI_m1, tI_0, tI_1, tI_2, tI_3, tI_4, tI_5, tI_6, tI_7, tI_8, tI_9, tI_10, tI_11, tI_12, tI_14, tI_15, tI_16, tI_19, tI_20, tI_21, tI_30, tI_31, tI_32, tI_40, tI_60, tI_61, tI_80, tI_90, tI_97, tI_100, tI_101, tI_119, tI_120, tI_121, tI_126, tI_128, tI_255, tI_256, tI_500, tI_512, tI_600, tI_999, tI_1000, tI_3999, tI_4000, tI_4095, tI_4096, tI_99999, tI_100000, tL_0, tL_1, tL_2, tL_3, tL_4, tL_5, tL_7, tL_8, tL_9, tL_15, tL_19, tL_20, tL_32, tL_39, tL_48, tL_57, tL_60, tL_97, tL_100, tL_104, tL_126, tL_255, tL_3999, tL_4095, tL_99999, Option.some.injEq, Sum.inl.injEq, exists_eq_left', exists_eq', mt, mp, ml, lgc_ge, hz, w7, g1, e3, e4, hx0, hx1, hx3, f3, f5, f7, N12 a1, L12_25 a1, hI]
      · rw [if_neg hz]
        simp +decide only [e207_0, e207_1, e207_2, e207_5, e207_8, e207_9, e207_12, e207_15, e207_16, e207_17, e207_18, e207_21, e207_22, e207_23, e207_25, e207_26, e207_27, e207_28, e207_29, e207_30, e207_33, e207_34, e207_36, e207_37, e207_41, e207_42, e207_45, e207_46, e207_47, e207_50, e207_52, e207_53, e207_56, e207_57, e207_58, e207_59, e207_62, e207_64, e207_65, e207_66, e207_68, e207_69, e207_70, e207_71, e207_72, e207_75, e207_76, e207_79, e207_81, e207_82, e207_83, e207_85, e207_86, e207_87, e207_88, e207_91, e207_92, e207_93, e207_95, e207_98, e207_101, e207_103, e207_104, e207_105, e207_108, e207_109, e207_112, e207_114, e207_115, true_and, and_true, or_true, true_or, if_true, if_false, not_true_eq_false, not_false_eq_true, ne_eq, and_self, Option.toList_some, Option.toList_none, List.cons_append, List.nil_append, catS_0, catS_I, catS_L, catS_R, Option.map_some, Option.map_none, c_isIn, m_in, wide_toInt, c_isDay, m_isDay, m_isCourse, c_areParts, tI_m1000, tI_m20, tI_m14, tI_m13, tI_m12, tI_m11, tI_m4, tI_m3, tI_m2, tI_m1, tI_0, tI_1, tI_2, tI_3, tI_4, tI_5, tI_6, tI_7, tI_8, tI_9, tI_10, tI_11, tI_12, tI_14, tI_15, tI_16, tI_19, tI_20, tI_21, tI_30, tI_31, tI_32, tI_40, tI_60, tI_61, tI_80, tI_90, tI_97, tI_100, tI_101, tI_119, tI_120, tI_121, tI_126, tI_128, tI_255, tI_256, tI_500, tI_512, tI_600, tI_999, tI_1000, tI_3999, tI_4000, tI_4095, tI_4096, tI_99999, tI_100000, tL_0, tL_1, tL_2, tL_3, tL_4, tL_5, tL_7, tL_8, tL_9, tL_15, tL_19, tL_20, tL_32, tL_39, tL_48, tL_57, tL_60, tL_97, tL_100, tL_104, tL_126, tL_255, tL_3999, tL_4095, tL_99999, Option.some.injEq, Sum.inl.injEq, exists_eq_left', exists_eq', mt, mp, ml, lgc_ge, hz, w7, g1, e3, e4, hx0, hx1, hx3, f3, f5, f7, N12 a1, L12_25 a1, hI]
    · have hB' : ¬ (0 ≤ b.toInt ∧ b.toInt ≤ 3999) := by omega
      simp +decide only [e101_0, e101_1, e101_2, e101_5, e101_6, e101_7N, e101_7S, e101_10, e101_11, e101_14, e101_17, e101_18, e101_19, e101_20, e101_21, e101_24, e101_25, e101_28, e101_29, e101_30, e101_31, e101_34, e101_35, e101_38, e101_39, e101_42, e101_43, e101_44, e101_47, e101_48, e101_51, true_and, and_true, or_true, true_or, if_true, if_false, not_true_eq_false, not_false_eq_true, ne_eq, and_self, Option.toList_some, Option.toList_none, List.cons_append, List.nil_append, catS_0, catS_I, catS_L, catS_R, Option.map_some, Option.map_none, c_isIn, m_in, wide_toInt, c_isDay, m_isDay, m_isCourse, c_areParts, tI_m1000, tI_m20, tI_m14, tI_m13, tI_m12, tI_m11, tI_m4, tI_m3, tI_m2, tI_m1, tI_0, tI_1, tI_2, tI_3, tI_4, tI_5, tI_6, tI_7, tI_8, tI_9, tI_10, tI_11, tI_12, tI_14, tI_15, tI_16, tI_19, tI_20, tI_21, tI_30, tI_31, tI_32, tI_40, tI_60, tI_61, tI_80, tI_90, tI_97, tI_100, tI_101, tI_119, tI_120, tI_121, tI_126, tI_128, tI_255, tI_256, tI_500, tI_512, tI_600, tI_999, tI_1000, tI_3999, tI_4000, tI_4095, tI_4096, tI_99999, tI_100000, tL_0, tL_1, tL_2, tL_3, tL_4, tL_5, tL_7, tL_8, tL_9, tL_15, tL_19, tL_20, tL_32, tL_39, tL_48, tL_57, tL_60, tL_97, tL_100, tL_104, tL_126, tL_255, tL_3999, tL_4095, tL_99999, Option.some.injEq, Sum.inl.injEq, exists_eq_left', exists_eq', ct, hB, e3, e4, hx0, hx1, hx, N11 a1]
      simp +decide only [e207_0, e207_1, e207_2, e207_5, e207_8, e207_9, e207_12, e207_15, e207_16, e207_17, e207_18, e207_21, e207_22, e207_23, e207_25, e207_26, e207_27, e207_28, e207_29, e207_30, e207_33, e207_34, e207_36, e207_37, e207_41, e207_42, e207_45, e207_46, e207_47, e207_50, e207_52, e207_53, e207_56, e207_57, e207_58, e207_59, e207_62, e207_64, e207_65, e207_66, e207_68, e207_69, e207_70, e207_71, e207_72, e207_75, e207_76, e207_79, e207_81, e207_82, e207_83, e207_85, e207_86, e207_87, e207_88, e207_91, e207_92, e207_93, e207_95, e207_98, e207_101, e207_103, e207_104, e207_105, e207_108, e207_109, e207_112, e207_114, e207_115, true_and, and_true, or_true, true_or, if_true, if_false, not_true_eq_false, not_false_eq_true, ne_eq, and_self, Option.toList_some, Option.toList_none, List.cons_append, List.nil_append, catS_0, catS_I, catS_L, catS_R, Option.map_some, Option.map_none, c_isIn, m_in, wide_toInt, c_isDay, m_isDay, m_isCourse, c_areParts, tI_m1000, tI_m20, tI_m14, tI_m13, tI_m12, tI_m11, tI_m4, tI_m3, tI_m2, tI_m1, tI_0, tI_1, tI_2, tI_3, tI_4, tI_5, tI_6, tI_7, tI_8, tI_9, tI_10, tI_11, tI_12, tI_14, tI_15, tI_16, tI_19, tI_20, tI_21, tI_30, tI_31, tI_32, tI_40, tI_60, tI_61, tI_80, tI_90, tI_97, tI_100, tI_101, tI_119, tI_120, tI_121, tI_126, tI_128, tI_255, tI_256, tI_500, tI_512, tI_600, tI_999, tI_1000, tI_3999, tI_4000, tI_4095, tI_4096, tI_99999, tI_100000, tL_0, tL_1, tL_2, tL_3, tL_4, tL_5, tL_7, tL_8, tL_9, tL_15, tL_19, tL_20, tL_32, tL_39, tL_48, tL_57, tL_60, tL_97, tL_100, tL_104, tL_126, tL_255, tL_3999, tL_4095, tL_99999, Option.some.injEq, Sum.inl.injEq, exists_eq_left', exists_eq', mt, hB', e3, e4, hx0, hx1, hx3, N12 a1, hI]
  · simp +decide only [e101_0, e101_1, e101_2, e101_5, e101_6, e101_7N, e101_7S, e101_10, e101_11, e101_14, e101_17, e101_18, e101_19, e101_20, e101_21, e101_24, e101_25, e101_28, e101_29, e101_30, e101_31, e101_34, e101_35, e101_38, e101_39, e101_42, e101_43, e101_44, e101_47, e101_48, e101_51, true_and, and_true, or_true, true_or, if_true, if_false, not_true_eq_false, not_false_eq_true, ne_eq, and_self, Option.toList_some, Option.toList_none, List.cons_append, List.nil_append, catS_0, catS_I, catS_L, catS_R, Option.map_some, Option.map_none, Option.some.injEq, Sum.inl.injEq, exists_eq_left', exists_eq', ct, hA, N11 a1]
    simp +decide only [e207_0, e207_1, e207_2, e207_5, e207_8, e207_9, e207_12, e207_15, e207_16, e207_17, e207_18, e207_21, e207_22, e207_23, e207_25, e207_26, e207_27, e207_28, e207_29, e207_30, e207_33, e207_34, e207_36, e207_37, e207_41, e207_42, e207_45, e207_46, e207_47, e207_50, e207_52, e207_53, e207_56, e207_57, e207_58, e207_59, e207_62, e207_64, e207_65, e207_66, e207_68, e207_69, e207_70, e207_71, e207_72, e207_75, e207_76, e207_79, e207_81, e207_82, e207_83, e207_85, e207_86, e207_87, e207_88, e207_91, e207_92, e207_93, e207_95, e207_98, e207_101, e207_103, e207_104, e207_105, e207_108, e207_109, e207_112, e207_114, e207_115, true_and, and_true, or_true, true_or, if_true, if_false, not_true_eq_false, not_false_eq_true, ne_eq, and_self, Option.toList_some, Option.toList_none, List.cons_append, List.nil_append, catS_0, catS_I, catS_L, catS_R, Option.map_some, Option.map_none, Option.some.injEq, Sum.inl.injEq, exists_eq_left', exists_eq', mt, hA, N12 a1, hI]
