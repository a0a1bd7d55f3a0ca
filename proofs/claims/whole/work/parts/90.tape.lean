theorem setI_c {σ : St} {c k i c' k' i' : Nat} {v w : Int32} (h : ¬ (c = c' ∧ k = k' ∧ i = i')) : setI (setI σ c k i v) c' k' i' w = setI (setI σ c' k' i' w) c k i v := by
  unfold setI
  have : up3 (up3 σ.1 c k i v) c' k' i' w = up3 (up3 σ.1 c' k' i' w) c k i v := by
    funext a b d
    unfold up3
    by_cases h1 : a = c' ∧ b = k' ∧ d = i'
    · have h2 : ¬ (a = c ∧ b = k ∧ d = i) := fun z => h ⟨z.1.symm.trans h1.1, z.2.1.symm.trans h1.2.1, z.2.2.symm.trans h1.2.2⟩
      rw [if_pos h1, if_neg h2, if_pos h1]
    · rw [if_neg h1]
      by_cases h2 : a = c ∧ b = k ∧ d = i
      · rw [if_pos h2, if_pos h2]
      · rw [if_neg h2, if_neg h2, if_neg h1]
  show (up3 (up3 σ.1 c k i v) c' k' i' w, _) = (up3 (up3 σ.1 c' k' i' w) c k i v, _)
  rw [this]
theorem st_w {σ : St} {p q v : Int32} : setI (setI (setI (setI σ 12 3 0 v) 12 2 0 p) 12 2 0 q) 12 3 0 1 = setI (setI σ 12 3 0 1) 12 2 0 q := by
  rw [setI_I, setI_c (by decide), setI_I]
/-- the first place from p on that is no space -/
def skf (c : Nat → Int32) (n : Nat) : Nat → Nat → Nat
  | 0, p => p
  | f + 1, p => if p < n ∧ c p = 32 then skf c n f (p + 1) else p
def sk (c : Nat → Int32) (n p : Nat) : Nat := skf c n 120 p
def pkv (c : Nat → Int32) (n q : Nat) : Int32 := if q < n then c q else -1
theorem skf_le {c : Nat → Int32} {n : Nat} : ∀ f p, p ≤ n → p ≤ skf c n f p ∧ skf c n f p ≤ n := by
  intro f
  induction f with
  | zero => intro p h; exact ⟨Nat.le_refl _, h⟩
  | succ f ih =>
    intro p h
    show p ≤ (if p < n ∧ c p = 32 then skf c n f (p + 1) else p) ∧ (if p < n ∧ c p = 32 then skf c n f (p + 1) else p) ≤ n
    split
    · rename_i hz
      have := ih (p + 1) (by omega)
      omega
    · omega
theorem sk_le {c : Nat → Int32} {n p : Nat} (h : p ≤ n) : p ≤ sk c n p ∧ sk c n p ≤ n := skf_le 120 p h
theorem skf_ns {c : Nat → Int32} {n : Nat} : ∀ f p, n - p ≤ f → ¬ (skf c n f p < n ∧ c (skf c n f p) = 32) := by
  intro f
  induction f with
  | zero => intro p h z; have z1 : p < n := z.1; omega
  | succ f ih =>
    intro p h
    show ¬ ((if p < n ∧ c p = 32 then skf c n f (p + 1) else p) < n ∧ c (if p < n ∧ c p = 32 then skf c n f (p + 1) else p) = 32)
    by_cases hz : p < n ∧ c p = 32
    · rw [if_pos hz]; exact ih (p + 1) (by omega)
    · rw [if_neg hz]; exact hz
theorem sk_ns {c : Nat → Int32} {n p : Nat} (hn : n ≤ 120) : ¬ (sk c n p < n ∧ c (sk c n p) = 32) := skf_ns 120 p (by omega)
theorem sk_id {c : Nat → Int32} {n q : Nat} (h : ¬ (q < n ∧ c q = 32)) : sk c n q = q := by
  show (if q < n ∧ c q = 32 then skf c n 119 (q + 1) else q) = q
  rw [if_neg h]
theorem sk_sk {c : Nat → Int32} {n p : Nat} (hn : n ≤ 120) : sk c n (sk c n p) = sk c n p := sk_id (sk_ns hn)
section TAPE
variable {d : Nat} {Q : Option AV → St → Prop} {σ : St} {c : Nat → Int32} {n p : Nat} {w : Int32}
theorem c_next_l (a1 : SH σ) (hn : n ≤ 120) (hcI : gI σ 7 1 0 = nI n) (hcA : ∀ j, j < n → gA σ 7 0 0 j = c j) : ∀ f i p, i + f = 120 → p ≤ n → Rn d Q (43, 2, [some (vR (some (7, 0, 0))), some (vI (nI i))], [], (setI σ 7 2 0 (nI (p)))) = Q (some (vI (pkv c n (skf c n f p)))) (setI σ 7 2 0 (nI (skf c n f p))) := by
  have tail : ∀ q l, q ≤ n → Rn d Q (43, 49, [some (vR (some (7, 0, 0))), l], [], (setI σ 7 2 0 (nI (q)))) = Q (some (vI (pkv c n q))) (setI σ 7 2 0 (nI (q))) := by
    intro q l hq
    have q2 : (nI q).toInt = (q : Int) := nI_toInt (by omega)
    have q3 : (0 : Int) ≤ (q : Int) := by omega
    have q4 : (q : Int) < ((120 : Nat) : Int) ∨ True := Or.inr trivial
    have q5 : (nI q).toNatClampNeg = q := nI_clamp (by omega)
    unfold pkv
    by_cases hz : q < n
    · have e1 : ¬ nI n ≤ nI q := nI_ge hz (by omega)
      have q4 : (q : Int) < ((120 : Nat) : Int) := by omega
      rw [if_pos hz]
      simp +decide only [e43_0, e43_1, e43_3, e43_5, e43_8, e43_9, e43_12, e43_13, e43_16, e43_19, e43_20, e43_23, e43_24, e43_27, e43_28, e43_30, e43_33, e43_34, e43_35, e43_38, e43_39, e43_40, e43_43, e43_46, e43_49, e43_50, e43_53, e43_54, e43_57, e43_60, e43_61, e43_64, e43_65, e43_68, e43_69, e43_72, e43_73, true_and, and_true, or_true, true_or, if_true, if_false, not_true_eq_false, not_false_eq_true, ne_eq, and_self, Option.toList_some, Option.toList_none, List.cons_append, List.nil_append, catS_0, catS_I, catS_L, catS_R, Option.map_some, Option.map_none, Option.some.injEq, Sum.inl.injEq, exists_eq_left', exists_eq', II, AA, RR, QQ, IA, IR, IQ, AI, AR, AQ, RI, RA, RQ, QI, QA, QR, LI, LA, LR, LQ, NI, NA, NR, NQ, HI, HA, HR, HQ, SI, SA, SR, SQ, updS0, hcI, e1, q2, q3, q4, q5, hcA q hz, N7 a1, L7_0 a1]
    · have e1 : nI n ≤ nI q := nI_le (by omega) (by omega)
      rw [if_neg hz]
      simp +decide only [e43_0, e43_1, e43_3, e43_5, e43_8, e43_9, e43_12, e43_13, e43_16, e43_19, e43_20, e43_23, e43_24, e43_27, e43_28, e43_30, e43_33, e43_34, e43_35, e43_38, e43_39, e43_40, e43_43, e43_46, e43_49, e43_50, e43_53, e43_54, e43_57, e43_60, e43_61, e43_64, e43_65, e43_68, e43_69, e43_72, e43_73, true_and, and_true, or_true, true_or, if_true, if_false, not_true_eq_false, not_false_eq_true, ne_eq, and_self, Option.toList_some, Option.toList_none, List.cons_append, List.nil_append, catS_0, catS_I, catS_L, catS_R, Option.map_some, Option.map_none, Option.some.injEq, Sum.inl.injEq, exists_eq_left', exists_eq', II, AA, RR, QQ, IA, IR, IQ, AI, AR, AQ, RI, RA, RQ, QI, QA, QR, LI, LA, LR, LQ, NI, NA, NR, NQ, HI, HA, HR, HQ, SI, SA, SR, SQ, updS0, hcI, e1, N7 a1]
  intro f
  induction f with
  | zero =>
    intro i p hi hp
    have e1 : (120 : Int32) ≤ nI i := nI_le (a := 120) (by omega) (by omega)
    rw [e43_2]
    simp +decide only [e43_3, e43_5, true_and, and_true, or_true, true_or, if_true, if_false, not_true_eq_false, not_false_eq_true, ne_eq, and_self, e1]
    exact tail p _ hp
  | succ f ih =>
    intro i p hi hp
    have e1 : ¬ (120 : Int32) ≤ nI i := nI_ge (b := 120) (by omega) (by omega)
    show _ = Q (some (vI (pkv c n (if p < n ∧ c p = 32 then skf c n f (p + 1) else p)))) (setI σ 7 2 0 (nI (if p < n ∧ c p = 32 then skf c n f (p + 1) else p)))
    rw [e43_2]
    by_cases h1 : p < n
    · have e2 : ¬ nI n ≤ nI p := nI_ge h1 (by omega)
      have q2 : (nI p).toInt = (p : Int) := nI_toInt (by omega)
      have q3 : (0 : Int) ≤ (p : Int) := by omega
      have q4 : (p : Int) < ((120 : Nat) : Int) := by omega
      have q5 : (nI p).toNatClampNeg = p := nI_clamp (by omega)
      by_cases h2 : c p = 32
      · rw [if_pos ⟨h1, h2⟩, ← ih (i + 1) (p + 1) (by omega) (by omega), ← nI_1 i, ← nI_1 p]
        simp +decide only [e43_0, e43_1, e43_3, e43_5, e43_8, e43_9, e43_12, e43_13, e43_16, e43_19, e43_20, e43_23, e43_24, e43_27, e43_28, e43_30, e43_33, e43_34, e43_35, e43_38, e43_39, e43_40, e43_43, e43_46, e43_50, e43_53, e43_54, e43_57, e43_60, e43_61, e43_64, e43_65, e43_68, e43_69, e43_72, e43_73, true_and, and_true, or_true, true_or, if_true, if_false, not_true_eq_false, not_false_eq_true, ne_eq, and_self, Option.toList_some, Option.toList_none, List.cons_append, List.nil_append, catS_0, catS_I, catS_L, catS_R, Option.map_some, Option.map_none, Option.some.injEq, Sum.inl.injEq, exists_eq_left', exists_eq', II, AA, RR, QQ, IA, IR, IQ, AI, AR, AQ, RI, RA, RQ, QI, QA, QR, LI, LA, LR, LQ, NI, NA, NR, NQ, HI, HA, HR, HQ, SI, SA, SR, SQ, updS0, hcI, e1, e2, q2, q3, q4, q5, hcA p h1, h2, setI_I, N7 a1, L7_0 a1]
      · rw [if_neg (fun z => h2 z.2), ← tail p (some (vI (nI i))) hp]
        simp +decide only [e43_0, e43_1, e43_3, e43_5, e43_8, e43_9, e43_12, e43_13, e43_16, e43_19, e43_20, e43_23, e43_24, e43_27, e43_28, e43_30, e43_33, e43_34, e43_35, e43_38, e43_39, e43_40, e43_43, e43_46, e43_50, e43_53, e43_54, e43_57, e43_60, e43_61, e43_64, e43_65, e43_68, e43_69, e43_72, e43_73, true_and, and_true, or_true, true_or, if_true, if_false, not_true_eq_false, not_false_eq_true, ne_eq, and_self, Option.toList_some, Option.toList_none, List.cons_append, List.nil_append, catS_0, catS_I, catS_L, catS_R, Option.map_some, Option.map_none, Option.some.injEq, Sum.inl.injEq, exists_eq_left', exists_eq', II, AA, RR, QQ, IA, IR, IQ, AI, AR, AQ, RI, RA, RQ, QI, QA, QR, LI, LA, LR, LQ, NI, NA, NR, NQ, HI, HA, HR, HQ, SI, SA, SR, SQ, updS0, hcI, e1, e2, q2, q3, q4, q5, hcA p h1, h2, N7 a1, L7_0 a1]
    · have e2 : nI n ≤ nI p := nI_le (by omega) (by omega)
      rw [if_neg (fun z => h1 z.1), ← tail p (some (vI (nI i))) hp]
      simp +decide only [e43_0, e43_1, e43_3, e43_5, e43_8, e43_9, e43_12, e43_13, e43_16, e43_19, e43_20, e43_23, e43_24, e43_27, e43_28, e43_30, e43_33, e43_34, e43_35, e43_38, e43_39, e43_40, e43_43, e43_46, e43_50, e43_53, e43_54, e43_57, e43_60, e43_61, e43_64, e43_65, e43_68, e43_69, e43_72, e43_73, true_and, and_true, or_true, true_or, if_true, if_false, not_true_eq_false, not_false_eq_true, ne_eq, and_self, Option.toList_some, Option.toList_none, List.cons_append, List.nil_append, catS_0, catS_I, catS_L, catS_R, Option.map_some, Option.map_none, Option.some.injEq, Sum.inl.injEq, exists_eq_left', exists_eq', II, AA, RR, QQ, IA, IR, IQ, AI, AR, AQ, RI, RA, RQ, QI, QA, QR, LI, LA, LR, LQ, NI, NA, NR, NQ, HI, HA, HR, HQ, SI, SA, SR, SQ, updS0, hcI, e1, e2, N7 a1]
theorem c_next (a1 : SH σ) (hn : n ≤ 120) (hcI : gI σ 7 1 0 = nI n) (hcA : ∀ j, j < n → gA σ 7 0 0 j = c j) (hp : p ≤ n) : Rn d Q (43, 0, [some (vR (some (7, 0, 0))), none], [], (setI σ 7 2 0 (nI (p)))) = Q (some (vI (pkv c n (sk c n p)))) (setI σ 7 2 0 (nI (sk c n p))) := by
  have t := c_next_l (d := d) (Q := Q) a1 hn hcI hcA 120 0 p (by omega) hp
  rw [nI_0] at t
  simp +decide only [e43_0, e43_1, e43_3, e43_5, e43_8, e43_9, e43_12, e43_13, e43_16, e43_19, e43_20, e43_23, e43_24, e43_27, e43_28, e43_30, e43_33, e43_34, e43_35, e43_38, e43_39, e43_40, e43_43, e43_46, e43_49, e43_50, e43_53, e43_54, e43_57, e43_60, e43_61, e43_64, e43_65, e43_68, e43_69, e43_72, e43_73, t]
  rfl
theorem m_next_l (a1 : SH σ) (hn : n ≤ 120) (hcI : gI σ 12 1 0 = nI n) (hcA : ∀ j, j < n → gA σ 12 0 0 j = c j) : ∀ f p, n - p ≤ f → p ≤ n → Rn d Q (133, 0, [some (vR (some (12, 0, 0)))], [], (setI (setI σ 12 3 0 w) 12 2 0 (nI (p)))) = Q (some (vI (pkv c n (skf c n f p)))) (setI (setI σ 12 3 0 w) 12 2 0 (nI (skf c n f p))) := by
  have tail : ∀ q, q ≤ n → Rn d Q (133, 38, [some (vR (some (12, 0, 0)))], [], (setI (setI σ 12 3 0 w) 12 2 0 (nI (q)))) = Q (some (vI (pkv c n q))) (setI (setI σ 12 3 0 w) 12 2 0 (nI (q))) := by
    intro q hq
    have q2 : (nI q).toInt = (q : Int) := nI_toInt (by omega)
    have q3 : (0 : Int) ≤ (q : Int) := by omega
    have q5 : (nI q).toNatClampNeg = q := nI_clamp (by omega)
    unfold pkv
    by_cases hz : q < n
    · have e1 : ¬ nI n ≤ nI q := nI_ge hz (by omega)
      have q4 : (q : Int) < ((120 : Nat) : Int) := by omega
      rw [if_pos hz]
      simp +decide only [e133_1, e133_4, e133_5, e133_8, e133_11, e133_12, e133_15, e133_16, e133_19, e133_20, e133_22, e133_25, e133_26, e133_27, e133_30, e133_31, e133_32, e133_35, e133_38, e133_39, e133_42, e133_43, e133_46, e133_49, e133_50, e133_53, e133_54, e133_57, e133_58, e133_61, e133_62, true_and, and_true, or_true, true_or, if_true, if_false, not_true_eq_false, not_false_eq_true, ne_eq, and_self, Option.toList_some, Option.toList_none, List.cons_append, List.nil_append, catS_0, catS_I, catS_L, catS_R, Option.map_some, Option.map_none, Option.some.injEq, Sum.inl.injEq, exists_eq_left', exists_eq', II, AA, RR, QQ, IA, IR, IQ, AI, AR, AQ, RI, RA, RQ, QI, QA, QR, LI, LA, LR, LQ, NI, NA, NR, NQ, HI, HA, HR, HQ, SI, SA, SR, SQ, updS0, hcI, e1, q2, q3, q4, q5, hcA q hz, N12 a1, L12_0 a1]
    · have e1 : nI n ≤ nI q := nI_le (by omega) (by omega)
      rw [if_neg hz]
      simp +decide only [e133_1, e133_4, e133_5, e133_8, e133_11, e133_12, e133_15, e133_16, e133_19, e133_20, e133_22, e133_25, e133_26, e133_27, e133_30, e133_31, e133_32, e133_35, e133_38, e133_39, e133_42, e133_43, e133_46, e133_49, e133_50, e133_53, e133_54, e133_57, e133_58, e133_61, e133_62, true_and, and_true, or_true, true_or, if_true, if_false, not_true_eq_false, not_false_eq_true, ne_eq, and_self, Option.toList_some, Option.toList_none, List.cons_append, List.nil_append, catS_0, catS_I, catS_L, catS_R, Option.map_some, Option.map_none, Option.some.injEq, Sum.inl.injEq, exists_eq_left', exists_eq', II, AA, RR, QQ, IA, IR, IQ, AI, AR, AQ, RI, RA, RQ, QI, QA, QR, LI, LA, LR, LQ, NI, NA, NR, NQ, HI, HA, HR, HQ, SI, SA, SR, SQ, updS0, hcI, e1, N12 a1]
  intro f
  induction f with
  | zero =>
    intro p hf hp
    have e1 : nI n ≤ nI p := nI_le (by omega) (by omega)
    show _ = Q (some (vI (pkv c n p))) (setI (setI σ 12 3 0 w) 12 2 0 (nI p))
    rw [← tail p hp, e133_0]
    simp +decide only [e133_1, e133_4, e133_5, e133_8, e133_11, e133_12, e133_15, e133_16, e133_19, e133_20, e133_22, e133_25, e133_26, e133_27, e133_30, e133_31, e133_32, e133_35, e133_39, e133_42, e133_43, e133_46, e133_49, e133_50, e133_53, e133_54, e133_57, e133_58, e133_61, e133_62, true_and, and_true, or_true, true_or, if_true, if_false, not_true_eq_false, not_false_eq_true, ne_eq, and_self, Option.toList_some, Option.toList_none, List.cons_append, List.nil_append, catS_0, catS_I, catS_L, catS_R, Option.map_some, Option.map_none, Option.some.injEq, Sum.inl.injEq, exists_eq_left', exists_eq', II, AA, RR, QQ, IA, IR, IQ, AI, AR, AQ, RI, RA, RQ, QI, QA, QR, LI, LA, LR, LQ, NI, NA, NR, NQ, HI, HA, HR, HQ, SI, SA, SR, SQ, updS0, hcI, e1, N12 a1]
  | succ f ih =>
    intro p hf hp
    show _ = Q (some (vI (pkv c n (if p < n ∧ c p = 32 then skf c n f (p + 1) else p)))) (setI (setI σ 12 3 0 w) 12 2 0 (nI (if p < n ∧ c p = 32 then skf c n f (p + 1) else p)))
    rw [e133_0]
    by_cases h1 : p < n
    · have e2 : ¬ nI n ≤ nI p := nI_ge h1 (by omega)
      have q2 : (nI p).toInt = (p : Int) := nI_toInt (by omega)
      have q3 : (0 : Int) ≤ (p : Int) := by omega
      have q4 : (p : Int) < ((120 : Nat) : Int) := by omega
      have q5 : (nI p).toNatClampNeg = p := nI_clamp (by omega)
      by_cases h2 : c p = 32
      · rw [if_pos ⟨h1, h2⟩, ← ih (p + 1) (by omega) (by omega), ← nI_1 p]
        simp +decide only [e133_1, e133_4, e133_5, e133_8, e133_11, e133_12, e133_15, e133_16, e133_19, e133_20, e133_22, e133_25, e133_26, e133_27, e133_30, e133_31, e133_32, e133_35, e133_39, e133_42, e133_43, e133_46, e133_49, e133_50, e133_53, e133_54, e133_57, e133_58, e133_61, e133_62, true_and, and_true, or_true, true_or, if_true, if_false, not_true_eq_false, not_false_eq_true, ne_eq, and_self, Option.toList_some, Option.toList_none, List.cons_append, List.nil_append, catS_0, catS_I, catS_L, catS_R, Option.map_some, Option.map_none, Option.some.injEq, Sum.inl.injEq, exists_eq_left', exists_eq', II, AA, RR, QQ, IA, IR, IQ, AI, AR, AQ, RI, RA, RQ, QI, QA, QR, LI, LA, LR, LQ, NI, NA, NR, NQ, HI, HA, HR, HQ, SI, SA, SR, SQ, updS0, hcI, e2, q2, q3, q4, q5, hcA p h1, h2, setI_I, N12 a1, L12_0 a1]
      · rw [if_neg (fun z => h2 z.2), ← tail p hp]
        simp +decide only [e133_1, e133_4, e133_5, e133_8, e133_11, e133_12, e133_15, e133_16, e133_19, e133_20, e133_22, e133_25, e133_26, e133_27, e133_30, e133_31, e133_32, e133_35, e133_39, e133_42, e133_43, e133_46, e133_49, e133_50, e133_53, e133_54, e133_57, e133_58, e133_61, e133_62, true_and, and_true, or_true, true_or, if_true, if_false, not_true_eq_false, not_false_eq_true, ne_eq, and_self, Option.toList_some, Option.toList_none, List.cons_append, List.nil_append, catS_0, catS_I, catS_L, catS_R, Option.map_some, Option.map_none, Option.some.injEq, Sum.inl.injEq, exists_eq_left', exists_eq', II, AA, RR, QQ, IA, IR, IQ, AI, AR, AQ, RI, RA, RQ, QI, QA, QR, LI, LA, LR, LQ, NI, NA, NR, NQ, HI, HA, HR, HQ, SI, SA, SR, SQ, updS0, hcI, e2, q2, q3, q4, q5, hcA p h1, h2, N12 a1, L12_0 a1]
    · have e2 : nI n ≤ nI p := nI_le (by omega) (by omega)
      rw [if_neg (fun z => h1 z.1), ← tail p hp]
      simp +decide only [e133_1, e133_4, e133_5, e133_8, e133_11, e133_12, e133_15, e133_16, e133_19, e133_20, e133_22, e133_25, e133_26, e133_27, e133_30, e133_31, e133_32, e133_35, e133_39, e133_42, e133_43, e133_46, e133_49, e133_50, e133_53, e133_54, e133_57, e133_58, e133_61, e133_62, true_and, and_true, or_true, true_or, if_true, if_false, not_true_eq_false, not_false_eq_true, ne_eq, and_self, Option.toList_some, Option.toList_none, List.cons_append, List.nil_append, catS_0, catS_I, catS_L, catS_R, Option.map_some, Option.map_none, Option.some.injEq, Sum.inl.injEq, exists_eq_left', exists_eq', II, AA, RR, QQ, IA, IR, IQ, AI, AR, AQ, RI, RA, RQ, QI, QA, QR, LI, LA, LR, LQ, NI, NA, NR, NQ, HI, HA, HR, HQ, SI, SA, SR, SQ, updS0, hcI, e2, N12 a1]
theorem m_next (a1 : SH σ) (hn : n ≤ 120) (hcI : gI σ 12 1 0 = nI n) (hcA : ∀ j, j < n → gA σ 12 0 0 j = c j) (hp : p ≤ n) : Rn d Q (133, 0, [some (vR (some (12, 0, 0)))], [], (setI (setI σ 12 3 0 w) 12 2 0 (nI (p)))) = Q (some (vI (pkv c n (sk c n p)))) (setI (setI σ 12 3 0 w) 12 2 0 (nI (sk c n p))) := m_next_l a1 hn hcI hcA 120 p (by omega) hp
theorem c_takes {ch : Int32} (a1 : SH σ) (hn : n ≤ 120) (hcI : gI σ 7 1 0 = nI n) (hcA : ∀ j, j < n → gA σ 7 0 0 j = c j) (hp : p ≤ n) : Rn (d + 1) Q (44, 0, [some (vR (some (7, 0, 0))), some (vI ch)], [], (setI σ 7 2 0 (nI (p)))) = if pkv c n (sk c n p) = ch then Q (some (vI 1)) (setI σ 7 2 0 (nI (sk c n p + 1))) else Q (some (vI 0)) (setI σ 7 2 0 (nI (sk c n p))) := by
  have cn := fun {d : Nat} {Q : Option AV → St → Prop} => c_next (d := d) (Q := Q) a1 hn hcI hcA hp
  by_cases h : pkv c n (sk c n p) = ch
  · rw [if_pos h, ← nI_1]
    simp +decide only [e44_0, e44_1, e44_4, e44_5, e44_8, e44_9, e44_10, e44_11, e44_12, e44_15, e44_16, e44_17, e44_20, e44_21, true_and, and_true, or_true, true_or, if_true, if_false, not_true_eq_false, not_false_eq_true, ne_eq, and_self, Option.toList_some, Option.toList_none, List.cons_append, List.nil_append, catS_0, catS_I, catS_L, catS_R, Option.map_some, Option.map_none, Option.some.injEq, Sum.inl.injEq, exists_eq_left', exists_eq', II, AA, RR, QQ, IA, IR, IQ, AI, AR, AQ, RI, RA, RQ, QI, QA, QR, LI, LA, LR, LQ, NI, NA, NR, NQ, HI, HA, HR, HQ, SI, SA, SR, SQ, updS0, cn, h, setI_I, N7 a1]
  · rw [if_neg h]
    simp +decide only [e44_0, e44_1, e44_4, e44_5, e44_8, e44_9, e44_10, e44_11, e44_12, e44_15, e44_16, e44_17, e44_20, e44_21, true_and, and_true, or_true, true_or, if_true, if_false, not_true_eq_false, not_false_eq_true, ne_eq, and_self, Option.toList_some, Option.toList_none, List.cons_append, List.nil_append, catS_0, catS_I, catS_L, catS_R, Option.map_some, Option.map_none, Option.some.injEq, Sum.inl.injEq, exists_eq_left', exists_eq', II, AA, RR, QQ, IA, IR, IQ, AI, AR, AQ, RI, RA, RQ, QI, QA, QR, LI, LA, LR, LQ, NI, NA, NR, NQ, HI, HA, HR, HQ, SI, SA, SR, SQ, updS0, cn, h, setI_I, N7 a1]
theorem m_takes {ch : Int32} (a1 : SH σ) (hn : n ≤ 120) (hcI : gI σ 12 1 0 = nI n) (hcA : ∀ j, j < n → gA σ 12 0 0 j = c j) (hp : p ≤ n) : Rn (d + 1) Q (135, 0, [some (vR (some (12, 0, 0))), some (vI ch), none], [], (setI (setI σ 12 3 0 0) 12 2 0 (nI (p)))) = if pkv c n (sk c n p) = ch then Q (some (vI 1)) (setI (setI σ 12 3 0 0) 12 2 0 (nI (sk c n p + 1))) else Q (some (vI 0)) (setI (setI σ 12 3 0 0) 12 2 0 (nI (sk c n p))) := by
  have cn := fun {d : Nat} {Q : Option AV → St → Prop} => m_next (d := d) (Q := Q) (w := 0) a1 hn hcI hcA hp
  by_cases h : pkv c n (sk c n p) = ch
  · rw [if_pos h, ← nI_1]
    simp +decide only [e135_0, e135_1, e135_4, e135_7, e135_8, e135_11, e135_12, e135_15, e135_16, e135_19, e135_20, e135_21, e135_22, e135_23, e135_26, e135_27, e135_30, e135_31, e135_34, e135_35, e135_36, e135_39, e135_40, true_and, and_true, or_true, true_or, if_true, if_false, not_true_eq_false, not_false_eq_true, ne_eq, and_self, Option.toList_some, Option.toList_none, List.cons_append, List.nil_append, catS_0, catS_I, catS_L, catS_R, Option.map_some, Option.map_none, Option.some.injEq, Sum.inl.injEq, exists_eq_left', exists_eq', II, AA, RR, QQ, IA, IR, IQ, AI, AR, AQ, RI, RA, RQ, QI, QA, QR, LI, LA, LR, LQ, NI, NA, NR, NQ, HI, HA, HR, HQ, SI, SA, SR, SQ, updS0, cn, h, setI_I, N12 a1]
  · rw [if_neg h]
    simp +decide only [e135_0, e135_1, e135_4, e135_7, e135_8, e135_11, e135_12, e135_15, e135_16, e135_19, e135_20, e135_21, e135_22, e135_23, e135_26, e135_27, e135_30, e135_31, e135_34, e135_35, e135_36, e135_39, e135_40, true_and, and_true, or_true, true_or, if_true, if_false, not_true_eq_false, not_false_eq_true, ne_eq, and_self, Option.toList_some, Option.toList_none, List.cons_append, List.nil_append, catS_0, catS_I, catS_L, catS_R, Option.map_some, Option.map_none, Option.some.injEq, Sum.inl.injEq, exists_eq_left', exists_eq', II, AA, RR, QQ, IA, IR, IQ, AI, AR, AQ, RI, RA, RQ, QI, QA, QR, LI, LA, LR, LQ, NI, NA, NR, NQ, HI, HA, HR, HQ, SI, SA, SR, SQ, updS0, cn, h, setI_I, N12 a1, Int32.add_zero]
theorem m_takes1 {ch : Int32} (a1 : SH σ) : Rn (d + 1) Q (135, 0, [some (vR (some (12, 0, 0))), some (vI ch), none], [], (setI (setI σ 12 3 0 1) 12 2 0 (nI (p)))) = Q (some (vI 0)) (setI (setI σ 12 3 0 1) 12 2 0 (nI (p))) := by
  simp +decide only [e135_0, e135_1, e135_4, e135_7, e135_8, e135_11, e135_12, e135_15, e135_16, e135_19, e135_20, e135_21, e135_22, e135_23, e135_26, e135_27, e135_30, e135_31, e135_34, e135_35, e135_36, e135_39, e135_40, true_and, and_true, or_true, true_or, if_true, if_false, not_true_eq_false, not_false_eq_true, ne_eq, and_self, Option.toList_some, Option.toList_none, List.cons_append, List.nil_append, catS_0, catS_I, catS_L, catS_R, Option.map_some, Option.map_none, Option.some.injEq, Sum.inl.injEq, exists_eq_left', exists_eq', II, AA, RR, QQ, IA, IR, IQ, AI, AR, AQ, RI, RA, RQ, QI, QA, QR, LI, LA, LR, LQ, NI, NA, NR, NQ, HI, HA, HR, HQ, SI, SA, SR, SQ, updS0, setI_I, N12 a1, Int32.add_zero]
theorem m_fail0 {q : Nat} (a1 : SH σ) : Rn d Q (134, 0, [some (vR (some (12, 0, 0))), some (vI (nI q))], [], (setI (setI σ 12 3 0 0) 12 2 0 (nI (p)))) = Q none (setI (setI σ 12 3 0 1) 12 2 0 (nI (q))) := by
  simp +decide only [e134_0, e134_1, e134_2, e134_5, e134_8, e134_9, e134_12, e134_15, e134_16, e134_19, e134_20, e134_21, e134_24, true_and, and_true, or_true, true_or, if_true, if_false, not_true_eq_false, not_false_eq_true, ne_eq, and_self, Option.toList_some, Option.toList_none, List.cons_append, List.nil_append, catS_0, catS_I, catS_L, catS_R, Option.map_some, Option.map_none, Option.some.injEq, Sum.inl.injEq, exists_eq_left', exists_eq', II, AA, RR, QQ, IA, IR, IQ, AI, AR, AQ, RI, RA, RQ, QI, QA, QR, LI, LA, LR, LQ, NI, NA, NR, NQ, HI, HA, HR, HQ, SI, SA, SR, SQ, updS0, N12 a1, st_w]
theorem m_fail1 {q : Int32} (a1 : SH σ) : Rn d Q (134, 0, [some (vR (some (12, 0, 0))), some (vI q)], [], (setI (setI σ 12 3 0 1) 12 2 0 (nI (p)))) = Q none (setI (setI σ 12 3 0 1) 12 2 0 (nI (p))) := by
  simp +decide only [e134_0, e134_1, e134_2, e134_5, e134_8, e134_9, e134_12, e134_15, e134_16, e134_19, e134_20, e134_21, e134_24, true_and, and_true, or_true, true_or, if_true, if_false, not_true_eq_false, not_false_eq_true, ne_eq, and_self, Option.toList_some, Option.toList_none, List.cons_append, List.nil_append, catS_0, catS_I, catS_L, catS_R, Option.map_some, Option.map_none, Option.some.injEq, Sum.inl.injEq, exists_eq_left', exists_eq', II, AA, RR, QQ, IA, IR, IQ, AI, AR, AQ, RI, RA, RQ, QI, QA, QR, LI, LA, LR, LQ, NI, NA, NR, NQ, HI, HA, HR, HQ, SI, SA, SR, SQ, updS0, N12 a1, st_w]
theorem m_need0 {ch : Int32} (a1 : SH σ) (hn : n ≤ 120) (hcI : gI σ 12 1 0 = nI n) (hcA : ∀ j, j < n → gA σ 12 0 0 j = c j) (hp : p ≤ n) : Rn (d + 2) Q (136, 0, [some (vR (some (12, 0, 0))), some (vI ch)], [], (setI (setI σ 12 3 0 0) 12 2 0 (nI (p)))) = if pkv c n (sk c n p) = ch then Q none (setI (setI σ 12 3 0 0) 12 2 0 (nI (sk c n p + 1))) else Q none (setI (setI σ 12 3 0 1) 12 2 0 (nI (sk c n p))) := by
  have ct := fun {d : Nat} {Q : Option AV → St → Prop} => m_takes (d := d) (Q := Q) (ch := ch) a1 hn hcI hcA hp
  by_cases h : pkv c n (sk c n p) = ch
  · rw [if_pos h]
    simp +decide only [e136_0, e136_1, e136_2, e136_5, e136_8, e136_9, e136_10, e136_13, e136_16, true_and, and_true, or_true, true_or, if_true, if_false, not_true_eq_false, not_false_eq_true, ne_eq, and_self, Option.toList_some, Option.toList_none, List.cons_append, List.nil_append, catS_0, catS_I, catS_L, catS_R, Option.map_some, Option.map_none, Option.some.injEq, Sum.inl.injEq, exists_eq_left', exists_eq', II, AA, RR, QQ, IA, IR, IQ, AI, AR, AQ, RI, RA, RQ, QI, QA, QR, LI, LA, LR, LQ, NI, NA, NR, NQ, HI, HA, HR, HQ, SI, SA, SR, SQ, updS0, ct, h, N12 a1]
  · rw [if_neg h]
    simp +decide only [e136_0, e136_1, e136_2, e136_5, e136_8, e136_9, e136_10, e136_13, e136_16, true_and, and_true, or_true, true_or, if_true, if_false, not_true_eq_false, not_false_eq_true, ne_eq, and_self, Option.toList_some, Option.toList_none, List.cons_append, List.nil_append, catS_0, catS_I, catS_L, catS_R, Option.map_some, Option.map_none, Option.some.injEq, Sum.inl.injEq, exists_eq_left', exists_eq', II, AA, RR, QQ, IA, IR, IQ, AI, AR, AQ, RI, RA, RQ, QI, QA, QR, LI, LA, LR, LQ, NI, NA, NR, NQ, HI, HA, HR, HQ, SI, SA, SR, SQ, updS0, ct, h, N12 a1, m_fail0 a1]
theorem m_need1 {ch : Int32} (a1 : SH σ) : Rn (d + 2) Q (136, 0, [some (vR (some (12, 0, 0))), some (vI ch)], [], (setI (setI σ 12 3 0 1) 12 2 0 (nI (p)))) = Q none (setI (setI σ 12 3 0 1) 12 2 0 (nI (p))) := by
  simp +decide only [e136_0, e136_1, e136_2, e136_5, e136_8, e136_9, e136_10, e136_13, e136_16, true_and, and_true, or_true, true_or, if_true, if_false, not_true_eq_false, not_false_eq_true, ne_eq, and_self, Option.toList_some, Option.toList_none, List.cons_append, List.nil_append, catS_0, catS_I, catS_L, catS_R, Option.map_some, Option.map_none, Option.some.injEq, Sum.inl.injEq, exists_eq_left', exists_eq', II, AA, RR, QQ, IA, IR, IQ, AI, AR, AQ, RI, RA, RQ, QI, QA, QR, LI, LA, LR, LQ, NI, NA, NR, NQ, HI, HA, HR, HQ, SI, SA, SR, SQ, updS0, m_takes1 a1, m_fail1 a1, N12 a1]
end TAPE
