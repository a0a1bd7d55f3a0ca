def cvT (t : Nat) : Int32 := if t < 1000 then nI t else if t = 1000 then -1 else if t = 1001 then -2 else -3
def rvT (t : Nat) : Int32 := if t < 1000 then nI t else if t = 1000 then -2 else if t = 1001 then -3 else -4
theorem cvT_16 : ∀ t, t < 1003 → (cvT t).toInt16.toInt32 = cvT t := by decide +kernel
/-- the marks in a row, the latest first -/
def RowL (g f : Nat → Int32) (s : Nat) : List Nat → Prop
  | [] => True
  | t :: C => f (s + C.length) = g t ∧ RowL g f s C
theorem RowL_up {g f : Nat → Int32} {s j : Nat} {v : Int32} : ∀ C : List Nat, s + C.length ≤ j → RowL g f s C → RowL g (upd f j v) s C := by
  intro C
  induction C with
  | nil => intro _ _; exact True.intro
  | cons t C ih =>
    intro h1 h2
    have h1 : s + (C.length + 1) ≤ j := h1
    refine ⟨?_, ih (by omega) h2.2⟩
    rw [pk_un (by omega)]
    exact h2.1
theorem RowL_ext {g f f' : Nat → Int32} {s : Nat} : ∀ C : List Nat, (∀ j, s ≤ j → j < s + C.length → f' j = f j) → RowL g f s C → RowL g f' s C := by
  intro C
  induction C with
  | nil => intro _ _; exact True.intro
  | cons t C ih =>
    intro h1 h2
    have h1 : ∀ j, s ≤ j → j < s + (C.length + 1) → f' j = f j := h1
    exact ⟨by rw [h1 _ (by omega) (by omega)]; exact h2.1, ih (fun j h3 h4 => h1 j h3 (by omega)) h2.2⟩
def orC : List Nat → Nat
  | [] => 0
  | t :: C => orC C ||| if t < 1000 then 2 ^ (t % 8) else 0
theorem orC_lt : ∀ C, orC C < 256 := by
  intro C
  induction C with
  | nil => show (0 : Nat) < 256; omega
  | cons t C ih =>
    refine Nat.or_lt_two_pow (n := 8) ih ?_
    split
    · exact Nat.pow_lt_pow_right (by decide) (by omega)
    · decide
theorem orC_j {t : Nat} {C : List Nat} (h : ¬ t < 1000) : orC (t :: C) = orC C := by
  show (orC C ||| if t < 1000 then 2 ^ (t % 8) else 0) = _
  rw [if_neg h, Nat.or_zero]
def PE0 (c k : Nat) : Bool := decide (c = 0 ∧ (k = 4 ∨ k = 6 ∨ k = 7))
def RE0 (c k : Nat) : Bool := decide ((c = 7 ∧ k = 2) ∨ (c = 0 ∧ k = 8))
def frL (z l s : Nat) (σ σ' : St) : Prop := frB PE0 RE0 σ σ' ∧ (∀ k i, i ≠ z → gA σ' 0 k i = gA σ 0 k i) ∧ (∀ i, i ≠ z → gI σ' 0 8 i = gI σ 0 8 i) ∧ (∀ l', l' ≠ l → gA σ' 0 4 z l' = gA σ 0 4 z l' ∧ gA σ' 0 6 z l' = gA σ 0 6 z l') ∧ ∀ j, j < s → gA σ' 0 7 z j = gA σ 0 7 z j
theorem frL_0 {z l s : Nat} {σ : St} : frL z l s σ σ := ⟨frB_0, fun _ _ _ => rfl, fun _ _ => rfl, fun _ _ => ⟨rfl, rfl⟩, fun _ _ => rfl⟩
theorem frL_t {z l s : Nat} {σ σ1 σ2 : St} (h1 : frL z l s σ σ1) (h2 : frL z l s σ1 σ2) : frL z l s σ σ2 := by
  obtain ⟨a1, a2, a3, a4, a5⟩ := h1
  obtain ⟨b1, b2, b3, b4, b5⟩ := h2
  exact ⟨frB_t a1 b1, fun k i h => (b2 k i h).trans (a2 k i h), fun i h => (b3 i h).trans (a3 i h), fun l' h => ⟨(b4 l' h).1.trans (a4 l' h).1, (b4 l' h).2.trans (a4 l' h).2⟩, fun j h => (b5 j h).trans (a5 j h)⟩
theorem frL_p {z l s : Nat} {σ : St} {v : Int32} : frL z l s σ (setI σ 7 2 0 v) := by
  refine ⟨frB_I (by decide), fun _ _ _ => rfl, fun i _ => ?_, fun _ _ => ⟨rfl, rfl⟩, fun _ _ => rfl⟩
  simp +decide only [II, AA, RR, QQ, IA, IR, IQ, AI, AR, AQ, RI, RA, RQ, QI, QA, QR, LI, LA, LR, LQ, NI, NA, NR, NQ, HI, HA, HR, HQ, SI, SA, SR, SQ, true_and, and_true, or_true, true_or, if_true, if_false, not_true_eq_false, not_false_eq_true, ne_eq, and_self]
/-- the class in the midst of a lesson's text -/
def KSt (z l s : Nat) (c : Nat → Int32) (n p : Nat) (C : List Nat) (ρ : St) : Prop := SH ρ ∧ z < gN ρ 0 ∧ n ≤ 120 ∧ l < 8 ∧ gI ρ 7 1 0 = nI n ∧ (∀ j, j < n → gA ρ 7 0 0 j = c j) ∧ (∀ j, j < n → 32 ≤ (c j).toInt ∧ (c j).toInt ≤ 126) ∧ gI ρ 7 2 0 = nI p ∧ p ≤ n ∧ gI ρ 0 8 z = nI (s + C.length) ∧ RowL cvT (gA ρ 0 7 z) s C ∧ gA ρ 0 4 z l = nI (orC C) ∧ gA ρ 0 6 z l = nI (s + C.length) ∧ s + C.length ≤ p
theorem KS_p {z l s : Nat} {c : Nat → Int32} {n p q : Nat} {C : List Nat} {ρ : St} (h : KSt z l s c n p C ρ) (h1 : p ≤ q) (h2 : q ≤ n) : KSt z l s c n q C (setI ρ 7 2 0 (nI q)) := by
  obtain ⟨k1, k2, k3, k4, k5, k6, k7, k8, k9, k10, k11, k12, k13, k14⟩ := h
  refine ⟨SH_I k1, ?_⟩
  simp +decide only [II, AA, RR, QQ, IA, IR, IQ, AI, AR, AQ, RI, RA, RQ, QI, QA, QR, LI, LA, LR, LQ, NI, NA, NR, NQ, HI, HA, HR, HQ, SI, SA, SR, SQ, true_and, and_true, or_true, true_or, if_true, if_false, not_true_eq_false, not_false_eq_true, ne_eq, and_self]
  exact ⟨k2, k3, k4, k5, k6, k7, updS0, h2, k10, k11, k12, k13, by omega⟩
def adS (ρ : St) (z l k : Nat) (v : Int32) : St := setA (setI (setA ρ 0 7 z (upd (gA ρ 0 7 z) k v)) 0 8 z (nI (k + 1))) 0 6 z (upd (gA ρ 0 6 z) l (nI (k + 1)))
theorem c_add {d : Nat} {Q : Option AV → St → Prop} {ρ : St} {z l k : Nat} {v : Int32} (a1 : SH ρ) (hz : z < gN ρ 0) (hl : l < 8) (hk : k < 120) (hg : gI ρ 0 8 z = nI k) (hv : v.toInt16.toInt32 = v) : Rn d Q (6, 0, [some (vR (some (0, 0, z))), some (vI (nI l)), some (vI v)], [], ρ) = Q none (adS ρ z l k v) := by
  have y1 : ¬ nI 120 ≤ nI k := nI_ge (by omega) (by omega)
  have y2 : (nI k).toInt = (k : Int) := nI_toInt (by omega)
  have y3 : (0 : Int) ≤ (k : Int) := by omega
  have y4 : (k : Int) < ((120 : Nat) : Int) := by omega
  have y5 : (nI k).toNatClampNeg = k := nI_clamp (by omega)
  have x2 : (nI l).toInt = (l : Int) := nI_toInt (by omega)
  have x3 : (0 : Int) ≤ (l : Int) := by omega
  have x4 : (l : Int) < ((8 : Nat) : Int) := by omega
  have x5 : (nI l).toNatClampNeg = l := nI_clamp (by omega)
  have n120 : (120 : Int32) = nI 120 := rfl
  have n120' : Int32.ofNat 120 = nI 120 := rfl
  unfold adS
  simp +decide only [e6_0, e6_1, e6_4, e6_5, e6_8, e6_9, e6_12, e6_13, e6_16, e6_17, e6_20, e6_21, e6_22, e6_23, e6_24, e6_25, e6_28, e6_29, e6_30, e6_33, e6_34, e6_37, e6_38, e6_39, e6_42, e6_43, true_and, and_true, or_true, true_or, if_true, if_false, not_true_eq_false, not_false_eq_true, ne_eq, and_self, Option.toList_some, Option.toList_none, List.cons_append, List.nil_append, catS_0, catS_I, catS_L, catS_R, Option.map_some, Option.map_none, Option.some.injEq, Sum.inl.injEq, exists_eq_left', exists_eq', II, AA, RR, QQ, IA, IR, IQ, AI, AR, AQ, RI, RA, RQ, QI, QA, QR, LI, LA, LR, LQ, NI, NA, NR, NQ, HI, HA, HR, HQ, SI, SA, SR, SQ, hz, hg, hv, y1, y2, y3, y4, y5, x2, x3, x4, x5, nI_1 k, updS0, n120, n120', L0_7 a1 hz, L0_6 a1 hz]
theorem gA_oi {σ : St} {c k z a b i : Nat} {f : Nat → Int32} (h : i ≠ z) : gA (setA σ c k z f) a b i = gA σ a b i := by
  rw [AA]
  by_cases hc : a = c ∧ b = k
  · rw [if_pos hc]
    obtain ⟨rfl, rfl⟩ := hc
    show (if i = z then f else gA σ a b i) = _
    rw [if_neg h]
  · rw [if_neg hc]
theorem frL_ad {z l s k : Nat} {σ : St} {v : Int32} (h : s ≤ k) : frL z l s σ (adS σ z l k v) := by
  unfold adS
  refine ⟨frB_t (frB_t (frB_A (by decide)) (frB_I (by decide))) (frB_A (by decide)), fun k' i hi => ?_, fun i hi => ?_, fun l' hl => ?_, fun j hj => ?_⟩
  · rw [gA_oi hi, AI, gA_oi hi]
  · simp +decide only [II, AA, RR, QQ, IA, IR, IQ, AI, AR, AQ, RI, RA, RQ, QI, QA, QR, LI, LA, LR, LQ, NI, NA, NR, NQ, HI, HA, HR, HQ, SI, SA, SR, SQ, true_and, and_true, or_true, true_or, if_true, if_false, not_true_eq_false, not_false_eq_true, ne_eq, and_self]
    exact pk_un hi
  · simp +decide only [II, AA, RR, QQ, IA, IR, IQ, AI, AR, AQ, RI, RA, RQ, QI, QA, QR, LI, LA, LR, LQ, NI, NA, NR, NQ, HI, HA, HR, HQ, SI, SA, SR, SQ, true_and, and_true, or_true, true_or, if_true, if_false, not_true_eq_false, not_false_eq_true, ne_eq, and_self]
    exact pk_un hl
  · simp +decide only [II, AA, RR, QQ, IA, IR, IQ, AI, AR, AQ, RI, RA, RQ, QI, QA, QR, LI, LA, LR, LQ, NI, NA, NR, NQ, HI, HA, HR, HQ, SI, SA, SR, SQ, true_and, and_true, or_true, true_or, if_true, if_false, not_true_eq_false, not_false_eq_true, ne_eq, and_self]
    exact pk_un (by omega)
theorem KS_ad {z l s : Nat} {c : Nat → Int32} {n p t : Nat} {C : List Nat} {ρ : St} (h : KSt z l s c n p C ρ) (ht : ¬ t < 1000) (hl : s + C.length + 1 ≤ p) : KSt z l s c n p (t :: C) (adS ρ z l (s + C.length) (cvT t)) := by
  obtain ⟨k1, k2, k3, k4, k5, k6, k7, k8, k9, k10, k11, k12, k13, k14⟩ := h
  unfold adS
  refine ⟨SH_A (SH_I (SH_A k1)), ?_⟩
  simp +decide only [II, AA, RR, QQ, IA, IR, IQ, AI, AR, AQ, RI, RA, RQ, QI, QA, QR, LI, LA, LR, LQ, NI, NA, NR, NQ, HI, HA, HR, HQ, SI, SA, SR, SQ, true_and, and_true, or_true, true_or, if_true, if_false, not_true_eq_false, not_false_eq_true, ne_eq, and_self]
  refine ⟨k2, k3, k4, k5, k6, k7, k8, k9, updS0, ⟨updS0, RowL_up C (Nat.le_refl _) k11⟩, ?_, updS0, by show s + (C.length + 1) ≤ p; omega⟩
  rw [orC_j ht]
  exact k12
theorem KS_cl {z l s : Nat} {c : Nat → Int32} {n p t : Nat} {C : List Nat} {ρ : St} (h : KSt z l s c n p C ρ) (ht : t < 1000) (hl : s + C.length + 1 ≤ p) : KSt z l s c n p (t :: C) (adS (setA ρ 0 4 z (upd (gA ρ 0 4 z) l (nI (orC C ||| 2 ^ (t % 8))))) z l (s + C.length) (cvT t)) ∧ frL z l s ρ (adS (setA ρ 0 4 z (upd (gA ρ 0 4 z) l (nI (orC C ||| 2 ^ (t % 8))))) z l (s + C.length) (cvT t)) := by
  obtain ⟨k1, k2, k3, k4, k5, k6, k7, k8, k9, k10, k11, k12, k13, k14⟩ := h
  constructor
  · unfold adS
    refine ⟨SH_A (SH_I (SH_A (SH_A k1))), ?_⟩
    simp +decide only [II, AA, RR, QQ, IA, IR, IQ, AI, AR, AQ, RI, RA, RQ, QI, QA, QR, LI, LA, LR, LQ, NI, NA, NR, NQ, HI, HA, HR, HQ, SI, SA, SR, SQ, true_and, and_true, or_true, true_or, if_true, if_false, not_true_eq_false, not_false_eq_true, ne_eq, and_self]
    refine ⟨k2, k3, k4, k5, k6, k7, k8, k9, updS0, ⟨updS0, RowL_up C (Nat.le_refl _) k11⟩, ?_, updS0, by show s + (C.length + 1) ≤ p; omega⟩
    rw [updS0]
    show _ = nI (orC C ||| if t < 1000 then 2 ^ (t % 8) else 0)
    rw [if_pos ht]
  · refine frL_t ?_ (frL_ad (by omega))
    refine ⟨frB_A (by decide), fun k i hi => ?_, fun _ _ => rfl, fun l' hl' => ?_, fun j hj => ?_⟩
    · rw [gA_oi hi]
    · simp +decide only [II, AA, RR, QQ, IA, IR, IQ, AI, AR, AQ, RI, RA, RQ, QI, QA, QR, LI, LA, LR, LQ, NI, NA, NR, NQ, HI, HA, HR, HQ, SI, SA, SR, SQ, true_and, and_true, or_true, true_or, if_true, if_false, not_true_eq_false, not_false_eq_true, ne_eq, and_self]
      exact pk_un hl'
    · simp +decide only [II, AA, RR, QQ, IA, IR, IQ, AI, AR, AQ, RI, RA, RQ, QI, QA, QR, LI, LA, LR, LQ, NI, NA, NR, NQ, HI, HA, HR, HQ, SI, SA, SR, SQ, true_and, and_true, or_true, true_or, if_true, if_false, not_true_eq_false, not_false_eq_true, ne_eq, and_self]
section CREAD
variable {z l s : Nat} {c : Nat → Int32} {n p : Nat} {C : List Nat} {ρ : St}
theorem c_addP {on : Nat} (h : KSt z l s c n p C ρ) (ho : on < 8) (hl : s + C.length + 1 ≤ p) : ∃ ρ', frL z l s ρ ρ' ∧ KSt z l s c n p (on :: C) ρ' ∧ ∀ D Q, Rn (D + 1) Q (4, 0, [some (vR (some (0, 0, z))), some (vI (nI l)), some (vI (nI on))], [], ρ) = Q none ρ' := by
  obtain ⟨r1, r2⟩ := KS_cl (t := on) h (by omega) hl
  rw [Nat.mod_eq_of_lt ho] at r1 r2
  refine ⟨_, r2, r1, fun D Q => ?_⟩
  obtain ⟨k1, k2, k3, k4, k5, k6, k7, k8, k9, k10, k11, k12, k13, k14⟩ := h
  have x2 : (nI l).toInt = (l : Int) := nI_toInt (by omega)
  have x3 : (0 : Int) ≤ (l : Int) := by omega
  have x4 : (l : Int) < ((8 : Nat) : Int) := by omega
  have x5 : (nI l).toNatClampNeg = l := nI_clamp (by omega)
  have os : (1 : Int32) <<< (nI on &&& 31) = nI (2 ^ on) := one_sh (by omega)
  have oo : nI (orC C) ||| nI (2 ^ on) = nI (orC C ||| 2 ^ on) := nI_or _ _
  have cv : cvT on = nI on := if_pos (by omega)
  have ca := fun {d : Nat} {Q : Option AV → St → Prop} => c_add (d := d) (Q := Q) (ρ := setA ρ 0 4 z (upd (gA ρ 0 4 z) l (nI (orC C ||| 2 ^ on)))) (z := z) (l := l) (k := s + C.length) (v := nI on) (SH_A k1) k2 k4 (by omega) (by simp +decide only [II, AA, RR, QQ, IA, IR, IQ, AI, AR, AQ, RI, RA, RQ, QI, QA, QR, LI, LA, LR, LQ, NI, NA, NR, NQ, HI, HA, HR, HQ, SI, SA, SR, SQ, true_and, and_true, or_true, true_or, if_true, if_false, not_true_eq_false, not_false_eq_true, ne_eq, and_self]; exact k10) (by rw [← cv]; exact cvT_16 on (by omega))
  rw [cv]
  simp +decide only [e4_0, e4_1, e4_4, e4_5, e4_6, e4_7, e4_8, e4_9, e4_10, e4_11, e4_12, e4_13, e4_14, e4_15, e4_18, true_and, and_true, or_true, true_or, if_true, if_false, not_true_eq_false, not_false_eq_true, ne_eq, and_self, Option.toList_some, Option.toList_none, List.cons_append, List.nil_append, catS_0, catS_I, catS_L, catS_R, Option.map_some, Option.map_none, Option.some.injEq, Sum.inl.injEq, exists_eq_left', exists_eq', II, AA, RR, QQ, IA, IR, IQ, AI, AR, AQ, RI, RA, RQ, QI, QA, QR, LI, LA, LR, LQ, NI, NA, NR, NQ, HI, HA, HR, HQ, SI, SA, SR, SQ, k2, k12, x2, x3, x4, x5, os, oo, ca, L0_4 k1 k2]
theorem c_addA {on m : Nat} (h : KSt z l s c n p C ρ) (ho : on < 8) (hm : m ≤ 100) (hl : s + C.length + 1 ≤ p) : ∃ ρ', frL z l s ρ ρ' ∧ KSt z l s c n p ((8 * (m + 1) + on) :: C) ρ' ∧ ∀ D Q, Rn (D + 1) Q (5, 0, [some (vR (some (0, 0, z))), some (vI (nI l)), some (vI (nI on)), some (vI (nI m))], [], ρ) = Q none ρ' := by
  obtain ⟨r1, r2⟩ := KS_cl (t := 8 * (m + 1) + on) h (by omega) hl
  rw [show (8 * (m + 1) + on) % 8 = on by omega] at r1 r2
  refine ⟨_, r2, r1, fun D Q => ?_⟩
  obtain ⟨k1, k2, k3, k4, k5, k6, k7, k8, k9, k10, k11, k12, k13, k14⟩ := h
  have x2 : (nI l).toInt = (l : Int) := nI_toInt (by omega)
  have x3 : (0 : Int) ≤ (l : Int) := by omega
  have x4 : (l : Int) < ((8 : Nat) : Int) := by omega
  have x5 : (nI l).toNatClampNeg = l := nI_clamp (by omega)
  have os : (1 : Int32) <<< (nI on &&& 31) = nI (2 ^ on) := one_sh (by omega)
  have oo : nI (orC C) ||| nI (2 ^ on) = nI (orC C ||| 2 ^ on) := nI_or _ _
  have cv : cvT (8 * (m + 1) + on) = nI (8 * (m + 1) + on) := if_pos (by omega)
  have g2 : 8 * (nI m + 1) + nI on = nI (8 * (m + 1) + on) := by rw [nI_1, lN8, pk_mul, nI_add]
  have ca := fun {d : Nat} {Q : Option AV → St → Prop} => c_add (d := d) (Q := Q) (ρ := setA ρ 0 4 z (upd (gA ρ 0 4 z) l (nI (orC C ||| 2 ^ on)))) (z := z) (l := l) (k := s + C.length) (v := nI (8 * (m + 1) + on)) (SH_A k1) k2 k4 (by omega) (by simp +decide only [II, AA, RR, QQ, IA, IR, IQ, AI, AR, AQ, RI, RA, RQ, QI, QA, QR, LI, LA, LR, LQ, NI, NA, NR, NQ, HI, HA, HR, HQ, SI, SA, SR, SQ, true_and, and_true, or_true, true_or, if_true, if_false, not_true_eq_false, not_false_eq_true, ne_eq, and_self]; exact k10) (by rw [← cv]; exact cvT_16 _ (by omega))
  rw [cv]
  simp +decide only [e5_0, e5_1, e5_4, e5_5, e5_6, e5_7, e5_8, e5_9, e5_10, e5_11, e5_12, e5_13, e5_14, e5_16, e5_17, e5_18, e5_19, e5_20, e5_21, e5_22, e5_25, true_and, and_true, or_true, true_or, if_true, if_false, not_true_eq_false, not_false_eq_true, ne_eq, and_self, Option.toList_some, Option.toList_none, List.cons_append, List.nil_append, catS_0, catS_I, catS_L, catS_R, Option.map_some, Option.map_none, Option.some.injEq, Sum.inl.injEq, exists_eq_left', exists_eq', II, AA, RR, QQ, IA, IR, IQ, AI, AR, AQ, RI, RA, RQ, QI, QA, QR, LI, LA, LR, LQ, NI, NA, NR, NQ, HI, HA, HR, HQ, SI, SA, SR, SQ, k2, k12, x2, x3, x4, x5, os, oo, g2, ca, L0_4 k1 k2]
def CRes (z l s : Nat) (c : Nat → Int32) (n : Nat) (ρ : St) (x : Sum Nat (Nat × List Nat)) (run : Nat → (Option AV → St → Prop) → Prop) : Prop := match x with
  | .inl q => ∃ ρ', frL z l s ρ ρ' ∧ gI ρ' 7 2 0 = nI q ∧ ∀ D Q, run D Q = Q (some (vI 0)) ρ'
  | .inr y => ∃ ρ', frL z l s ρ ρ' ∧ KSt z l s c n y.1 y.2 ρ' ∧ ∀ D Q, run D Q = Q (some (vI 1)) ρ'
theorem sgn_sub (hn : n ≤ 120) (hc : ∀ j, j < n → 32 ≤ (c j).toInt ∧ (c j).toInt ≤ 126) : (sgn c n p - 97).toInt = (sgn c n p).toInt - 97 ∧ -1 ≤ (sgn c n p).toInt ∧ (sgn c n p).toInt ≤ 126 := by
  unfold sgn pkv
  by_cases h : sk c n p < n
  · rw [if_pos h]
    obtain ⟨h1, h2⟩ := hc _ h
    obtain ⟨x, x1, x2, x3⟩ := nI_ex (a := c (sk c n p)) (n := 127) ⟨by omega, by omega⟩
    rw [x2]
    have e1 : (nI x).toInt = (x : Int) := nI_toInt (by omega)
    have e2 : (nI x - 97).toInt = (x : Int) - 97 := pk_sub_toInt (b := 97) (by omega) (by omega)
    rw [e1, e2]
    omega
  · rw [if_neg h]
    decide
theorem c_lean1 (h : KSt z l s c n p C ρ) : CRes z l s c n ρ (leanP c n p C) (fun D Q => Rn (D + 4) Q (51, 0, [some (vR (some (7, 0, 0))), some (vR (some (0, 0, z))), some (vI (nI l)), none, none], [], ρ)) := by
  have h0 := h
  obtain ⟨k1, k2, k3, k4, k5, k6, k7, k8, k9, k10, k11, k12, k13, k14⟩ := h
  have hρ : ρ = setI ρ 7 2 0 (nI p) := by rw [← k8, setI_self]
  have cn := fun {d : Nat} {Q : Option AV → St → Prop} => c_next (d := d) (Q := Q) (σ := ρ) (c := c) k1 k3 k5 k6 k9
  rw [← hρ] at cn
  obtain ⟨s1, s2, s3⟩ := sgn_sub (p := p) k3 k7
  have h1 := sk_le (c := c) k9
  have hsg : pkv c n (sk c n p) = sgn c n p := rfl
  rw [hsg] at cn
  unfold leanP
  by_cases hl : 97 ≤ (sgn c n p).toInt ∧ (sgn c n p).toInt ≤ 104
  · rw [if_pos hl]
    have h2 := sgn_lt (c := c) k9 (by omega)
    have h3 := sk_le (c := c) (n := n) (p := sk c n p + 1) (by omega)
    have ct := fun {d : Nat} {Q : Option AV → St → Prop} {ch : Int32} => c_takes (d := d) (Q := Q) (σ := ρ) (c := c) (p := sk c n p + 1) (ch := ch) k1 k3 k5 k6 (by omega)
    have hsg2 : pkv c n (sk c n (sk c n p + 1)) = sgn c n (sk c n p + 1) := rfl
    rw [hsg2] at ct
    obtain ⟨on, o1, o2, o3⟩ := nI_ex (a := sgn c n p - 97) (n := 8) ⟨by omega, by omega⟩
    have o4 : (sgn c n p).toInt.toNat - 97 = on := by
      have := nI_toInt (n := on) (by omega)
      rw [o2, this] at s1
      omega
    have o5 : (nI on).toInt = (on : Int) := nI_toInt (by omega)
    have o6 : (0 : Int) ≤ (on : Int) := by omega
    have o7 : (on : Int) < 8 := by omega
    rw [o4]
    generalize hq : sk c n p = q at *
    generalize hq1 : sk c n (q + 1) = q1 at *
    by_cases hg : sgn c n (q + 1) = 62
    · rw [if_pos hg]
      have h4 := sgn_n (p := q + 1) (by omega) hg (by decide)
      rw [hq1] at h4
      have h5 := sk_le (c := c) (n := n) (p := q1 + 1) (by omega)
      have cm := fun {d : Nat} {Q : Option AV → St → Prop} => c_num (d := d) (Q := Q) (σ := ρ) (c := c) (p := q1 + 1) (H := 100) k1 k3 k5 k6 (by omega) (by omega)
      have n100 : nI 100 = 100 := rfl
      generalize hr : sk c n (q1 + 1) = r at *
      by_cases hy : nuY c n 100 r = true
      · rw [if_pos hy]
        obtain ⟨n1, n2, n3⟩ := nuP_go h5.2 hy
        have hy' := hy
        unfold nuY at hy'
        rw [decide_eq_true_iff] at hy'
        simp only [if_pos hy'] at cm
        have ev : numV c n 100 120 r 0 = nuV c n 100 r := rfl
        have ep : numP c n 120 r = nuP c n r := rfl
        rw [ev, ep] at cm
        generalize nuV c n 100 r = v at *
        generalize nuP c n r = pp at *
        have v1 : ¬ nI v < 0 := nI_pos (by omega)
        have v2 : 0 ≤ nI v := nI_pos' (by omega)
        obtain ⟨ρ', r1, r2, r3⟩ := c_addA (on := on) (m := v) (KS_p h0 (q := pp) (by omega) n2) o1 n3 (by omega)
        refine ⟨ρ', frL_t frL_p r1, r2, fun D Q => ?_⟩
        rw [n100] at cm
        have r3 := fun D => r3 (D + 2)
        simp +decide only [e51_0, e51_1, e51_4, e51_6, e51_7, e51_8, e51_9, e51_11, e51_14, e51_17, e51_18, e51_19, e51_20, e51_21, e51_24, e51_25, e51_26, e51_29, e51_30, e51_32, e51_35, e51_38, e51_39, e51_40, e51_41, e51_44, e51_45, e51_46, e51_47, e51_49, e51_52, e51_54, e51_56, e51_59, e51_60, e51_61, e51_62, e51_63, e51_64, e51_66, e51_69, e51_70, true_and, and_true, or_true, true_or, if_true, if_false, not_true_eq_false, not_false_eq_true, ne_eq, and_self, Option.toList_some, Option.toList_none, List.cons_append, List.nil_append, catS_0, catS_I, catS_L, catS_R, Option.map_some, Option.map_none, c_isIn, m_in, wide_toInt, c_isDay, m_isDay, m_isCourse, c_areParts, tI_m1000, tI_m20, tI_m14, tI_m13, tI_m12, tI_m11, tI_m4, tI_m3, tI_m2, tI_m1, tI_0, tI_1, tI_2, tI_3, tI_4, tI_5, tI_6, tI_7, tI_8, tI_9, tI_10, tI_11, tI_12, tI_14, tI_15, tI_16, tI_19, tI_20, tI_21, tI_30, tI_31, tI_32, tI_40, tI_60, tI_61, tI_80, tI_90, tI_97, tI_100, tI_101, tI_119, tI_120, tI_121, tI_126, tI_128, tI_255, tI_256, tI_500, tI_512, tI_600, tI_999, tI_1000, tI_3999, tI_4000, tI_4095, tI_4096, tI_99999, tI_100000, tL_0, tL_1, tL_2, tL_3, tL_4, tL_5, tL_7, tL_8, tL_9, tL_15, tL_19, tL_20, tL_32, tL_39, tL_48, tL_57, tL_60, tL_97, tL_100, tL_104, tL_126, tL_255, tL_3999, tL_4095, tL_99999, Option.some.injEq, Sum.inl.injEq, exists_eq_left', exists_eq', II, AA, RR, QQ, IA, IR, IQ, AI, AR, AQ, RI, RA, RQ, QI, QA, QR, LI, LA, LR, LQ, NI, NA, NR, NQ, HI, HA, HR, HQ, SI, SA, SR, SQ, cn, ct, cm, r3, o2, o5, o6, o7, hg, v1, v2, updS0, setI_I, nI_1 q, k2, N7 k1]
      · rw [if_neg hy]
        have hy' : ¬ ((48 ≤ (pkv c n r).toInt ∧ (pkv c n r).toInt ≤ 57) ∧ numV c n 100 120 r 0 ≤ 100) := fun w => hy (by unfold nuY; rw [decide_eq_true_iff]; exact w)
        simp only [if_neg hy'] at cm
        rw [n100] at cm
        refine ⟨setI ρ 7 2 0 (nI r), frL_p, by simp +decide only [II, AA, RR, QQ, IA, IR, IQ, AI, AR, AQ, RI, RA, RQ, QI, QA, QR, LI, LA, LR, LQ, NI, NA, NR, NQ, HI, HA, HR, HQ, SI, SA, SR, SQ, true_and, and_true, or_true, true_or, if_true, if_false, not_true_eq_false, not_false_eq_true, ne_eq, and_self]; exact updS0, fun D Q => ?_⟩
        simp +decide only [e51_0, e51_1, e51_4, e51_6, e51_7, e51_8, e51_9, e51_11, e51_14, e51_17, e51_18, e51_19, e51_20, e51_21, e51_24, e51_25, e51_26, e51_29, e51_30, e51_32, e51_35, e51_38, e51_39, e51_40, e51_41, e51_44, e51_45, e51_46, e51_47, e51_49, e51_52, e51_54, e51_56, e51_59, e51_60, e51_61, e51_62, e51_63, e51_64, e51_66, e51_69, e51_70, true_and, and_true, or_true, true_or, if_true, if_false, not_true_eq_false, not_false_eq_true, ne_eq, and_self, Option.toList_some, Option.toList_none, List.cons_append, List.nil_append, catS_0, catS_I, catS_L, catS_R, Option.map_some, Option.map_none, c_isIn, m_in, wide_toInt, c_isDay, m_isDay, m_isCourse, c_areParts, tI_m1000, tI_m20, tI_m14, tI_m13, tI_m12, tI_m11, tI_m4, tI_m3, tI_m2, tI_m1, tI_0, tI_1, tI_2, tI_3, tI_4, tI_5, tI_6, tI_7, tI_8, tI_9, tI_10, tI_11, tI_12, tI_14, tI_15, tI_16, tI_19, tI_20, tI_21, tI_30, tI_31, tI_32, tI_40, tI_60, tI_61, tI_80, tI_90, tI_97, tI_100, tI_101, tI_119, tI_120, tI_121, tI_126, tI_128, tI_255, tI_256, tI_500, tI_512, tI_600, tI_999, tI_1000, tI_3999, tI_4000, tI_4095, tI_4096, tI_99999, tI_100000, tL_0, tL_1, tL_2, tL_3, tL_4, tL_5, tL_7, tL_8, tL_9, tL_15, tL_19, tL_20, tL_32, tL_39, tL_48, tL_57, tL_60, tL_97, tL_100, tL_104, tL_126, tL_255, tL_3999, tL_4095, tL_99999, Option.some.injEq, Sum.inl.injEq, exists_eq_left', exists_eq', II, AA, RR, QQ, IA, IR, IQ, AI, AR, AQ, RI, RA, RQ, QI, QA, QR, LI, LA, LR, LQ, NI, NA, NR, NQ, HI, HA, HR, HQ, SI, SA, SR, SQ, cn, ct, cm, o2, o5, o6, o7, hg, updS0, setI_I, nI_1 q, k2, N7 k1]
    · rw [if_neg hg]
      obtain ⟨ρ', r1, r2, r3⟩ := c_addP (on := on) (KS_p h0 (q := q1) (by omega) (by omega)) o1 (by omega)
      refine ⟨ρ', frL_t frL_p r1, r2, fun D Q => ?_⟩
      have r3 := fun D => r3 (D + 2)
      simp +decide only [e51_0, e51_1, e51_4, e51_6, e51_7, e51_8, e51_9, e51_11, e51_14, e51_17, e51_18, e51_19, e51_20, e51_21, e51_24, e51_25, e51_26, e51_29, e51_30, e51_32, e51_35, e51_38, e51_39, e51_40, e51_41, e51_44, e51_45, e51_46, e51_47, e51_49, e51_52, e51_54, e51_56, e51_59, e51_60, e51_61, e51_62, e51_63, e51_64, e51_66, e51_69, e51_70, true_and, and_true, or_true, true_or, if_true, if_false, not_true_eq_false, not_false_eq_true, ne_eq, and_self, Option.toList_some, Option.toList_none, List.cons_append, List.nil_append, catS_0, catS_I, catS_L, catS_R, Option.map_some, Option.map_none, c_isIn, m_in, wide_toInt, c_isDay, m_isDay, m_isCourse, c_areParts, tI_m1000, tI_m20, tI_m14, tI_m13, tI_m12, tI_m11, tI_m4, tI_m3, tI_m2, tI_m1, tI_0, tI_1, tI_2, tI_3, tI_4, tI_5, tI_6, tI_7, tI_8, tI_9, tI_10, tI_11, tI_12, tI_14, tI_15, tI_16, tI_19, tI_20, tI_21, tI_30, tI_31, tI_32, tI_40, tI_60, tI_61, tI_80, tI_90, tI_97, tI_100, tI_101, tI_119, tI_120, tI_121, tI_126, tI_128, tI_255, tI_256, tI_500, tI_512, tI_600, tI_999, tI_1000, tI_3999, tI_4000, tI_4095, tI_4096, tI_99999, tI_100000, tL_0, tL_1, tL_2, tL_3, tL_4, tL_5, tL_7, tL_8, tL_9, tL_15, tL_19, tL_20, tL_32, tL_39, tL_48, tL_57, tL_60, tL_97, tL_100, tL_104, tL_126, tL_255, tL_3999, tL_4095, tL_99999, Option.some.injEq, Sum.inl.injEq, exists_eq_left', exists_eq', II, AA, RR, QQ, IA, IR, IQ, AI, AR, AQ, RI, RA, RQ, QI, QA, QR, LI, LA, LR, LQ, NI, NA, NR, NQ, HI, HA, HR, HQ, SI, SA, SR, SQ, cn, ct, r3, o2, o5, o6, o7, hg, updS0, setI_I, nI_1 q, k2, N7 k1]
  · rw [if_neg hl]
    have hl' : ¬ (0 ≤ (sgn c n p - 97).toInt ∧ (sgn c n p - 97).toInt < 8) := by omega
    refine ⟨setI ρ 7 2 0 (nI (sk c n p)), frL_p, by simp +decide only [II, AA, RR, QQ, IA, IR, IQ, AI, AR, AQ, RI, RA, RQ, QI, QA, QR, LI, LA, LR, LQ, NI, NA, NR, NQ, HI, HA, HR, HQ, SI, SA, SR, SQ, true_and, and_true, or_true, true_or, if_true, if_false, not_true_eq_false, not_false_eq_true, ne_eq, and_self]; exact updS0, fun D Q => ?_⟩
    simp +decide only [e51_0, e51_1, e51_4, e51_6, e51_7, e51_8, e51_9, e51_11, e51_14, e51_17, e51_18, e51_19, e51_20, e51_21, e51_24, e51_25, e51_26, e51_29, e51_30, e51_32, e51_35, e51_38, e51_39, e51_40, e51_41, e51_44, e51_45, e51_46, e51_47, e51_49, e51_52, e51_54, e51_56, e51_59, e51_60, e51_61, e51_62, e51_63, e51_64, e51_66, e51_69, e51_70, true_and, and_true, or_true, true_or, if_true, if_false, not_true_eq_false, not_false_eq_true, ne_eq, and_self, Option.toList_some, Option.toList_none, List.cons_append, List.nil_append, catS_0, catS_I, catS_L, catS_R, Option.map_some, Option.map_none, c_isIn, m_in, wide_toInt, c_isDay, m_isDay, m_isCourse, c_areParts, tI_m1000, tI_m20, tI_m14, tI_m13, tI_m12, tI_m11, tI_m4, tI_m3, tI_m2, tI_m1, tI_0, tI_1, tI_2, tI_3, tI_4, tI_5, tI_6, tI_7, tI_8, tI_9, tI_10, tI_11, tI_12, tI_14, tI_15, tI_16, tI_19, tI_20, tI_21, tI_30, tI_31, tI_32, tI_40, tI_60, tI_61, tI_80, tI_90, tI_97, tI_100, tI_101, tI_119, tI_120, tI_121, tI_126, tI_128, tI_255, tI_256, tI_500, tI_512, tI_600, tI_999, tI_1000, tI_3999, tI_4000, tI_4095, tI_4096, tI_99999, tI_100000, tL_0, tL_1, tL_2, tL_3, tL_4, tL_5, tL_7, tL_8, tL_9, tL_15, tL_19, tL_20, tL_32, tL_39, tL_48, tL_57, tL_60, tL_97, tL_100, tL_104, tL_126, tL_255, tL_3999, tL_4095, tL_99999, Option.some.injEq, Sum.inl.injEq, exists_eq_left', exists_eq', II, AA, RR, QQ, IA, IR, IQ, AI, AR, AQ, RI, RA, RQ, QI, QA, QR, LI, LA, LR, LQ, NI, NA, NR, NQ, HI, HA, HR, HQ, SI, SA, SR, SQ, cn, hl', k2, N7 k1]
end CREAD
