/-- a lesson read: its letter, name, pass mark, marks -/
abbrev Ent : Type := Nat × Nat × Nat × List Nat
def lesE (c : Nat → Int32) (n l nm ps p : Nat) : Sum Nat (Nat × Ent) := if sgn c n p = 58 then (match casesP c n (claimP c n 6) (sk c n p + 1) [] with
  | .inl q => .inl q
  | .inr y => .inr (y.1, l, nm, ps, y.2)) else .inr (sk c n p, l, nm, ps, [])
def lesD (c : Nat → Int32) (n l nm p : Nat) : Sum Nat (Nat × Ent) := if nuY c n 100 (sk c n p) = true then lesE c n l nm (nuV c n 100 (sk c n p)) (nuP c n (sk c n p)) else .inl (sk c n p)
def lesC (c : Nat → Int32) (n l nm p : Nat) : Sum Nat (Nat × Ent) := if sgn c n p = 47 then lesD c n l nm (sk c n p + 1) else .inl (sk c n p)
def lesB (c : Nat → Int32) (n l p : Nat) : Sum Nat (Nat × Ent) := if nuY c n 39 (sk c n p) = true then lesC c n l (nuV c n 39 (sk c n p)) (nuP c n (sk c n p)) else .inl (sk c n p)
def lesA (c : Nat → Int32) (n l p : Nat) : Sum Nat (Nat × Ent) := if sgn c n p = 61 then lesB c n l (sk c n p + 1) else .inl (sk c n p)
def lesP (c : Nat → Int32) (n b p : Nat) : Sum Nat (Nat × Ent) := if (97 ≤ (sgn c n p).toInt ∧ (sgn c n p).toInt ≤ 104) ∧ b.testBit ((sgn c n p).toInt.toNat - 97) = false then lesA c n ((sgn c n p).toInt.toNat - 97) (sk c n p + 1) else .inl (sk c n p)
def bitsL : List Ent → Nat
  | [] => 0
  | e :: L => bitsL L ||| 2 ^ e.1
def totL : List Ent → Nat
  | [] => 0
  | e :: L => totL L + e.2.2.2.length
def orL : List Ent → Nat
  | [] => 0
  | e :: L => orL L ||| orC e.2.2.2
def notIn (l : Nat) : List Ent → Prop
  | [] => True
  | e :: L => e.1 ≠ l ∧ notIn l L
theorem bits_not {l : Nat} : ∀ L : List Ent, (bitsL L).testBit l = false → notIn l L := by
  intro L
  induction L with
  | nil => intro _; exact True.intro
  | cons e L ih =>
    intro h
    have h : (bitsL L ||| 2 ^ e.1).testBit l = false := h
    rw [Nat.testBit_or, Bool.or_eq_false_iff, Nat.testBit_two_pow, decide_eq_false_iff_not] at h
    exact ⟨h.2, ih h.1⟩
/-- the rows in which the lessons stand -/
def EntR (g f2 f3 f5 f6 f7 : Nat → Int32) : List Ent → Prop
  | [] => True
  | e :: L => f2 e.1 = nI e.2.1 ∧ f3 e.1 = nI e.2.2.1 ∧ f5 e.1 = nI (totL L) ∧ f6 e.1 = nI (totL L + e.2.2.2.length) ∧ RowL g f7 (totL L) e.2.2.2 ∧ EntR g f2 f3 f5 f6 f7 L
def EntS (f4 : Nat → Int32) : List Ent → Prop
  | [] => True
  | e :: L => f4 e.1 = nI (orC e.2.2.2) ∧ EntS f4 L
theorem EntR_ext {g f2 f3 f5 f6 f7 h2 h3 h5 h6 h7 : Nat → Int32} {l : Nat} (e2 : ∀ j, j ≠ l → h2 j = f2 j) (e3 : ∀ j, j ≠ l → h3 j = f3 j) (e5 : ∀ j, j ≠ l → h5 j = f5 j) (e6 : ∀ j, j ≠ l → h6 j = f6 j) : ∀ L : List Ent, notIn l L → (∀ j, j < totL L → h7 j = f7 j) → EntR g f2 f3 f5 f6 f7 L → EntR g h2 h3 h5 h6 h7 L := by
  intro L
  induction L with
  | nil => intro _ _ _; exact True.intro
  | cons e L ih =>
    intro hn h7' h
    obtain ⟨r1, r2, r3, r4, r5, r6⟩ := h
    have h7' : ∀ j, j < totL L + e.2.2.2.length → h7 j = f7 j := h7'
    refine ⟨by rw [e2 _ hn.1]; exact r1, by rw [e3 _ hn.1]; exact r2, by rw [e5 _ hn.1]; exact r3, by rw [e6 _ hn.1]; exact r4, RowL_ext _ (fun j _ hj => h7' j hj) r5, ih hn.2 (fun j hj => h7' j (by omega)) r6⟩
theorem EntS_ext {f4 h4 : Nat → Int32} {l : Nat} (e4 : ∀ j, j ≠ l → h4 j = f4 j) : ∀ L : List Ent, notIn l L → EntS f4 L → EntS h4 L := by
  intro L
  induction L with
  | nil => intro _ _; exact True.intro
  | cons e L ih =>
    intro hn h
    exact ⟨by rw [e4 _ hn.1]; exact h.1, ih hn.2 h.2⟩
/-- good lessons -/
def GdL : List Ent → Prop
  | [] => True
  | e :: L => (e.1 < 8 ∧ (bitsL L).testBit e.1 = false ∧ e.2.1 ≤ 39 ∧ e.2.2.1 ≤ 100 ∧ WFc e.2.2.2 ∧ dep e.2.2.2 ≤ 1) ∧ GdL L
theorem bits_lt : ∀ L : List Ent, GdL L → bitsL L < 256 := by
  intro L
  induction L with
  | nil => intro _; show (0 : Nat) < 256; omega
  | cons e L ih =>
    intro h
    exact Nat.or_lt_two_pow (n := 8) (ih h.2) (Nat.pow_lt_pow_right (by decide) h.1.1)
/-- what the reading of a lesson keeps -/
def LGo (n p b : Nat) (x : Sum Nat (Nat × Ent)) : Prop := match x with
  | .inl q => q ≤ n
  | .inr y => p < y.1 ∧ y.1 ≤ n ∧ y.2.2.2.2.length + p ≤ y.1 ∧ y.2.1 < 8 ∧ b.testBit y.2.1 = false ∧ y.2.2.1 ≤ 39 ∧ y.2.2.2.1 ≤ 100 ∧ WFc y.2.2.2.2 ∧ dep y.2.2.2.2 ≤ 1
theorem les_go {c : Nat → Int32} {n b p : Nat} (hp : p ≤ n) : LGo n p b (lesP c n b p) := by
  have h0 := sk_le (c := c) hp
  unfold lesP
  by_cases hl : (97 ≤ (sgn c n p).toInt ∧ (sgn c n p).toInt ≤ 104) ∧ b.testBit ((sgn c n p).toInt.toNat - 97) = false
  · rw [if_pos hl]
    have hlt := sgn_lt (c := c) hp (by omega)
    have hl8 : (sgn c n p).toInt.toNat - 97 < 8 := by omega
    have hlb := hl.2
    generalize (sgn c n p).toInt.toNat - 97 = l at *
    unfold lesA
    have h1 := sk_le (c := c) (n := n) (p := sk c n p + 1) (by omega)
    by_cases ha : sgn c n (sk c n p + 1) = 61
    · rw [if_pos ha]
      have h2 := sgn_n (p := sk c n p + 1) (by omega) ha (by decide)
      generalize hp2 : sk c n (sk c n p + 1) + 1 = p2 at *
      unfold lesB
      have h3 := sk_le (c := c) (n := n) (p := p2) (by omega)
      by_cases hb : nuY c n 39 (sk c n p2) = true
      · rw [if_pos hb]
        obtain ⟨n1, n2, n3⟩ := nuP_go h3.2 hb
        generalize nuV c n 39 (sk c n p2) = nm at *
        generalize nuP c n (sk c n p2) = p3 at *
        unfold lesC
        have h4 := sk_le (c := c) (n := n) (p := p3) n2
        by_cases hc : sgn c n p3 = 47
        · rw [if_pos hc]
          have h5 := sgn_n n2 hc (by decide)
          generalize hp4 : sk c n p3 + 1 = p4 at *
          unfold lesD
          have h6 := sk_le (c := c) (n := n) (p := p4) (by omega)
          by_cases hd : nuY c n 100 (sk c n p4) = true
          · rw [if_pos hd]
            obtain ⟨m1, m2, m3⟩ := nuP_go h6.2 hd
            generalize nuV c n 100 (sk c n p4) = ps at *
            generalize nuP c n (sk c n p4) = p5 at *
            unfold lesE
            have h7 := sk_le (c := c) (n := n) (p := p5) m2
            by_cases he : sgn c n p5 = 58
            · rw [if_pos he]
              have h8 := sgn_n m2 he (by decide)
              have hx := cases_go (c := c) (n := n) (b := 13) (by omega) (fun p C hp => claim_go (c := c) 6 p C hp) (sk c n p5 + 1) [] (by omega)
              cases hy : casesP c n (claimP c n 6) (sk c n p5 + 1) [] with
              | inl q => rw [hy] at hx; exact hx
              | inr y =>
                rw [hy] at hx
                obtain ⟨x1, x2, x3, x4⟩ := hx
                obtain ⟨w1, w2⟩ := x4 True.intro (by show 0 + (13 + 2) ≤ 20; omega)
                have x3 : y.2.length + (sk c n p5 + 1) ≤ 0 + y.1 := x3
                have w2 : dep y.2 = 0 + 1 := w2
                refine ⟨?_, x2, ?_, hl8, hlb, n3, m3, w1, ?_⟩
                · show p < y.1
                  omega
                · show y.2.length + p ≤ y.1
                  omega
                · show dep y.2 ≤ 1
                  omega
            · rw [if_neg he]
              refine ⟨?_, h7.2, ?_, hl8, hlb, n3, m3, True.intro, Nat.zero_le _⟩
              · show p < sk c n p5
                omega
              · show 0 + p ≤ sk c n p5
                omega
          · rw [if_neg hd]; exact h6.2
        · rw [if_neg hc]; exact h4.2
      · rw [if_neg hb]; exact h3.2
    · rw [if_neg ha]; exact h1.2
  · rw [if_neg hl]; exact h0.2
def PEz (c k : Nat) : Bool := decide (c = 0 ∧ 2 ≤ k ∧ k ≤ 7)
def REz (c k : Nat) : Bool := decide ((c = 7 ∧ k = 2) ∨ (c = 0 ∧ (k = 1 ∨ k = 8)))
def frZ (z : Nat) (σ σ' : St) : Prop := frB PEz REz σ σ' ∧ (∀ k i, i ≠ z → gA σ' 0 k i = gA σ 0 k i) ∧ ∀ k i, i ≠ z → gI σ' 0 k i = gI σ 0 k i
theorem frZ_t {z : Nat} {σ σ1 σ2 : St} (h1 : frZ z σ σ1) (h2 : frZ z σ1 σ2) : frZ z σ σ2 := ⟨frB_t h1.1 h2.1, fun k i h => (h2.2.1 k i h).trans (h1.2.1 k i h), fun k i h => (h2.2.2 k i h).trans (h1.2.2 k i h)⟩
theorem frZ_p {z : Nat} {σ : St} {v : Int32} : frZ z σ (setI σ 7 2 0 v) := by
  refine ⟨frB_I (by decide), fun _ _ _ => rfl, fun k i _ => ?_⟩
  rw [II, if_neg (fun z => absurd z.1 (by decide))]
theorem frL_Z {z l s : Nat} {σ σ' : St} (h : frL z l s σ σ') : frZ z σ σ' := by
  obtain ⟨h1, h2, h3, h4, h5⟩ := h
  refine ⟨frB_w h1 (fun c k hc => by unfold PEz at hc; unfold PE0; rw [decide_eq_false_iff_not] at *; omega) (fun c k hc => by unfold REz at hc; unfold RE0; rw [decide_eq_false_iff_not] at *; omega), h2, fun k i hi => ?_⟩
  by_cases h8 : k = 8
  · rw [h8]; exact h3 i hi
  · rw [h1.2.2.2.2.2.2.2 0 k (by unfold RE0; rw [decide_eq_false_iff_not]; omega)]
/-- the class between two lessons -/
def CE (z : Nat) (c : Nat → Int32) (n p : Nat) (L : List Ent) (ρ : St) : Prop := SH ρ ∧ z < gN ρ 0 ∧ n ≤ 120 ∧ gI ρ 7 1 0 = nI n ∧ (∀ j, j < n → gA ρ 7 0 0 j = c j) ∧ (∀ j, j < n → 32 ≤ (c j).toInt ∧ (c j).toInt ≤ 126) ∧ gI ρ 7 2 0 = nI p ∧ p ≤ n ∧ gI ρ 0 1 z = nI (bitsL L) ∧ gI ρ 0 8 z = nI (totL L) ∧ totL L ≤ p ∧ GdL L ∧ EntR cvT (gA ρ 0 2 z) (gA ρ 0 3 z) (gA ρ 0 5 z) (gA ρ 0 6 z) (gA ρ 0 7 z) L ∧ EntS (gA ρ 0 4 z) L
def LRes (z : Nat) (c : Nat → Int32) (n : Nat) (L : List Ent) (ρ : St) (x : Sum Nat (Nat × Ent)) (run : Nat → (Option AV → St → Prop) → Prop) : Prop := match x with
  | .inl q => ∃ ρ', frZ z ρ ρ' ∧ gI ρ' 7 2 0 = nI q ∧ ∀ D Q, run D Q = Q (some (vI 0)) ρ'
  | .inr y => ∃ ρ', frZ z ρ ρ' ∧ CE z c n y.1 (y.2 :: L) ρ' ∧ ∀ D Q, run D Q = Q (some (vI 1)) ρ'
def tlS (ρ : St) (z l nm ps k b : Nat) : St := setA (setA (setA (setA (setA (setI ρ 0 1 z (nI (b ||| 2 ^ l))) 0 2 z (upd (gA ρ 0 2 z) l (nI nm))) 0 3 z (upd (gA ρ 0 3 z) l (nI ps))) 0 4 z (upd (gA ρ 0 4 z) l 0)) 0 5 z (upd (gA ρ 0 5 z) l (nI k))) 0 6 z (upd (gA ρ 0 6 z) l (nI k))
section CLESS
variable {z : Nat} {c : Nat → Int32} {n : Nat} {L : List Ent} {ρ : St}
theorem c_tell {l nm ps k b D : Nat} {Q : Option AV → St → Prop} (a1 : SH ρ) (hz : z < gN ρ 0) (hl : l < 8) (hb : gI ρ 0 1 z = nI b) (hk : gI ρ 0 8 z = nI k) : Rn D Q (3, 0, [some (vR (some (0, 0, z))), some (vI (nI l)), some (vI (nI nm)), some (vI (nI ps))], [], ρ) = Q none (tlS ρ z l nm ps k b) := by
  have x2 : (nI l).toInt = (l : Int) := nI_toInt (by omega)
  have x3 : (0 : Int) ≤ (l : Int) := by omega
  have x4 : (l : Int) < ((8 : Nat) : Int) := by omega
  have x5 : (nI l).toNatClampNeg = l := nI_clamp (by omega)
  have os : (1 : Int32) <<< (nI l &&& 31) = nI (2 ^ l) := one_sh (by omega)
  have oo : nI b ||| nI (2 ^ l) = nI (b ||| 2 ^ l) := nI_or _ _
  unfold tlS
  simp +decide only [e3_0, e3_1, e3_2, e3_5, e3_6, e3_7, e3_8, e3_9, e3_12, e3_13, e3_16, e3_17, e3_18, e3_19, e3_20, e3_23, e3_24, e3_25, e3_26, e3_27, e3_30, e3_31, e3_32, e3_33, e3_34, e3_37, e3_38, e3_39, e3_42, e3_43, e3_44, e3_47, e3_48, e3_49, e3_52, e3_53, true_and, and_true, or_true, true_or, if_true, if_false, not_true_eq_false, not_false_eq_true, ne_eq, and_self, Option.toList_some, Option.toList_none, List.cons_append, List.nil_append, catS_0, catS_I, catS_L, catS_R, Option.map_some, Option.map_none, Option.some.injEq, Sum.inl.injEq, exists_eq_left', exists_eq', II, AA, RR, QQ, IA, IR, IQ, AI, AR, AQ, RI, RA, RQ, QI, QA, QR, LI, LA, LR, LQ, NI, NA, NR, NQ, HI, HA, HR, HQ, SI, SA, SR, SQ, hz, hb, hk, x2, x3, x4, x5, os, oo, L0_2 a1 hz, L0_3 a1 hz, L0_4 a1 hz, L0_5 a1 hz, L0_6 a1 hz]
theorem gI_oi {σ : St} {c k z a b i : Nat} {v : Int32} (h : i ≠ z) : gI (setI σ c k z v) a b i = gI σ a b i := by
  rw [II]
  by_cases hc : a = c ∧ b = k
  · rw [if_pos hc]
    obtain ⟨rfl, rfl⟩ := hc
    exact pk_un h
  · rw [if_neg hc]
theorem frZ_tl {l nm ps k b : Nat} : frZ z ρ (tlS ρ z l nm ps k b) := by
  unfold tlS
  refine ⟨frB_t (frB_t (frB_t (frB_t (frB_t (frB_I (by decide)) (frB_A (by decide))) (frB_A (by decide))) (frB_A (by decide))) (frB_A (by decide))) (frB_A (by decide)), fun k i hi => ?_, fun k i hi => ?_⟩
  · rw [gA_oi hi, gA_oi hi, gA_oi hi, gA_oi hi, gA_oi hi, AI]
  · rw [IA, IA, IA, IA, IA, gI_oi hi]
/-- the lesson is told; what it leans on comes -/
theorem c_lE {p l nm ps : Nat} {l2 : Int32} (h : CE z c n p L ρ) (hl : l < 8) (hb : (bitsL L).testBit l = false) (hnm : nm ≤ 39) (hps : ps ≤ 100) : LRes z c n L ρ (lesE c n l nm ps p) (fun D Q => Rn (D + 19) Q (48, 85, [some (vR (some (7, 0, 0))), some (vR (some (0, 0, z))), some (vI (nI l)), some (vI (nI nm)), some (vI (nI ps))], [], ρ)) := by
  have h0 := h
  obtain ⟨k1, k2, k3, k4, k5, k6, k7, k8, k9, k10, k11, k12, k13, k14⟩ := h
  have ct := fun {d : Nat} {Q : Option AV → St → Prop} => c_tell (D := d) (Q := Q) (ρ := ρ) (z := z) (l := l) (nm := nm) (ps := ps) k1 k2 hl k9 k10
  have fz := frZ_tl (z := z) (ρ := ρ) (l := l) (nm := nm) (ps := ps) (k := totL L) (b := bitsL L)
  have hKt : KSt z l (totL L) c n p [] (tlS ρ z l nm ps (totL L) (bitsL L)) := by
    unfold tlS
    refine ⟨SH_A (SH_A (SH_A (SH_A (SH_A (SH_I k1))))), ?_⟩
    simp +decide only [II, AA, RR, QQ, IA, IR, IQ, AI, AR, AQ, RI, RA, RQ, QI, QA, QR, LI, LA, LR, LQ, NI, NA, NR, NQ, HI, HA, HR, HQ, SI, SA, SR, SQ, true_and, and_true, or_true, true_or, if_true, if_false, not_true_eq_false, not_false_eq_true, ne_eq, and_self]
    exact ⟨k2, k3, hl, k4, k5, k6, k7, k8, k10, True.intro, updS0, updS0, k11⟩
  have t1 : gI (tlS ρ z l nm ps (totL L) (bitsL L)) 0 1 z = nI (bitsL L ||| 2 ^ l) := by
    unfold tlS
    simp +decide only [II, AA, RR, QQ, IA, IR, IQ, AI, AR, AQ, RI, RA, RQ, QI, QA, QR, LI, LA, LR, LQ, NI, NA, NR, NQ, HI, HA, HR, HQ, SI, SA, SR, SQ, true_and, and_true, or_true, true_or, if_true, if_false, not_true_eq_false, not_false_eq_true, ne_eq, and_self]
    exact updS0
  have t2 : gA (tlS ρ z l nm ps (totL L) (bitsL L)) 0 2 z = upd (gA ρ 0 2 z) l (nI nm) := by
    unfold tlS
    simp +decide only [II, AA, RR, QQ, IA, IR, IQ, AI, AR, AQ, RI, RA, RQ, QI, QA, QR, LI, LA, LR, LQ, NI, NA, NR, NQ, HI, HA, HR, HQ, SI, SA, SR, SQ, true_and, and_true, or_true, true_or, if_true, if_false, not_true_eq_false, not_false_eq_true, ne_eq, and_self]
  have t3 : gA (tlS ρ z l nm ps (totL L) (bitsL L)) 0 3 z = upd (gA ρ 0 3 z) l (nI ps) := by
    unfold tlS
    simp +decide only [II, AA, RR, QQ, IA, IR, IQ, AI, AR, AQ, RI, RA, RQ, QI, QA, QR, LI, LA, LR, LQ, NI, NA, NR, NQ, HI, HA, HR, HQ, SI, SA, SR, SQ, true_and, and_true, or_true, true_or, if_true, if_false, not_true_eq_false, not_false_eq_true, ne_eq, and_self]
  have t4 : gA (tlS ρ z l nm ps (totL L) (bitsL L)) 0 4 z = upd (gA ρ 0 4 z) l 0 := by
    unfold tlS
    simp +decide only [II, AA, RR, QQ, IA, IR, IQ, AI, AR, AQ, RI, RA, RQ, QI, QA, QR, LI, LA, LR, LQ, NI, NA, NR, NQ, HI, HA, HR, HQ, SI, SA, SR, SQ, true_and, and_true, or_true, true_or, if_true, if_false, not_true_eq_false, not_false_eq_true, ne_eq, and_self]
  have t5 : gA (tlS ρ z l nm ps (totL L) (bitsL L)) 0 5 z = upd (gA ρ 0 5 z) l (nI (totL L)) := by
    unfold tlS
    simp +decide only [II, AA, RR, QQ, IA, IR, IQ, AI, AR, AQ, RI, RA, RQ, QI, QA, QR, LI, LA, LR, LQ, NI, NA, NR, NQ, HI, HA, HR, HQ, SI, SA, SR, SQ, true_and, and_true, or_true, true_or, if_true, if_false, not_true_eq_false, not_false_eq_true, ne_eq, and_self]
  have t6 : gA (tlS ρ z l nm ps (totL L) (bitsL L)) 0 6 z = upd (gA ρ 0 6 z) l (nI (totL L)) := by
    unfold tlS
    simp +decide only [II, AA, RR, QQ, IA, IR, IQ, AI, AR, AQ, RI, RA, RQ, QI, QA, QR, LI, LA, LR, LQ, NI, NA, NR, NQ, HI, HA, HR, HQ, SI, SA, SR, SQ, true_and, and_true, or_true, true_or, if_true, if_false, not_true_eq_false, not_false_eq_true, ne_eq, and_self]
  have t7 : gA (tlS ρ z l nm ps (totL L) (bitsL L)) 0 7 z = gA ρ 0 7 z := by
    unfold tlS
    simp +decide only [II, AA, RR, QQ, IA, IR, IQ, AI, AR, AQ, RI, RA, RQ, QI, QA, QR, LI, LA, LR, LQ, NI, NA, NR, NQ, HI, HA, HR, HQ, SI, SA, SR, SQ, true_and, and_true, or_true, true_or, if_true, if_false, not_true_eq_false, not_false_eq_true, ne_eq, and_self]
  generalize hρt : tlS ρ z l nm ps (totL L) (bitsL L) = ρt at *
  have hni := bits_not L hb
  -- from the class in the midst of the lesson to the class after it
  have fin : ∀ (ρ' : St) (p' : Nat) (C : List Nat), frL z l (totL L) ρt ρ' → KSt z l (totL L) c n p' C ρ' → WFc C → dep C ≤ 1 → CE z c n p' ((l, nm, ps, C) :: L) ρ' := by
    intro ρ' p' C hf hK hw hd
    obtain ⟨q1, q2, q3, q4, q5, q6, q7, q8, q9, q10, q11, q12, q13, q14⟩ := hK
    obtain ⟨f1, f2, f3, f4, f5⟩ := hf
    have r2 : gA ρ' 0 2 z = upd (gA ρ 0 2 z) l (nI nm) := by rw [f1.2.2.2.2.2.2.1 0 2 (by decide), t2]
    have r3 : gA ρ' 0 3 z = upd (gA ρ 0 3 z) l (nI ps) := by rw [f1.2.2.2.2.2.2.1 0 3 (by decide), t3]
    have r5 : gA ρ' 0 5 z = upd (gA ρ 0 5 z) l (nI (totL L)) := by rw [f1.2.2.2.2.2.2.1 0 5 (by decide), t5]
    have r6 : ∀ j, j ≠ l → gA ρ' 0 6 z j = gA ρ 0 6 z j := fun j hj => by rw [(f4 j hj).2, t6, pk_un hj]
    have r4 : ∀ j, j ≠ l → gA ρ' 0 4 z j = gA ρ 0 4 z j := fun j hj => by rw [(f4 j hj).1, t4, pk_un hj]
    have r7 : ∀ j, j < totL L → gA ρ' 0 7 z j = gA ρ 0 7 z j := fun j hj => by rw [f5 j hj, t7]
    refine ⟨q1, q2, q3, q5, q6, q7, q8, q9, ?_, q10, q14, ⟨⟨hl, hb, hnm, hps, hw, hd⟩, k12⟩, ⟨?_, ?_, ?_, q13, q11, ?_⟩, q12, EntS_ext r4 L hni k14⟩
    · rw [f1.2.2.2.2.2.2.2 0 1 (by decide), t1]; rfl
    · rw [r2]; exact updS0
    · rw [r3]; exact updS0
    · rw [r5]; exact updS0
    · exact EntR_ext (fun j hj => by rw [r2, pk_un hj]) (fun j hj => by rw [r3, pk_un hj]) (fun j hj => by rw [r5, pk_un hj]) r6 L hni r7 k13
  have tk := fun {d : Nat} {Q : Option AV → St → Prop} {ch : Int32} => c_tk (d := d) (Q := Q) (ch := ch) hKt
  have bt := hKt.1
  have sl := sk_le (c := c) k8
  unfold lesE
  by_cases he : sgn c n p = 58
  · rw [if_pos he]
    have hlt := sgn_n k8 he (by decide)
    have hx := c_cases6 (KS_p hKt (q := sk c n p + 1) (by omega) (by omega))
    have hgo := cases_go (c := c) (n := n) (b := 13) (by omega) (fun p C hp => claim_go (c := c) 6 p C hp) (sk c n p + 1) [] (by omega)
    rw [nI_0] at hx
    cases hy : casesP c n (claimP c n 6) (sk c n p + 1) [] with
    | inl q =>
      rw [hy] at hx
      obtain ⟨ρ', r1, r2, r3⟩ := hx
      refine ⟨ρ', frZ_t fz (frZ_t frZ_p (frL_Z r1)), r2, fun D Q => ?_⟩
      have r3 := fun Q => r3 D Q
      dsimp only at r3 ⊢
      simp +decide only [e48_0, e48_1, e48_4, e48_6, e48_7, e48_8, e48_9, e48_11, e48_14, e48_17, e48_18, e48_19, e48_22, e48_25, e48_26, e48_27, e48_28, e48_29, e48_32, e48_33, e48_34, e48_37, e48_38, e48_40, e48_43, e48_46, e48_47, e48_48, e48_49, e48_51, e48_54, e48_55, e48_56, e48_59, e48_60, e48_62, e48_65, e48_68, e48_69, e48_70, e48_71, e48_73, e48_76, e48_78, e48_80, e48_83, e48_84, e48_85, e48_86, e48_87, e48_88, e48_90, e48_93, e48_94, e48_96, e48_99, e48_102, e48_103, e48_104, e48_105, e48_106, e48_109, e48_112, e48_113, e48_116, e48_117, true_and, and_true, or_true, true_or, if_true, if_false, not_true_eq_false, not_false_eq_true, ne_eq, and_self, Option.toList_some, Option.toList_none, List.cons_append, List.nil_append, catS_0, catS_I, catS_L, catS_R, Option.map_some, Option.map_none, Option.some.injEq, Sum.inl.injEq, exists_eq_left', exists_eq', NI, ct, tk, he, r3, k2, N7 bt]
    | inr y =>
      rw [hy] at hx hgo
      obtain ⟨ρ', r1, r2, r3⟩ := hx
      obtain ⟨x1, x2, x3, x4⟩ := hgo
      obtain ⟨w1, w2⟩ := x4 True.intro (by show 0 + (13 + 2) ≤ 20; omega)
      have w2 : dep y.2 = 0 + 1 := w2
      refine ⟨ρ', frZ_t fz (frZ_t frZ_p (frL_Z r1)), fin ρ' y.1 y.2 (frL_t frL_p r1) r2 w1 (by omega), fun D Q => ?_⟩
      have r3 := fun Q => r3 D Q
      dsimp only at r3 ⊢
      simp +decide only [e48_0, e48_1, e48_4, e48_6, e48_7, e48_8, e48_9, e48_11, e48_14, e48_17, e48_18, e48_19, e48_22, e48_25, e48_26, e48_27, e48_28, e48_29, e48_32, e48_33, e48_34, e48_37, e48_38, e48_40, e48_43, e48_46, e48_47, e48_48, e48_49, e48_51, e48_54, e48_55, e48_56, e48_59, e48_60, e48_62, e48_65, e48_68, e48_69, e48_70, e48_71, e48_73, e48_76, e48_78, e48_80, e48_83, e48_84, e48_85, e48_86, e48_87, e48_88, e48_90, e48_93, e48_94, e48_96, e48_99, e48_102, e48_103, e48_104, e48_105, e48_106, e48_109, e48_112, e48_113, e48_116, e48_117, true_and, and_true, or_true, true_or, if_true, if_false, not_true_eq_false, not_false_eq_true, ne_eq, and_self, Option.toList_some, Option.toList_none, List.cons_append, List.nil_append, catS_0, catS_I, catS_L, catS_R, Option.map_some, Option.map_none, Option.some.injEq, Sum.inl.injEq, exists_eq_left', exists_eq', NI, ct, tk, he, r3, k2, N7 bt]
  · rw [if_neg he]
    refine ⟨setI ρt 7 2 0 (nI (sk c n p)), frZ_t fz frZ_p, fin _ _ [] frL_p (KS_p hKt sl.1 sl.2) True.intro (Nat.zero_le _), fun D Q => ?_⟩
    dsimp only
    simp +decide only [e48_0, e48_1, e48_4, e48_6, e48_7, e48_8, e48_9, e48_11, e48_14, e48_17, e48_18, e48_19, e48_22, e48_25, e48_26, e48_27, e48_28, e48_29, e48_32, e48_33, e48_34, e48_37, e48_38, e48_40, e48_43, e48_46, e48_47, e48_48, e48_49, e48_51, e48_54, e48_55, e48_56, e48_59, e48_60, e48_62, e48_65, e48_68, e48_69, e48_70, e48_71, e48_73, e48_76, e48_78, e48_80, e48_83, e48_84, e48_85, e48_86, e48_87, e48_88, e48_90, e48_93, e48_94, e48_96, e48_99, e48_102, e48_103, e48_104, e48_105, e48_106, e48_109, e48_112, e48_113, e48_116, e48_117, true_and, and_true, or_true, true_or, if_true, if_false, not_true_eq_false, not_false_eq_true, ne_eq, and_self, Option.toList_some, Option.toList_none, List.cons_append, List.nil_append, catS_0, catS_I, catS_L, catS_R, Option.map_some, Option.map_none, Option.some.injEq, Sum.inl.injEq, exists_eq_left', exists_eq', NI, ct, tk, he, k2, N7 bt]
end CLESS
