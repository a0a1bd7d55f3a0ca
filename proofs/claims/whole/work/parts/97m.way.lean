def BC (B0 : Nat → Int32) (c l : Nat) : Int32 := if c.testBit l = true then 100 else B0 l
def opL (b : Nat) (B0 ps mf mt mw : Nat → Int32) (c i : Nat) : Bool := PW 0 b (BC B0 c) ps mf mt mw i
def goL (B0 ps : Nat → Int32) (x c : Nat) : Bool := pz (BC B0 c) ps x
def nxL (b : Nat) (nm : Nat → Int32) (c i : Nat) : Nat := c ||| nlS b nm i
def rvO (r : Option Nat) : Int32 := match r with
  | none => -4
  | some d => nI d
/-- an edition, and what the pupil has so far -/
def EC (i b : Nat) (B0 nm ps mf mt mw : Nat → Int32) (ρ : St) : Prop := SH ρ ∧ i < gN ρ 0 ∧ b < 256 ∧ gI ρ 0 1 i = nI b ∧ (∀ on, on < 8 → b.testBit on = true → gA ρ 0 2 i on = nm on ∧ gA ρ 0 3 i on = ps on ∧ gA ρ 11 19 0 on = B0 on) ∧ ∀ l, l < 8 → b.testBit l = true → ∃ s e : Nat, s ≤ e ∧ e ≤ 120 ∧ gA ρ 0 5 i l = nI s ∧ mf l = nI s ∧ gA ρ 0 6 i l = nI e ∧ mt l = nI e ∧ CW b (gA ρ 0 7 i) mw s e
def PWy (c k : Nat) : Bool := decide (c = 10 ∧ k ≤ 2)
theorem EC_fr {i b : Nat} {B0 nm ps mf mt mw : Nat → Int32} {ρ ρ' : St} (h : frB PWy RN ρ ρ') (hE : EC i b B0 nm ps mf mt mw ρ) : EC i b B0 nm ps mf mt mw ρ' := by
  have hS := SH_frB h hE.1
  obtain ⟨h1, h2, h3, h4, h5, h6, h7, h8⟩ := h
  refine ⟨hS, ?_⟩
  rw [h4, h8 0 1 (by decide), h7 0 2 (by decide), h7 0 3 (by decide), h7 11 19 (by decide), h7 0 5 (by decide), h7 0 6 (by decide), h7 0 7 (by decide)]
  exact hE.2
def STo (nv : Int32) (V : Nat → Bool) (dn q : Nat → Nat) (t : Nat) (R W : Nat → Int32) : Prop := (∀ w, w < 256 → R w = if V w = true then nI (dn w) else nv) ∧ ∀ j, j < t → W j = nI (q j)
theorem STo_add {nv : Int32} {V : Nat → Bool} {dn q : Nat → Nat} {t w x : Nat} {R W : Nat → Int32} (h : STo nv V dn q t R W) : STo nv (va_up V w true) (va_up dn w x) (va_up q t w) (t + 1) (upd R w (nI x)) (upd W t (nI w)) := by
  obtain ⟨h1, h2⟩ := h
  refine ⟨fun z hz => ?_, fun j hj => ?_⟩
  · by_cases a1 : z = w
    · rw [a1, updS0, vaS, vaS, if_pos rfl]
    · rw [pk_un a1, va_up_ne _ _ a1, va_up_ne _ _ a1]; exact h1 z hz
  · by_cases a1 : j = t
    · rw [a1, updS0, vaS]
    · rw [pk_un a1, va_up_ne _ _ a1]; exact h2 j (by omega)
section WAY
variable {i b : Nat} {B0 nm ps mf mt mw : Nat → Int32}
theorem c_raise {c : Nat} (hc : c < 256) : ∀ (n m : Nat) (ρ : St), m + n = 8 → EC i b B0 nm ps mf mt mw ρ → (∀ l, l < m → b.testBit l = true → gA ρ 10 2 0 l = BC B0 c l) → ∃ ρ', frB PWy RN ρ ρ' ∧ gA ρ' 10 0 = gA ρ 10 0 ∧ gA ρ' 10 1 = gA ρ 10 1 ∧ (∀ l, l < 8 → b.testBit l = true → gA ρ' 10 2 0 l = BC B0 c l) ∧ ∀ D Q, Rn D Q (63, 2, [some (vR (some (10, 0, 0))), some (vR (some (11, 20, 0))), some (vI (nI c)), some (vI (nI m))], [], ρ) = Q none ρ' := by
  intro n
  induction n with
  | zero =>
    intro m ρ hm hE h1
    have y1 : (8 : Int32) ≤ nI m := nI_le (a := 8) (by omega) (by omega)
    refine ⟨ρ, frB_0, rfl, rfl, fun l hl => h1 l (by omega), fun D Q => ?_⟩
    rw [e63_2]
    simp +decide only [e63_0, e63_1, e63_3, e63_5, e63_8, e63_9, e63_12, e63_13, e63_14, e63_15, e63_16, e63_17, e63_18, e63_19, e63_22, e63_24, e63_27, e63_28, e63_29, e63_30, e63_31, e63_34, e63_37, true_and, and_true, or_true, true_or, if_true, if_false, not_true_eq_false, not_false_eq_true, ne_eq, and_self, y1]
  | succ n ih =>
    intro m ρ hm hE h1
    have hE0 := hE
    obtain ⟨a1, e1, e2, e3, e4, e5⟩ := hE
    have y1 : ¬ (8 : Int32) ≤ nI m := nI_ge (b := 8) (by omega) (by omega)
    have y2 : (nI m).toInt = (m : Int) := nI_toInt (by omega)
    have y3 : (0 : Int) ≤ (m : Int) := by omega
    have y4 : (m : Int) < ((8 : Nat) : Int) := by omega
    have y5 : (nI m).toNatClampNeg = m := nI_clamp (by omega)
    have k19 : fk 11 19 = (1, 1) := rfl
    by_cases hb : c.testBit m = true
    · have t : nI c >>> (nI m &&& 31) &&& 1 = 1 := by rw [bitI (by omega) (by omega), hb]
      obtain ⟨ρ', p1, p2, p3, p4, p5⟩ := ih (m + 1) (setA ρ 10 2 0 (upd (gA ρ 10 2 0) m 100)) (by omega) (EC_fr (frB_A (by decide)) hE0) (by
        simp +decide only [II, AA, RR, QQ, IA, IR, IQ, AI, AR, AQ, RI, RA, RQ, QI, QA, QR, LI, LA, LR, LQ, NI, NA, NR, NQ, HI, HA, HR, HQ, SI, SA, SR, SQ, true_and, and_true, or_true, true_or, if_true, if_false, not_true_eq_false, not_false_eq_true, ne_eq, and_self]
        intro l hl ht
        by_cases hlm : l = m
        · rw [hlm, updS0]; unfold BC; rw [if_pos hb]
        · rw [pk_un hlm]; exact h1 l (by omega) ht)
      refine ⟨ρ', frB_t (frB_A (by decide)) p1, by rw [p2]; simp +decide only [II, AA, RR, QQ, IA, IR, IQ, AI, AR, AQ, RI, RA, RQ, QI, QA, QR, LI, LA, LR, LQ, NI, NA, NR, NQ, HI, HA, HR, HQ, SI, SA, SR, SQ, true_and, and_true, or_true, true_or, if_true, if_false, not_true_eq_false, not_false_eq_true, ne_eq, and_self], by rw [p3]; simp +decide only [II, AA, RR, QQ, IA, IR, IQ, AI, AR, AQ, RI, RA, RQ, QI, QA, QR, LI, LA, LR, LQ, NI, NA, NR, NQ, HI, HA, HR, HQ, SI, SA, SR, SQ, true_and, and_true, or_true, true_or, if_true, if_false, not_true_eq_false, not_false_eq_true, ne_eq, and_self], p4, fun D Q => ?_⟩
      rw [← p5 D Q, e63_2, ← nI_1 m]
      simp +decide only [e63_0, e63_1, e63_3, e63_5, e63_8, e63_9, e63_12, e63_13, e63_14, e63_15, e63_16, e63_17, e63_18, e63_19, e63_22, e63_24, e63_27, e63_28, e63_29, e63_30, e63_31, e63_34, e63_37, true_and, and_true, or_true, true_or, if_true, if_false, not_true_eq_false, not_false_eq_true, ne_eq, and_self, Option.toList_some, Option.toList_none, List.cons_append, List.nil_append, catS_0, catS_I, catS_L, catS_R, Option.map_some, Option.map_none, Option.some.injEq, Sum.inl.injEq, exists_eq_left', exists_eq', II, AA, RR, QQ, IA, IR, IQ, AI, AR, AQ, RI, RA, RQ, QI, QA, QR, LI, LA, LR, LQ, NI, NA, NR, NQ, HI, HA, HR, HQ, SI, SA, SR, SQ, y1, y2, y3, y4, y5, t, N10 a1, L10_2 a1]
    · have t : ¬ nI c >>> (nI m &&& 31) &&& 1 = 1 := by rw [bitI (by omega) (by omega)]; exact hb
      obtain ⟨ρ', p1, p2, p3, p4, p5⟩ := ih (m + 1) (setA ρ 10 2 0 (upd (gA ρ 10 2 0) m (gA ρ 11 19 0 m))) (by omega) (EC_fr (frB_A (by decide)) hE0) (by
        simp +decide only [II, AA, RR, QQ, IA, IR, IQ, AI, AR, AQ, RI, RA, RQ, QI, QA, QR, LI, LA, LR, LQ, NI, NA, NR, NQ, HI, HA, HR, HQ, SI, SA, SR, SQ, true_and, and_true, or_true, true_or, if_true, if_false, not_true_eq_false, not_false_eq_true, ne_eq, and_self]
        intro l hl ht
        by_cases hlm : l = m
        · rw [hlm, updS0]; unfold BC; rw [if_neg hb]; exact (e4 m (by omega) (hlm ▸ ht)).2.2
        · rw [pk_un hlm]; exact h1 l (by omega) ht)
      refine ⟨ρ', frB_t (frB_A (by decide)) p1, by rw [p2]; simp +decide only [II, AA, RR, QQ, IA, IR, IQ, AI, AR, AQ, RI, RA, RQ, QI, QA, QR, LI, LA, LR, LQ, NI, NA, NR, NQ, HI, HA, HR, HQ, SI, SA, SR, SQ, true_and, and_true, or_true, true_or, if_true, if_false, not_true_eq_false, not_false_eq_true, ne_eq, and_self], by rw [p3]; simp +decide only [II, AA, RR, QQ, IA, IR, IQ, AI, AR, AQ, RI, RA, RQ, QI, QA, QR, LI, LA, LR, LQ, NI, NA, NR, NQ, HI, HA, HR, HQ, SI, SA, SR, SQ, true_and, and_true, or_true, true_or, if_true, if_false, not_true_eq_false, not_false_eq_true, ne_eq, and_self], p4, fun D Q => ?_⟩
      rw [← p5 D Q, e63_2, ← nI_1 m]
      simp +decide only [e63_0, e63_1, e63_3, e63_5, e63_8, e63_9, e63_12, e63_13, e63_14, e63_15, e63_16, e63_17, e63_18, e63_19, e63_22, e63_24, e63_27, e63_28, e63_29, e63_30, e63_31, e63_34, e63_37, true_and, and_true, or_true, true_or, if_true, if_false, not_true_eq_false, not_false_eq_true, ne_eq, and_self, Option.toList_some, Option.toList_none, List.cons_append, List.nil_append, catS_0, catS_I, catS_L, catS_R, Option.map_some, Option.map_none, Option.some.injEq, Sum.inl.injEq, exists_eq_left', exists_eq', II, AA, RR, QQ, IA, IR, IQ, AI, AR, AQ, RI, RA, RQ, QI, QA, QR, LI, LA, LR, LQ, NI, NA, NR, NQ, HI, HA, HR, HQ, SI, SA, SR, SQ, k19, y1, y2, y3, y4, y5, t, N10 a1, L10_2 a1, N11 a1, L11_19 a1]
theorem c_named {ρ : St} {D : Nat} {Q : Option AV → St → Prop} {x : Nat} (hE : EC i b B0 nm ps mf mt mw ρ) (hx : x < 8) (hbx : b.testBit x = true) : ∀ n m, m + n = 8 → Rn (D + 2) Q (13, 4, [some (vR (some (0, 0, i))), some (vI (nI x)), some (vI (nI (accB (fun l => b.testBit l && decide (nm l = nm x)) m))), some (vI (nI m))], [], ρ) = Q (some (vI (nI (nlS b nm x)))) ρ := by
  obtain ⟨a1, e1, e2, e3, e4, e5⟩ := hE
  have x2 : (nI x).toInt = (x : Int) := nI_toInt (by omega)
  have x3 : (0 : Int) ≤ (x : Int) := by omega
  have x4 : (x : Int) < ((8 : Nat) : Int) := by omega
  have x5 : (nI x).toNatClampNeg = x := nI_clamp (by omega)
  have gx := (e4 x hx hbx).1
  intro n
  induction n with
  | zero =>
    intro m hm
    have hm : m = 8 := by omega
    subst hm
    rw [e13_4]
    simp +decide only [e13_0, e13_1, e13_2, e13_3, e13_5, e13_7, e13_10, e13_11, e13_12, e13_15, e13_18, e13_19, e13_22, e13_23, e13_24, e13_25, e13_28, e13_29, e13_30, e13_33, e13_34, e13_35, e13_36, e13_37, e13_38, e13_39, e13_42, e13_45, e13_46, true_and, and_true, or_true, true_or, if_true, if_false, not_true_eq_false, not_false_eq_true, ne_eq, and_self, show (8 : Int32) ≤ nI 8 by decide]
    rfl
  | succ n ih =>
    intro m hm
    have y1 : ¬ (8 : Int32) ≤ nI m := nI_ge (b := 8) (by omega) (by omega)
    have y2 : (nI m).toInt = (m : Int) := nI_toInt (by omega)
    have y3 : (0 : Int) ≤ (m : Int) := by omega
    have y4 : (m : Int) < ((8 : Nat) : Int) := by omega
    have y6 : (m : Int) < 8 := by omega
    have y5 : (nI m).toNatClampNeg = m := nI_clamp (by omega)
    have ct := fun {d : Nat} {Q : Option AV → St → Prop} {a : Int32} => c_tells (d := d) (Q := Q) (a := a) e1 e2 e3
    rw [← ih (m + 1) (by omega), e13_4, ← nI_1 m]
    by_cases hbm : b.testBit m = true
    · have gm := (e4 m (by omega) hbm).1
      by_cases hn : nm m = nm x
      · have os : (1 : Int32) <<< (nI m &&& 31) = nI (2 ^ m) := one_sh (by omega)
        rw [accB_t (P := fun l => b.testBit l && decide (nm l = nm x)) (by show (b.testBit m && decide (nm m = nm x)) = true; rw [hbm, decide_eq_true hn]; rfl), ← nI_or]
        simp +decide only [e13_0, e13_1, e13_2, e13_3, e13_5, e13_7, e13_10, e13_11, e13_12, e13_15, e13_18, e13_19, e13_22, e13_23, e13_24, e13_25, e13_28, e13_29, e13_30, e13_33, e13_34, e13_35, e13_36, e13_37, e13_38, e13_39, e13_42, e13_45, e13_46, true_and, and_true, or_true, true_or, if_true, if_false, not_true_eq_false, not_false_eq_true, ne_eq, and_self, Option.toList_some, Option.toList_none, List.cons_append, List.nil_append, catS_0, catS_I, catS_L, catS_R, Option.map_some, Option.map_none, Option.some.injEq, Sum.inl.injEq, exists_eq_left', exists_eq', ct, y1, y2, y3, y4, y5, y6, x2, x3, x4, x5, hbm, gm, gx, hn, os, e1, L0_2 a1 e1]
      · rw [accB_f (P := fun l => b.testBit l && decide (nm l = nm x)) (by show (b.testBit m && decide (nm m = nm x)) = false; rw [decide_eq_false hn, Bool.and_false])]
        simp +decide only [e13_0, e13_1, e13_2, e13_3, e13_5, e13_7, e13_10, e13_11, e13_12, e13_15, e13_18, e13_19, e13_22, e13_23, e13_24, e13_25, e13_28, e13_29, e13_30, e13_33, e13_34, e13_35, e13_36, e13_37, e13_38, e13_39, e13_42, e13_45, e13_46, true_and, and_true, or_true, true_or, if_true, if_false, not_true_eq_false, not_false_eq_true, ne_eq, and_self, Option.toList_some, Option.toList_none, List.cons_append, List.nil_append, catS_0, catS_I, catS_L, catS_R, Option.map_some, Option.map_none, Option.some.injEq, Sum.inl.injEq, exists_eq_left', exists_eq', ct, y1, y2, y3, y4, y5, y6, x2, x3, x4, x5, hbm, gm, gx, hn, e1, L0_2 a1 e1]
    · have hbm' : b.testBit m = false := by cases h : b.testBit m with
        | false => rfl
        | true => exact absurd h hbm
      rw [accB_f (P := fun l => b.testBit l && decide (nm l = nm x)) (by show (b.testBit m && decide (nm m = nm x)) = false; rw [hbm', Bool.false_and])]
      simp +decide only [e13_0, e13_1, e13_2, e13_3, e13_5, e13_7, e13_10, e13_11, e13_12, e13_15, e13_18, e13_19, e13_22, e13_23, e13_24, e13_25, e13_28, e13_29, e13_30, e13_33, e13_34, e13_35, e13_36, e13_37, e13_38, e13_39, e13_42, e13_45, e13_46, true_and, and_true, or_true, true_or, if_true, if_false, not_true_eq_false, not_false_eq_true, ne_eq, and_self, Option.toList_some, Option.toList_none, List.cons_append, List.nil_append, catS_0, catS_I, catS_L, catS_R, Option.map_some, Option.map_none, Option.some.injEq, Sum.inl.injEq, exists_eq_left', exists_eq', ct, y1, y2, y3, y4, y5, y6, x2, x3, x4, x5, hbm', e1]
theorem opL_b {c l : Nat} (h : opL b B0 ps mf mt mw c l = true) : b.testBit l = true := by
  unfold opL PW at h
  rw [Bool.and_eq_true] at h
  exact h.1
theorem nxL_lt {c l : Nat} (hc : c < 256) : nxL b nm c l < 256 := Nat.or_lt_two_pow (n := 8) hc (accB_lt 8)
theorem c_reach {x h : Nat} {l3 : Option AV} : ∀ (n m : Nat) (V : Nat → Bool) (dn q : Nat → Nat) (t : Nat) (ρ : St) (l7 : Option AV), m + n = 8 → EC i b B0 nm ps mf mt mw ρ → BI (nxL b nm) (opL b B0 ps mf mt mw) (goL B0 ps x) h m V dn q t → h < t → STo (-4) V dn q t (gA ρ 10 0 0) (gA ρ 10 1 0) → ∃ V' dn' q' t' ρ', frB PWy RN ρ ρ' ∧ BI (nxL b nm) (opL b B0 ps mf mt mw) (goL B0 ps x) h 8 V' dn' q' t' ∧ h < t' ∧ q' h = q h ∧ STo (-4) V' dn' q' t' (gA ρ' 10 0 0) (gA ρ' 10 1 0) ∧ ∀ D Q, Rn (D + 3) Q (64, 16, [some (vR (some (10, 0, 0))), some (vR (some (0, 0, i))), some (vI (nI (q h))), l3, some (vI (nI (accB (fun l => opL b B0 ps mf mt mw (q h) l) 8))), some (vI (nI t)), some (vI (nI m)), l7], [], ρ) = Q (some (vI (nI t'))) ρ' := by
  intro n
  induction n with
  | zero =>
    intro m V dn q t ρ l7 hm hE hB ht hS
    have hm : m = 8 := by omega
    subst hm
    refine ⟨V, dn, q, t, ρ, frB_0, hB, ht, rfl, hS, fun D Q => ?_⟩
    rw [e64_16]
    simp +decide only [e64_0, e64_1, e64_2, e64_5, e64_8, e64_10, e64_11, e64_13, e64_14, e64_18, e64_20, e64_23, e64_25, e64_27, e64_28, e64_29, e64_30, e64_33, e64_36, e64_37, e64_38, e64_40, e64_43, e64_44, e64_46, e64_47, e64_50, e64_52, e64_53, e64_55, e64_58, e64_60, e64_63, e64_66, e64_67, e64_70, e64_72, e64_73, e64_76, e64_77, e64_78, e64_79, e64_80, e64_81, e64_82, e64_85, e64_87, e64_89, e64_90, e64_93, e64_96, e64_99, e64_101, true_and, and_true, or_true, true_or, if_true, if_false, not_true_eq_false, not_false_eq_true, ne_eq, and_self, show (8 : Int32) ≤ nI 8 by decide]
  | succ n ih =>
    intro m V dn q t ρ l7 hm hE hB ht hS
    have hE0 := hE
    obtain ⟨a1, e1, e2, e3, e4, e5⟩ := hE
    have y1 : ¬ (8 : Int32) ≤ nI m := nI_ge (b := 8) (by omega) (by omega)
    have tb : (accB (fun l => opL b B0 ps mf mt mw (q h) l) 8).testBit m = opL b B0 ps mf mt mw (q h) m := by rw [accB_tb, decide_eq_true (show m < 8 by omega), Bool.true_and]
    have hlt : accB (fun l => opL b B0 ps mf mt mw (q h) l) 8 < 256 := accB_256
    by_cases ho : opL b B0 ps mf mt mw (q h) m = true
    · have t0 : ¬ nI (accB (fun l => opL b B0 ps mf mt mw (q h) l) 8) >>> (nI m &&& 31) &&& 1 = 0 := by rw [bit0 (by omega) (by omega), tb, ho]; decide
      have hbm := opL_b ho
      have cn := fun {D : Nat} {Q : Option AV → St → Prop} => c_named (D := D) (Q := Q) hE0 (show m < 8 by omega) hbm 8 0 (by omega)
      rw [show accB (fun l => b.testBit l && decide (nm l = nm m)) 0 = 0 from rfl, nI_0] at cn
      obtain ⟨qh1, qh2, qh3, qh4⟩ := hB.2.1 h ht
      have hw := nxL_lt (b := b) (nm := nm) (l := m) qh1
      have on : nI (q h) ||| nI (nlS b nm m) = nI (nxL b nm (q h) m) := nI_or _ _
      have w2 : (nI (nxL b nm (q h) m)).toInt = ((nxL b nm (q h) m : Nat) : Int) := nI_toInt (by omega)
      have w3 : (0 : Int) ≤ ((nxL b nm (q h) m : Nat) : Int) := by omega
      have w4 : ((nxL b nm (q h) m : Nat) : Int) < ((256 : Nat) : Int) := by omega
      have w5 : (nI (nxL b nm (q h) m)).toNatClampNeg = nxL b nm (q h) m := nI_clamp (by omega)
      have v2 : (nI (q h)).toInt = ((q h : Nat) : Int) := nI_toInt (by omega)
      have v3 : (0 : Int) ≤ ((q h : Nat) : Int) := by omega
      have v4 : ((q h : Nat) : Int) < ((256 : Nat) : Int) := by omega
      have v5 : (nI (q h)).toNatClampNeg = q h := nI_clamp (by omega)
      have rh := hS.1 (q h) qh1
      rw [if_pos qh2] at rh
      have rw' := hS.1 (nxL b nm (q h) m) hw
      by_cases hV : V (nxL b nm (q h) m) = true
      · rw [if_pos hV] at rw'
        obtain ⟨j, j1, j2⟩ := hB.2.2.2.1 _ hV
        have dj := (hB.2.1 j j1).2.2.1
        rw [j2] at dj
        have t256 := hB.1.2.2.1
        have z1 : ¬ nI (dn (nxL b nm (q h) m)) = -4 := fun z => by
          have := congrArg Int32.toInt z
          rw [nI_toInt (by omega)] at this
          have h4 : (-4 : Int32).toInt = -4 := by decide
          omega
        obtain ⟨V', dn', q', t', ρ', p1, p2, p3, p4, p5, p6⟩ := ih (m + 1) V dn q t ρ (some (vI (nI (nxL b nm (q h) m)))) (by omega) hE0 (BI_skip hB ht (fun _ => hV)) ht hS
        refine ⟨V', dn', q', t', ρ', p1, p2, p3, p4, p5, fun D Q => ?_⟩
        rw [← p6 D Q, e64_16, ← nI_1 m]
        simp +decide only [e64_0, e64_1, e64_2, e64_5, e64_8, e64_10, e64_11, e64_13, e64_14, e64_18, e64_20, e64_23, e64_25, e64_27, e64_28, e64_29, e64_30, e64_33, e64_36, e64_37, e64_38, e64_40, e64_43, e64_44, e64_46, e64_47, e64_50, e64_52, e64_53, e64_55, e64_58, e64_60, e64_63, e64_66, e64_67, e64_70, e64_72, e64_73, e64_76, e64_77, e64_78, e64_79, e64_80, e64_81, e64_82, e64_85, e64_87, e64_89, e64_90, e64_93, e64_96, e64_99, e64_101, e13_0, e13_1, e13_2, e13_3, e13_5, e13_7, e13_10, e13_11, e13_12, e13_15, e13_18, e13_19, e13_22, e13_23, e13_24, e13_25, e13_28, e13_29, e13_30, e13_33, e13_34, e13_35, e13_36, e13_37, e13_38, e13_39, e13_42, e13_45, e13_46, true_and, and_true, or_true, true_or, if_true, if_false, not_true_eq_false, not_false_eq_true, ne_eq, and_self, Option.toList_some, Option.toList_none, List.cons_append, List.nil_append, catS_0, catS_I, catS_L, catS_R, Option.map_some, Option.map_none, Option.some.injEq, Sum.inl.injEq, exists_eq_left', exists_eq', cn, on, y1, t0, e1, w2, w3, w4, w5, rw', z1, N10 a1, L10_0 a1]
      · have hV' : V (nxL b nm (q h) m) = false := by cases h : V (nxL b nm (q h) m) with
          | false => rfl
          | true => exact absurd h hV
        rw [if_neg hV] at rw'
        obtain ⟨tl, hB'⟩ := BI_add hB ht (by omega) hw ho hV'
        have z1 : ¬ (256 : Int32) ≤ nI t := nI_ge (b := 256) (by omega) (by omega)
        have s2 : (nI t).toInt = (t : Int) := nI_toInt (by omega)
        have s3 : (0 : Int) ≤ (t : Int) := by omega
        have s4 : (t : Int) < ((256 : Nat) : Int) := by omega
        have s5 : (nI t).toNatClampNeg = t := nI_clamp (by omega)
        have qh' : va_up q t (nxL b nm (q h) m) h = q h := va_up_ne _ _ (by omega)
        obtain ⟨V', dn', q', t', ρ', p1, p2, p3, p4, p5, p6⟩ := ih (m + 1) _ _ _ _ (setA (setA ρ 10 0 0 (upd (gA ρ 10 0 0) (nxL b nm (q h) m) (nI (dn (q h) + 1)))) 10 1 0 (upd (gA ρ 10 1 0) t (nI (nxL b nm (q h) m)))) (some (vI (nI (nxL b nm (q h) m)))) (by omega) (EC_fr (frB_t (frB_A (by decide)) (frB_A (by decide))) hE0) hB' (by omega) (by
          simp +decide only [II, AA, RR, QQ, IA, IR, IQ, AI, AR, AQ, RI, RA, RQ, QI, QA, QR, LI, LA, LR, LQ, NI, NA, NR, NQ, HI, HA, HR, HQ, SI, SA, SR, SQ, true_and, and_true, or_true, true_or, if_true, if_false, not_true_eq_false, not_false_eq_true, ne_eq, and_self]
          exact STo_add hS)
        rw [qh'] at p4
        refine ⟨V', dn', q', t', ρ', frB_t (frB_t (frB_A (by decide)) (frB_A (by decide))) p1, p2, p3, p4, p5, fun D Q => ?_⟩
        rw [qh'] at p6
        rw [← p6 D Q, e64_16, ← nI_1 m]
        simp +decide only [e64_0, e64_1, e64_2, e64_5, e64_8, e64_10, e64_11, e64_13, e64_14, e64_18, e64_20, e64_23, e64_25, e64_27, e64_28, e64_29, e64_30, e64_33, e64_36, e64_37, e64_38, e64_40, e64_43, e64_44, e64_46, e64_47, e64_50, e64_52, e64_53, e64_55, e64_58, e64_60, e64_63, e64_66, e64_67, e64_70, e64_72, e64_73, e64_76, e64_77, e64_78, e64_79, e64_80, e64_81, e64_82, e64_85, e64_87, e64_89, e64_90, e64_93, e64_96, e64_99, e64_101, e13_0, e13_1, e13_2, e13_3, e13_5, e13_7, e13_10, e13_11, e13_12, e13_15, e13_18, e13_19, e13_22, e13_23, e13_24, e13_25, e13_28, e13_29, e13_30, e13_33, e13_34, e13_35, e13_36, e13_37, e13_38, e13_39, e13_42, e13_45, e13_46, true_and, and_true, or_true, true_or, if_true, if_false, not_true_eq_false, not_false_eq_true, ne_eq, and_self, Option.toList_some, Option.toList_none, List.cons_append, List.nil_append, catS_0, catS_I, catS_L, catS_R, Option.map_some, Option.map_none, Option.some.injEq, Sum.inl.injEq, exists_eq_left', exists_eq', II, AA, RR, QQ, IA, IR, IQ, AI, AR, AQ, RI, RA, RQ, QI, QA, QR, LI, LA, LR, LQ, NI, NA, NR, NQ, HI, HA, HR, HQ, SI, SA, SR, SQ, cn, on, y1, t0, e1, w2, w3, w4, w5, v2, v3, v4, v5, s2, s3, s4, s5, rh, rw', z1, nI_1 (dn (q h)), nI_1 t, N10 a1, L10_0 a1, L10_1 a1]
    · have ho' : opL b B0 ps mf mt mw (q h) m = false := by cases h : opL b B0 ps mf mt mw (q h) m with
        | false => rfl
        | true => exact absurd h ho
      have t0 : nI (accB (fun l => opL b B0 ps mf mt mw (q h) l) 8) >>> (nI m &&& 31) &&& 1 = 0 := by rw [bit0 (by omega) (by omega), tb, ho']
      obtain ⟨V', dn', q', t', ρ', p1, p2, p3, p4, p5, p6⟩ := ih (m + 1) V dn q t ρ l7 (by omega) hE0 (BI_skip hB ht (fun z => absurd z ho)) ht hS
      refine ⟨V', dn', q', t', ρ', p1, p2, p3, p4, p5, fun D Q => ?_⟩
      rw [← p6 D Q, e64_16, ← nI_1 m]
      simp +decide only [e64_0, e64_1, e64_2, e64_5, e64_8, e64_10, e64_11, e64_13, e64_14, e64_18, e64_20, e64_23, e64_25, e64_27, e64_28, e64_29, e64_30, e64_33, e64_36, e64_37, e64_38, e64_40, e64_43, e64_44, e64_46, e64_47, e64_50, e64_52, e64_53, e64_55, e64_58, e64_60, e64_63, e64_66, e64_67, e64_70, e64_72, e64_73, e64_76, e64_77, e64_78, e64_79, e64_80, e64_81, e64_82, e64_85, e64_87, e64_89, e64_90, e64_93, e64_96, e64_99, e64_101, true_and, and_true, or_true, true_or, if_true, if_false, not_true_eq_false, not_false_eq_true, ne_eq, and_self, Option.toList_some, Option.toList_none, List.cons_append, List.nil_append, catS_0, catS_I, catS_L, catS_R, Option.map_some, Option.map_none, Option.some.injEq, Sum.inl.injEq, exists_eq_left', exists_eq', y1, t0]
theorem c_short {x : Nat} (hx : x < 8) (hbx : b.testBit x = true) : ∀ (n h : Nat) (V : Nat → Bool) (dn q : Nat → Nat) (t : Nat) (ρ : St) (l6 : Option AV), h + n = 256 → EC i b B0 nm ps mf mt mw ρ → BI (nxL b nm) (opL b B0 ps mf mt mw) (goL B0 ps x) h 0 V dn q t → STo (-4) V dn q t (gA ρ 10 0 0) (gA ρ 10 1 0) → ∃ r ρ', frB PWy RN ρ ρ' ∧ ResN (nxL b nm) (opL b B0 ps mf mt mw) (goL B0 ps x) r ∧ ∀ D Q, Rn (D + 5) Q (62, 29, [some (vR (some (10, 0, 0))), some (vR (some (0, 0, i))), some (vR (some (11, 20, 0))), some (vI (nI x)), some (vI (nI t)), some (vI (nI h)), l6], [], ρ) = Q (some (vI (rvO r))) ρ' := by
  intro n
  induction n with
  | zero =>
    intro h V dn q t ρ l6 hn hE hB hS
    have ht := hB.1
    have y1 : nI t ≤ nI h := nI_le (by omega) (by omega)
    refine ⟨none, ρ, frB_0, BI_none hB (by omega), fun D Q => ?_⟩
    rw [e62_29]
    simp +decide only [e62_0, e62_1, e62_4, e62_6, e62_9, e62_10, e62_13, e62_14, e62_15, e62_16, e62_17, e62_20, e62_21, e62_22, e62_23, e62_24, e62_26, e62_27, e62_31, e62_33, e62_36, e62_38, e62_41, e62_44, e62_45, e62_48, e62_50, e62_51, e62_53, e62_54, e62_55, e62_57, e62_60, e62_61, e62_62, e62_65, e62_68, e62_69, e62_70, e62_71, e62_72, e62_73, e62_76, e62_77, e62_80, e62_82, e62_83, e62_84, e62_85, e62_86, e62_88, e62_90, e62_93, e62_95, e62_98, e62_101, e62_103, true_and, and_true, or_true, true_or, if_true, if_false, not_true_eq_false, not_false_eq_true, ne_eq, and_self, y1]
    rfl
  | succ n ih =>
    intro h V dn q t ρ l6 hn hE hB hS
    have htb := hB.1
    by_cases ht : h < t
    · have y1 : ¬ nI t ≤ nI h := nI_ge ht (by omega)
      have y6 : ¬ (256 : Int32) ≤ nI h := nI_ge (b := 256) (by omega) (by omega)
      have y2 : (nI h).toInt = (h : Int) := nI_toInt (by omega)
      have y3 : (0 : Int) ≤ (h : Int) := by omega
      have y4 : (h : Int) < ((256 : Nat) : Int) := by omega
      have y5 : (nI h).toNatClampNeg = h := nI_clamp (by omega)
      obtain ⟨qh1, qh2, qh3, qh4⟩ := hB.2.1 h ht
      have wh := hS.2 h ht
      have v2 : (nI (q h)).toInt = ((q h : Nat) : Int) := nI_toInt (by omega)
      have v3 : (0 : Int) ≤ ((q h : Nat) : Int) := by omega
      have v4 : ((q h : Nat) : Int) < ((256 : Nat) : Int) := by omega
      have v5 : (nI (q h)).toNatClampNeg = q h := nI_clamp (by omega)
      obtain ⟨ρ1, p1, p2, p3, p4, p5⟩ := c_raise (c := q h) qh1 8 0 ρ (by omega) hE (fun l hl => absurd hl (by omega))
      have hE1 := EC_fr p1 hE
      have hS1 : STo (-4) V dn q t (gA ρ1 10 0 0) (gA ρ1 10 1 0) := by rw [p2, p3]; exact hS
      have a1 := hE.1
      have hE1' := hE1
      obtain ⟨b1, e1, e2, e3, e4, e5⟩ := hE1
      have cpa := fun {d : Nat} {Q : Option AV → St → Prop} => c_passed (d := d) (Q := Q) (σ := ρ1) (C := 10) (K := 2) (mf := mf) (mt := mt) (mw := mw) (B := BC B0 (q h)) (ps := ps) b1 e1 rfl (L10_2 b1) (by rw [N10 b1]; omega) e2 e3 (fun on k1 k2 => ⟨p4 on k1 k2, (e4 on k1 k2).2.1⟩)
      have cop := fun {d : Nat} {Q : Option AV → St → Prop} => c_open (d := d) (Q := Q) (σ := ρ1) (C := 10) (K := 2) (mf := mf) (mt := mt) (mw := mw) (B := BC B0 (q h)) (ps := ps) b1 e1 rfl (L10_2 b1) (by rw [N10 b1]; omega) e2 e3 (fun on k1 k2 => ⟨p4 on k1 k2, (e4 on k1 k2).2.1⟩) e5
      have hpl : accB (PW 1 b (BC B0 (q h)) ps mf mt mw) 8 < 256 := accB_256
      have htb2 : (accB (PW 1 b (BC B0 (q h)) ps mf mt mw) 8).testBit x = goL B0 ps x (q h) := by
        rw [accB_tb, decide_eq_true hx, Bool.true_and]
        unfold PW goL
        rw [hbx, Bool.true_and, if_neg (by decide), if_pos rfl]
      have rh := hS1.1 (q h) qh1
      rw [if_pos qh2] at rh
      rw [nI_0] at p5
      by_cases hg : goL B0 ps x (q h) = true
      · have tg : nI (accB (PW 1 b (BC B0 (q h)) ps mf mt mw) 8) >>> (nI x &&& 31) &&& 1 = 1 := by rw [bitI (by omega) (by omega), htb2, hg]
        refine ⟨some (dn (q h)), ρ1, p1, BI_goal hB ht hg, fun D Q => ?_⟩
        rw [e62_29]
        simp +decide only [e62_0, e62_1, e62_4, e62_6, e62_9, e62_10, e62_13, e62_14, e62_15, e62_16, e62_17, e62_20, e62_21, e62_22, e62_23, e62_24, e62_26, e62_27, e62_31, e62_33, e62_36, e62_38, e62_41, e62_44, e62_45, e62_48, e62_50, e62_51, e62_53, e62_54, e62_55, e62_57, e62_60, e62_61, e62_62, e62_65, e62_68, e62_69, e62_70, e62_71, e62_72, e62_73, e62_76, e62_77, e62_80, e62_82, e62_83, e62_84, e62_85, e62_86, e62_88, e62_90, e62_93, e62_95, e62_98, e62_101, e62_103, e63_0, e63_1, e63_3, e63_5, e63_8, e63_9, e63_12, e63_13, e63_14, e63_15, e63_16, e63_17, e63_18, e63_19, e63_22, e63_24, e63_27, e63_28, e63_29, e63_30, e63_31, e63_34, e63_37, true_and, and_true, or_true, true_or, if_true, if_false, not_true_eq_false, not_false_eq_true, ne_eq, and_self, Option.toList_some, Option.toList_none, List.cons_append, List.nil_append, catS_0, catS_I, catS_L, catS_R, Option.map_some, Option.map_none, Option.some.injEq, Sum.inl.injEq, exists_eq_left', exists_eq', y1, y2, y3, y4, y5, y6, wh, p5, cpa, tg, v2, v3, v4, v5, rh, e1, N10 a1, N10 b1, L10_1 a1, L10_0 b1, L10_2 b1]
        rfl
      · have hg' : goL B0 ps x (q h) = false := by cases h : goL B0 ps x (q h) with
          | false => rfl
          | true => exact absurd h hg
        have tg : ¬ nI (accB (PW 1 b (BC B0 (q h)) ps mf mt mw) 8) >>> (nI x &&& 31) &&& 1 = 1 := by rw [bitI (by omega) (by omega), htb2]; exact hg
        obtain ⟨V', dn', q', t', ρ2, r1, r2, r3, r4, r5, r6⟩ := c_reach (x := x) (h := h) (l3 := some (vI (nI t))) 8 0 V dn q t ρ1 none (by omega) hE1' hB ht hS1
        have hB' := BI_next r2 r3 (by rw [r4]; exact hg')
        obtain ⟨r, ρ', s1, s2, s3⟩ := ih (h + 1) V' dn' q' t' ρ2 (some (vI (nI (q h)))) (by omega) (EC_fr r1 hE1') hB' r5
        refine ⟨r, ρ', frB_t p1 (frB_t r1 s1), s2, fun D Q => ?_⟩
        rw [nI_0] at r6
        have r6' := fun Q => r6 (D + 1) Q
        rw [← s3 D Q, e62_29, ← nI_1 h]
        have hop : accB (fun l => opL b B0 ps mf mt mw (q h) l) 8 = accB (PW 0 b (BC B0 (q h)) ps mf mt mw) 8 := rfl
        rw [hop] at r6'
        simp +decide only [e62_0, e62_1, e62_4, e62_6, e62_9, e62_10, e62_13, e62_14, e62_15, e62_16, e62_17, e62_20, e62_21, e62_22, e62_23, e62_24, e62_26, e62_27, e62_31, e62_33, e62_36, e62_38, e62_41, e62_44, e62_45, e62_48, e62_50, e62_51, e62_53, e62_54, e62_55, e62_57, e62_60, e62_61, e62_62, e62_65, e62_68, e62_69, e62_70, e62_71, e62_72, e62_73, e62_76, e62_77, e62_80, e62_82, e62_83, e62_84, e62_85, e62_86, e62_88, e62_90, e62_93, e62_95, e62_98, e62_101, e62_103, e63_0, e63_1, e63_3, e63_5, e63_8, e63_9, e63_12, e63_13, e63_14, e63_15, e63_16, e63_17, e63_18, e63_19, e63_22, e63_24, e63_27, e63_28, e63_29, e63_30, e63_31, e63_34, e63_37, e64_0, e64_1, e64_2, e64_5, e64_8, e64_10, e64_11, e64_13, e64_14, e64_18, e64_20, e64_23, e64_25, e64_27, e64_28, e64_29, e64_30, e64_33, e64_36, e64_37, e64_38, e64_40, e64_43, e64_44, e64_46, e64_47, e64_50, e64_52, e64_53, e64_55, e64_58, e64_60, e64_63, e64_66, e64_67, e64_70, e64_72, e64_73, e64_76, e64_77, e64_78, e64_79, e64_80, e64_81, e64_82, e64_85, e64_87, e64_89, e64_90, e64_93, e64_96, e64_99, e64_101, true_and, and_true, or_true, true_or, if_true, if_false, not_true_eq_false, not_false_eq_true, ne_eq, and_self, Option.toList_some, Option.toList_none, List.cons_append, List.nil_append, catS_0, catS_I, catS_L, catS_R, Option.map_some, Option.map_none, Option.some.injEq, Sum.inl.injEq, exists_eq_left', exists_eq', y1, y2, y3, y4, y5, y6, wh, p5, cpa, cop, tg, r6', e1, N10 a1, N10 b1, L10_1 a1, L10_2 b1]
    · have y1 : nI t ≤ nI h := nI_le (by omega) (by omega)
      refine ⟨none, ρ, frB_0, BI_none hB ht, fun D Q => ?_⟩
      rw [e62_29]
      simp +decide only [e62_0, e62_1, e62_4, e62_6, e62_9, e62_10, e62_13, e62_14, e62_15, e62_16, e62_17, e62_20, e62_21, e62_22, e62_23, e62_24, e62_26, e62_27, e62_31, e62_33, e62_36, e62_38, e62_41, e62_44, e62_45, e62_48, e62_50, e62_51, e62_53, e62_54, e62_55, e62_57, e62_60, e62_61, e62_62, e62_65, e62_68, e62_69, e62_70, e62_71, e62_72, e62_73, e62_76, e62_77, e62_80, e62_82, e62_83, e62_84, e62_85, e62_86, e62_88, e62_90, e62_93, e62_95, e62_98, e62_101, e62_103, true_and, and_true, or_true, true_or, if_true, if_false, not_true_eq_false, not_false_eq_true, ne_eq, and_self, y1]
      rfl
theorem c_shortest {x : Nat} {ρ : St} (hx : x < 8) (hbx : b.testBit x = true) (hE : EC i b B0 nm ps mf mt mw ρ) : ∃ r ρ', frB PWy RN ρ ρ' ∧ ResN (nxL b nm) (opL b B0 ps mf mt mw) (goL B0 ps x) r ∧ ∀ D Q, Rn (D + 5) Q (62, 0, [some (vR (some (10, 0, 0))), some (vR (some (0, 0, i))), some (vR (some (11, 20, 0))), some (vI (nI x)), none, none, none], [], ρ) = Q (some (vI (rvO r))) ρ' := by
  have a1 := hE.1
  obtain ⟨r, ρ', p1, p2, p3⟩ := c_short hx hbx 256 0 _ _ _ _ (setA (setA ρ 10 0 0 (upd (ff (-4) (gA ρ 10 0 0) 256) 0 0)) 10 1 0 (upd (gA ρ 10 1 0) 0 0)) none (by omega) (EC_fr (frB_t (frB_A (by decide)) (frB_A (by decide))) hE) BI_0 (by
    simp +decide only [II, AA, RR, QQ, IA, IR, IQ, AI, AR, AQ, RI, RA, RQ, QI, QA, QR, LI, LA, LR, LQ, NI, NA, NR, NQ, HI, HA, HR, HQ, SI, SA, SR, SQ, true_and, and_true, or_true, true_or, if_true, if_false, not_true_eq_false, not_false_eq_true, ne_eq, and_self]
    refine ⟨fun w hw => ?_, fun j hj => ?_⟩
    · by_cases h0 : w = 0
      · rw [h0, updS0, if_pos (by decide)]; rfl
      · rw [pk_un h0, if_neg (by show ¬ decide (w = 0) = true; rw [decide_eq_false h0]; decide)]
        unfold ff
        rw [if_pos hw]
    · have : j = 0 := by omega
      rw [this, updS0]; rfl)
  refine ⟨r, ρ', frB_t (frB_t (frB_A (by decide)) (frB_A (by decide))) p1, p2, fun D Q => ?_⟩
  have cf := fun {d : Nat} {Q : Option AV → St → Prop} {v : Int32} => c_fill (d := d) (Q := Q) (σ := ρ) (c := 10) (k := 0) (i := 0) (L := 256) (v := v) rfl (by decide) (L10_0 a1) (by rw [N10 a1]; decide) (by decide)
  rw [nI_0] at p3
  have p3' := p3 D Q
  rw [← lN1] at p3'
  rw [← p3']
  simp +decide only [e62_0, e62_1, e62_4, e62_6, e62_9, e62_10, e62_13, e62_14, e62_15, e62_16, e62_17, e62_20, e62_21, e62_22, e62_23, e62_24, e62_26, e62_27, e62_31, e62_33, e62_36, e62_38, e62_41, e62_44, e62_45, e62_48, e62_50, e62_51, e62_53, e62_54, e62_55, e62_57, e62_60, e62_61, e62_62, e62_65, e62_68, e62_69, e62_70, e62_71, e62_72, e62_73, e62_76, e62_77, e62_80, e62_82, e62_83, e62_84, e62_85, e62_86, e62_88, e62_90, e62_93, e62_95, e62_98, e62_101, e62_103, true_and, and_true, or_true, true_or, if_true, if_false, not_true_eq_false, not_false_eq_true, ne_eq, and_self, Option.toList_some, Option.toList_none, List.cons_append, List.nil_append, catS_0, catS_I, catS_L, catS_R, Option.map_some, Option.map_none, Option.some.injEq, Sum.inl.injEq, exists_eq_left', exists_eq', II, AA, RR, QQ, IA, IR, IQ, AI, AR, AQ, RI, RA, RQ, QI, QA, QR, LI, LA, LR, LQ, NI, NA, NR, NQ, HI, HA, HR, HQ, SI, SA, SR, SQ, cf, setA_A, cl_0, N10 a1, L10_0 a1, L10_1 a1]
end WAY
