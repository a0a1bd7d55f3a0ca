/-- the lesson l stands in L as e, its marks from t on -/
def InL : List Ent → Nat → Nat → Ent → Prop
  | [], _, _, _ => False
  | e' :: L, l, t, e => (e' = e ∧ e'.1 = l ∧ t = totL L) ∨ (e'.1 ≠ l ∧ InL L l t e)
theorem InL_ex {l : Nat} : ∀ L : List Ent, (bitsL L).testBit l = true → ∃ t e, InL L l t e := by
  intro L
  induction L with
  | nil => intro h; rw [show bitsL [] = 0 from rfl, Nat.zero_testBit] at h; cases h
  | cons e' L ih =>
    intro h
    by_cases he : e'.1 = l
    · exact ⟨totL L, e', Or.inl ⟨rfl, he, rfl⟩⟩
    · have h : (bitsL L ||| 2 ^ e'.1).testBit l = true := h
      rw [Nat.testBit_or, Nat.testBit_two_pow, decide_eq_false he, Bool.or_false] at h
      obtain ⟨t, e, h1⟩ := ih h
      exact ⟨t, e, Or.inr ⟨he, h1⟩⟩
theorem InL_row {g f2 f3 f5 f6 f7 : Nat → Int32} {l t : Nat} {e : Ent} : ∀ L : List Ent, InL L l t e → EntR g f2 f3 f5 f6 f7 L → f2 l = nI e.2.1 ∧ f3 l = nI e.2.2.1 ∧ f5 l = nI t ∧ f6 l = nI (t + e.2.2.2.length) ∧ RowL g f7 t e.2.2.2 := by
  intro L
  induction L with
  | nil => intro h; exact h.elim
  | cons e' L ih =>
    intro h hr
    rcases h with ⟨rfl, rfl, rfl⟩ | ⟨h1, h2⟩
    · exact ⟨hr.1, hr.2.1, hr.2.2.1, hr.2.2.2.1, hr.2.2.2.2.1⟩
    · exact ih h2 hr.2.2.2.2.2
theorem InL_st {f4 : Nat → Int32} {l t : Nat} {e : Ent} : ∀ L : List Ent, InL L l t e → EntS f4 L → f4 l = nI (orC e.2.2.2) := by
  intro L
  induction L with
  | nil => intro h; exact h.elim
  | cons e' L ih =>
    intro h hr
    rcases h with ⟨rfl, rfl, rfl⟩ | ⟨h1, h2⟩
    · exact hr.1
    · exact ih h2 hr.2
theorem InL_gd {l t : Nat} {e : Ent} : ∀ L : List Ent, InL L l t e → GdL L → e.2.1 ≤ 39 ∧ e.2.2.1 ≤ 100 ∧ WFc e.2.2.2 ∧ dep e.2.2.2 ≤ 1 ∧ t + e.2.2.2.length ≤ totL L ∧ ∀ on, (orC e.2.2.2).testBit on = true → (orL L).testBit on = true := by
  intro L
  induction L with
  | nil => intro h; exact h.elim
  | cons e' L ih =>
    intro h hr
    rcases h with ⟨rfl, rfl, rfl⟩ | ⟨h1, h2⟩
    · obtain ⟨g1, g2, g3, g4, g5, g6⟩ := hr.1
      refine ⟨g3, g4, g5, g6, Nat.le_refl _, fun on ho => ?_⟩
      show (orL L ||| orC e'.2.2.2).testBit on = true
      rw [Nat.testBit_or, ho, Bool.or_true]
    · obtain ⟨g1, g2, g3, g4, g5, g6⟩ := ih h2 hr.2
      refine ⟨g1, g2, g3, g4, ?_, fun on ho => ?_⟩
      · show t + e.2.2.2.length ≤ totL L + e'.2.2.2.length
        omega
      · show (orL L ||| orC e'.2.2.2).testBit on = true
        rw [Nat.testBit_or, g6 on ho, Bool.true_or]
theorem tdO_b {L : List Ent} (h : tdO L = true) : ∀ on, on < 8 → (orL L).testBit on = true → (bitsL L).testBit on = true := by
  intro on ho hb
  unfold tdO at h
  rw [decide_eq_true_iff] at h
  have h2 := congrArg (fun x : Int32 => x.toBitVec.getLsbD on) h
  have e1 : (nI (orL L) &&& (nI (bitsL L) ^^^ -1)).toBitVec.getLsbD on = ((orL L).testBit on && ((bitsL L).testBit on ^^ true)) := by
    rw [Int32.toBitVec_and, Int32.toBitVec_xor, BitVec.getLsbD_and, BitVec.getLsbD_xor, nI_bit (by omega), nI_bit (by omega), m1_bit on (by omega)]
  have h2 : (nI (orL L) &&& (nI (bitsL L) ^^^ -1)).toBitVec.getLsbD on = (0 : Int32).toBitVec.getLsbD on := h2
  rw [e1, hb] at h2
  cases hq : (bitsL L).testBit on with
  | true => rfl
  | false =>
    rw [hq] at h2
    have : (0 : Int32).toBitVec.getLsbD on = false := by
      have : (0 : Int32).toBitVec = 0#32 := rfl
      rw [this, BitVec.getLsbD_zero]
    rw [this] at h2
    cases h2
theorem edP_td {c : Nat → Int32} {n : Nat} : ∀ k p L0 L, edP c n k p L0 = .inr L → tdO L = true := by
  intro k
  induction k with
  | zero => intro p L0 L h; cases h
  | succ k ih =>
    intro p L0 L h
    have h : (match lesP c n (bitsL L0) p with
      | .inl q => .inl q
      | .inr y => if sgn c n y.1 = -1 then (if tdO (y.2 :: L0) = true then .inr (y.2 :: L0) else .inl (sk c n y.1)) else if k = 0 then .inl (sk c n y.1) else if sgn c n y.1 = 59 then edP c n k (sk c n y.1 + 1) (y.2 :: L0) else .inl (sk c n y.1)) = (.inr L : Sum Nat (List Ent)) := h
    cases hy : lesP c n (bitsL L0) p with
    | inl q => rw [hy] at h; cases h
    | inr y =>
      rw [hy] at h
      dsimp only at h
      by_cases he : sgn c n y.1 = -1
      · rw [if_pos he] at h
        by_cases ht : tdO (y.2 :: L0) = true
        · rw [if_pos ht] at h
          cases h
          exact ht
        · rw [if_neg ht] at h; cases h
      · rw [if_neg he] at h
        by_cases hk : k = 0
        · rw [if_pos hk] at h; cases h
        · rw [if_neg hk] at h
          by_cases hs : sgn c n y.1 = 59
          · rw [if_pos hs] at h
            exact ih _ _ _ h
          · rw [if_neg hs] at h; cases h
theorem rvT_pos {t : Nat} (h : t < 816) : (rvT t).toInt = (t : Int) := by
  unfold rvT
  rw [if_pos (by omega), nI_toInt (by omega)]
theorem orS_C {mw : Nat → Int32} {s : Nat} : ∀ C : List Nat, RowL rvT mw s C → WFc C → orS mw s C.length = orC C := by
  intro C
  induction C with
  | nil => intro _ _; rfl
  | cons t C ih =>
    intro hr hw
    show (orS mw s C.length ||| if 0 ≤ (mw (s + C.length)).toInt then 2 ^ ((mw (s + C.length)).toInt.toNat % 8) else 0) = orC C ||| if t < 1000 then 2 ^ (t % 8) else 0
    rw [ih hr.2 hw.1, hr.1]
    rcases hw.2.2 with h | h | h | h
    · rw [rvT_pos h, if_pos (by omega), if_pos (by omega)]
      rfl
    · rw [h.1]; rfl
    · rw [h.1]; rfl
    · rw [h.1]; rfl
theorem CW_C {b : Nat} {cd mw : Nat → Int32} {s : Nat} : ∀ C : List Nat, RowL cvT cd s C → RowL rvT mw s C → WFc C → (∀ on, (orC C).testBit on = true → b.testBit on = true) → ∃ D : Nat → Nat, D s = 0 ∧ D (s + C.length) = dep C ∧ ∀ k, s ≤ k → k < s + C.length → D (k + 1) ≤ 20 ∧ ((∃ on m : Nat, on < 8 ∧ m ≤ 101 ∧ b.testBit on = true ∧ cd k = nI (8 * m + on) ∧ mw k = nI (8 * m + on) ∧ D (k + 1) = D k + 1) ∨ (cd k = -1 ∧ mw k = -2 ∧ 1 ≤ D k ∧ D (k + 1) = D k) ∨ (cd k = -2 ∧ mw k = -3 ∧ 2 ≤ D k ∧ D (k + 1) + 1 = D k) ∨ (cd k = -3 ∧ mw k = -4 ∧ 2 ≤ D k ∧ D (k + 1) + 1 = D k)) := by
  intro C
  induction C with
  | nil => intro _ _ _ _; exact ⟨fun _ => 0, rfl, rfl, fun k h1 h2 => absurd h2 (by show ¬ k < s + 0; omega)⟩
  | cons t C ih =>
    intro h1 h2 hw hb
    have hb' : ∀ on, (orC C).testBit on = true → b.testBit on = true := fun on ho => hb on (by
      show (orC C ||| if t < 1000 then 2 ^ (t % 8) else 0).testBit on = true
      rw [Nat.testBit_or, ho, Bool.true_or])
    obtain ⟨D, d1, d2, d3⟩ := ih h1.2 h2.2 hw.1 hb'
    refine ⟨fun k => if k ≤ s + C.length then D k else dep (t :: C), ?_, ?_, fun k k1 k2 => ?_⟩
    · show (if s ≤ s + C.length then D s else _) = 0
      rw [if_pos (by omega)]; exact d1
    · show (if s + (C.length + 1) ≤ s + C.length then _ else dep (t :: C)) = dep (t :: C)
      rw [if_neg (by omega)]
    · have k2 : k < s + (C.length + 1) := k2
      show (if k + 1 ≤ s + C.length then D (k + 1) else dep (t :: C)) ≤ 20 ∧ ((∃ on m : Nat, on < 8 ∧ m ≤ 101 ∧ b.testBit on = true ∧ cd k = nI (8 * m + on) ∧ mw k = nI (8 * m + on) ∧ (if k + 1 ≤ s + C.length then D (k + 1) else dep (t :: C)) = (if k ≤ s + C.length then D k else dep (t :: C)) + 1) ∨ (cd k = -1 ∧ mw k = -2 ∧ 1 ≤ (if k ≤ s + C.length then D k else dep (t :: C)) ∧ (if k + 1 ≤ s + C.length then D (k + 1) else dep (t :: C)) = (if k ≤ s + C.length then D k else dep (t :: C))) ∨ (cd k = -2 ∧ mw k = -3 ∧ 2 ≤ (if k ≤ s + C.length then D k else dep (t :: C)) ∧ (if k + 1 ≤ s + C.length then D (k + 1) else dep (t :: C)) + 1 = (if k ≤ s + C.length then D k else dep (t :: C))) ∨ (cd k = -3 ∧ mw k = -4 ∧ 2 ≤ (if k ≤ s + C.length then D k else dep (t :: C)) ∧ (if k + 1 ≤ s + C.length then D (k + 1) else dep (t :: C)) + 1 = (if k ≤ s + C.length then D k else dep (t :: C))))
      rw [if_pos (show k ≤ s + C.length by omega)]
      by_cases hk : k < s + C.length
      · rw [if_pos (show k + 1 ≤ s + C.length by omega)]
        exact d3 k k1 hk
      · have hk : k = s + C.length := by omega
        rw [if_neg (show ¬ k + 1 ≤ s + C.length by omega), hk, d2, h1.1, h2.1]
        refine ⟨hw.2.1, ?_⟩
        have e0 : dep (t :: C) = if t < 1000 then dep C + 1 else if t = 1000 then dep C else dep C - 1 := rfl
        rcases hw.2.2 with h | h | h | h
        · refine Or.inl ⟨t % 8, t / 8, by omega, by omega, ?_, ?_, ?_, ?_⟩
          · apply hb
            show (orC C ||| if t < 1000 then 2 ^ (t % 8) else 0).testBit (t % 8) = true
            rw [if_pos (by omega), Nat.testBit_or, Nat.testBit_two_pow, decide_eq_true rfl, Bool.or_true]
          · unfold cvT
            rw [if_pos (by omega)]
            congr 1
            omega
          · unfold rvT
            rw [if_pos (by omega)]
            congr 1
            omega
          · rw [e0, if_pos (by omega)]
        · rw [h.1] at e0 ⊢
          exact Or.inr (Or.inl ⟨by decide, by decide, h.2, e0⟩)
        · rw [h.1] at e0 ⊢
          have e0 : dep (1001 :: C) = dep C - 1 := e0
          exact Or.inr (Or.inr (Or.inl ⟨by decide, by decide, h.2, by omega⟩))
        · rw [h.1] at e0 ⊢
          have e0 : dep (1002 :: C) = dep C - 1 := e0
          exact Or.inr (Or.inr (Or.inr ⟨by decide, by decide, h.2, by omega⟩))
/-- the new edition is as ER wants it -/
theorem ER_new {L : List Ent} {fr : Int32} {nm ps sd sr en cd mn mp mf mt mw f4 f5 f6 f7 f8 : Nat → Int32} (hf : 0 ≤ fr.toInt ∧ fr.toInt < 4000) (hg : GdL L) (ht : tdO L = true) (htot : totL L ≤ 120) (hc : EntR cvT nm ps sr en cd L) (hs : EntS sd L) (hm : EntR rvT f4 f5 f6 f7 f8 L) (e4 : ∀ l, l < 8 → mn l = f4 l) (e5 : ∀ l, l < 8 → mp l = f5 l) (e6 : ∀ l, l < 8 → mf l = f6 l) (e7 : ∀ l, l < 8 → mt l = f7 l) (e8 : ∀ k, k < totL L → mw k = f8 k) : ER fr (nI (bitsL L)) nm ps sd sr en cd fr (nI (bitsL L)) mn mp mf mt mw := by
  refine ⟨rfl, hf, bitsL L, bits_lt L hg, rfl, rfl, fun l hl hb => ?_⟩
  obtain ⟨t, e, hin⟩ := InL_ex L hb
  obtain ⟨c1, c2, c3, c4, c5⟩ := InL_row L hin hc
  obtain ⟨m1, m2, m3, m4, m5⟩ := InL_row L hin hm
  have s1 := InL_st L hin hs
  obtain ⟨g1, g2, g3, g4, g5, g6⟩ := InL_gd L hin hg
  have m5' : RowL rvT mw t e.2.2.2 := RowL_ext _ (fun j h1 h2 => e8 j (by omega)) m5
  obtain ⟨D, d1, d2, d3⟩ := CW_C (b := bitsL L) e.2.2.2 c5 m5' g3 (fun on ho => by
    have h8 : on < 8 := by
      apply Nat.lt_of_not_le
      intro w
      rw [tb_256 (orC_lt e.2.2.2) w] at ho
      cases ho
    exact tdO_b ht on h8 (g6 on ho))
  refine ⟨by rw [c1, e4 l hl, m1], ?_, by rw [c2, e5 l hl, m2], ?_, t, t + e.2.2.2.length, by omega, by omega, c3, by rw [e6 l hl, m3], c4, by rw [e7 l hl, m4], ?_, D, d1, by rw [d2]; exact g4, d3⟩
  · rw [e4 l hl, m1, nI_toInt (by omega)]; omega
  · rw [e5 l hl, m2, nI_toInt (by omega)]; omega
  · rw [s1, show t + e.2.2.2.length - t = e.2.2.2.length by omega, orS_C _ m5' g3]
theorem orS_ext {f f' : Nat → Int32} {s : Nat} : ∀ m, (∀ k, k < s + m → f' k = f k) → orS f' s m = orS f s m := by
  intro m
  induction m with
  | zero => intro _; rfl
  | succ m ih =>
    intro h
    show (orS f' s m ||| if 0 ≤ (f' (s + m)).toInt then 2 ^ ((f' (s + m)).toInt.toNat % 8) else 0) = (orS f s m ||| if 0 ≤ (f (s + m)).toInt then 2 ^ ((f (s + m)).toInt.toNat % 8) else 0)
    rw [ih (fun k hk => h k (by omega)), h (s + m) (by omega)]
theorem ER_ext {fr le mfr mle : Int32} {nm ps sd sr en cd mn mp mf mt mw nm' ps' sd' sr' en' cd' mn' mp' mf' mt' mw' : Nat → Int32} (h : ER fr le nm ps sd sr en cd mfr mle mn mp mf mt mw) (a1 : nm' = nm) (a2 : ps' = ps) (a3 : sd' = sd) (a4 : sr' = sr) (a5 : en' = en) (a6 : cd' = cd) (b1 : ∀ l, l < 8 → mn' l = mn l) (b2 : ∀ l, l < 8 → mp' l = mp l) (b3 : ∀ l, l < 8 → mf' l = mf l) (b4 : ∀ l, l < 8 → mt' l = mt l) (b5 : ∀ k, k < 128 → mw' k = mw k) : ER fr le nm' ps' sd' sr' en' cd' mfr mle mn' mp' mf' mt' mw' := by
  subst a1 a2 a3 a4 a5 a6
  obtain ⟨h1, h2, b, h3, h4, h5, h6⟩ := h
  refine ⟨h1, h2, b, h3, h4, h5, fun l hl hb => ?_⟩
  obtain ⟨r1, r2, r3, r4, s, e, r5, r6, r7, r8, r9, r10, r11, D, r12, r13, r14⟩ := h6 l hl hb
  refine ⟨by rw [b1 l hl]; exact r1, by rw [b1 l hl]; exact r2, by rw [b2 l hl]; exact r3, by rw [b2 l hl]; exact r4, s, e, r5, r6, r7, by rw [b3 l hl]; exact r8, r9, by rw [b4 l hl]; exact r10, ?_, D, r12, r13, fun k k1 k2 => ?_⟩
  · rw [r11, orS_ext (e - s) (fun k hk => b5 k (by omega))]
  · rw [b5 k (by omega)]
    exact r14 k k1 k2
