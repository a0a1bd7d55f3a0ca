/-- pure: how a course's text is read. Marks: below 1000 a claim, 1000 denied, 1001 both, 1002 either; the latest first -/
def bnd (x : Sum Nat (Nat × List Nat)) (k : Nat → List Nat → Sum Nat (Nat × List Nat)) : Sum Nat (Nat × List Nat) := match x with
  | .inl q => .inl q
  | .inr y => k y.1 y.2
theorem bnd_l {q : Nat} {k : Nat → List Nat → Sum Nat (Nat × List Nat)} : bnd (.inl q) k = .inl q := rfl
theorem bnd_r {p : Nat} {C : List Nat} {k : Nat → List Nat → Sum Nat (Nat × List Nat)} : bnd (.inr (p, C)) k = k p C := rfl
def sgn (c : Nat → Int32) (n p : Nat) : Int32 := pkv c n (sk c n p)
def nuY (c : Nat → Int32) (n H r : Nat) : Bool := decide ((48 ≤ (pkv c n r).toInt ∧ (pkv c n r).toInt ≤ 57) ∧ numV c n H 120 r 0 ≤ H)
def nuV (c : Nat → Int32) (n H r : Nat) : Nat := numV c n H 120 r 0
def nuP (c : Nat → Int32) (n r : Nat) : Nat := numP c n 120 r
def leanP (c : Nat → Int32) (n p : Nat) (C : List Nat) : Sum Nat (Nat × List Nat) :=
  if 97 ≤ (sgn c n p).toInt ∧ (sgn c n p).toInt ≤ 104 then
    (if sgn c n (sk c n p + 1) = 62 then
      (if nuY c n 100 (sk c n (sk c n (sk c n p + 1) + 1)) = true then .inr (nuP c n (sk c n (sk c n (sk c n p + 1) + 1)), (8 * (nuV c n 100 (sk c n (sk c n (sk c n p + 1) + 1)) + 1) + ((sgn c n p).toInt.toNat - 97)) :: C) else .inl (sk c n (sk c n (sk c n p + 1) + 1)))
    else .inr (sk c n (sk c n p + 1), ((sgn c n p).toInt.toNat - 97) :: C))
  else .inl (sk c n p)
def andsP (c : Nat → Int32) (n : Nat) (cl : Nat → List Nat → Sum Nat (Nat × List Nat)) : Nat → Nat → List Nat → Sum Nat (Nat × List Nat)
  | 0, p, C => .inr (p, C)
  | k + 1, p, C => if sgn c n p = 38 then bnd (cl (sk c n p + 1) C) (fun p' C' => andsP c n cl k p' (1001 :: C')) else .inr (sk c n p, C)
def groupP (c : Nat → Int32) (n : Nat) (cl : Nat → List Nat → Sum Nat (Nat × List Nat)) (p : Nat) (C : List Nat) : Sum Nat (Nat × List Nat) := bnd (cl p C) (fun p' C' => andsP c n cl 120 p' C')
def altsP (c : Nat → Int32) (n : Nat) (cl : Nat → List Nat → Sum Nat (Nat × List Nat)) : Nat → Nat → List Nat → Sum Nat (Nat × List Nat)
  | 0, p, C => if sgn c n p = 124 then .inl (sk c n p + 1) else .inr (sk c n p, C)
  | k + 1, p, C => if sgn c n p = 124 then bnd (groupP c n cl (sk c n p + 1) C) (fun p' C' => altsP c n cl k p' (1002 :: C')) else .inr (sk c n p, C)
def casesP (c : Nat → Int32) (n : Nat) (cl : Nat → List Nat → Sum Nat (Nat × List Nat)) (p : Nat) (C : List Nat) : Sum Nat (Nat × List Nat) := bnd (groupP c n cl p C) (fun p' C' => altsP c n cl 119 p' C')
def denY (c : Nat → Int32) (n p : Nat) : Bool := decide (sgn c n p = 33)
def denP (c : Nat → Int32) (n p : Nat) : Nat := if denY c n p = true then sk c n p + 1 else sk c n p
def denC (b : Bool) (C : List Nat) : List Nat := if b = true then 1000 :: C else C
def claimP (c : Nat → Int32) (n : Nat) : Nat → Nat → List Nat → Sum Nat (Nat × List Nat)
  | 0, p, C => bnd (leanP c n (denP c n p) C) (fun p' C' => .inr (p', denC (denY c n p) C'))
  | f + 1, p, C => if sgn c n (denP c n p) = 40 then bnd (casesP c n (claimP c n f) (sk c n (denP c n p) + 1) C) (fun p' C' => if sgn c n p' = 41 then .inr (sk c n p' + 1, denC (denY c n p) C') else .inl (sk c n p')) else bnd (leanP c n (denP c n p) C) (fun p' C' => .inr (p', denC (denY c n p) C'))
/-- how many stand waiting -/
def dep : List Nat → Nat
  | [] => 0
  | t :: C => if t < 1000 then dep C + 1 else if t = 1000 then dep C else dep C - 1
def WFc : List Nat → Prop
  | [] => True
  | t :: C => WFc C ∧ dep (t :: C) ≤ 20 ∧ (t < 816 ∨ (t = 1000 ∧ 1 ≤ dep C) ∨ (t = 1001 ∧ 2 ≤ dep C) ∨ (t = 1002 ∧ 2 ≤ dep C))
/-- what a piece of reading keeps: it goes on, emits no more than it takes, and leaves one more waiting -/
def GO (n b : Nat) (p : Nat) (C : List Nat) (x : Sum Nat (Nat × List Nat)) : Prop := match x with
  | .inl q => q ≤ n
  | .inr y => p < y.1 ∧ y.1 ≤ n ∧ y.2.length + p ≤ C.length + y.1 ∧ (WFc C → dep C + b ≤ 20 → WFc y.2 ∧ dep y.2 = dep C + 1)
theorem sgn_n {c : Nat → Int32} {n p : Nat} {ch : Int32} (hp : p ≤ n) (h : sgn c n p = ch) (hc : ¬ ch = -1) : sk c n p < n := by
  have h1 := sk_le (c := c) hp
  apply Nat.lt_of_not_le
  intro z
  unfold sgn pkv at h
  rw [if_neg (by omega)] at h
  exact hc h.symm
theorem sgn_lt {c : Nat → Int32} {n p : Nat} (hp : p ≤ n) (h : 0 ≤ (sgn c n p).toInt) : sk c n p < n := by
  have h1 := sk_le (c := c) hp
  apply Nat.lt_of_not_le
  intro z
  unfold sgn pkv at h
  rw [if_neg (by omega)] at h
  exact absurd h (by decide)
theorem nuP_go {c : Nat → Int32} {n H r : Nat} (hr : r ≤ n) (h : nuY c n H r = true) : r < nuP c n r ∧ nuP c n r ≤ n ∧ nuV c n H r ≤ H := by
  unfold nuY at h
  rw [decide_eq_true_iff] at h
  unfold nuP nuV
  obtain ⟨h1, h2⟩ := h
  have hrn : r < n := by
    apply Nat.lt_of_not_le
    intro z
    unfold pkv at h1
    rw [if_neg (by omega)] at h1
    exact absurd h1.1 (by decide)
  have hd : r < n ∧ (48 ≤ (c r).toInt ∧ (c r).toInt ≤ 57) := by
    unfold pkv at h1
    rw [if_pos hrn] at h1
    exact ⟨hrn, h1⟩
  rw [show numP c n 120 r = numP c n 119 (r + 1) from numP_y hd]
  have := numP_le (c := c) 119 (r + 1) (show r + 1 ≤ n by omega)
  exact ⟨by omega, this.2, h2⟩
theorem WF_cl {t : Nat} {C : List Nat} (ht : t < 816) (h : WFc C) (hd : dep C + 1 ≤ 20) : WFc (t :: C) ∧ dep (t :: C) = dep C + 1 := by
  have e : dep (t :: C) = dep C + 1 := if_pos (by omega)
  exact ⟨⟨h, by rw [e]; exact hd, Or.inl ht⟩, e⟩
theorem WF_den {b : Bool} {C : List Nat} {m : Nat} (h : WFc C) (hd : dep C = m + 1) (hm : m + 1 ≤ 20) : WFc (denC b C) ∧ dep (denC b C) = m + 1 := by
  cases b with
  | false => exact ⟨h, hd⟩
  | true =>
    have e : dep (1000 :: C) = dep C := by show (if 1000 < 1000 then dep C + 1 else if 1000 = 1000 then dep C else dep C - 1) = dep C; rw [if_neg (by omega), if_pos rfl]
    exact ⟨⟨h, by rw [e]; omega, Or.inr (Or.inl ⟨rfl, by omega⟩)⟩, e.trans hd⟩
theorem WF_jn {t : Nat} {C : List Nat} {m : Nat} (ht : t = 1001 ∨ t = 1002) (h : WFc C) (hd : dep C = m + 2) (hm : m + 2 ≤ 20) : WFc (t :: C) ∧ dep (t :: C) = m + 1 := by
  have e : dep (t :: C) = dep C - 1 := by show (if t < 1000 then dep C + 1 else if t = 1000 then dep C else dep C - 1) = _; rw [if_neg (by omega), if_neg (by omega)]
  refine ⟨⟨h, by rw [e]; omega, ?_⟩, by rw [e]; omega⟩
  rcases ht with ht | ht
  · exact Or.inr (Or.inr (Or.inl ⟨ht, by omega⟩))
  · exact Or.inr (Or.inr (Or.inr ⟨ht, by omega⟩))
theorem lean_go {c : Nat → Int32} {n p : Nat} {C : List Nat} (hp : p ≤ n) : GO n 1 p C (leanP c n p C) := by
  have h1 := sk_le (c := c) hp
  unfold leanP
  by_cases hl : 97 ≤ (sgn c n p).toInt ∧ (sgn c n p).toInt ≤ 104
  · rw [if_pos hl]
    have h2 := sgn_lt (c := c) hp (by omega)
    have h3 := sk_le (c := c) (n := n) (p := sk c n p + 1) (by omega)
    by_cases hg : sgn c n (sk c n p + 1) = 62
    · rw [if_pos hg]
      have h4 := sgn_n (p := sk c n p + 1) (by omega) hg (by decide)
      have h5 := sk_le (c := c) (n := n) (p := sk c n (sk c n p + 1) + 1) (by omega)
      by_cases hy : nuY c n 100 (sk c n (sk c n (sk c n p + 1) + 1)) = true
      · rw [if_pos hy]
        obtain ⟨n1, n2, n3⟩ := nuP_go h5.2 hy
        refine ⟨?_, n2, ?_, fun w d => WF_cl (by omega) w d⟩
        · show p < nuP c n _
          omega
        · show C.length + 1 + p ≤ C.length + nuP c n _
          omega
      · rw [if_neg hy]
        exact h5.2
    · rw [if_neg hg]
      refine ⟨?_, h3.2, ?_, fun w d => WF_cl (by omega) w d⟩
      · show p < sk c n _
        omega
      · show C.length + 1 + p ≤ C.length + sk c n _
        omega
  · rw [if_neg hl]
    exact h1.2
section GOS
variable {c : Nat → Int32} {n b : Nat} {cl : Nat → List Nat → Sum Nat (Nat × List Nat)}
def GOw (n m p : Nat) (W : Prop) (C : List Nat) (x : Sum Nat (Nat × List Nat)) : Prop := match x with
  | .inl q => q ≤ n
  | .inr y => p ≤ y.1 ∧ y.1 ≤ n ∧ y.2.length + p ≤ C.length + y.1 ∧ (W → WFc y.2 ∧ dep y.2 = m + 1)
theorem ands_go (hb : 1 ≤ b) (hcl : ∀ p C, p ≤ n → GO n b p C (cl p C)) {m : Nat} {W : Prop} (hm : W → m + 1 + b ≤ 20) : ∀ k p C, p ≤ n → (W → WFc C ∧ dep C = m + 1) → GOw n m p W C (andsP c n cl k p C) := by
  intro k
  induction k with
  | zero => intro p C hp hw; exact ⟨Nat.le_refl _, hp, Nat.le_refl _, hw⟩
  | succ k ih =>
    intro p C hp hw
    have h1 := sk_le (c := c) hp
    show GOw n m p W C (if sgn c n p = 38 then bnd (cl (sk c n p + 1) C) (fun p' C' => andsP c n cl k p' (1001 :: C')) else .inr (sk c n p, C))
    by_cases hg : sgn c n p = 38
    · rw [if_pos hg]
      have h2 := sgn_n hp hg (by decide)
      have hx := hcl (sk c n p + 1) C (by omega)
      cases hy : cl (sk c n p + 1) C with
      | inl q => rw [hy] at hx; rw [bnd_l]; exact hx
      | inr y =>
        obtain ⟨p', C'⟩ := y
        rw [hy] at hx
        obtain ⟨x1, x2, x3, x4⟩ := hx
        have x1 : sk c n p + 1 < p' := x1
        have x3 : C'.length + (sk c n p + 1) ≤ C.length + p' := x3
        rw [bnd_r]
        have hi := ih p' (1001 :: C') x2 (fun w => by
          obtain ⟨w1, w2⟩ := hw w
          have w0 := hm w
          obtain ⟨w3, w4⟩ := x4 w1 (by omega)
          have w4 : dep C' = m + 2 := by rw [w4, w2]
          exact WF_jn (Or.inl rfl) w3 w4 (by omega))
        cases hz : andsP c n cl k p' (1001 :: C') with
        | inl q => rw [hz] at hi; exact hi
        | inr y =>
          obtain ⟨p2, C2⟩ := y
          rw [hz] at hi
          obtain ⟨y1, y2, y3, y4⟩ := hi
          have y1 : p' ≤ p2 := y1
          have y3 : C2.length + p' ≤ C'.length + 1 + p2 := y3
          refine ⟨?_, y2, ?_, y4⟩
          · show p ≤ p2
            omega
          · show C2.length + p ≤ C.length + p2
            omega
    · rw [if_neg hg]
      refine ⟨h1.1, h1.2, ?_, hw⟩
      show C.length + p ≤ C.length + sk c n p
      omega
theorem group_go (hb : 1 ≤ b) (hcl : ∀ p C, p ≤ n → GO n b p C (cl p C)) (p : Nat) (C : List Nat) (hp : p ≤ n) : GO n (b + 1) p C (groupP c n cl p C) := by
  have hx := hcl p C hp
  unfold groupP
  cases hy : cl p C with
  | inl q => rw [hy] at hx; rw [bnd_l]; exact hx
  | inr y =>
    obtain ⟨p', C'⟩ := y
    rw [hy] at hx
    obtain ⟨x1, x2, x3, x4⟩ := hx
    have x1 : p < p' := x1
    have x3 : C'.length + p ≤ C.length + p' := x3
    rw [bnd_r]
    have hi := ands_go (c := c) hb hcl (m := dep C) (W := WFc C ∧ dep C + (b + 1) ≤ 20) (fun w => by omega) 120 p' C' x2 (fun w => x4 w.1 (by omega))
    cases hz : andsP c n cl 120 p' C' with
    | inl q => rw [hz] at hi; exact hi
    | inr y =>
      obtain ⟨p2, C2⟩ := y
      rw [hz] at hi
      obtain ⟨y1, y2, y3, y4⟩ := hi
      have y1 : p' ≤ p2 := y1
      have y3 : C2.length + p' ≤ C'.length + p2 := y3
      refine ⟨?_, y2, ?_, fun w v => y4 ⟨w, v⟩⟩
      · show p < p2
        omega
      · show C2.length + p ≤ C.length + p2
        omega
theorem alts_go (hb : 1 ≤ b) (hcl : ∀ p C, p ≤ n → GO n b p C (cl p C)) {m : Nat} {W : Prop} (hm : W → m + 2 + b ≤ 20) : ∀ k p C, p ≤ n → (W → WFc C ∧ dep C = m + 1) → GOw n m p W C (altsP c n cl k p C) := by
  intro k
  induction k with
  | zero =>
    intro p C hp hw
    have h1 := sk_le (c := c) hp
    show GOw n m p W C (if sgn c n p = 124 then .inl (sk c n p + 1) else .inr (sk c n p, C))
    by_cases hg : sgn c n p = 124
    · rw [if_pos hg]
      have h2 := sgn_n hp hg (by decide)
      exact h2
    · rw [if_neg hg]
      refine ⟨h1.1, h1.2, ?_, hw⟩
      show C.length + p ≤ C.length + sk c n p
      omega
  | succ k ih =>
    intro p C hp hw
    have h1 := sk_le (c := c) hp
    show GOw n m p W C (if sgn c n p = 124 then bnd (groupP c n cl (sk c n p + 1) C) (fun p' C' => altsP c n cl k p' (1002 :: C')) else .inr (sk c n p, C))
    by_cases hg : sgn c n p = 124
    · rw [if_pos hg]
      have h2 := sgn_n hp hg (by decide)
      have hx := group_go (c := c) hb hcl (sk c n p + 1) C (by omega)
      cases hy : groupP c n cl (sk c n p + 1) C with
      | inl q => rw [hy] at hx; rw [bnd_l]; exact hx
      | inr y =>
        obtain ⟨p', C'⟩ := y
        rw [hy] at hx
        obtain ⟨x1, x2, x3, x4⟩ := hx
        have x1 : sk c n p + 1 < p' := x1
        have x3 : C'.length + (sk c n p + 1) ≤ C.length + p' := x3
        rw [bnd_r]
        have hi := ih p' (1002 :: C') x2 (fun w => by
          obtain ⟨w1, w2⟩ := hw w
          have w0 := hm w
          obtain ⟨w3, w4⟩ := x4 w1 (by omega)
          have w4 : dep C' = m + 2 := by rw [w4, w2]
          exact WF_jn (Or.inr rfl) w3 w4 (by omega))
        cases hz : altsP c n cl k p' (1002 :: C') with
        | inl q => rw [hz] at hi; exact hi
        | inr y =>
          obtain ⟨p2, C2⟩ := y
          rw [hz] at hi
          obtain ⟨y1, y2, y3, y4⟩ := hi
          have y1 : p' ≤ p2 := y1
          have y3 : C2.length + p' ≤ C'.length + 1 + p2 := y3
          refine ⟨?_, y2, ?_, y4⟩
          · show p ≤ p2
            omega
          · show C2.length + p ≤ C.length + p2
            omega
    · rw [if_neg hg]
      refine ⟨h1.1, h1.2, ?_, hw⟩
      show C.length + p ≤ C.length + sk c n p
      omega
theorem cases_go (hb : 1 ≤ b) (hcl : ∀ p C, p ≤ n → GO n b p C (cl p C)) (p : Nat) (C : List Nat) (hp : p ≤ n) : GO n (b + 2) p C (casesP c n cl p C) := by
  have hx := group_go (c := c) hb hcl p C hp
  unfold casesP
  cases hy : groupP c n cl p C with
  | inl q => rw [hy] at hx; rw [bnd_l]; exact hx
  | inr y =>
    obtain ⟨p', C'⟩ := y
    rw [hy] at hx
    obtain ⟨x1, x2, x3, x4⟩ := hx
    have x1 : p < p' := x1
    have x3 : C'.length + p ≤ C.length + p' := x3
    rw [bnd_r]
    have hi := alts_go (c := c) hb hcl (m := dep C) (W := WFc C ∧ dep C + (b + 2) ≤ 20) (fun w => by omega) 119 p' C' x2 (fun w => x4 w.1 (by omega))
    cases hz : altsP c n cl 119 p' C' with
    | inl q => rw [hz] at hi; exact hi
    | inr y =>
      obtain ⟨p2, C2⟩ := y
      rw [hz] at hi
      obtain ⟨y1, y2, y3, y4⟩ := hi
      have y1 : p' ≤ p2 := y1
      have y3 : C2.length + p' ≤ C'.length + p2 := y3
      refine ⟨?_, y2, ?_, fun w v => y4 ⟨w, v⟩⟩
      · show p < p2
        omega
      · show C2.length + p ≤ C.length + p2
        omega
theorem den_le {p : Nat} (hp : p ≤ n) : p ≤ denP c n p ∧ denP c n p ≤ n ∧ (denY c n p = true → p < denP c n p) := by
  have h1 := sk_le (c := c) hp
  unfold denP
  by_cases h : denY c n p = true
  · rw [if_pos h]
    have h2 := h
    unfold denY at h2
    rw [decide_eq_true_iff] at h2
    have h3 := sgn_n hp h2 (by decide)
    omega
  · rw [if_neg h]
    exact ⟨h1.1, h1.2, fun z => absurd z h⟩
theorem denC_len {b : Bool} {C : List Nat} : (denC b C).length = C.length + (if b = true then 1 else 0) := by
  cases b with
  | false => rfl
  | true => rfl
theorem leanD_go {b : Nat} (hb : 1 ≤ b) {p : Nat} {C : List Nat} (hp : p ≤ n) : GO n b p C (bnd (leanP c n (denP c n p) C) (fun p' C' => .inr (p', denC (denY c n p) C'))) := by
  obtain ⟨d1, d2, d3⟩ := den_le (c := c) hp
  have hx := lean_go (c := c) (C := C) d2
  cases hy : leanP c n (denP c n p) C with
  | inl q => rw [hy] at hx; rw [bnd_l]; exact hx
  | inr y =>
    obtain ⟨p', C'⟩ := y
    rw [hy] at hx
    obtain ⟨x1, x2, x3, x4⟩ := hx
    have x1 : denP c n p < p' := x1
    have x3 : C'.length + denP c n p ≤ C.length + p' := x3
    rw [bnd_r]
    refine ⟨?_, x2, ?_, fun w v => ?_⟩
    · show p < p'
      omega
    · show (denC (denY c n p) C').length + p ≤ C.length + p'
      rw [denC_len]
      by_cases h : denY c n p = true
      · rw [if_pos h]; have := d3 h; omega
      · rw [if_neg h]; omega
    · obtain ⟨w1, w2⟩ := x4 w (by omega)
      exact WF_den w1 w2 (by omega)
theorem claim_go : ∀ f p C, p ≤ n → GO n (2 * f + 1) p C (claimP c n f p C) := by
  intro f
  induction f with
  | zero => intro p C hp; exact leanD_go (by omega) hp
  | succ f ih =>
    intro p C hp
    obtain ⟨d1, d2, d3⟩ := den_le (c := c) hp
    show GO n (2 * (f + 1) + 1) p C (if sgn c n (denP c n p) = 40 then bnd (casesP c n (claimP c n f) (sk c n (denP c n p) + 1) C) (fun p' C' => if sgn c n p' = 41 then .inr (sk c n p' + 1, denC (denY c n p) C') else .inl (sk c n p')) else bnd (leanP c n (denP c n p) C) (fun p' C' => .inr (p', denC (denY c n p) C')))
    by_cases hg : sgn c n (denP c n p) = 40
    · rw [if_pos hg]
      have h0 := sk_le (c := c) d2
      have h2 := sgn_n d2 hg (by decide)
      have hx := cases_go (c := c) (b := 2 * f + 1) (by omega) ih (sk c n (denP c n p) + 1) C (by omega)
      cases hy : casesP c n (claimP c n f) (sk c n (denP c n p) + 1) C with
      | inl q => rw [hy] at hx; rw [bnd_l]; exact hx
      | inr y =>
        obtain ⟨p', C'⟩ := y
        rw [hy] at hx
        obtain ⟨x1, x2, x3, x4⟩ := hx
        have x1 : sk c n (denP c n p) + 1 < p' := x1
        have x2 : p' ≤ n := x2
        have x3 : C'.length + (sk c n (denP c n p) + 1) ≤ C.length + p' := x3
        rw [bnd_r]
        have h3 := sk_le (c := c) x2
        by_cases hr : sgn c n p' = 41
        · rw [if_pos hr]
          have h4 := sgn_n x2 hr (by decide)
          refine ⟨?_, h4, ?_, fun w v => ?_⟩
          · show p < sk c n p' + 1
            omega
          · show (denC (denY c n p) C').length + p ≤ C.length + (sk c n p' + 1)
            rw [denC_len]
            by_cases h : denY c n p = true
            · rw [if_pos h]; have := d3 h; omega
            · rw [if_neg h]; omega
          · obtain ⟨w1, w2⟩ := x4 w (by omega)
            exact WF_den w1 w2 (by omega)
        · rw [if_neg hr]
          exact h3.2
    · rw [if_neg hg]
      exact leanD_go (by omega) hp
end GOS
