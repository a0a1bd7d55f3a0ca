/-- pure: the search for the best sharing, whole and cut short -/
def cutN (a p : Nat) : Nat := (a + p - 1) / p
theorem cutN_mono {a b p : Nat} (h : a ≤ b) : cutN a p ≤ cutN b p := Nat.div_le_div_right (by omega)
theorem cutN_pos {a p : Nat} (hp : 0 < p) (ha : 0 < a) : 0 < cutN a p := Nat.div_pos (by omega) hp
/-- over the tutors 0 .. n - 1 that can take it -/
def lpT (can : Nat → Bool) (f : Nat → (Int × Nat × (Nat → Nat)) → (Int × Nat × (Nat → Nat))) : Nat → (Int × Nat × (Nat → Nat)) → (Int × Nat × (Nat → Nat))
  | 0, b => b
  | n + 1, b => if can n then f n (lpT can f n b) else lpT can f n b
def leafS (given days : Nat) (now : Nat → Nat) (b : Int × Nat × (Nat → Nat)) : Int × Nat × (Nat → Nat) := if b.1 < (given : Int) ∨ (b.1 = (given : Int) ∧ days < b.2.1) then ((given : Int), days, now) else b
def fullS (U : Nat) (fit : Nat → Nat → Bool) (pace : Nat → Nat) : Nat → Nat → (Nat → Nat) → Nat → Nat → (Nat → Nat) → (Int × Nat × (Nat → Nat)) → (Int × Nat × (Nat → Nat))
  | 0, _, _, given, days, now, b => leafS given days now b
  | f + 1, at', ld, given, days, now, b => fullS U fit pace f (at' + 1) ld given days (va_up now at' U) (lpT (fun u => fit at' u && decide (ld u < 12)) (fun u b => fullS U fit pace f (at' + 1) (va_up ld u (ld u + 1)) (given + 1) (days + cutN (ld u + 1) (pace u)) (va_up now at' u) b) U b)
/-- nothing from here on can be better -/
def NBt (ml dl : Nat → Nat) (at' given days : Nat) (b : Int × Nat × (Nat → Nat)) : Prop := ((given + ml at' : Nat) : Int) < b.1 ∨ (((given + ml at' : Nat) : Int) = b.1 ∧ b.2.1 ≤ days + dl at')
/-- looking ahead: how many may still be given, in how many days at least -/
def LkA (K U : Nat) (fit : Nat → Nat → Bool) (pace l0 ml dl : Nat → Nat) : Prop := ml K = 0 ∧ dl K = 0 ∧ ∀ i, i < K → ∃ fd : Nat, dl i = dl (i + 1) + fd ∧ ml i = ml (i + 1) + (if 0 < fd then 1 else 0) ∧ ∀ u, u < U → fit i u = true → l0 u < 12 → 0 < fd ∧ fd ≤ cutN (l0 u + 1) (pace u)
theorem lpT_id {can : Nat → Bool} {f : Nat → (Int × Nat × (Nat → Nat)) → (Int × Nat × (Nat → Nat))} {b : Int × Nat × (Nat → Nat)} : ∀ n, (∀ u, u < n → can u = true → f u b = b) → lpT can f n b = b := by
  intro n
  induction n with
  | zero => intro _; rfl
  | succ n ih =>
    intro h
    show (if can n then f n (lpT can f n b) else lpT can f n b) = b
    rw [ih (fun u hu => h u (by omega))]
    by_cases hc : can n = true
    · rw [if_pos hc]; exact h n (by omega) hc
    · rw [if_neg hc]
theorem full_NB {K U : Nat} {fit : Nat → Nat → Bool} {pace l0 ml dl : Nat → Nat} (hL : LkA K U fit pace l0 ml dl) : ∀ f at' ld given days now b, at' + f = K → (∀ u, l0 u ≤ ld u) → NBt ml dl at' given days b → fullS U fit pace f at' ld given days now b = b := by
  intro f
  induction f with
  | zero =>
    intro at' ld given days now b hk hl hN
    have hk : at' = K := by omega
    subst hk
    show leafS given days now b = b
    unfold leafS
    rw [if_neg]
    unfold NBt at hN
    rw [hL.1, hL.2.1] at hN
    rcases hN with hN | hN
    · omega
    · omega
  | succ f ih =>
    intro at' ld given days now b hk hl hN
    obtain ⟨fd, d1, d2, d3⟩ := hL.2.2 at' (by omega)
    unfold NBt at hN
    rw [d1, d2] at hN
    have hlp : lpT (fun u => fit at' u && decide (ld u < 12)) (fun u b => fullS U fit pace f (at' + 1) (va_up ld u (ld u + 1)) (given + 1) (days + cutN (ld u + 1) (pace u)) (va_up now at' u) b) U b = b := by
      apply lpT_id
      intro u hu hc
      rw [Bool.and_eq_true, decide_eq_true_iff] at hc
      have h0 := hl u
      obtain ⟨e1, e2⟩ := d3 u hu hc.1 (by omega)
      apply ih (at' + 1) _ _ _ _ _ (by omega)
      · intro v
        unfold va_up
        split
        · rename_i hv; rw [hv]; omega
        · exact hl v
      · unfold NBt
        rw [if_pos e1] at hN
        have e3 : cutN (l0 u + 1) (pace u) ≤ cutN (ld u + 1) (pace u) := cutN_mono (by omega)
        omega
    show fullS U fit pace f (at' + 1) ld given days (va_up now at' U) (lpT _ _ U b) = b
    rw [hlp]
    apply ih (at' + 1) _ _ _ _ _ (by omega) hl
    unfold NBt
    by_cases hf : 0 < fd
    · rw [if_pos hf] at hN; omega
    · rw [if_neg hf] at hN; omega
/-- with the cut -/
def cutS (U : Nat) (fit : Nat → Nat → Bool) (pace ml dl : Nat → Nat) : Nat → Nat → (Nat → Nat) → Nat → Nat → (Nat → Nat) → (Int × Nat × (Nat → Nat)) → (Int × Nat × (Nat → Nat))
  | 0, at', _, given, days, now, b => if ((given + ml at' : Nat) : Int) < b.1 ∨ (((given + ml at' : Nat) : Int) = b.1 ∧ b.2.1 ≤ days + dl at') then b else ((given : Int), days, now)
  | f + 1, at', ld, given, days, now, b => if ((given + ml at' : Nat) : Int) < b.1 ∨ (((given + ml at' : Nat) : Int) = b.1 ∧ b.2.1 ≤ days + dl at') then b else cutS U fit pace ml dl f (at' + 1) ld given days (va_up now at' U) (lpT (fun u => fit at' u && decide (ld u < 12)) (fun u b => cutS U fit pace ml dl f (at' + 1) (va_up ld u (ld u + 1)) (given + 1) (days + cutN (ld u + 1) (pace u)) (va_up now at' u) b) U b)
theorem lpT_ext {can : Nat → Bool} {f g : Nat → (Int × Nat × (Nat → Nat)) → (Int × Nat × (Nat → Nat))} {b : Int × Nat × (Nat → Nat)} : ∀ n, (∀ u b, u < n → can u = true → f u b = g u b) → lpT can f n b = lpT can g n b := by
  intro n
  induction n with
  | zero => intro _; rfl
  | succ n ih =>
    intro h
    show (if can n then f n (lpT can f n b) else lpT can f n b) = (if can n then g n (lpT can g n b) else lpT can g n b)
    rw [ih (fun u b hu => h u b (by omega))]
    by_cases hc : can n = true
    · rw [if_pos hc, if_pos hc]; exact h n _ (by omega) hc
    · rw [if_neg hc, if_neg hc]
theorem cut_full {K U : Nat} {fit : Nat → Nat → Bool} {pace l0 ml dl : Nat → Nat} (hL : LkA K U fit pace l0 ml dl) : ∀ f at' ld given days now b, at' + f = K → (∀ u, l0 u ≤ ld u) → cutS U fit pace ml dl f at' ld given days now b = fullS U fit pace f at' ld given days now b := by
  intro f
  induction f with
  | zero =>
    intro at' ld given days now b hk hl
    have hk : at' = K := by omega
    subst hk
    show (if ((given + ml at' : Nat) : Int) < b.1 ∨ (((given + ml at' : Nat) : Int) = b.1 ∧ b.2.1 ≤ days + dl at') then b else ((given : Int), days, now)) = leafS given days now b
    rw [hL.1, hL.2.1]
    unfold leafS
    by_cases h1 : ((given + 0 : Nat) : Int) < b.1 ∨ (((given + 0 : Nat) : Int) = b.1 ∧ b.2.1 ≤ days + 0)
    · rw [if_pos h1, if_neg (by omega)]
    · rw [if_neg h1, if_pos (by omega)]
  | succ f ih =>
    intro at' ld given days now b hk hl
    show (if ((given + ml at' : Nat) : Int) < b.1 ∨ (((given + ml at' : Nat) : Int) = b.1 ∧ b.2.1 ≤ days + dl at') then b else cutS U fit pace ml dl f (at' + 1) ld given days (va_up now at' U) (lpT (fun u => fit at' u && decide (ld u < 12)) (fun u b => cutS U fit pace ml dl f (at' + 1) (va_up ld u (ld u + 1)) (given + 1) (days + cutN (ld u + 1) (pace u)) (va_up now at' u) b) U b)) = _
    by_cases hN : ((given + ml at' : Nat) : Int) < b.1 ∨ (((given + ml at' : Nat) : Int) = b.1 ∧ b.2.1 ≤ days + dl at')
    · rw [if_pos hN]
      exact (full_NB hL (f + 1) at' ld given days now b hk hl hN).symm
    · rw [if_neg hN, ih _ _ _ _ _ _ (by omega) hl]
      show _ = fullS U fit pace f (at' + 1) ld given days (va_up now at' U) (lpT _ _ U b)
      congr 1
      apply lpT_ext
      intro u b hu hc
      apply ih _ _ _ _ _ _ (by omega)
      intro v
      unfold va_up
      split
      · rename_i hv; rw [hv]; have := hl u; omega
      · exact hl v
