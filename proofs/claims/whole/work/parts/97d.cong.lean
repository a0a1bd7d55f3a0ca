def EQv (K : Nat) (b b' : Int × Nat × (Nat → Nat)) : Prop := b.1 = b'.1 ∧ b.2.1 = b'.2.1 ∧ ∀ j, j < K → b.2.2 j = b'.2.2 j
theorem lpT_cong {K : Nat} {can : Nat → Bool} {f g : Nat → (Int × Nat × (Nat → Nat)) → (Int × Nat × (Nat → Nat))} : ∀ n b b', (∀ u b b', u < n → EQv K b b' → EQv K (f u b) (g u b')) → EQv K b b' → EQv K (lpT can f n b) (lpT can g n b') := by
  intro n
  induction n with
  | zero => intro b b' _ h; exact h
  | succ n ih =>
    intro b b' hf h
    have h1 := ih b b' (fun u b b' hu => hf u b b' (by omega)) h
    show EQv K (if can n then f n (lpT can f n b) else lpT can f n b) (if can n then g n (lpT can g n b') else lpT can g n b')
    by_cases hc : can n = true
    · rw [if_pos hc, if_pos hc]; exact hf n _ _ (by omega) h1
    · rw [if_neg hc, if_neg hc]; exact h1
theorem full_cong {K U : Nat} {fit : Nat → Nat → Bool} {pace : Nat → Nat} : ∀ f at' ld given days now now' b b', at' + f = K → (∀ j, j < at' → now j = now' j) → EQv K b b' → EQv K (fullS U fit pace f at' ld given days now b) (fullS U fit pace f at' ld given days now' b') := by
  intro f
  induction f with
  | zero =>
    intro at' ld given days now now' b b' hk hn h
    show EQv K (leafS given days now b) (leafS given days now' b')
    unfold leafS
    rw [h.1, h.2.1]
    by_cases hc : b'.1 < (given : Int) ∨ (b'.1 = (given : Int) ∧ days < b'.2.1)
    · rw [if_pos hc, if_pos hc]
      exact ⟨rfl, rfl, fun j hj => hn j (by omega)⟩
    · rw [if_neg hc, if_neg hc]; exact h
  | succ f ih =>
    intro at' ld given days now now' b b' hk hn h
    have hup : ∀ u j, j < at' + 1 → va_up now at' u j = va_up now' at' u j := by
      intro u j hj
      unfold va_up
      by_cases hja : j = at'
      · rw [if_pos hja, if_pos hja]
      · rw [if_neg hja, if_neg hja]; exact hn j (by omega)
    show EQv K (fullS U fit pace f (at' + 1) ld given days (va_up now at' U) (lpT _ _ U b)) (fullS U fit pace f (at' + 1) ld given days (va_up now' at' U) (lpT _ _ U b'))
    apply ih _ _ _ _ _ _ _ _ (by omega) (hup U)
    apply lpT_cong _ _ _ _ h
    intro u b b' hu hb
    exact ih _ _ _ _ _ _ _ _ (by omega) (hup u) hb
