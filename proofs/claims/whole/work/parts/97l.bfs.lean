/-- pure: what a search in breadth finds -/
def Rch (nx : Nat → Nat → Nat) (op : Nat → Nat → Bool) : Nat → Nat → Prop
  | 0, v => v = 0
  | n + 1, v => ∃ u i, Rch nx op n u ∧ i < 8 ∧ op u i = true ∧ v = nx u i
def ResN (nx : Nat → Nat → Nat) (op : Nat → Nat → Bool) (goal : Nat → Bool) (r : Option Nat) : Prop := match r with
  | none => ∀ n v, Rch nx op n v → goal v = false
  | some d => (∃ v, Rch nx op d v ∧ goal v = true) ∧ ∀ n, n < d → ∀ v, Rch nx op n v → goal v = false
theorem ResN_un {nx nx' : Nat → Nat → Nat} {op op' : Nat → Nat → Bool} {goal goal' : Nat → Bool} {r r' : Option Nat} (h1 : ResN nx op goal r) (h2 : ResN nx' op' goal' r') (ha : ∀ n v, Rch nx op n v → ∃ v', Rch nx' op' n v' ∧ goal' v' = goal v) (hb : ∀ n v, Rch nx' op' n v → ∃ v', Rch nx op n v' ∧ goal v' = goal' v) : r = r' := by
  cases r with
  | none =>
    cases r' with
    | none => rfl
    | some d' =>
      obtain ⟨⟨v, k1, k2⟩, -⟩ := h2
      obtain ⟨v', k3, k4⟩ := hb d' v k1
      have := h1 d' v' k3
      rw [k4, k2] at this
      cases this
  | some d =>
    obtain ⟨⟨v, k1, k2⟩, k3⟩ := h1
    obtain ⟨v', k4, k5⟩ := ha d v k1
    cases r' with
    | none =>
      have := h2 d v' k4
      rw [k5, k2] at this
      cases this
    | some d' =>
      obtain ⟨⟨w, l1, l2⟩, l3⟩ := h2
      obtain ⟨w', l4, l5⟩ := hb d' w l1
      congr 1
      rcases Nat.lt_trichotomy d d' with hlt | heq | hgt
      · have := l3 d hlt v' k4
        rw [k5, k2] at this
        cases this
      · exact heq
      · have := k3 d' hgt w' l4
        rw [l5, l2] at this
        cases this
/-- so many different numbers below m are at most m -/
theorem php : ∀ (m n : Nat) (f : Nat → Nat), (∀ j, j < n → f j < m) → (∀ j k, j < n → k < n → f j = f k → j = k) → n ≤ m := by
  intro m
  induction m with
  | zero =>
    intro n f h1 h2
    cases n with
    | zero => exact Nat.le_refl _
    | succ n => exact absurd (h1 0 (by omega)) (by omega)
  | succ m ih =>
    intro n f h1 h2
    cases n with
    | zero => omega
    | succ n =>
      by_cases hx : ∃ j, j < n + 1 ∧ f j = m
      · obtain ⟨j0, hj0, hf0⟩ := hx
        have := ih n (fun j => if j < j0 then f j else f (j + 1)) (fun j hj => by
          show (if j < j0 then f j else f (j + 1)) < m
          by_cases hjj : j < j0
          · rw [if_pos hjj]
            have a1 := h1 j (by omega)
            have a2 : f j ≠ m := fun z => by have := h2 j j0 (by omega) hj0 (by rw [z, hf0]); omega
            omega
          · rw [if_neg hjj]
            have a1 := h1 (j + 1) (by omega)
            have a2 : f (j + 1) ≠ m := fun z => by have := h2 (j + 1) j0 (by omega) hj0 (by rw [z, hf0]); omega
            omega) (fun j k hj hk he => by
          have he : (if j < j0 then f j else f (j + 1)) = (if k < j0 then f k else f (k + 1)) := he
          by_cases a1 : j < j0
          · rw [if_pos a1] at he
            by_cases a2 : k < j0
            · rw [if_pos a2] at he
              exact h2 j k (by omega) (by omega) he
            · rw [if_neg a2] at he
              have := h2 j (k + 1) (by omega) (by omega) he
              omega
          · rw [if_neg a1] at he
            by_cases a2 : k < j0
            · rw [if_pos a2] at he
              have := h2 (j + 1) k (by omega) (by omega) he
              omega
            · rw [if_neg a2] at he
              have := h2 (j + 1) (k + 1) (by omega) (by omega) he
              omega)
        omega
      · have := ih (n + 1) f (fun j hj => by
          have a1 := h1 j hj
          have a2 : f j ≠ m := fun z => hx ⟨j, hj, z⟩
          omega) h2
        omega
def BI (nx : Nat → Nat → Nat) (op : Nat → Nat → Bool) (goal : Nat → Bool) (h i : Nat) (V : Nat → Bool) (dn q : Nat → Nat) (t : Nat) : Prop := (h ≤ t ∧ 1 ≤ t ∧ t ≤ 256 ∧ V 0 = true ∧ dn 0 = 0) ∧ (∀ j, j < t → q j < 256 ∧ V (q j) = true ∧ dn (q j) ≤ j ∧ Rch nx op (dn (q j)) (q j)) ∧ (∀ j k, j < t → k < t → q j = q k → j = k) ∧ (∀ w, V w = true → ∃ j, j < t ∧ q j = w) ∧ (∀ j k, j ≤ k → k < t → dn (q j) ≤ dn (q k)) ∧ (h < t → ∀ j, j < t → dn (q j) ≤ dn (q h) + 1) ∧ (∀ j, j < h → goal (q j) = false ∧ ∀ i, i < 8 → op (q j) i = true → V (nx (q j) i) = true ∧ dn (nx (q j) i) ≤ dn (q j) + 1) ∧ ∀ i', i' < i → op (q h) i' = true → V (nx (q h) i') = true ∧ dn (nx (q h) i') ≤ dn (q h) + 1
section BFS
variable {nx : Nat → Nat → Nat} {op : Nat → Nat → Bool} {goal V : Nat → Bool} {h i t : Nat} {dn q : Nat → Nat}
theorem BI_0 : BI nx op goal 0 0 (fun w => decide (w = 0)) (fun _ => 0) (fun _ => 0) 1 := by
  refine ⟨⟨by omega, by omega, by omega, rfl, rfl⟩, fun j hj => ⟨by show (0 : Nat) < 256; omega, rfl, Nat.zero_le _, rfl⟩, fun j k hj hk _ => by omega, fun w hw => ⟨0, by omega, ?_⟩, fun j k _ _ => Nat.le_refl _, fun _ j _ => Nat.zero_le _, fun j hj => absurd hj (by omega), fun i' hi' => absurd hi' (by omega)⟩
  rw [decide_eq_true_iff] at hw
  exact hw.symm
theorem BI_skip (hB : BI nx op goal h i V dn q t) (ht : h < t) (hi : op (q h) i = true → V (nx (q h) i) = true) : BI nx op goal h (i + 1) V dn q t := by
  obtain ⟨b1, b2, b3, b4, b5, b6, b7, b8⟩ := hB
  refine ⟨b1, b2, b3, b4, b5, b6, b7, fun i' hi' ho => ?_⟩
  by_cases he : i' = i
  · subst he
    have hv := hi ho
    obtain ⟨j, j1, j2⟩ := b4 _ hv
    refine ⟨hv, ?_⟩
    rw [← j2]
    exact b6 ht j j1
  · exact b8 i' (by omega) ho
theorem BI_add (hB : BI nx op goal h i V dn q t) (ht : h < t) (hi : i < 8) (hnx : nx (q h) i < 256) (ho : op (q h) i = true) (hV : V (nx (q h) i) = false) : t < 256 ∧ BI nx op goal h (i + 1) (va_up V (nx (q h) i) true) (va_up dn (nx (q h) i) (dn (q h) + 1)) (va_up q t (nx (q h) i)) (t + 1) := by
  obtain ⟨b1, b2, b3, b4, b5, b6, b7, b8⟩ := hB
  generalize hw : nx (q h) i = w at *
  have hne : ∀ j, j < t → q j ≠ w := fun j hj z => by have := (b2 j hj).2.1; rw [z, hV] at this; cases this
  have hinj : ∀ j k, j < t + 1 → k < t + 1 → va_up q t w j = va_up q t w k → j = k := by
    intro j k hj hk he
    by_cases a1 : j = t
    · by_cases a2 : k = t
      · omega
      · rw [a1, vaS, va_up_ne _ _ a2] at he
        exact absurd he.symm (hne k (by omega))
    · rw [va_up_ne _ _ a1] at he
      by_cases a2 : k = t
      · rw [a2, vaS] at he
        exact absurd he (hne j (by omega))
      · rw [va_up_ne _ _ a2] at he
        exact b3 j k (by omega) (by omega) he
  have hlt : ∀ j, j < t + 1 → va_up q t w j < 256 := by
    intro j hj
    by_cases a1 : j = t
    · rw [a1, vaS]; exact hnx
    · rw [va_up_ne _ _ a1]; exact (b2 j (by omega)).1
  have hp := php 256 (t + 1) (va_up q t w) hlt hinj
  have qh : va_up q t w h = q h := va_up_ne _ _ (by omega)
  have hdo : ∀ j, j < t → va_up dn w (dn (q h) + 1) (q j) = dn (q j) := fun j hj => va_up_ne _ _ (hne j hj)
  have hVm : ∀ z, V z = true → va_up V w true z = true := by
    intro z hz
    by_cases a1 : z = w
    · rw [a1, vaS]
    · rw [va_up_ne _ _ a1]; exact hz
  have hsu : ∀ j i', j < t → (V (nx (q j) i') = true ∧ dn (nx (q j) i') ≤ dn (q j) + 1) → va_up V w true (nx (q j) i') = true ∧ va_up dn w (dn (q h) + 1) (nx (q j) i') ≤ va_up dn w (dn (q h) + 1) (q j) + 1 := by
    intro j i' hj hz
    refine ⟨hVm _ hz.1, ?_⟩
    rw [hdo j hj, va_up_ne _ _ (fun z => by rw [z, hV] at hz; cases hz.1)]
    exact hz.2
  refine ⟨by omega, ⟨⟨by omega, by omega, by omega, hVm 0 b1.2.2.2.1, ?_⟩, fun j hj => ?_, hinj, fun z hz => ?_, fun j k hjk hk => ?_, fun _ j hj => ?_, fun j hj => ?_, fun i' hi' ho' => ?_⟩⟩
  · rw [va_up_ne _ _ (fun z => by rw [← z, b1.2.2.2.1] at hV; cases hV)]
    exact b1.2.2.2.2
  · refine ⟨hlt j hj, ?_⟩
    by_cases a1 : j = t
    · subst a1
      rw [vaS, vaS, vaS]
      have b2h := b2 h ht
      refine ⟨rfl, by omega, q h, i, b2h.2.2.2, hi, ho, hw.symm⟩
    · rw [va_up_ne _ _ a1]
      obtain ⟨c1, c2, c3, c4⟩ := b2 j (by omega)
      rw [hdo j (by omega)]
      exact ⟨hVm _ c2, c3, c4⟩
  · by_cases a1 : z = w
    · exact ⟨t, by omega, by rw [vaS, a1]⟩
    · rw [va_up_ne _ _ a1] at hz
      obtain ⟨j, j1, j2⟩ := b4 z hz
      exact ⟨j, by omega, by rw [va_up_ne _ _ (by omega), j2]⟩
  · by_cases a2 : k = t
    · rw [a2, vaS, vaS]
      by_cases a1 : j = t
      · rw [a1, vaS, vaS]; exact Nat.le_refl _
      · rw [va_up_ne _ _ a1, hdo j (by omega)]
        exact b6 ht j (by omega)
    · rw [va_up_ne q _ a2, va_up_ne q _ (show j ≠ t by omega), hdo j (by omega), hdo k (by omega)]
      exact b5 j k hjk (by omega)
  · rw [qh, hdo h ht]
    by_cases a1 : j = t
    · rw [a1, vaS, vaS]; exact Nat.le_refl _
    · rw [va_up_ne _ _ a1, hdo j (by omega)]
      exact b6 ht j (by omega)
  · rw [va_up_ne _ _ (by omega)]
    exact ⟨(b7 j hj).1, fun i' hi' ho' => hsu j i' (by omega) ((b7 j hj).2 i' hi' ho')⟩
  · rw [qh] at ho' ⊢
    by_cases he : i' = i
    · rw [he, hw, vaS, vaS, hdo h ht]; exact ⟨rfl, Nat.le_refl _⟩
    · exact hsu h i' ht (b8 i' (by omega) ho')
theorem BI_next (hB : BI nx op goal h 8 V dn q t) (ht : h < t) (hg : goal (q h) = false) : BI nx op goal (h + 1) 0 V dn q t := by
  obtain ⟨b1, b2, b3, b4, b5, b6, b7, b8⟩ := hB
  refine ⟨⟨by omega, b1.2⟩, b2, b3, b4, b5, fun h1 j hj => ?_, fun j hj => ?_, fun i' hi' => absurd hi' (by omega)⟩
  · have := b6 ht j hj
    have := b5 h (h + 1) (by omega) h1
    omega
  · by_cases he : j = h
    · rw [he]; exact ⟨hg, b8⟩
    · exact b7 j (by omega)
theorem BI_goal (hB : BI nx op goal h 0 V dn q t) (ht : h < t) (hg : goal (q h) = true) : ResN nx op goal (some (dn (q h))) := by
  obtain ⟨b1, b2, b3, b4, b5, b6, b7, b8⟩ := hB
  refine ⟨⟨q h, (b2 h ht).2.2.2, hg⟩, ?_⟩
  have key : ∀ n, n < dn (q h) → ∀ v, Rch nx op n v → ∃ j, j < h ∧ q j = v ∧ dn v ≤ n := by
    intro n
    induction n with
    | zero =>
      intro hn v hv
      have hv : v = 0 := hv
      obtain ⟨j, j1, j2⟩ := b4 0 b1.2.2.2.1
      refine ⟨j, ?_, by rw [j2, hv], by rw [hv, b1.2.2.2.2]; exact Nat.le_refl _⟩
      apply Nat.lt_of_not_le
      intro z
      have := b5 h j z j1
      rw [j2, b1.2.2.2.2] at this
      omega
    | succ n ih =>
      intro hn v hv
      obtain ⟨u, i', k1, k2, k3, k4⟩ := hv
      obtain ⟨j, j1, j2, j3⟩ := ih (by omega) u k1
      obtain ⟨l1, l2⟩ := (b7 j j1).2 i' k2 (by rw [j2]; exact k3)
      rw [j2, ← k4] at l1 l2
      obtain ⟨j', m1, m2⟩ := b4 v l1
      refine ⟨j', ?_, m2, by omega⟩
      apply Nat.lt_of_not_le
      intro z
      have := b5 h j' z m1
      rw [m2] at this
      omega
  intro n hn v hv
  obtain ⟨j, j1, j2, j3⟩ := key n hn v hv
  rw [← j2]
  exact (b7 j j1).1
theorem BI_none (hB : BI nx op goal h 0 V dn q t) (ht : ¬ h < t) : ResN nx op goal none := by
  obtain ⟨b1, b2, b3, b4, b5, b6, b7, b8⟩ := hB
  have key : ∀ n, ∀ v, Rch nx op n v → V v = true := by
    intro n
    induction n with
    | zero => intro v hv; have hv : v = 0 := hv; rw [hv]; exact b1.2.2.2.1
    | succ n ih =>
      intro v hv
      obtain ⟨u, i', k1, k2, k3, k4⟩ := hv
      obtain ⟨j, j1, j2⟩ := b4 u (ih u k1)
      rw [k4, ← j2]
      exact ((b7 j (by omega)).2 i' k2 (by rw [j2]; exact k3)).1
  intro n v hv
  obtain ⟨j, j1, j2⟩ := b4 v (key n v hv)
  rw [← j2]
  exact (b7 j (by omega)).1
end BFS
/-- some number below n -/
def anyB (P : Nat → Bool) : Nat → Bool
  | 0 => false
  | n + 1 => anyB P n || P n
theorem anyB_iff {P : Nat → Bool} : ∀ n, anyB P n = true ↔ ∃ i, i < n ∧ P i = true := by
  intro n
  induction n with
  | zero =>
    constructor
    · intro z; cases z
    · rintro ⟨i, h, -⟩; omega
  | succ n ih =>
    show (anyB P n || P n) = true ↔ _
    rw [Bool.or_eq_true, ih]
    constructor
    · rintro (⟨i, h1, h2⟩ | h)
      · exact ⟨i, by omega, h2⟩
      · exact ⟨n, by omega, h⟩
    · rintro ⟨i, h1, h2⟩
      by_cases he : i = n
      · exact Or.inr (he ▸ h2)
      · exact Or.inl ⟨i, by omega, h2⟩
/-- all told lessons that bear the name of one of s -/
def clS (b : Nat) (nm : Nat → Int32) (s : Nat) : Nat := accB (fun l => b.testBit l && anyB (fun l' => s.testBit l' && decide (nm l' = nm l)) 8) 8
def nlS (b : Nat) (nm : Nat → Int32) (i : Nat) : Nat := accB (fun l => b.testBit l && decide (nm l = nm i)) 8
theorem cl_0' {b : Nat} {nm : Nat → Int32} : clS b nm 0 = 0 := by
  apply Nat.eq_of_testBit_eq
  intro l
  unfold clS
  rw [accB_tb, Nat.zero_testBit]
  cases h : anyB (fun l' => (0 : Nat).testBit l' && decide (nm l' = nm l)) 8 with
  | false => rw [Bool.and_false, Bool.and_false]
  | true =>
    obtain ⟨i, h1, h2⟩ := (anyB_iff 8).mp h
    rw [Nat.zero_testBit, Bool.false_and] at h2
    cases h2
theorem cl_or {b i s : Nat} {nm : Nat → Int32} (hi : i < 8) : clS b nm (s ||| 2 ^ i) = clS b nm s ||| nlS b nm i := by
  apply Nat.eq_of_testBit_eq
  intro l
  unfold clS nlS
  rw [Nat.testBit_or, accB_tb, accB_tb, accB_tb]
  have e : anyB (fun l' => (s ||| 2 ^ i).testBit l' && decide (nm l' = nm l)) 8 = (anyB (fun l' => s.testBit l' && decide (nm l' = nm l)) 8 || decide (nm l = nm i)) := by
    rw [Bool.eq_iff_iff, Bool.or_eq_true, anyB_iff, anyB_iff, decide_eq_true_iff]
    constructor
    · rintro ⟨j, h1, h2⟩
      rw [Bool.and_eq_true, Nat.testBit_or, Bool.or_eq_true, Nat.testBit_two_pow, decide_eq_true_iff, decide_eq_true_iff] at h2
      rcases h2.1 with h3 | h3
      · exact Or.inl ⟨j, h1, by rw [h3, decide_eq_true h2.2]; rfl⟩
      · exact Or.inr (by rw [h3]; exact h2.2.symm)
    · rintro (⟨j, h1, h2⟩ | h)
      · rw [Bool.and_eq_true] at h2
        exact ⟨j, h1, by rw [Nat.testBit_or, h2.1, h2.2]; rfl⟩
      · exact ⟨i, hi, by rw [Nat.testBit_or, Nat.testBit_two_pow, decide_eq_true rfl, decide_eq_true h.symm, Bool.or_true]; rfl⟩
  rw [e]
  cases decide (l < 8) <;> cases b.testBit l <;> cases anyB (fun l' => s.testBit l' && decide (nm l' = nm l)) 8 <;> cases decide (nm l = nm i) <;> rfl
