/-- what is made stays made, where it was made -/
def Mn (σ τ : St) : Prop := gH σ ≤ gH τ ∧ gS σ ≤ gS τ ∧ (∀ c i, i < gN σ c → i < gN τ c ∧ gT τ c 0 i = gT σ c 0 i) ∧ (∀ c k i n, i < gN σ c → gL σ c k i = some n → gL τ c k i = some n ∧ gT τ c (k + 1) i = gT σ c (k + 1) i)
theorem Mn.rf (σ : St) : Mn σ σ := ⟨Nat.le_refl _, Nat.le_refl _, fun _ _ h => ⟨h, rfl⟩, fun _ _ _ _ _ h => ⟨h, rfl⟩⟩
theorem Mn.tr {σ τ υ : St} (h : Mn σ τ) (h2 : Mn τ υ) : Mn σ υ :=
  ⟨Nat.le_trans h.1 h2.1, Nat.le_trans h.2.1 h2.2.1, fun c i hi => ⟨(h2.2.2.1 c i (h.2.2.1 c i hi).1).1, ((h2.2.2.1 c i (h.2.2.1 c i hi).1).2).trans (h.2.2.1 c i hi).2⟩,
   fun c k i n hi hl => ⟨(h2.2.2.2 c k i n (h.2.2.1 c i hi).1 (h.2.2.2 c k i n hi hl).1).1, ((h2.2.2.2 c k i n (h.2.2.1 c i hi).1 (h.2.2.2 c k i n hi hl).1).2).trans (h.2.2.2 c k i n hi hl).2⟩⟩
theorem Mn.I (σ : St) (c k i : Nat) (v : Int32) : Mn σ (setI σ c k i v) := Mn.rf σ
theorem Mn.A (σ : St) (c k i : Nat) (v : Nat → Int32) : Mn σ (setA σ c k i v) := Mn.rf σ
theorem Mn.R (σ : St) (c k i : Nat) (v : Option Nat) : Mn σ (setR σ c k i v) := Mn.rf σ
theorem Mn.Q (σ : St) (c k i : Nat) (v : Nat → Option Nat) : Mn σ (setQ σ c k i v) := Mn.rf σ
theorem Mn.O (σ : St) (c : Nat) : Mn σ (newO σ c) := by
  refine ⟨Nat.le_succ _, Nat.le_add_right _ _, fun a i hi => ⟨?_, ?_⟩, fun a k i n hi hl => ⟨?_, ?_⟩⟩
  · show i < if a = c then gN σ c + 1 else gN σ a
    by_cases h : a = c
    · rw [if_pos h]; rw [h] at hi; omega
    · rw [if_neg h]; exact hi
  · show up3 _ c 0 (gN σ c) _ a 0 i = gT σ a 0 i
    unfold up3
    rw [if_neg]
    · rfl
    · rintro ⟨h1, -, h3⟩
      rw [h1] at hi; omega
  · show rs3 _ c (gN σ c) none a k i = some n
    unfold rs3
    rw [if_neg]
    · exact hl
    · rintro ⟨h1, h3⟩
      rw [h1] at hi; omega
  · show up3 _ c 0 (gN σ c) _ a (k + 1) i = gT σ a (k + 1) i
    unfold up3
    rw [if_neg]
    · rfl
    · rintro ⟨-, h3, -⟩
      omega
theorem Mn.W (σ : St) (c k i n : Nat) (h : gL σ c k i = none) : Mn σ (newA σ c k i n) := by
  refine ⟨Nat.le_succ _, Nat.le_add_right _ _, fun a j hi => ⟨hi, ?_⟩, fun a b j n' hi hl => ⟨?_, ?_⟩⟩
  · show up3 _ c (k + 1) i _ a 0 j = gT σ a 0 j
    unfold up3
    rw [if_neg]
    · rfl
    · rintro ⟨-, h3, -⟩; omega
  · show up3 _ c k i (some n) a b j = some n'
    unfold up3
    rw [if_neg]
    · exact hl
    · rintro ⟨rfl, rfl, rfl⟩
      rw [h] at hl; cases hl
  · show up3 _ c (k + 1) i _ a (b + 1) j = gT σ a (b + 1) j
    unfold up3
    rw [if_neg]
    · rfl
    · rintro ⟨rfl, h2, rfl⟩
      have : b = k := by omega
      subst this
      rw [h] at hl; cases hl
def Nn (σ : St) (x : Rs) : Prop := match x with
  | none => True
  | some (.inl c) => Mn σ c.2.2.2.2
  | some (.inr (.inl (_, τ))) => Mn σ τ
  | some (.inr (.inr (_, _, c))) => c.2.2.2.2 = σ
theorem Nn_no {σ : St} : Nn σ none := trivial
theorem Nn_nx {σ τ : St} {μ pc : Nat} {ls : List (Option AV)} {st : List AV} (h : Mn σ τ) : Nn σ (nx μ pc ls st τ) := h
theorem Nn_jm {σ τ : St} {μ pc : Nat} {off : Int} {ls : List (Option AV)} {st : List AV} (h : Mn σ τ) : Nn σ (jm μ pc off ls st τ) := by
  unfold jm; split
  · exact h
  · trivial
theorem Nn_ret {σ : St} {r : Option AV} : Nn σ (rtn r σ) := Mn.rf σ
theorem Nn_I {σ : St} {st : List AV} {k : Int32 → List AV → Rs} (h : ∀ x r, Nn σ (k x r)) : Nn σ (popI st k) := by
  unfold popI; split
  · exact h _ _
  · trivial
theorem Nn_L {σ : St} {st : List AV} {k : Int64 → List AV → Rs} (h : ∀ x r, Nn σ (k x r)) : Nn σ (popL st k) := by
  unfold popL; split
  · exact h _ _
  · trivial
theorem Nn_R {σ : St} {st : List AV} {k : Option (Nat × Nat × Nat) → List AV → Rs} (h : ∀ x r, Nn σ (k x r)) : Nn σ (popR st k) := by
  unfold popR; split
  · exact h _ _
  · trivial
theorem Nn_O {c : Nat} {σ τ : St} {st : List AV} {k : Nat → List AV → Rs} (h : ∀ x r, Nn σ (k x r)) : Nn σ (popO c τ st k) := by
  unfold popO; split
  · split
    · exact h _ _
    · trivial
  · trivial
theorem Nn_W {σ τ : St} {st : List AV} {k : Nat → Nat → Nat → Nat → List AV → Rs} (h : ∀ a b c d r, Nn σ (k a b c d r)) : Nn σ (popW τ st k) := by
  unfold popW; split
  · split
    · split
      · exact h _ _ _ _ _
      · trivial
    · trivial
  · trivial
theorem Nn_lI {σ : St} {ls : List (Option AV)} {i : Nat} {k : Int32 → Rs} (h : ∀ x, Nn σ (k x)) : Nn σ (ldI ls i k) := by
  unfold ldI; split
  · exact h _
  · trivial
theorem Nn_lL {σ : St} {ls : List (Option AV)} {i : Nat} {k : Int64 → Rs} (h : ∀ x, Nn σ (k x)) : Nn σ (ldL ls i k) := by
  unfold ldL; split
  · exact h _
  · trivial
theorem Nn_lR {σ : St} {ls : List (Option AV)} {i : Nat} {k : Option (Nat × Nat × Nat) → Rs} (h : ∀ x, Nn σ (k x)) : Nn σ (ldR ls i k) := by
  unfold ldR; split
  · exact h _
  · trivial
theorem Nn_bin {σ : St} {st : List AV} {f : Int32 → Int32 → Int32} {k : List AV → Rs} (h : ∀ r, Nn σ (k r)) : Nn σ (bin st f k) := Nn_I fun _ _ => Nn_I fun _ _ => h _
theorem Nn_binL {σ : St} {st : List AV} {f : Int64 → Int64 → Int64} {k : List AV → Rs} (h : ∀ r, Nn σ (k r)) : Nn σ (binL st f k) := Nn_L fun _ _ => Nn_L fun _ _ => h _
theorem Nn_binS {σ : St} {st : List AV} {f : Int64 → Int32 → Int64} {k : List AV → Rs} (h : ∀ r, Nn σ (k r)) : Nn σ (binS st f k) := Nn_I fun _ _ => Nn_L fun _ _ => h _
theorem Nn_jg {σ : St} {pc : Nat} {off : Int} {k : Nat → Rs} (h : ∀ t, Nn σ (k t)) : Nn σ (jg pc off k) := by
  unfold jg; split
  · exact h _
  · trivial
theorem Nn_br {σ : St} {c : Prop} [Decidable c] {a b : Rs} (h1 : Nn σ a) (h2 : Nn σ b) : Nn σ (br c a b) := by
  unfold br; split
  · exact h1
  · exact h2
theorem Nn_call {σ : St} {μ' : Nat} {a : List AV} {μ pc : Nat} {ls : List (Option AV)} {r : List AV} : Nn σ (call μ' a μ pc ls r σ) := by
  unfold call; split
  · rfl
  · trivial
theorem Nn_getf {σ τ : St} {c k i : Nat} {K : AV → Rs} (h : ∀ v, Nn σ (K v)) : Nn σ (getf τ c k i K) := by
  unfold getf; split
  · exact h _
  · split
    · exact h _
    · split
      · trivial
      · exact h _
theorem Nn_putf {σ : St} {μ nst c k i : Nat} {v : AV} {K : St → Rs} (h : ∀ τ, Mn σ τ → Nn σ (K τ)) : Nn σ (putf μ nst σ c k i v K) := by
  unfold putf
  split
  · split
    · split
      · split
        · exact h _ (Mn.I _ _ _ _ _)
        · trivial
      · trivial
    · split
      · split
        · exact h _ (Mn.R _ _ _ _ _)
        · split
          · exact h _ (Mn.R _ _ _ _ _)
          · trivial
        · trivial
      · trivial
  · trivial
theorem Nn_newW {σ : St} {μ pc : Nat} {ls : List (Option AV)} {st : List AV} {f : Nat × Nat → Bool} : Nn σ (newW μ pc ls st σ f) := by
  unfold newW
  split
  · split
    · refine Nn_I fun n r => Nn_O fun i r => ?_
      split
      · next h => exact Nn_nx (Mn.W _ _ _ _ _ h.2.2.2.2.1)
      · trivial
    · trivial
  · trivial
theorem Nn_ald {σ : St} {t μ pc : Nat} {ls : List (Option AV)} {st : List AV} {ok : Nat → Bool} : Nn σ (ald t μ pc ls st σ ok) := by
  unfold ald
  refine Nn_I fun n r => Nn_W fun _ _ _ _ r => ?_
  split
  · exact Nn_nx (Mn.rf _)
  · trivial
theorem Nn_ast {σ : St} {μ pc : Nat} {ls : List (Option AV)} {st : List AV} {ok : Nat → Bool} : Nn σ (ast μ pc ls st σ ok) := by
  unfold ast
  refine Nn_I fun n r => Nn_I fun n r => Nn_W fun _ _ _ _ r => ?_
  split
  · exact Nn_nx (Mn.A _ _ _ _ _)
  · trivial
theorem Nn_acopy {σ : St} {μ pc : Nat} {ls : List (Option AV)} {st : List AV} : Nn σ (acopy μ pc ls st σ) := by
  unfold acopy
  refine Nn_I fun n r => Nn_I fun n r => Nn_W fun _ _ _ _ r => Nn_I fun n r => Nn_W fun _ _ _ _ r => ?_
  split
  · exact Nn_nx (Mn.A _ _ _ _ _)
  · trivial
theorem ex_Nn (i : Instr) (n μ pc : Nat) (ls : List (Option AV)) (st : List AV) (σ : St) : Nn σ (ex i n μ pc ls st σ) := by
  unfold ex
  split
  all_goals repeat' (first | exact Nn_no | exact Nn_ret | exact Nn_call | exact Nn_newW | exact Nn_ald | exact Nn_ast | exact Nn_acopy | exact Nn_nx (Mn.rf _) | exact Nn_nx (Mn.O _ _) | exact Nn_nx (Mn.Q _ _ _ _ _) | exact Nn_jm (Mn.rf _) | (refine Nn_bin ?_; intro _) | (refine Nn_binL ?_; intro _) | (refine Nn_binS ?_; intro _) | (refine Nn_I ?_; intro _ _) | (refine Nn_L ?_; intro _ _) | (refine Nn_R ?_; intro _ _) | (refine Nn_O ?_; intro _ _) | (refine Nn_W ?_; intro _ _ _ _ _) | (refine Nn_lI ?_; intro _) | (refine Nn_lL ?_; intro _) | (refine Nn_lR ?_; intro _) | refine Nn_br ?_ ?_ | (refine Nn_jg ?_; intro _) | (refine Nn_getf ?_; intro _) | exact Nn_putf (fun _ h => Nn_nx h) | split)
theorem nxt_Nn (c : Cfg) : Nn c.2.2.2.2 (nxt c) := by
  unfold nxt
  split
  · exact ex_Nn _ _ _ _ _ _ _
  · trivial
theorem Rn_Mn {d : Nat} {r : Option AV} {τ : St} : ∀ {c : Cfg}, Rn d (fun r' σ' => r' = r ∧ σ' = τ) c → Mn c.2.2.2.2 τ := by
  induction d generalizing r τ with
  | zero =>
    intro c h
    refine h (fun c => Mn c.2.2.2.2 τ) (fun c hc => ?_)
    have hn := nxt_Nn c
    cases hx : nxt c with
    | none => rw [hx] at hc; exact hc.elim
    | some x =>
      rw [hx] at hc hn
      match x, hc, hn with
      | .inl c', hc, hn => exact hn.tr hc
      | .inr (.inl (r', σ)), hc, hn => obtain ⟨-, rfl⟩ := hc; exact hn
      | .inr (.inr (μ', a, (μ, pc, ls, st, σ))), hc, hn => exact hc.elim
  | succ d ih =>
    intro c h
    refine h (fun c => Mn c.2.2.2.2 τ) (fun c hc => ?_)
    have hn := nxt_Nn c
    cases hx : nxt c with
    | none => rw [hx] at hc; exact hc.elim
    | some x =>
      rw [hx] at hc hn
      match x, hc, hn with
      | .inl c', hc, hn => exact hn.tr hc
      | .inr (.inl (r', σ)), hc, hn => obtain ⟨-, rfl⟩ := hc; exact hn
      | .inr (.inr (μ', a, (μ, pc, ls, st, σ))), hc, hn =>
        obtain ⟨r1, σ1, h1, h2⟩ := Rn_one hc
        have h3 : Mn σ σ1 := ih h2
        have h4 : σ = c.2.2.2.2 := hn
        rw [← h4]
        exact h3.tr h1
