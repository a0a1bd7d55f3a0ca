/-- the script's row stays as it is -/
def Mk (σ τ : St) : Prop := gA τ 13 = gA σ 13
theorem Mk.rf (σ : St) : Mk σ σ := rfl
theorem Mk.tr {σ τ υ : St} (h : Mk σ τ) (h2 : Mk τ υ) : Mk σ υ := Eq.trans h2 h
theorem Mk.I (σ : St) (c k i : Nat) (v : Int32) : Mk σ (setI σ c k i v) := rfl
theorem Mk.A (σ : St) (c k i : Nat) (v : Nat → Int32) (h : c < 13) : Mk σ (setA σ c k i v) := by
  funext b
  rw [AA, if_neg (fun z => by omega)]
theorem Mk.R (σ : St) (c k i : Nat) (v : Option Nat) : Mk σ (setR σ c k i v) := rfl
theorem Mk.Q (σ : St) (c k i : Nat) (v : Nat → Option Nat) : Mk σ (setQ σ c k i v) := rfl
theorem Mk.O (σ : St) (c : Nat) : Mk σ (newO σ c) := rfl
theorem Mk.W (σ : St) (c k i n : Nat) (h : c < 13) : Mk σ (newA σ c k i n) := by
  funext b
  rw [AW', if_neg (fun z => by omega)]
def Nk (σ : St) (x : Rs) : Prop := match x with
  | none => True
  | some (.inl c) => Mk σ c.2.2.2.2
  | some (.inr (.inl (_, τ))) => Mk σ τ
  | some (.inr (.inr (_, _, c))) => c.2.2.2.2 = σ
theorem Nk_no {σ : St} : Nk σ none := trivial
theorem Nk_nx {σ τ : St} {μ pc : Nat} {ls : List (Option AV)} {st : List AV} (h : Mk σ τ) : Nk σ (nx μ pc ls st τ) := h
theorem Nk_jm {σ τ : St} {μ pc : Nat} {off : Int} {ls : List (Option AV)} {st : List AV} (h : Mk σ τ) : Nk σ (jm μ pc off ls st τ) := by
  unfold jm; split
  · exact h
  · trivial
theorem Nk_ret {σ : St} {r : Option AV} : Nk σ (rtn r σ) := Mk.rf σ
theorem Nk_I {σ : St} {st : List AV} {k : Int32 → List AV → Rs} (h : ∀ x r, Nk σ (k x r)) : Nk σ (popI st k) := by
  unfold popI; split
  · exact h _ _
  · trivial
theorem Nk_L {σ : St} {st : List AV} {k : Int64 → List AV → Rs} (h : ∀ x r, Nk σ (k x r)) : Nk σ (popL st k) := by
  unfold popL; split
  · exact h _ _
  · trivial
theorem Nk_R {σ : St} {st : List AV} {k : Option (Nat × Nat × Nat) → List AV → Rs} (h : ∀ x r, Nk σ (k x r)) : Nk σ (popR st k) := by
  unfold popR; split
  · exact h _ _
  · trivial
theorem Nk_O {c : Nat} {σ τ : St} {st : List AV} {k : Nat → List AV → Rs} (h : ∀ x r, Nk σ (k x r)) : Nk σ (popO c τ st k) := by
  unfold popO; split
  · split
    · exact h _ _
    · trivial
  · trivial
theorem Nk_W {σ τ : St} {st : List AV} {k : Nat → Nat → Nat → Nat → List AV → Rs} (h : ∀ a b c d r, Nk σ (k a b c d r)) : Nk σ (popW τ st k) := by
  unfold popW; split
  · split
    · split
      · exact h _ _ _ _ _
      · trivial
    · trivial
  · trivial
theorem Nk_lI {σ : St} {ls : List (Option AV)} {i : Nat} {k : Int32 → Rs} (h : ∀ x, Nk σ (k x)) : Nk σ (ldI ls i k) := by
  unfold ldI; split
  · exact h _
  · trivial
theorem Nk_lL {σ : St} {ls : List (Option AV)} {i : Nat} {k : Int64 → Rs} (h : ∀ x, Nk σ (k x)) : Nk σ (ldL ls i k) := by
  unfold ldL; split
  · exact h _
  · trivial
theorem Nk_lR {σ : St} {ls : List (Option AV)} {i : Nat} {k : Option (Nat × Nat × Nat) → Rs} (h : ∀ x, Nk σ (k x)) : Nk σ (ldR ls i k) := by
  unfold ldR; split
  · exact h _
  · trivial
theorem Nk_bin {σ : St} {st : List AV} {f : Int32 → Int32 → Int32} {k : List AV → Rs} (h : ∀ r, Nk σ (k r)) : Nk σ (bin st f k) := Nk_I fun _ _ => Nk_I fun _ _ => h _
theorem Nk_binL {σ : St} {st : List AV} {f : Int64 → Int64 → Int64} {k : List AV → Rs} (h : ∀ r, Nk σ (k r)) : Nk σ (binL st f k) := Nk_L fun _ _ => Nk_L fun _ _ => h _
theorem Nk_binS {σ : St} {st : List AV} {f : Int64 → Int32 → Int64} {k : List AV → Rs} (h : ∀ r, Nk σ (k r)) : Nk σ (binS st f k) := Nk_I fun _ _ => Nk_L fun _ _ => h _
theorem Nk_jg {σ : St} {pc : Nat} {off : Int} {k : Nat → Rs} (h : ∀ t, Nk σ (k t)) : Nk σ (jg pc off k) := by
  unfold jg; split
  · exact h _
  · trivial
theorem Nk_br {σ : St} {c : Prop} [Decidable c] {a b : Rs} (h1 : Nk σ a) (h2 : Nk σ b) : Nk σ (br c a b) := by
  unfold br; split
  · exact h1
  · exact h2
theorem Nk_call {σ : St} {μ' : Nat} {a : List AV} {μ pc : Nat} {ls : List (Option AV)} {r : List AV} : Nk σ (call μ' a μ pc ls r σ) := by
  unfold call; split
  · rfl
  · trivial
theorem Nk_getf {σ τ : St} {c k i : Nat} {K : AV → Rs} (h : ∀ v, Nk σ (K v)) : Nk σ (getf τ c k i K) := by
  unfold getf; split
  · exact h _
  · split
    · exact h _
    · split
      · trivial
      · exact h _
theorem Nk_putf {σ : St} {μ nst c k i : Nat} {v : AV} {K : St → Rs} (h : ∀ τ, Mk σ τ → Nk σ (K τ)) : Nk σ (putf μ nst σ c k i v K) := by
  unfold putf
  split
  · split
    · split
      · split
        · exact h _ (Mk.I _ _ _ _ _)
        · trivial
      · trivial
    · split
      · split
        · exact h _ (Mk.R _ _ _ _ _)
        · split
          · exact h _ (Mk.R _ _ _ _ _)
          · trivial
        · trivial
      · trivial
  · trivial
theorem Nk_newW {σ : St} {μ pc : Nat} {ls : List (Option AV)} {st : List AV} {f : Nat × Nat → Bool} : Nk σ (newW μ pc ls st σ f) := by
  unfold newW
  split
  · split
    · refine Nk_I fun n r => Nk_O fun i r => ?_
      split
      · next h => exact Nk_nx (Mk.W _ _ _ _ _ h.2.2.2.1)
      · trivial
    · trivial
  · trivial
theorem Nk_ald {σ : St} {t μ pc : Nat} {ls : List (Option AV)} {st : List AV} {ok : Nat → Bool} : Nk σ (ald t μ pc ls st σ ok) := by
  unfold ald
  refine Nk_I fun n r => Nk_W fun _ _ _ _ r => ?_
  split
  · exact Nk_nx (Mk.rf _)
  · trivial
theorem Nk_ast {σ : St} {μ pc : Nat} {ls : List (Option AV)} {st : List AV} {ok : Nat → Bool} : Nk σ (ast μ pc ls st σ ok) := by
  unfold ast
  refine Nk_I fun n r => Nk_I fun n r => Nk_W fun _ _ _ _ r => ?_
  split
  · next h => exact Nk_nx (Mk.A _ _ _ _ _ h.1)
  · trivial
theorem Nk_acopy {σ : St} {μ pc : Nat} {ls : List (Option AV)} {st : List AV} : Nk σ (acopy μ pc ls st σ) := by
  unfold acopy
  refine Nk_I fun n r => Nk_I fun n r => Nk_W fun _ _ _ _ r => Nk_I fun n r => Nk_W fun _ _ _ _ r => ?_
  split
  · next h => exact Nk_nx (Mk.A _ _ _ _ _ h.2.1)
  · trivial
theorem ex_Nk (i : Instr) (n μ pc : Nat) (ls : List (Option AV)) (st : List AV) (σ : St) : Nk σ (ex i n μ pc ls st σ) := by
  unfold ex
  split
  all_goals repeat' (first | exact Nk_no | exact Nk_ret | exact Nk_call | exact Nk_newW | exact Nk_ald | exact Nk_ast | exact Nk_acopy | exact Nk_nx (Mk.rf _) | exact Nk_nx (Mk.O _ _) | exact Nk_nx (Mk.Q _ _ _ _ _) | exact Nk_jm (Mk.rf _) | (refine Nk_bin ?_; intro _) | (refine Nk_binL ?_; intro _) | (refine Nk_binS ?_; intro _) | (refine Nk_I ?_; intro _ _) | (refine Nk_L ?_; intro _ _) | (refine Nk_R ?_; intro _ _) | (refine Nk_O ?_; intro _ _) | (refine Nk_W ?_; intro _ _ _ _ _) | (refine Nk_lI ?_; intro _) | (refine Nk_lL ?_; intro _) | (refine Nk_lR ?_; intro _) | refine Nk_br ?_ ?_ | (refine Nk_jg ?_; intro _) | (refine Nk_getf ?_; intro _) | exact Nk_putf (fun _ h => Nk_nx h) | split)
theorem nxt_Nk (c : Cfg) : Nk c.2.2.2.2 (nxt c) := by
  unfold nxt
  split
  · exact ex_Nk _ _ _ _ _ _ _
  · trivial
theorem Rn_Mk {d : Nat} {r : Option AV} {τ : St} : ∀ {c : Cfg}, Rn d (fun r' σ' => r' = r ∧ σ' = τ) c → Mk c.2.2.2.2 τ := by
  induction d generalizing r τ with
  | zero =>
    intro c h
    refine h (fun c => Mk c.2.2.2.2 τ) (fun c hc => ?_)
    have hn := nxt_Nk c
    cases hx : nxt c with
    | none => rw [hx] at hc; exact hc.elim
    | some x =>
      rw [hx] at hc hn
      match x, hc, hn with
      | .inl c', hc, hn => exact hn.tr hc
      | .inr (.inl (r', σ)), hc, hn => obtain ⟨-, rfl⟩ := hc; exact hn
      | .inr (.inr (μ', a, (μ, pc, ls, st, σ))), hc, hn => exact hc.elim
  | succ d ih =>
    intro c h
    refine h (fun c => Mk c.2.2.2.2 τ) (fun c hc => ?_)
    have hn := nxt_Nk c
    cases hx : nxt c with
    | none => rw [hx] at hc; exact hc.elim
    | some x =>
      rw [hx] at hc hn
      match x, hc, hn with
      | .inl c', hc, hn => exact hn.tr hc
      | .inr (.inl (r', σ)), hc, hn => obtain ⟨-, rfl⟩ := hc; exact hn
      | .inr (.inr (μ', a, (μ, pc, ls, st, σ))), hc, hn =>
        obtain ⟨r1, σ1, h1, h2⟩ := Rn_one hc
        have h3 : Mk σ σ1 := ih h2
        have h4 : σ = c.2.2.2.2 := hn
        rw [← h4]
        exact h3.tr h1
/-- what the script is: its length, its cells -/
def SC (L : Nat) (xs : Nat → Int32) (σ : St) : Prop := gA σ 13 0 0 = xs ∧ gL σ 13 0 0 = some L ∧ 0 < gN σ 13 ∧ 0 < gN σ 12
theorem SC_keep {d L : Nat} {xs : Nat → Int32} {Q : Option AV → St → Prop} {c : Cfg} (hs : SC L xs c.2.2.2.2) (h : Rn d Q c) : Rn d (fun r σ' => Q r σ' ∧ SC L xs σ') c := by
  obtain ⟨r, σ, hq, h1⟩ := Rn_one h
  have k1 : Mk c.2.2.2.2 σ := Rn_Mk h1
  have k2 := Rn_Mn h1
  refine Rn_mono (fun r' s' hz => ?_) h1
  obtain ⟨rfl, rfl⟩ := hz
  refine ⟨hq, ?_, (k2.2.2.2 13 0 0 L hs.2.2.1 hs.2.1).1, (k2.2.2.1 13 0 hs.2.2.1).1, (k2.2.2.1 12 0 hs.2.2.2).1⟩
  have k1 : gA s' 13 = gA c.2.2.2.2 13 := k1
  rw [k1]
  exact hs.1
