def okP (x : PTy) : Prop := ∀ q ∈ x.1, decode x.2.2.1 q.1 = .ok q.2
theorem pT_ok : ∀ x ∈ pT, okP x := sorry
