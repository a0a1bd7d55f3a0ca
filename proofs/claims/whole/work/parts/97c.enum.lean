/-- pure: all ways in their order give what the search gives -/
def evV (U : Nat) (fit : Nat → Nat → Bool) (pace l0 v : Nat → Nat) : Nat → Option ((Nat → Nat) × Nat × Nat)
  | 0 => some (l0, 0, 0)
  | i + 1 => match evV U fit pace l0 v i with
    | none => none
    | some (ld, m, s) => if v i < U then (if (fit i (v i) && decide (ld (v i) < 12)) = true then some (va_up ld (v i) (ld (v i) + 1), m + 1, s + cutN (ld (v i) + 1) (pace (v i))) else none) else some (ld, m, s)
theorem evV_s {U : Nat} {fit : Nat → Nat → Bool} {pace l0 v ld : Nat → Nat} {i m s : Nat} (h : evV U fit pace l0 v i = some (ld, m, s)) : evV U fit pace l0 v (i + 1) = if v i < U then (if (fit i (v i) && decide (ld (v i) < 12)) = true then some (va_up ld (v i) (ld (v i) + 1), m + 1, s + cutN (ld (v i) + 1) (pace (v i))) else none) else some (ld, m, s) := by
  show (match evV U fit pace l0 v i with
    | none => none
    | some (ld, m, s) => if v i < U then (if (fit i (v i) && decide (ld (v i) < 12)) = true then some (va_up ld (v i) (ld (v i) + 1), m + 1, s + cutN (ld (v i) + 1) (pace (v i))) else none) else some (ld, m, s)) = _
  rw [h]
theorem evV_0 {U : Nat} {fit : Nat → Nat → Bool} {pace l0 v : Nat → Nat} {i : Nat} (h : evV U fit pace l0 v i = none) : evV U fit pace l0 v (i + 1) = none := by
  show (match evV U fit pace l0 v i with
    | none => none
    | some (ld, m, s) => if v i < U then (if (fit i (v i) && decide (ld (v i) < 12)) = true then some (va_up ld (v i) (ld (v i) + 1), m + 1, s + cutN (ld (v i) + 1) (pace (v i))) else none) else some (ld, m, s)) = _
  rw [h]
theorem evV_ext {U : Nat} {fit : Nat → Nat → Bool} {pace l0 v v' : Nat → Nat} : ∀ i, (∀ j, j < i → v j = v' j) → evV U fit pace l0 v i = evV U fit pace l0 v' i := by
  intro i
  induction i with
  | zero => intro _; rfl
  | succ i ih =>
    intro h
    have h1 := ih (fun j hj => h j (by omega))
    have h2 := h i (by omega)
    cases he : evV U fit pace l0 v i with
    | none => rw [evV_0 he, evV_0 (h1.symm.trans he)]
    | some x =>
      obtain ⟨ld, m, s⟩ := x
      rw [evV_s he, evV_s (h1.symm.trans he), h2]
def updB (K U : Nat) (fit : Nat → Nat → Bool) (pace l0 : Nat → Nat) (v : Nat → Nat) (b : Int × Nat × (Nat → Nat)) : Int × Nat × (Nat → Nat) := match evV U fit pace l0 v K with
  | none => b
  | some (_, m, s) => leafS m s v b
def allV (K U : Nat) (fit : Nat → Nat → Bool) (pace l0 : Nat → Nat) : Nat → Nat → (Nat → Nat) → (Int × Nat × (Nat → Nat)) → (Int × Nat × (Nat → Nat))
  | 0, _, v, b => updB K U fit pace l0 v b
  | f + 1, at', v, b => lpT (fun _ => true) (fun u b => allV K U fit pace l0 f (at' + 1) (va_up v at' u) b) (U + 1) b
theorem evV_up {U : Nat} {fit : Nat → Nat → Bool} {pace l0 v : Nat → Nat} {i u : Nat} : evV U fit pace l0 (va_up v i u) i = evV U fit pace l0 v i := evV_ext i (fun j hj => va_up_ne _ _ (by omega))
theorem evV_none {U : Nat} {fit : Nat → Nat → Bool} {pace l0 v : Nat → Nat} {i : Nat} (h : evV U fit pace l0 v i = none) : ∀ n, evV U fit pace l0 v (i + n) = none := by
  intro n
  induction n with
  | zero => exact h
  | succ n ih => exact evV_0 ih
theorem all_none {K U : Nat} {fit : Nat → Nat → Bool} {pace l0 : Nat → Nat} : ∀ f at' v b, at' + f = K → evV U fit pace l0 v at' = none → allV K U fit pace l0 f at' v b = b := by
  intro f
  induction f with
  | zero =>
    intro at' v b hk h
    show updB K U fit pace l0 v b = b
    unfold updB
    rw [show K = at' by omega, h]
  | succ f ih =>
    intro at' v b hk h
    show lpT (fun _ => true) (fun u b => allV K U fit pace l0 f (at' + 1) (va_up v at' u) b) (U + 1) b = b
    apply lpT_id
    intro u hu _
    apply ih _ _ _ (by omega)
    apply evV_0
    rw [evV_up]
    exact h
theorem lpT_can {can : Nat → Bool} {f g : Nat → (Int × Nat × (Nat → Nat)) → (Int × Nat × (Nat → Nat))} {b : Int × Nat × (Nat → Nat)} : ∀ n, (∀ u b, u < n → (can u = true → g u b = f u b) ∧ (can u = false → g u b = b)) → lpT (fun _ => true) g n b = lpT can f n b := by
  intro n
  induction n with
  | zero => intro _; rfl
  | succ n ih =>
    intro h
    show (if true = true then g n (lpT (fun _ => true) g n b) else _) = (if can n then f n (lpT can f n b) else lpT can f n b)
    rw [if_pos rfl, ih (fun u b hu => h u b (by omega))]
    cases hc : can n with
    | true => rw [if_pos rfl]; exact (h n _ (by omega)).1 hc
    | false => rw [if_neg (by decide)]; exact (h n _ (by omega)).2 hc
theorem all_full {K U : Nat} {fit : Nat → Nat → Bool} {pace l0 : Nat → Nat} : ∀ f at' v ld given days b, at' + f = K → evV U fit pace l0 v at' = some (ld, given, days) → allV K U fit pace l0 f at' v b = fullS U fit pace f at' ld given days v b := by
  intro f
  induction f with
  | zero =>
    intro at' v ld given days b hk h
    show updB K U fit pace l0 v b = leafS given days v b
    unfold updB
    rw [show K = at' by omega, h]
  | succ f ih =>
    intro at' v ld given days b hk h
    show lpT (fun _ => true) (fun u b => allV K U fit pace l0 f (at' + 1) (va_up v at' u) b) (U + 1) b = fullS U fit pace f (at' + 1) ld given days (va_up v at' U) (lpT (fun u => fit at' u && decide (ld u < 12)) (fun u b => fullS U fit pace f (at' + 1) (va_up ld u (ld u + 1)) (given + 1) (days + cutN (ld u + 1) (pace u)) (va_up v at' u) b) U b)
    show (if true = true then allV K U fit pace l0 f (at' + 1) (va_up v at' U) (lpT (fun _ => true) (fun u b => allV K U fit pace l0 f (at' + 1) (va_up v at' u) b) U b) else _) = _
    have hv : ∀ u, evV U fit pace l0 (va_up v at' u) at' = some (ld, given, days) := fun u => by rw [evV_up]; exact h
    have hlast : ∀ b, allV K U fit pace l0 f (at' + 1) (va_up v at' U) b = fullS U fit pace f (at' + 1) ld given days (va_up v at' U) b := by
      intro b
      apply ih _ _ _ _ _ _ (by omega)
      rw [evV_s (hv U), vaS, if_neg (by omega)]
    rw [if_pos rfl, hlast]
    congr 1
    apply lpT_can
    intro u b hu
    refine ⟨fun hc => ?_, fun hc => ?_⟩
    · apply ih _ _ _ _ _ _ (by omega)
      rw [evV_s (hv u), vaS, if_pos hu, if_pos hc]
    · apply all_none _ _ _ _ (by omega)
      rw [evV_s (hv u), vaS, if_pos hu, if_neg (by rw [hc]; decide)]
