abbrev GG : Type := Nat → Nat → Nat → Nat
def cv (g : GG) (v : AV) : Value := match v with
  | .inl x => .int x
  | .inr (.inl x) => .long x
  | .inr (.inr none) => .null
  | .inr (.inr (some (c, k, i))) => .ref (g c k i)
def fv (g : GG) (σ : St) (c i k : Nat) : Value := if (fk c k).1 = 0 then .int (gI σ c k i) else if (fk c k).1 = 2 then va_rf ((gR σ c k i).map (g (fk c k).2 0)) else match gL σ c k i with
  | none => .null
  | some _ => .ref (g c (k + 1) i)
def flds (g : GG) (σ : St) (c i : Nat) : List Value := (List.range (nfd c)).map (fv g σ c i)
def arE (cA : Nat → ClassId) (g : GG) (σ : St) (c k i n : Nat) : va_E := if (fk c k).1 = 1 then .inl (cA (fk c k).2, n, .inl (gA σ c k i)) else .inl (cA (4 + (fk c k).2), n, .inr (.inr (.inr (.inr (fun j => (gQ σ c k i j).map (g (fk c k).2 0))))))
def ct (cA : Nat → ClassId) (g : GG) (σ : St) (c k i : Nat) : va_E := match k with
  | 0 => .inr (c, flds g σ c i)
  | k + 1 => arE cA g σ c k i ((gL σ c k i).getD 0)
def al (σ : St) (c k i : Nat) : Prop := c < 13 ∧ i < gN σ c ∧ match k with
  | 0 => True
  | k + 1 => gL σ c k i ≠ none
def Wd (D : va_G) (cA : Nat → ClassId) (g : GG) (base : Nat) (σ : St) (U : State) (H : Heap) : Prop :=
  H.size = gH σ ∧ base ≤ gH σ ∧ (∀ c k i, al σ c k i → va_at D vwCl (g c k i, ct cA g σ c k i) H ∧ base ≤ g c k i) ∧
  (∀ c k i c' k' i', al σ c k i → al σ c' k' i' → g c k i = g c' k' i' → c = c' ∧ k = k' ∧ i = i') ∧
  (∀ k i n, gL σ 13 k i = some n → k = 0 ∧ i = 0 ∧ va_X (g 13 1 0) n (gA σ 13 0 0) U H ∧ g 13 1 0 < base) ∧ (∀ c, 13 < c → gN σ c = 0)
def tysG (cA : Nat → ClassId) : List (ClassId × FieldType) := [(cA 0, .byte), (cA 1, .int), (cA 2, .short), (cA 3, .boolean), (cA 4, .object RX0), (cA 5, .object RX1), (cA 7, .object RX3), (cA 8, .object RX4), (cA 10, .object RX6), (cA 12, .object RX8), (cA 13, .object RX9)]
def aoL : List String := [RX0, RX1, RX3, RX4, RX6, RX8, RX9]
def KS (D : va_G) (cA : Nat → ClassId) (U : State) : Prop := va_K D vwCl (tysG cA) U ∧ (∀ w ∈ nW, va_Nw w U) ∧ ∀ C ∈ aoL, va_AO C U
theorem nW_form : ∀ w ∈ nW, (∃ a i b n d h, w = Cond.fieldLinkNest a i b n d h) ∨ ∃ a i x h, w = Cond.methodLinkNest a i x h := by
  intro w hw
  have h2 : nW.all (fun w => match w with
    | .fieldLinkNest .. => true
    | .methodLinkNest .. => true
    | _ => false) = true := by decide +kernel
  have h3 := List.all_eq_true.mp h2 w hw
  cases w <;> first | exact Or.inl ⟨_, _, _, _, _, _, rfl⟩ | exact Or.inr ⟨_, _, _, _, rfl⟩ | cases h3
theorem KS.warm {D : va_G} {cA : Nat → ClassId} {s U : State} (hW : s.WarmedH U.vm) (h : KS D cA s) : KS D cA U := by
  refine ⟨h.1.moved hW.alike, fun w hw => ?_, fun C hC => (h.2.2 C hC).moved hW.alike⟩
  rcases nW_form w hw with ⟨a, i, b, n, d, ho, rfl⟩ | ⟨a, i, x, ho, rfl⟩
  · exact va_Nw.warmF hW (h.2.1 _ hw)
  · exact va_Nw.warmM hW (h.2.1 _ hw)
theorem KS.same {D : va_G} {cA : Nat → ClassId} {s U : State} (hW : s.vm = U.vm) (h : KS D cA s) : KS D cA U := by
  have ha : s.vm.Alike U.vm := by rw [hW]; exact Vm.Alike.refl _
  refine ⟨h.1.moved ha, fun w hw => ?_, fun C hC => (h.2.2 C hC).moved ha⟩
  rcases nW_form w hw with ⟨a, i, b, n, d, ho, rfl⟩ | ⟨a, i, x, ho, rfl⟩
  · exact va_Nw.same rfl hW (h.2.1 _ hw)
  · exact va_Nw.same rfl hW (h.2.1 _ hw)
theorem Wd.moved {D : va_G} {cA : Nat → ClassId} {g : GG} {base : Nat} {σ : St} {U V : State} {H : Heap} (hvm : U.vm.Alike V.vm) (h : Wd D cA g base σ U H) : Wd D cA g base σ V H :=
  ⟨h.1, h.2.1, h.2.2.1, h.2.2.2.1, fun k i n hl => ⟨(h.2.2.2.2.1 k i n hl).1, (h.2.2.2.2.1 k i n hl).2.1, (h.2.2.2.2.1 k i n hl).2.2.1.moved hvm, (h.2.2.2.2.1 k i n hl).2.2.2⟩, h.2.2.2.2.2⟩
theorem flds_len (g : GG) (σ : St) (c i : Nat) : (flds g σ c i).length = nfd c := by simp [flds]
theorem flds_at {g : GG} {σ : St} {c i k : Nat} (h : k < nfd c) : (flds g σ c i)[k]? = some (fv g σ c i k) := by
  simp [flds, List.getElem?_map, List.getElem?_range h]
theorem flds_set {g : GG} {σ σ' : St} {c i k : Nat} {v : Value} (hk : k < nfd c) (h1 : fv g σ' c i k = v) (h2 : ∀ j, j ≠ k → fv g σ' c i j = fv g σ c i j) : (flds g σ c i).set k v = flds g σ' c i := by
  apply List.ext_getElem?
  intro j
  by_cases hj : j = k
  · subst hj
    rw [List.getElem?_set_self (by rw [flds_len]; exact hk), flds_at hk, h1]
  · rw [List.getElem?_set_ne (Ne.symm hj)]
    simp only [flds, List.getElem?_map]
    by_cases hl : j < nfd c
    · rw [List.getElem?_range hl]; simp [h2 j hj]
    · simp [hl]
theorem Wd.set {D : va_G} {cA : Nat → ClassId} {g : GG} {base : Nat} {σ σ' : St} {U : State} {H H1 : Heap} {c k i : Nat} (hW : Wd D cA g base σ U H) (hN : gN σ' = gN σ) (hL : gL σ' = gL σ) (hH : gH σ' = gH σ) (hX : gA σ' 13 0 0 = gA σ 13 0 0) (ha : al σ c k i) (z : H1.size = H.size)
    (he : va_at D vwCl (g c k i, ct cA g σ' c k i) H1) (oq : ∀ q, q ≠ g c k i → H1[q]? = H[q]?) (hct : ∀ c' k' i', ¬ (c' = c ∧ k' = k ∧ i' = i) → ct cA g σ' c' k' i' = ct cA g σ c' k' i') : Wd D cA g base σ' U H1 := by
  have hal : ∀ c k i, al σ' c k i ↔ al σ c k i := by
    intro c k i
    cases k <;> simp only [al, hN, hL]
  obtain ⟨h1, h2, h3, h4, h5, h6⟩ := hW
  refine ⟨by rw [z, hH]; exact h1, by rw [hH]; exact h2, fun c' k' i' hv => ?_, fun a b d a' b' d' x y => h4 a b d a' b' d' ((hal _ _ _).mp x) ((hal _ _ _).mp y), fun k' i' n hl => ?_, by rw [hN]; exact h6⟩
  · have hv' := (hal _ _ _).mp hv
    refine ⟨?_, (h3 c' k' i' hv').2⟩
    by_cases h : c' = c ∧ k' = k ∧ i' = i
    · obtain ⟨rfl, rfl, rfl⟩ := h
      exact he
    · rw [hct c' k' i' h]
      exact (h3 c' k' i' hv').1.kept (oq _ (fun e => h (h4 c' k' i' c k i hv' ha e)))
  · rw [hL] at hl
    obtain ⟨e1, e2, e3, e4⟩ := h5 k' i' n hl
    refine ⟨e1, e2, ?_, e4⟩
    rw [hX]
    refine e3.kept (oq _ (fun e => ?_))
    have := (h3 c k i ha).2
    omega
theorem up3_ne {α : Type} {f : Nat → Nat → Nat → α} {c k i a b d : Nat} {v : α} (h : ¬ (a = c ∧ b = k ∧ d = i)) : up3 f c k i v a b d = f a b d := if_neg h
theorem up3_eq {α : Type} {f : Nat → Nat → Nat → α} {c k i : Nat} {v : α} : up3 f c k i v c k i = v := if_pos ⟨rfl, rfl, rfl⟩
theorem ct_setI {cA : Nat → ClassId} {g : GG} {σ : St} {c k i : Nat} {v : Int32} : ∀ c' k' i', ¬ (c' = c ∧ k' = 0 ∧ i' = i) → ct cA g (setI σ c k i v) c' k' i' = ct cA g σ c' k' i' := by
  intro c' k' i' h
  cases k' with
  | succ k' => rfl
  | zero =>
    show Sum.inr (c', flds g (setI σ c k i v) c' i') = Sum.inr (c', flds g σ c' i')
    have : ∀ j, fv g (setI σ c k i v) c' i' j = fv g σ c' i' j := by
      intro j
      have : gI (setI σ c k i v) c' j i' = gI σ c' j i' := up3_ne (fun ⟨a, _, d⟩ => h ⟨a, rfl, d⟩)
      simp only [fv, this]; rfl
    simp only [flds, funext this]
theorem ct_setR {cA : Nat → ClassId} {g : GG} {σ : St} {c k i : Nat} {v : Option Nat} : ∀ c' k' i', ¬ (c' = c ∧ k' = 0 ∧ i' = i) → ct cA g (setR σ c k i v) c' k' i' = ct cA g σ c' k' i' := by
  intro c' k' i' h
  cases k' with
  | succ k' => rfl
  | zero =>
    show Sum.inr (c', flds g (setR σ c k i v) c' i') = Sum.inr (c', flds g σ c' i')
    have : ∀ j, fv g (setR σ c k i v) c' i' j = fv g σ c' i' j := by
      intro j
      have : gR (setR σ c k i v) c' j i' = gR σ c' j i' := up3_ne (fun ⟨a, _, d⟩ => h ⟨a, rfl, d⟩)
      simp only [fv, this]; rfl
    simp only [flds, funext this]
theorem ct_setA {cA : Nat → ClassId} {g : GG} {σ : St} {c k i : Nat} {f : Nat → Int32} : ∀ c' k' i', ¬ (c' = c ∧ k' = k + 1 ∧ i' = i) → ct cA g (setA σ c k i f) c' k' i' = ct cA g σ c' k' i' := by
  intro c' k' i' h
  cases k' with
  | zero => rfl
  | succ k' =>
    have : gA (setA σ c k i f) c' k' i' = gA σ c' k' i' := up3_ne (fun ⟨a, b, d⟩ => h ⟨a, by rw [b], d⟩)
    simp only [ct, arE, this]; rfl
theorem ct_setQ {cA : Nat → ClassId} {g : GG} {σ : St} {c k i : Nat} {f : Nat → Option Nat} : ∀ c' k' i', ¬ (c' = c ∧ k' = k + 1 ∧ i' = i) → ct cA g (setQ σ c k i f) c' k' i' = ct cA g σ c' k' i' := by
  intro c' k' i' h
  cases k' with
  | zero => rfl
  | succ k' =>
    have : gQ (setQ σ c k i f) c' k' i' = gQ σ c' k' i' := up3_ne (fun ⟨a, b, d⟩ => h ⟨a, by rw [b], d⟩)
    simp only [ct, arE, this]; rfl
theorem fv_setI {g : GG} {σ : St} {c i k : Nat} {v : Int32} (h0 : (fk c k).1 = 0) : fv g (setI σ c k i v) c i k = .int v ∧ ∀ j, j ≠ k → fv g (setI σ c k i v) c i j = fv g σ c i j := by
  refine ⟨by simp [fv, h0, gI, setI, up3], fun j hj => ?_⟩
  have : gI (setI σ c k i v) c j i = gI σ c j i := up3_ne (fun ⟨_, b, _⟩ => hj b)
  simp only [fv, this]; rfl
theorem fv_setR {g : GG} {σ : St} {c i k : Nat} {v : Option Nat} (h0 : (fk c k).1 = 2) : fv g (setR σ c k i v) c i k = va_rf (v.map (g (fk c k).2 0)) ∧ ∀ j, j ≠ k → fv g (setR σ c k i v) c i j = fv g σ c i j := by
  refine ⟨by simp [fv, h0, gR, setR, up3], fun j hj => ?_⟩
  have : gR (setR σ c k i v) c j i = gR σ c j i := up3_ne (fun ⟨_, b, _⟩ => hj b)
  simp only [fv, this]; rfl
def Agree (g : GG) (σ : St) : Prop := (∀ c i, i < gN σ c → g c 0 i = gT σ c 0 i) ∧ ∀ c k i n, i < gN σ c → gL σ c k i = some n → g c (k + 1) i = gT σ c (k + 1) i
theorem Agree.back {g : GG} {σ τ : St} (hM : Mn σ τ) (h : Agree g τ) : Agree g σ :=
  ⟨fun c i hi => (h.1 c i (hM.2.2.1 c i hi).1).trans (hM.2.2.1 c i hi).2, fun c k i n hi hl => (h.2 c k i n (hM.2.2.1 c i hi).1 (hM.2.2.2 c k i n hi hl).1).trans (hM.2.2.2 c k i n hi hl).2⟩
/-- a new object -/
theorem Wd_newO {D : va_G} {cA : Nat → ClassId} {g : GG} {base : Nat} {σ : St} {U : State} {H H1 : Heap} {c : Nat} (hc : c < 13) (hW : Wd D cA g base σ U H) (hg : Agree g (newO σ c)) (z : H1.size = H.size + 1) (o1 : ∀ q, q < H.size → H1[q]? = H[q]?)
    (he : va_at D vwCl (H.size, .inr (c, flds g (newO σ c) c (gN σ c))) H1) : Wd D cA g base (newO σ c) U H1 := by
  obtain ⟨h1, h2, h3, h4, h5, h6⟩ := hW
  have hNc : gN (newO σ c) c = gN σ c + 1 := if_pos rfl
  have hNo : ∀ a, a ≠ c → gN (newO σ c) a = gN σ a := fun a h => if_neg h
  have hgi : g c 0 (gN σ c) = H.size := by
    rw [hg.1 c (gN σ c) (by rw [hNc]; omega), h1]
    exact up3_eq
  have hold : ∀ a k i, al (newO σ c) a k i → (a = c ∧ k = 0 ∧ i = gN σ c) ∨ (al σ a k i ∧ ¬ (a = c ∧ i = gN σ c)) := by
    intro a k i ⟨q1, q2, q3⟩
    by_cases hk : a = c ∧ i = gN σ c
    · cases k with
      | zero => exact Or.inl ⟨hk.1, rfl, hk.2⟩
      | succ k => exact absurd (show gL (newO σ c) a k i = none from if_pos hk) q3
    · refine Or.inr ⟨⟨q1, ?_, ?_⟩, hk⟩
      · by_cases e : a = c
        · rw [e, hNc] at q2
          rw [e]
          have : i ≠ gN σ c := fun z => hk ⟨e, z⟩
          omega
        · rw [hNo a e] at q2; exact q2
      · cases k with
        | zero => trivial
        | succ k => exact fun z => q3 ((show gL (newO σ c) a k i = gL σ a k i from if_neg hk).trans z)
  have hct : ∀ a k i, ¬ (a = c ∧ i = gN σ c) → ct cA g (newO σ c) a k i = ct cA g σ a k i := by
    intro a k i hk
    have e1 : ∀ j, gI (newO σ c) a j i = gI σ a j i := fun j => if_neg hk
    have e2 : ∀ j, gR (newO σ c) a j i = gR σ a j i := fun j => if_neg hk
    have e3 : ∀ j, gL (newO σ c) a j i = gL σ a j i := fun j => if_neg hk
    cases k with
    | zero =>
      show Sum.inr (a, flds g _ a i) = Sum.inr (a, flds g σ a i)
      have : ∀ j, fv g (newO σ c) a i j = fv g σ a i j := by
        intro j
        simp only [fv, e1, e2, e3]
      simp only [flds, funext this]
    | succ k =>
      simp only [ct, arE, e3]
      rfl
  refine ⟨by rw [z, h1]; rfl, Nat.le_succ_of_le h2, fun a k i hv => ?_, fun a k i a' k' i' x y e => ?_, fun k i n hl => ?_, fun a h => ?_⟩
  · rcases hold a k i hv with ⟨rfl, rfl, rfl⟩ | ⟨ho, hk⟩
    · rw [hgi]
      exact ⟨he, by rw [h1]; exact h2⟩
    · rw [hct a k i hk]
      exact ⟨(h3 a k i ho).1.kept (o1 _ (h3 a k i ho).1.lt), (h3 a k i ho).2⟩
  · rcases hold a k i x with ⟨rfl, rfl, rfl⟩ | ⟨ho, hk⟩ <;> rcases hold a' k' i' y with ⟨rfl, rfl, rfl⟩ | ⟨ho', hk'⟩
    · exact ⟨rfl, rfl, rfl⟩
    · rw [hgi] at e
      have := (h3 a' k' i' ho').1.lt
      dsimp only at this
      omega
    · rw [hgi] at e
      have := (h3 a k i ho).1.lt
      dsimp only at this
      omega
    · exact h4 a k i a' k' i' ho ho' e
  · have hl' : gL σ 13 k i = some n := by
      have : gL (newO σ c) 13 k i = gL σ 13 k i := if_neg (fun z => by omega)
      rw [← this]; exact hl
    obtain ⟨e1, e2, e3, e4⟩ := h5 k i n hl'
    refine ⟨e1, e2, ?_, e4⟩
    exact e3.kept (o1 _ (by omega))
  · rw [hNo a (by omega)]; exact h6 a h
/-- a new row, in its field -/
theorem Wd_newA {D : va_G} {cA : Nat → ClassId} {g : GG} {base : Nat} {σ : St} {U : State} {H H2 : Heap} {c k i n : Nat} (hc : c < 13) (hi : i < gN σ c) (hl : gL σ c k i = none) (hW : Wd D cA g base σ U H) (hg : Agree g (newA σ c k i n)) (z : H2.size = H.size + 1) (o1 : ∀ q, q < H.size → q ≠ g c 0 i → H2[q]? = H[q]?)
    (he : va_at D vwCl (g c 0 i, .inr (c, flds g (newA σ c k i n) c i)) H2) (he2 : va_at D vwCl (H.size, arE cA g (newA σ c k i n) c k i n) H2) : Wd D cA g base (newA σ c k i n) U H2 := by
  obtain ⟨h1, h2, h3, h4, h5, h6⟩ := hW
  have hLk : gL (newA σ c k i n) c k i = some n := up3_eq
  have hLo : ∀ a b d, ¬ (a = c ∧ b = k ∧ d = i) → gL (newA σ c k i n) a b d = gL σ a b d := fun a b d h => up3_ne h
  have hgi : g c (k + 1) i = H.size := by
    rw [hg.2 c k i n hi hLk, h1]
    exact up3_eq
  have hold : ∀ a b d, al (newA σ c k i n) a b d → (a = c ∧ b = k + 1 ∧ d = i) ∨ (al σ a b d ∧ ¬ (a = c ∧ b = k + 1 ∧ d = i)) := by
    intro a b d ⟨q1, q2, q3⟩
    by_cases hk : a = c ∧ b = k + 1 ∧ d = i
    · exact Or.inl hk
    · refine Or.inr ⟨⟨q1, q2, ?_⟩, hk⟩
      cases b with
      | zero => trivial
      | succ b => exact fun z => q3 ((hLo a b d (fun ⟨w1, w2, w3⟩ => hk ⟨w1, by rw [w2], w3⟩)).trans z)
  have halo : al σ c 0 i := ⟨hc, hi, trivial⟩
  refine ⟨by rw [z, h1]; rfl, Nat.le_succ_of_le h2, fun a b d hv => ?_, fun a b d a' b' d' x y e => ?_, fun k' i' n' hl' => ?_, h6⟩
  · rcases hold a b d hv with ⟨rfl, rfl, rfl⟩ | ⟨ho, hk⟩
    · rw [hgi]
      refine ⟨?_, by rw [h1]; exact h2⟩
      show va_at D vwCl (H.size, arE cA g _ a k d ((gL _ a k d).getD 0)) H2
      rw [hLk]
      exact he2
    · by_cases hz : a = c ∧ b = 0 ∧ d = i
      · obtain ⟨rfl, rfl, rfl⟩ := hz
        exact ⟨he, (h3 a 0 d ho).2⟩
      · have hne : g a b d ≠ g c 0 i := fun e => hz (h4 a b d c 0 i ho halo e)
        refine ⟨?_, (h3 a b d ho).2⟩
        have hcte : ct cA g (newA σ c k i n) a b d = ct cA g σ a b d := by
          cases b with
          | zero =>
            show Sum.inr (a, flds g _ a d) = Sum.inr (a, flds g σ a d)
            have : ∀ j, fv g (newA σ c k i n) a d j = fv g σ a d j := by
              intro j
              have e3 : gL (newA σ c k i n) a j d = gL σ a j d := hLo _ _ _ (fun ⟨w1, _, w3⟩ => hz ⟨w1, rfl, w3⟩)
              simp only [fv, e3]
              rfl
            simp only [flds, funext this]
          | succ b =>
            have hn : ¬ (a = c ∧ b = k ∧ d = i) := fun ⟨w1, w2, w3⟩ => hk ⟨w1, by rw [w2], w3⟩
            have e3 : gL (newA σ c k i n) a b d = gL σ a b d := hLo _ _ _ hn
            have e4 : gA (newA σ c k i n) a b d = gA σ a b d := up3_ne hn
            have e5 : gQ (newA σ c k i n) a b d = gQ σ a b d := up3_ne hn
            simp only [ct, arE, e3, e4, e5]
        rw [hcte]
        exact (h3 a b d ho).1.kept (o1 _ (h3 a b d ho).1.lt hne)
  · rcases hold a b d x with ⟨rfl, rfl, rfl⟩ | ⟨ho, hk⟩ <;> rcases hold a' b' d' y with ⟨rfl, rfl, rfl⟩ | ⟨ho', hk'⟩
    · exact ⟨rfl, rfl, rfl⟩
    · rw [hgi] at e
      have := (h3 a' b' d' ho').1.lt
      dsimp only at this
      omega
    · rw [hgi] at e
      have := (h3 a b d ho).1.lt
      dsimp only at this
      omega
    · exact h4 a b d a' b' d' ho ho' e
  · have hl2 : gL σ 13 k' i' = some n' := by
      rw [← hLo 13 k' i' (fun z => by omega)]; exact hl'
    obtain ⟨e1, e2, e3, e4⟩ := h5 k' i' n' hl2
    refine ⟨e1, e2, ?_, e4⟩
    have ea : gA (newA σ c k i n) 13 0 0 = gA σ 13 0 0 := up3_ne (fun z => by omega)
    rw [ea]
    have := (h3 c 0 i halo).2
    exact e3.kept (o1 _ (by omega) (by omega))
