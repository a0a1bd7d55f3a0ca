abbrev St : Type := (Nat → Nat → Nat → Int32) × (Nat → Nat → Nat → Nat → Int32) × (Nat → Nat → Nat → Option Nat) × (Nat → Nat → Nat → Nat → Option Nat)
def sI (σ : St) (c k i : Nat) : Int32 := σ.1 c k i
def sA (σ : St) (c k i : Nat) : Nat → Int32 := σ.2.1 c k i
def sR (σ : St) (c k i : Nat) : Option Nat := σ.2.2.1 c k i
def sQ (σ : St) (c k i : Nat) : Nat → Option Nat := σ.2.2.2 c k i
def setI (σ : St) (c k i : Nat) (v : Int32) : St := (fun a b d => if a = c ∧ b = k ∧ d = i then v else σ.1 a b d, σ.2)
def setA (σ : St) (c k i : Nat) (f : Nat → Int32) : St := (σ.1, fun a b d => if a = c ∧ b = k ∧ d = i then f else σ.2.1 a b d, σ.2.2)
def setR (σ : St) (c k i : Nat) (v : Option Nat) : St := (σ.1, σ.2.1, fun a b d => if a = c ∧ b = k ∧ d = i then v else σ.2.2.1 a b d, σ.2.2.2)
def setQ (σ : St) (c k i : Nat) (f : Nat → Option Nat) : St := (σ.1, σ.2.1, σ.2.2.1, fun a b d => if a = c ∧ b = k ∧ d = i then f else σ.2.2.2 a b d)
/-- of each class the fields: (0: a number, 1: a row of numbers of a type, 2: an object, 3: a row of objects, 4: an object of its own; the type or class; the length) -/
def fkt : List (List (Nat × Nat × Nat)) := [[(0, 0, 0), (0, 0, 0), (1, 1, 8), (1, 1, 8), (1, 1, 8), (1, 1, 8), (1, 1, 8), (1, 2, 120), (0, 0, 0)],
  [(0, 0, 0), (1, 3, 6), (1, 1, 6), (1, 1, 6)],
  [(1, 0, 512), (1, 1, 512), (1, 2, 512), (0, 0, 0)],
  [(0, 0, 0), (0, 0, 0), (0, 0, 0)],
  [(0, 0, 0), (0, 0, 0), (0, 0, 0), (0, 0, 0), (2, 0, 0), (0, 0, 0), (0, 0, 0)],
  [(1, 1, 6), (1, 1, 6), (1, 1, 6), (1, 1, 6), (1, 1, 7), (1, 1, 7), (1, 1, 6), (1, 1, 6), (0, 0, 0), (0, 0, 0), (0, 0, 0), (0, 0, 0)],
  [(0, 0, 0), (0, 0, 0), (1, 1, 30)],
  [(1, 0, 120), (0, 0, 0), (0, 0, 0)],
  [(0, 0, 0), (0, 0, 0), (0, 0, 0), (0, 0, 0), (1, 0, 20), (0, 0, 0), (0, 0, 0), (0, 0, 0), (0, 0, 0), (0, 0, 0), (0, 0, 0), (0, 0, 0), (0, 0, 0), (0, 0, 0), (0, 0, 0)],
  [(0, 0, 0), (0, 0, 0), (0, 0, 0), (0, 0, 0)],
  [(1, 1, 256), (1, 1, 256), (1, 1, 8)],
  [(4, 7, 0), (3, 0, 24), (1, 1, 4), (3, 1, 4), (2, 0, 0), (2, 1, 0), (3, 4, 12), (0, 0, 0), (3, 9, 6), (0, 0, 0), (3, 8, 80), (0, 0, 0), (3, 3, 6), (4, 2, 0), (1, 0, 800), (0, 0, 0), (3, 6, 4), (4, 5, 0), (4, 10, 0), (1, 1, 8)],
  [(1, 1, 120), (0, 0, 0), (0, 0, 0), (0, 1, 0), (1, 1, 8), (1, 1, 8), (1, 1, 8), (1, 1, 8), (1, 1, 128), (0, 0, 0), (0, 0, 0), (0, 0, 0), (0, 0, 0), (1, 1, 128), (0, 0, 0), (1, 1, 4), (1, 1, 24), (1, 1, 24), (1, 1, 192), (1, 1, 192), (1, 1, 192), (1, 1, 192), (1, 1, 3072), (0, 0, 0), (1, 1, 12), (1, 1, 12), (1, 1, 12), (1, 1, 12), (1, 1, 12), (1, 1, 12), (1, 1, 48000), (1, 1, 40), (1, 3, 128), (1, 1, 256), (1, 1, 256), (1, 1, 6), (1, 1, 6), (1, 1, 6), (0, 0, 0), (1, 1, 80), (1, 1, 80), (1, 1, 80), (1, 1, 80), (1, 1, 80), (1, 1, 80), (1, 1, 80), (1, 1, 80), (1, 1, 80), (1, 1, 80), (1, 1, 80), (1, 1, 80), (1, 1, 80), (1, 1, 80), (1, 1, 1600), (0, 0, 0), (1, 1, 6), (1, 1, 6), (1, 1, 6), (1, 1, 6), (0, 0, 0), (1, 1, 6), (1, 1, 6), (1, 1, 6), (1, 1, 6), (0, 0, 0), (0, 0, 0), (0, 0, 0), (0, 0, 0), (1, 1, 800), (0, 0, 0), (1, 1, 4), (1, 1, 24), (1, 1, 24), (1, 1, 4), (1, 1, 24), (1, 1, 24), (1, 1, 6), (1, 1, 6), (1, 1, 6), (1, 1, 4), (1, 1, 4), (1, 1, 120)]]
def fk (c k : Nat) : Nat × Nat × Nat := (fkt.getD c []).getD k (9, 0, 0)
def nfd (c : Nat) : Nat := (fkt.getD c []).length
abbrev GT : Type := va_G × (Nat → ClassId) × (Nat → Nat → Nat → Nat) × (Nat → Nat) × (Nat → Prop)
def gD (G : GT) : va_G := G.1
def gC (G : GT) : Nat → ClassId := G.2.1
def gd (G : GT) (c k i : Nat) : Nat := G.2.2.1 c k i
def gn (G : GT) : Nat → Nat := G.2.2.2.1
def gA (G : GT) : Nat → Prop := G.2.2.2.2
def fv (G : GT) (σ : St) (c i k : Nat) : Value := if (fk c k).1 = 0 then .int (sI σ c k i) else if (fk c k).1 = 2 then va_rf ((sR σ c k i).map (gd G (fk c k).2.1 0)) else if (fk c k).1 = 4 then .ref (gd G (fk c k).2.1 0 i) else .ref (gd G c (k + 1) i)
def flds (G : GT) (σ : St) (c i : Nat) : List Value := (List.range (nfd c)).map (fv G σ c i)
def ct (G : GT) (σ : St) (c k i : Nat) : va_E := match k with
  | 0 => .inr (c, flds G σ c i)
  | k + 1 => if (fk c k).1 = 1 then .inl (gC G (fk c k).2.1, (fk c k).2.2, .inl (sA σ c k i)) else .inl (gC G (4 + (fk c k).2.1), (fk c k).2.2, .inr (.inr (.inr (.inr (fun j => (sQ σ c k i j).map (gd G (fk c k).2.1 0))))))
def vn (c k : Nat) : Bool := decide (c < 13) && (match k with
  | 0 => true
  | k + 1 => (fk c k).1 == 1 || (fk c k).1 == 3)
def Wd (G : GT) (σ : St) (H : Heap) : Prop :=
  (∀ c k i, vn c k = true → i < gn G c → va_at (gD G) vwCl (gd G c k i, ct G σ c k i) H ∧ gA G (gd G c k i)) ∧
  (∀ c k i c' k' i', vn c k = true → i < gn G c → vn c' k' = true → i' < gn G c' → gd G c k i = gd G c' k' i' → c = c' ∧ k = k' ∧ i = i')
def tysG (G : GT) : List (ClassId × FieldType) := [(gC G 0, .byte), (gC G 1, .int), (gC G 2, .short), (gC G 3, .boolean), (gC G 4, .object RX0), (gC G 5, .object RX1), (gC G 7, .object RX3), (gC G 8, .object RX4), (gC G 10, .object RX6), (gC G 12, .object RX8), (gC G 13, .object RX9)]
def KS (G : GT) (U : State) : Prop := va_K (gD G) vwCl (tysG G) U ∧ ∀ w ∈ nW, va_Nw w U
def Cx (p : Program) (s : State) (m : MethodId) (args : Array Value) (meth : Method) (c : Code) (own : String) (cc : ByteArray) (nL : Nat) (G : GT) : Prop :=
  p.tables.exec = Jvm.exec ∧ c.code = cc ∧ c.maxLocals = nL ∧ s.vm.findClass own = some m.cls ∧ (∀ w ∈ gW, w.before args s = true) ∧ KS G s ∧ meth.locks = false
theorem flds_len (G : GT) (σ : St) (c i : Nat) : (flds G σ c i).length = nfd c := by simp [flds]
theorem flds_at {G : GT} {σ : St} {c i k : Nat} (h : k < nfd c) : (flds G σ c i)[k]? = some (fv G σ c i k) := by
  simp [flds, List.getElem?_map, List.getElem?_range h]
theorem flds_set {G : GT} {σ σ' : St} {c i k : Nat} {v : Value} (hk : k < nfd c) (h1 : fv G σ' c i k = v) (h2 : ∀ j, j ≠ k → fv G σ' c i j = fv G σ c i j) : (flds G σ c i).set k v = flds G σ' c i := by
  apply List.ext_getElem?
  intro j
  by_cases hj : j = k
  · subst hj
    rw [List.getElem?_set_self (by rw [flds_len]; exact hk), flds_at hk, h1]
  · rw [List.getElem?_set_ne (Ne.symm hj)]
    simp only [flds, List.getElem?_map]
    by_cases hl : j < nfd c
    · rw [List.getElem?_range hl]; simp [h2 j hj]
    · simp [hl]
theorem Wd.kept {G : GT} {σ : St} {H H1 : Heap} (h : Wd G σ H) (hq : ∀ q, q < H.size → gA G q → H1[q]? = H[q]?) : Wd G σ H1 :=
  ⟨fun c k i hv hi => ⟨(h.1 c k i hv hi).1.kept (hq _ (h.1 c k i hv hi).1.lt (h.1 c k i hv hi).2), (h.1 c k i hv hi).2⟩, h.2⟩
theorem Wd.set {G : GT} {σ σ' : St} {H H1 : Heap} {c k i : Nat} (hW : Wd G σ H) (hv : vn c k = true) (hi : i < gn G c) (he : va_at (gD G) vwCl (gd G c k i, ct G σ' c k i) H1) (oq : ∀ q, q ≠ gd G c k i → H1[q]? = H[q]?)
    (hct : ∀ c' k' i', ¬ (c' = c ∧ k' = k ∧ i' = i) → ct G σ' c' k' i' = ct G σ c' k' i') : Wd G σ' H1 := by
  refine ⟨fun c' k' i' hv' hi' => ⟨?_, (hW.1 c' k' i' hv' hi').2⟩, hW.2⟩
  by_cases h : c' = c ∧ k' = k ∧ i' = i
  · obtain ⟨rfl, rfl, rfl⟩ := h
    exact he
  · rw [hct c' k' i' h]
    exact (hW.1 c' k' i' hv' hi').1.kept (oq _ (fun e => h (hW.2 c' k' i' c k i hv' hi' hv hi e)))
theorem ct_setI {G : GT} {σ : St} {c k i : Nat} {v : Int32} : ∀ c' k' i', ¬ (c' = c ∧ k' = 0 ∧ i' = i) → ct G (setI σ c k i v) c' k' i' = ct G σ c' k' i' := by
  intro c' k' i' h
  cases k' with
  | succ k' => rfl
  | zero =>
    show Sum.inr (c', flds G (setI σ c k i v) c' i') = Sum.inr (c', flds G σ c' i')
    have : ∀ j, fv G (setI σ c k i v) c' i' j = fv G σ c' i' j := by
      intro j
      have : sI (setI σ c k i v) c' j i' = sI σ c' j i' := by
        simp only [sI, setI]
        rw [if_neg]
        rintro ⟨a, b, d⟩
        exact h ⟨a, rfl, d⟩
      simp only [fv, this]; rfl
    simp only [flds, funext this]
theorem ct_setR {G : GT} {σ : St} {c k i : Nat} {v : Option Nat} : ∀ c' k' i', ¬ (c' = c ∧ k' = 0 ∧ i' = i) → ct G (setR σ c k i v) c' k' i' = ct G σ c' k' i' := by
  intro c' k' i' h
  cases k' with
  | succ k' => rfl
  | zero =>
    show Sum.inr (c', flds G (setR σ c k i v) c' i') = Sum.inr (c', flds G σ c' i')
    have : ∀ j, fv G (setR σ c k i v) c' i' j = fv G σ c' i' j := by
      intro j
      have : sR (setR σ c k i v) c' j i' = sR σ c' j i' := by
        simp only [sR, setR]
        rw [if_neg]
        rintro ⟨a, b, d⟩
        exact h ⟨a, rfl, d⟩
      simp only [fv, this]; rfl
    simp only [flds, funext this]
theorem ct_setA {G : GT} {σ : St} {c k i : Nat} {f : Nat → Int32} : ∀ c' k' i', ¬ (c' = c ∧ k' = k + 1 ∧ i' = i) → ct G (setA σ c k i f) c' k' i' = ct G σ c' k' i' := by
  intro c' k' i' h
  cases k' with
  | zero => rfl
  | succ k' =>
    have : sA (setA σ c k i f) c' k' i' = sA σ c' k' i' := by
      simp only [sA, setA]
      rw [if_neg]
      rintro ⟨a, b, d⟩
      exact h ⟨a, by rw [b], d⟩
    simp only [ct, this]; rfl
theorem ct_setQ {G : GT} {σ : St} {c k i : Nat} {f : Nat → Option Nat} : ∀ c' k' i', ¬ (c' = c ∧ k' = k + 1 ∧ i' = i) → ct G (setQ σ c k i f) c' k' i' = ct G σ c' k' i' := by
  intro c' k' i' h
  cases k' with
  | zero => rfl
  | succ k' =>
    have : sQ (setQ σ c k i f) c' k' i' = sQ σ c' k' i' := by
      simp only [sQ, setQ]
      rw [if_neg]
      rintro ⟨a, b, d⟩
      exact h ⟨a, by rw [b], d⟩
    simp only [ct, this]; rfl
section RK
variable {p : Program} {l : Launch} {e : Env} {R : Room} {s : State} {m : MethodId} {args : Array Value} {below : List Frame} {meth : Method} {c : Code} {H : Heap} {locs : List Loc} {cells slots : Nat} {Q : State → Prop}
variable {cc : ByteArray} {pc nL : Nat} {ls : Array Slot} {rest : List Value} {own : String} {G : GT} {σ : St}
theorem Wd.P1 {c' k i : Nat} (hW : Wd G σ H) (hv : vn c' k = true) (hi : i < gn G c') : va_P (gD G) vwCl [(gd G c' k i, ct G σ c' k i)] H := by
  intro j q hj
  cases j with
  | zero => cases hj; exact (hW.1 c' k i hv hi).1
  | succ j => simp at hj
theorem r_get (cx : Cx p s m args meth c own cc nL G) (hW : Wd G σ H) {ci i : Nat} (hi : i < gn G ci) {C : String} {T : u_T} {N idx : Nat} (hc : vwCl[ci]? = some (C, T, N)) (hv : vn ci 0 = true) (hin : ∀ w ∈ u_ws C T N, w ∈ gW) (k : Nat) (hk : k < N) (hk2 : k < nfd ci) (ht : (T k).1 = C)
    (hlink : Cond.fieldLink own idx C (T k).2.1 (T k).2.2.1 ∈ gW) (hdg : decode cc pc = .ok (.getfield idx, 3))
    (kk : W p l e R s m args below meth c H locs cells slots Q (F0 m (pc + 3) ls (fv G σ ci i k :: rest))) : W p l e R s m args below meth c H locs cells slots Q (F0 m pc ls (.ref (gd G ci 0 i) :: rest)) := by
  obtain ⟨hx, hb, hml, hown, hts, hK, -⟩ := cx
  exact va_get (D := gD G) (ci := ci) (v := fv G σ ci i k) (C := C) (T := T) (N := N) hx hb hts hin hown hK.1 (hW.P1 hv hi) 0 rfl hc k hk (hts _ hlink) (fun x h9 => by rw [ht] at h9; exact h9) (flds_at hk2) hdg kk
theorem r_getN (cx : Cx p s m args meth c own cc nL G) (hW : Wd G σ H) {ci i : Nat} (hi : i < gn G ci) {C host : String} {T : u_T} {N idx : Nat} (hc : vwCl[ci]? = some (C, T, N)) (hv : vn ci 0 = true) (hin : ∀ w ∈ u_ws C T N, w ∈ gW) (k : Nat) (hk : k < N) (hk2 : k < nfd ci) (ht : (T k).1 = C)
    (hlink : Cond.fieldLinkNest own idx C (T k).2.1 (T k).2.2.1 host ∈ nW) (hdg : decode cc pc = .ok (.getfield idx, 3))
    (kk : W p l e R s m args below meth c H locs cells slots Q (F0 m (pc + 3) ls (fv G σ ci i k :: rest))) : W p l e R s m args below meth c H locs cells slots Q (F0 m pc ls (.ref (gd G ci 0 i) :: rest)) := by
  obtain ⟨hx, hb, hml, hown, hts, hK, -⟩ := cx
  exact va_getN (D := gD G) (ci := ci) (v := fv G σ ci i k) (C := C) (T := T) (N := N) hx hb hts hin hown hK.1 (hW.P1 hv hi) 0 rfl hc k hk (va_Nw.use rfl (hK.2 _ hlink)) (fun x h9 => by rw [ht] at h9; exact h9) (flds_at hk2) hdg kk
theorem r_put0 (cx : Cx p s m args meth c own cc nL G) (hW : Wd G σ H) (hS0 : va_S (gA G) s.heap H locs) {ci i : Nat} (hi : i < gn G ci) {C : String} {T : u_T} {N idx : Nat} (hc : vwCl[ci]? = some (C, T, N)) (hv0 : vn ci 0 = true) (hin : ∀ w ∈ u_ws C T N, w ∈ gW) (k : Nat) (hk : k < N) (hk2 : k < nfd ci) (ht : (T k).1 = C)
    (ty0 : Nat → FieldType) (hty : ∀ k, k < N → parseFieldDescriptor (T k).2.2.1 = some (ty0 k)) (hnm : ∀ a, a < N → ∀ b, b < N → a ≠ b → (T a).2.1 ≠ (T b).2.1) (hfin : (T k).2.2.2 = false) {v : Value} (hn : narrow (ty0 k) v = v) (hfit : fits (ty0 k) v = true)
    {σ' : St} (h1 : fv G σ' ci i k = v) (h2 : ∀ j, j ≠ k → fv G σ' ci i j = fv G σ ci i j) (hct : ∀ c' k' i', ¬ (c' = ci ∧ k' = 0 ∧ i' = i) → ct G σ' c' k' i' = ct G σ c' k' i')
    (hlink : Cond.fieldLink own idx C (T k).2.1 (T k).2.2.1 ∈ gW ∨ ∃ host, Cond.fieldLinkNest own idx C (T k).2.1 (T k).2.2.1 host ∈ nW) (hdg : decode cc pc = .ok (.putfield idx, 3))
    (kk : ∀ (H1 : Heap) (locs1 : List Loc), Wd G σ' H1 → va_S (gA G) s.heap H1 locs1 → W p l e R s m args below meth c H1 locs1 cells slots Q (F0 m (pc + 3) ls rest)) : W p l e R s m args below meth c H locs cells slots Q (F0 m pc ls (v :: .ref (gd G ci 0 i) :: rest)) := by
  obtain ⟨hx, hb, hml, hown, hts, hK, -⟩ := cx
  have hap := va_apart (own := own) hts hin ty0 hty hnm hK.1 hc
  obtain ⟨r, hr1, cell, q1, q2, q3, q4⟩ := (hW.1 ci 0 i hv0 hi).1
  have hr : r = (C, T, N) := Option.some.inj (hr1.symm.trans hc)
  subst hr
  obtain ⟨hS, hfc, kC, hkC, hkind⟩ := hK.1.1 ci _ hc
  obtain ⟨cf, kf, fi, f, hfi, hsl⟩ := hS k hk
  have hlay := hts _ (hin _ (u_in_lay hk))
  unfold u_lay at hlay
  rw [if_neg (by rw [hfin]; decide)] at hlay
  have hst := (u_facts hfc hkC (u_lays hts hin hk) hfi).1
  have h6 := u_store hfc hkC hkind hlay hfi (hty k hk) hn hfit
  have key : ∀ H' : Heap, H'[gd G ci 0 i]? = some (cell.setSlot f.slot v) → H'.size = H.size → (∀ q, q ≠ gd G ci 0 i → H'[q]? = H[q]?) → W p l e R s m args below meth c H' (locs ++ [⟨gd G ci 0 i, f.slot⟩]) cells slots Q (F0 m (pc + 3) ls rest) := by
    intro H' e1 e2 e3
    rw [hsl] at e1
    refine kk H' _ (hW.set hv0 hi ?_ e3 hct) (hS0.put e2 e3 (hW.1 ci 0 i hv0 hi).2)
    show va_at (gD G) vwCl (gd G ci 0 i, .inr (ci, flds G σ' ci i)) H'
    rw [← flds_set hk2 h1 h2]
    exact ⟨_, hc, t_OB.to (V := updV (vp_V (flds G σ ci i)) k v) ⟨_, e1, q2, q3, t_set q4 hap hk v⟩ (fun j _ => vp_updV_set (by rw [flds_len]; exact hk2) v j)⟩
  have hi' : s.fieldFound? C (T k).2.1 (T k).2.2.1 = some (cf, kf, fi, f) := by rw [← hfi, ht]
  rcases hlink with hlink | ⟨host, hlink⟩
  · exact W.putK hx hb (f := f) ⟨hown, hts _ hlink, ⟨_, _, _, hi'⟩, hst⟩ (by rw [q2]; exact h6) q1 q3 (by rw [hsl]; exact k2_hasslot (q4 k hk)) rfl rfl hdg key
  · exact va_WputK hx hb (f := f) hown (va_Nw.use rfl (hK.2 _ hlink)) hi' hst (by rw [q2]; exact h6) q1 q3 (by rw [hsl]; exact k2_hasslot (q4 k hk)) rfl rfl hdg key
theorem fv_setI {ci i k : Nat} {v : Int32} (h0 : (fk ci k).1 = 0) : fv G (setI σ ci k i v) ci i k = .int v ∧ ∀ j, j ≠ k → fv G (setI σ ci k i v) ci i j = fv G σ ci i j := by
  refine ⟨by simp [fv, h0, sI, setI], fun j hj => ?_⟩
  have : sI (setI σ ci k i v) ci j i = sI σ ci j i := by simp [sI, setI, hj]
  simp only [fv, this]; rfl
theorem fv_setR {ci i k : Nat} {v : Option Nat} (h0 : (fk ci k).1 = 2) : fv G (setR σ ci k i v) ci i k = va_rf (v.map (gd G (fk ci k).2.1 0)) ∧ ∀ j, j ≠ k → fv G (setR σ ci k i v) ci i j = fv G σ ci i j := by
  refine ⟨by simp [fv, h0, sR, setR], fun j hj => ?_⟩
  have : sR (setR σ ci k i v) ci j i = sR σ ci j i := by simp [sR, setR, hj]
  simp only [fv, this]; rfl
/-- a store into a row of numbers -/
theorem r_astore {ci k i n j : Nat} (hW : Wd G σ H) (hS0 : va_S (gA G) s.heap H locs) (hv : vn ci (k + 1) = true) (hi : i < gn G ci) {cy : Nat} (h1 : (fk ci k) = (1, cy, n)) {H1 : Heap} {x : Int32} (e : H1[gd G ci (k + 1) i]? = some ((vp_cell (gC G cy) (n, .inl (sA σ ci k i))).setSlot j (.int x))) (z : H1.size = H.size) (oq : ∀ q, q ≠ gd G ci (k + 1) i → H1[q]? = H[q]?) :
    Wd G (setA σ ci k i (upd (sA σ ci k i) j x)) H1 ∧ va_S (gA G) s.heap H1 (locs ++ [⟨gd G ci (k + 1) i, j⟩]) := by
  refine ⟨hW.set hv hi ?_ oq ct_setA, hS0.put z oq (hW.1 ci (k + 1) i hv hi).2⟩
  show H1[gd G ci (k + 1) i]? = _
  have hc : ct G (setA σ ci k i (upd (sA σ ci k i) j x)) ci (k + 1) i = .inl (gC G cy, n, .inl (upd (sA σ ci k i) j x)) := by
    simp [ct, h1, sA, setA]
  have key : H1[gd G ci (k + 1) i]? = some (vp_cell (gC G cy) (n, .inl (upd (sA σ ci k i) j x))) := by
    rw [e, vp_cell_i, vp_cell_i, arrV_store]
    congr 2
    funext q
    by_cases hq : q = j
    · subst hq; simp [updV, upd]
    · simp [updV, upd, hq]
  unfold va_at
  rw [hc]
  exact key
theorem ct_num {ci k i n cy : Nat} (h1 : (fk ci k) = (1, cy, n)) : ct G σ ci (k + 1) i = .inl (gC G cy, n, .inl (sA σ ci k i)) := by simp [ct, h1]
theorem ct_obj {ci k i n cy : Nat} (h1 : (fk ci k) = (3, cy, n)) : ct G σ ci (k + 1) i = .inl (gC G (4 + cy), n, .inr (.inr (.inr (.inr (fun j => (sQ σ ci k i j).map (gd G cy 0)))))) := by simp [ct, h1]
theorem r_iald (cx : Cx p s m args meth c own cc nL G) (hW : Wd G σ H) {ci k i n : Nat} (hi : i < gn G ci) (h1 : fk ci k = (1, 1, n)) (hv : vn ci (k + 1) = true) {j : Int32} (hin : 0 ≤ j.toInt ∧ j.toInt < n) (hdg : decode cc pc = .ok (.iaload, 1))
    (kk : W p l e R s m args below meth c H locs cells slots Q (F0 m (pc + 1) ls (.int (sA σ ci k i j.toNatClampNeg) :: rest))) : W p l e R s m args below meth c H locs cells slots Q (F0 m pc ls (.int j :: .ref (gd G ci (k + 1) i) :: rest)) := by
  obtain ⟨hx, hb, hml, hown, hts, hK, -⟩ := cx
  have hP := hW.P1 hv hi; rw [ct_num h1] at hP
  exact va_iald hx hb hK.1 hP 0 1 rfl rfl (vp_in_iff.mpr hin) hdg kk
theorem r_bald (cx : Cx p s m args meth c own cc nL G) (hW : Wd G σ H) {ci k i n : Nat} (hi : i < gn G ci) (h1 : fk ci k = (1, 0, n)) (hv : vn ci (k + 1) = true) {j : Int32} (hin : 0 ≤ j.toInt ∧ j.toInt < n) (hdg : decode cc pc = .ok (.baload, 1))
    (kk : W p l e R s m args below meth c H locs cells slots Q (F0 m (pc + 1) ls (.int (sA σ ci k i j.toNatClampNeg) :: rest))) : W p l e R s m args below meth c H locs cells slots Q (F0 m pc ls (.int j :: .ref (gd G ci (k + 1) i) :: rest)) := by
  obtain ⟨hx, hb, hml, hown, hts, hK, -⟩ := cx
  have hP := hW.P1 hv hi; rw [ct_num h1] at hP
  exact va_bald hx hb hK.1 hP 0 0 rfl rfl (vp_in_iff.mpr hin) hdg kk
theorem r_sald (cx : Cx p s m args meth c own cc nL G) (hW : Wd G σ H) {ci k i n : Nat} (hi : i < gn G ci) (h1 : fk ci k = (1, 2, n)) (hv : vn ci (k + 1) = true) {j : Int32} (hin : 0 ≤ j.toInt ∧ j.toInt < n) (hdg : decode cc pc = .ok (.saload, 1))
    (kk : W p l e R s m args below meth c H locs cells slots Q (F0 m (pc + 1) ls (.int (sA σ ci k i j.toNatClampNeg) :: rest))) : W p l e R s m args below meth c H locs cells slots Q (F0 m pc ls (.int j :: .ref (gd G ci (k + 1) i) :: rest)) := by
  obtain ⟨hx, hb, hml, hown, hts, hK, -⟩ := cx
  have hP := hW.P1 hv hi; rw [ct_num h1] at hP
  exact va_sald hx hb hK.1 hP 0 2 rfl rfl (vp_in_iff.mpr hin) hdg kk
theorem r_zald (cx : Cx p s m args meth c own cc nL G) (hW : Wd G σ H) {ci k i n : Nat} (hi : i < gn G ci) (h1 : fk ci k = (1, 3, n)) (hv : vn ci (k + 1) = true) {j : Int32} (hin : 0 ≤ j.toInt ∧ j.toInt < n) (hdg : decode cc pc = .ok (.baload, 1))
    (kk : W p l e R s m args below meth c H locs cells slots Q (F0 m (pc + 1) ls (.int (sA σ ci k i j.toNatClampNeg) :: rest))) : W p l e R s m args below meth c H locs cells slots Q (F0 m pc ls (.int j :: .ref (gd G ci (k + 1) i) :: rest)) := by
  obtain ⟨hx, hb, hml, hown, hts, hK, -⟩ := cx
  have hP := hW.P1 hv hi; rw [ct_num h1] at hP
  exact va_zald hx hb hK.1 hP 0 3 rfl rfl (vp_in_iff.mpr hin) hdg kk
theorem r_iast (cx : Cx p s m args meth c own cc nL G) (hW : Wd G σ H) (hS0 : va_S (gA G) s.heap H locs) {ci k i n : Nat} (hi : i < gn G ci) (h1 : fk ci k = (1, 1, n)) (hv : vn ci (k + 1) = true) {j x : Int32} (hin : 0 ≤ j.toInt ∧ j.toInt < n) (hdg : decode cc pc = .ok (.iastore, 1))
    (kk : ∀ (H1 : Heap) (locs1 : List Loc), Wd G (setA σ ci k i (upd (sA σ ci k i) j.toNatClampNeg x)) H1 → va_S (gA G) s.heap H1 locs1 → W p l e R s m args below meth c H1 locs1 cells slots Q (F0 m (pc + 1) ls rest)) : W p l e R s m args below meth c H locs cells slots Q (F0 m pc ls (.int x :: .int j :: .ref (gd G ci (k + 1) i) :: rest)) := by
  obtain ⟨hx, hb, hml, hown, hts, hK, -⟩ := cx
  have hcell := (hW.1 ci (k + 1) i hv hi).1; rw [ct_num h1] at hcell
  have hin' : vp_in j n := vp_in_iff.mpr hin
  refine W.iast hx hb hcell ((hK.1.2 1 _ rfl).1 n (fun j => .int (sA σ ci k i j))) (fun q => by cases q) (by show ¬ (j < 0 ∨ (arrV _ _ _).slots.size ≤ _); rw [arrV_size]; exact hin') rfl rfl hdg fun H1 e z oq => ?_
  obtain ⟨a1, a2⟩ := r_astore hW hS0 hv hi h1 (x := x) e z oq
  exact kk H1 _ a1 a2
theorem r_bast (cx : Cx p s m args meth c own cc nL G) (hW : Wd G σ H) (hS0 : va_S (gA G) s.heap H locs) {ci k i n : Nat} (hi : i < gn G ci) (h1 : fk ci k = (1, 0, n)) (hv : vn ci (k + 1) = true) {j x : Int32} (hin : 0 ≤ j.toInt ∧ j.toInt < n) (hdg : decode cc pc = .ok (.bastore, 1))
    (kk : ∀ (H1 : Heap) (locs1 : List Loc), Wd G (setA σ ci k i (upd (sA σ ci k i) j.toNatClampNeg x.toInt8.toInt32)) H1 → va_S (gA G) s.heap H1 locs1 → W p l e R s m args below meth c H1 locs1 cells slots Q (F0 m (pc + 1) ls rest)) : W p l e R s m args below meth c H locs cells slots Q (F0 m pc ls (.int x :: .int j :: .ref (gd G ci (k + 1) i) :: rest)) := by
  obtain ⟨hx, hb, hml, hown, hts, hK, -⟩ := cx
  have hcell := (hW.1 ci (k + 1) i hv hi).1; rw [ct_num h1] at hcell
  have hin' : vp_in j n := vp_in_iff.mpr hin
  refine W.bast hx hb hcell ((hK.1.2 0 _ rfl).1 n (fun j => .int (sA σ ci k i j))) (fun q => by cases q) (by show ¬ (j < 0 ∨ (arrV _ _ _).slots.size ≤ _); rw [arrV_size]; exact hin') rfl rfl hdg fun H1 e z oq => ?_
  obtain ⟨a1, a2⟩ := r_astore hW hS0 hv hi h1 (x := x.toInt8.toInt32) e z oq
  exact kk H1 _ a1 a2
theorem r_sast (cx : Cx p s m args meth c own cc nL G) (hW : Wd G σ H) (hS0 : va_S (gA G) s.heap H locs) {ci k i n : Nat} (hi : i < gn G ci) (h1 : fk ci k = (1, 2, n)) (hv : vn ci (k + 1) = true) {j x : Int32} (hin : 0 ≤ j.toInt ∧ j.toInt < n) (hdg : decode cc pc = .ok (.sastore, 1))
    (kk : ∀ (H1 : Heap) (locs1 : List Loc), Wd G (setA σ ci k i (upd (sA σ ci k i) j.toNatClampNeg x.toInt16.toInt32)) H1 → va_S (gA G) s.heap H1 locs1 → W p l e R s m args below meth c H1 locs1 cells slots Q (F0 m (pc + 1) ls rest)) : W p l e R s m args below meth c H locs cells slots Q (F0 m pc ls (.int x :: .int j :: .ref (gd G ci (k + 1) i) :: rest)) := by
  obtain ⟨hx, hb, hml, hown, hts, hK, -⟩ := cx
  have hcell := (hW.1 ci (k + 1) i hv hi).1; rw [ct_num h1] at hcell
  have hin' : vp_in j n := vp_in_iff.mpr hin
  refine W.sast hx hb hcell ((hK.1.2 2 _ rfl).1 n (fun j => .int (sA σ ci k i j))) (fun q => by cases q) (by show ¬ (j < 0 ∨ (arrV _ _ _).slots.size ≤ _); rw [arrV_size]; exact hin') rfl rfl hdg fun H1 e z oq => ?_
  obtain ⟨a1, a2⟩ := r_astore hW hS0 hv hi h1 (x := x.toInt16.toInt32) e z oq
  exact kk H1 _ a1 a2
theorem r_zast (cx : Cx p s m args meth c own cc nL G) (hW : Wd G σ H) (hS0 : va_S (gA G) s.heap H locs) {ci k i n : Nat} (hi : i < gn G ci) (h1 : fk ci k = (1, 3, n)) (hv : vn ci (k + 1) = true) {j x : Int32} (hin : 0 ≤ j.toInt ∧ j.toInt < n) (hdg : decode cc pc = .ok (.bastore, 1))
    (kk : ∀ (H1 : Heap) (locs1 : List Loc), Wd G (setA σ ci k i (upd (sA σ ci k i) j.toNatClampNeg (x &&& 1))) H1 → va_S (gA G) s.heap H1 locs1 → W p l e R s m args below meth c H1 locs1 cells slots Q (F0 m (pc + 1) ls rest)) : W p l e R s m args below meth c H locs cells slots Q (F0 m pc ls (.int x :: .int j :: .ref (gd G ci (k + 1) i) :: rest)) := by
  obtain ⟨hx, hb, hml, hown, hts, hK, -⟩ := cx
  have hcell := (hW.1 ci (k + 1) i hv hi).1; rw [ct_num h1] at hcell
  have hin' : vp_in j n := vp_in_iff.mpr hin
  refine W.zast hx hb hcell ((hK.1.2 3 _ rfl).1 n (fun j => .int (sA σ ci k i j))) (fun q => by cases q) (by show ¬ (j < 0 ∨ (arrV _ _ _).slots.size ≤ _); rw [arrV_size]; exact hin') rfl rfl hdg fun H1 e z oq => ?_
  obtain ⟨a1, a2⟩ := r_astore hW hS0 hv hi h1 (x := x &&& 1) e z oq
  exact kk H1 _ a1 a2
theorem r_aald (cx : Cx p s m args meth c own cc nL G) (hW : Wd G σ H) {ci k i n cy : Nat} (hi : i < gn G ci) (h1 : fk ci k = (3, cy, n)) (hv : vn ci (k + 1) = true) (t0 : Nat) {C : String} (ht : (tysG G)[t0]? = some (gC G (4 + cy), .object C)) {j : Int32} (hin : 0 ≤ j.toInt ∧ j.toInt < n) (hdg : decode cc pc = .ok (.aaload, 1))
    (kk : W p l e R s m args below meth c H locs cells slots Q (F0 m (pc + 1) ls (va_rf ((sQ σ ci k i j.toNatClampNeg).map (gd G cy 0)) :: rest))) : W p l e R s m args below meth c H locs cells slots Q (F0 m pc ls (.int j :: .ref (gd G ci (k + 1) i) :: rest)) := by
  obtain ⟨hx, hb, hml, hown, hts, hK, -⟩ := cx
  have hP := hW.P1 hv hi; rw [ct_obj h1] at hP
  exact va_aldq hx hb hK.1 hP 0 t0 rfl ht (vp_in_iff.mpr hin) hdg kk
end RK
