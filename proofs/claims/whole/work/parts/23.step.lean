def LgOK (μ : Nat) (ls : List (Option AV)) : Prop := ∀ j x, ls[j]? = some (some (vL x)) → j ∈ lg μ
def cl (g : GG) (ls : List (Option AV)) : List (Nat × Value) := ls.zipIdx.filterMap (fun q => q.1.map (fun v => (q.2, cv g v)))
theorem cl_mem {g : GG} {ls : List (Option AV)} {i : Nat} {w : Value} : (i, w) ∈ cl g ls ↔ ∃ v, ls[i]? = some (some v) ∧ w = cv g v := by
  unfold cl
  rw [List.mem_filterMap]
  constructor
  · rintro ⟨⟨a, j⟩, h1, h2⟩
    have h3 := List.mem_zipIdx_iff_getElem?.mp h1
    cases a with
    | none => cases h2
    | some v =>
      simp only [Option.map_some, Option.some.injEq, Prod.mk.injEq] at h2
      obtain ⟨rfl, rfl⟩ := h2
      exact ⟨v, h3, rfl⟩
  · rintro ⟨v, h1, rfl⟩
    exact ⟨(some v, i), List.mem_zipIdx_iff_getElem?.mpr h1, rfl⟩
def LSx (g : GG) (ls : List (Option AV)) (lsc : Array Slot) (nL : Nat) : Prop := lv_has lsc nL (cl g ls)
theorem LSx.at {g : GG} {ls : List (Option AV)} {lsc : Array Slot} {nL i : Nat} {v : AV} (h : LSx g ls lsc nL) (hv : ls[i]? = some (some v)) : lsc[i]? = some (.val (cv g v)) := h.2.2 (i, cv g v) (cl_mem.mpr ⟨v, hv, rfl⟩)
theorem cv_cat {g : GG} {v : AV} (h : (cv g v).category = 2) : ∃ x, v = vL x := by
  match v, h with
  | .inl x, h => cases h
  | .inr (.inl x), _ => exact ⟨x, rfl⟩
  | .inr (.inr none), h => cases h
  | .inr (.inr (some (_, _, _))), h => cases h
theorem cv_cat' {g : GG} {v : AV} : (cv g v).category = cat v := by
  match v with
  | .inl x => rfl
  | .inr (.inl x) => rfl
  | .inr (.inr none) => rfl
  | .inr (.inr (some (_, _, _))) => rfl
theorem cat_sum {g : GG} (r : List AV) : ((r.map (cv g)).map fun v => v.category).sum = (r.map cat).sum := by
  rw [List.map_map]
  congr 1
  exact List.map_congr_left (fun v _ => cv_cat')
theorem LSx.set {g : GG} {ls : List (Option AV)} {lsc : Array Slot} {nL i μ : Nat} {v : AV} (hlg : LgOK μ ls) (hok : okst μ i = true) (h : lv_has lsc nL ((i, cv g v) :: (cl g ls).filter (fun q => !(q.1 == i) && !(q.1 + 1 == i && q.2.category == 2)))) : LSx g (ls.set i (some v)) lsc nL := by
  refine ⟨h.1, h.2.1, fun q hq => h.2.2 q ?_⟩
  obtain ⟨j, w⟩ := q
  obtain ⟨u, h1, rfl⟩ := cl_mem.mp hq
  rw [List.getElem?_set] at h1
  by_cases e : i = j
  · subst e
    rw [if_pos rfl] at h1
    split at h1
    · cases h1; exact List.mem_cons_self
    · cases h1
  · rw [if_neg e] at h1
    refine List.mem_cons_of_mem _ (List.mem_filter.mpr ⟨cl_mem.mpr ⟨u, h1, rfl⟩, ?_⟩)
    simp only [Bool.and_eq_true, Bool.not_eq_true', beq_eq_false_iff_ne, ne_eq, Bool.and_eq_false_iff]
    refine ⟨fun z => e z.symm, ?_⟩
    by_cases hc : (cv g u).category = 2
    · obtain ⟨x, rfl⟩ := cv_cat hc
      have hj := hlg j x h1
      simp only [okst, Bool.and_eq_true, List.all_eq_true, Bool.not_eq_true', beq_eq_false_iff_ne, ne_eq] at hok
      exact Or.inl (hok.2 j hj)
    · exact Or.inr hc
theorem LSx.set2 {g : GG} {ls : List (Option AV)} {lsc : Array Slot} {nL i μ : Nat} {x : Int64} (hlg : LgOK μ ls) (hok : okl μ i = true) (h : lv_has lsc nL ((i, .long x) :: (cl g ls).filter (fun q => !(q.1 == i) && (!(q.1 == i + 1) && !(q.1 + 1 == i && q.2.category == 2))))) : LSx g ((ls.set i (some (vL x))).set (i + 1) none) lsc nL := by
  refine ⟨h.1, h.2.1, fun q hq => h.2.2 q ?_⟩
  obtain ⟨j, w⟩ := q
  obtain ⟨u, h1, rfl⟩ := cl_mem.mp hq
  rw [List.getElem?_set] at h1
  by_cases e : i + 1 = j
  · subst e
    rw [if_pos rfl] at h1
    split at h1 <;> cases h1
  · rw [if_neg e, List.getElem?_set] at h1
    by_cases e2 : i = j
    · subst e2
      rw [if_pos rfl] at h1
      split at h1
      · cases h1; exact List.mem_cons_self
      · cases h1
    · rw [if_neg e2] at h1
      refine List.mem_cons_of_mem _ (List.mem_filter.mpr ⟨cl_mem.mpr ⟨u, h1, rfl⟩, ?_⟩)
      simp only [Bool.and_eq_true, Bool.not_eq_true', beq_eq_false_iff_ne, ne_eq, Bool.and_eq_false_iff]
      refine ⟨fun z => e2 z.symm, fun z => e z.symm, ?_⟩
      by_cases hc : (cv g u).category = 2
      · obtain ⟨x, rfl⟩ := cv_cat hc
        have hj := hlg j x h1
        simp only [okl, Bool.and_eq_true, List.all_eq_true, Bool.not_eq_true', beq_eq_false_iff_ne, ne_eq] at hok
        exact Or.inl (hok.1.2 j hj)
      · exact Or.inr hc
theorem LgOK.set {μ i : Nat} {ls : List (Option AV)} {v : AV} (h : LgOK μ ls) (hv : cat v = 1) : LgOK μ (ls.set i (some v)) := by
  intro j x hj
  rw [List.getElem?_set] at hj
  split at hj
  · split at hj
    · cases hj; cases hv
    · cases hj
  · exact h j x hj
theorem LgOK.set2 {μ i : Nat} {ls : List (Option AV)} {x : Int64} (h : LgOK μ ls) (hok : okl μ i = true) : LgOK μ ((ls.set i (some (vL x))).set (i + 1) none) := by
  intro j y hj
  rw [List.getElem?_set] at hj
  split at hj
  · split at hj <;> cases hj
  · rw [List.getElem?_set] at hj
    split at hj
    · next e =>
      subst e
      simp only [okl, Bool.and_eq_true, List.contains_iff_mem] at hok
      exact hok.2
    · exact h j y hj
/-- where a method of the small machine stands in the large one -/
def Cx (D : va_G) (cA : Nat → ClassId) (μ : Nat) (p : Program) (s : State) (m : MethodId) (args : Array Value) (meth : Method) (c : Code) : Prop :=
  p.tables.exec = Jvm.exec ∧ c.code = cod μ ∧ c.maxLocals = mxl μ ∧ s.vm.findClass (onm (ow μ)) = some m.cls ∧ (∀ w ∈ gW, w.before args s = true) ∧ KS D cA s ∧ meth.locks = false ∧ meth.sig.returnType = rt μ ∧ ((nam μ).name = "<init>" → meth.name = "<init>")
def PP (p : Program) (l : Launch) (e : Env) (R : Room) (s : State) (m : MethodId) (args : Array Value) (below : List Frame) (meth : Method) (c : Code) (Qf : State → Prop) (D : va_G) (cA : Nat → ClassId) (g : GG) (base μ : Nat) (σ0 : St) (x : Cfg) : Prop :=
  x.1 = μ → LgOK μ x.2.2.1 → ∀ (H : Heap) (locs : List Loc) (cells slots : Nat) (lsc : Array Slot), Wd D cA g base x.2.2.2.2 s H → LSx g x.2.2.1 lsc (mxl μ) → va_S (fun q => base ≤ q) s.heap H locs → cells + gH σ0 = gH x.2.2.2.2 → slots + gS σ0 = gS x.2.2.2.2 →
    W p l e R s m args below meth c H locs cells slots Qf (F0 m x.2.1 lsc (x.2.2.2.1.map (cv g)))
section INV
variable {cl' : Nat → List AV → St → (Option AV → St → Prop) → Prop} {P : Cfg → Prop} {Q : Option AV → St → Prop}
theorem popI_inv {st : List AV} {k : Int32 → List AV → Rs} (h : Sd cl' P Q (popI st k)) : ∃ x r, st = vI x :: r ∧ Sd cl' P Q (k x r) := by
  unfold popI at h; split at h
  · exact ⟨_, _, rfl, h⟩
  · exact h.elim
theorem popL_inv {st : List AV} {k : Int64 → List AV → Rs} (h : Sd cl' P Q (popL st k)) : ∃ x r, st = vL x :: r ∧ Sd cl' P Q (k x r) := by
  unfold popL at h; split at h
  · exact ⟨_, _, rfl, h⟩
  · exact h.elim
theorem popR_inv {st : List AV} {k : Option (Nat × Nat × Nat) → List AV → Rs} (h : Sd cl' P Q (popR st k)) : ∃ x r, st = vR x :: r ∧ Sd cl' P Q (k x r) := by
  unfold popR at h; split at h
  · exact ⟨_, _, rfl, h⟩
  · exact h.elim
theorem popO_inv {ci : Nat} {σ : St} {st : List AV} {k : Nat → List AV → Rs} (h : Sd cl' P Q (popO ci σ st k)) : ∃ i r, st = vR (some (ci, 0, i)) :: r ∧ i < gN σ ci ∧ Sd cl' P Q (k i r) := by
  unfold popO at h; split at h
  · split at h
    · next hc => obtain ⟨rfl, hi⟩ := hc; exact ⟨_, _, rfl, hi, h⟩
    · exact h.elim
  · exact h.elim
theorem popW_inv {σ : St} {st : List AV} {K : Nat → Nat → Nat → Nat → List AV → Rs} (h : Sd cl' P Q (popW σ st K)) : ∃ ci k i n r, st = vR (some (ci, k + 1, i)) :: r ∧ gL σ ci k i = some n ∧ i < gN σ ci ∧ Sd cl' P Q (K ci k i n r) := by
  unfold popW at h; split at h
  · split at h
    · next hl =>
      split at h
      · next hi => exact ⟨_, _, _, _, _, rfl, hl, hi, h⟩
      · exact h.elim
    · exact h.elim
  · exact h.elim
theorem ldI_inv {ls : List (Option AV)} {i : Nat} {k : Int32 → Rs} (h : Sd cl' P Q (ldI ls i k)) : ∃ x, ls[i]? = some (some (vI x)) ∧ Sd cl' P Q (k x) := by
  unfold ldI at h; split at h
  · next hl => exact ⟨_, hl, h⟩
  · exact h.elim
theorem ldL_inv {ls : List (Option AV)} {i : Nat} {k : Int64 → Rs} (h : Sd cl' P Q (ldL ls i k)) : ∃ x, ls[i]? = some (some (vL x)) ∧ Sd cl' P Q (k x) := by
  unfold ldL at h; split at h
  · next hl => exact ⟨_, hl, h⟩
  · exact h.elim
theorem ldR_inv {ls : List (Option AV)} {i : Nat} {k : Option (Nat × Nat × Nat) → Rs} (h : Sd cl' P Q (ldR ls i k)) : ∃ x, ls[i]? = some (some (vR x)) ∧ Sd cl' P Q (k x) := by
  unfold ldR at h; split at h
  · next hl => exact ⟨_, hl, h⟩
  · exact h.elim
theorem if_inv {q : Prop} [Decidable q] {a : Rs} (h : Sd cl' P Q (if q then a else none)) : q ∧ Sd cl' P Q a := by
  split at h
  · next hq => exact ⟨hq, h⟩
  · exact h.elim
theorem ifn_inv {q : Prop} [Decidable q] {a : Rs} (h : Sd cl' P Q (if q then none else a)) : ¬ q ∧ Sd cl' P Q a := by
  split at h
  · exact h.elim
  · next hq => exact ⟨hq, h⟩
theorem jm_inv {μ pc : Nat} {off : Int} {ls : List (Option AV)} {st : List AV} {σ : St} (h : Sd cl' P Q (jm μ pc off ls st σ)) : ∃ t : Nat, (pc : Int) + off = (t : Int) ∧ P (μ, t, ls, st, σ) := by
  unfold jm at h
  have hz := if_inv h; clear h; obtain ⟨hq, h⟩ := hz
  exact ⟨((pc : Int) + off).toNat, by omega, h⟩
theorem jg_inv {pc : Nat} {off : Int} {k : Nat → Rs} (h : Sd cl' P Q (jg pc off k)) : ∃ t : Nat, (pc : Int) + off = (t : Int) ∧ Sd cl' P Q (k t) := by
  unfold jg at h
  have hz := if_inv h; clear h; obtain ⟨hq, h⟩ := hz
  exact ⟨((pc : Int) + off).toNat, by omega, h⟩
theorem br_t' {q : Prop} [Decidable q] {a b : Rs} (h : Sd cl' P Q (br q a b)) (hq : q) : Sd cl' P Q a := by
  unfold br at h; rw [if_pos hq] at h; exact h
theorem br_f' {q : Prop} [Decidable q] {a b : Rs} (h : Sd cl' P Q (br q a b)) (hq : ¬ q) : Sd cl' P Q b := by
  unfold br at h; rw [if_neg hq] at h; exact h
end INV
section STP
variable {p : Program} {l : Launch} {e : Env} {R : Room} {s : State} {m : MethodId} {args : Array Value} {below : List Frame} {meth : Method} {c : Code} {Qf : State → Prop} {D : va_G} {cA : Nat → ClassId} {g : GG} {base μ : Nat} {σ0 σ1 : St} {r1 : Option AV} {dd : Nat}
variable {pc : Nat} {ls : List (Option AV)} {st : List AV} {σ : St}
theorem PP_pure {pc' : Nat} {st' : List AV} (h : PP p l e R s m args below meth c Qf D cA g base μ σ0 (μ, pc', ls, st', σ)) (hk : ∀ (H : Heap) (locs : List Loc) (cells slots : Nat) (lsc : Array Slot), LSx g ls lsc (mxl μ) → W p l e R s m args below meth c H locs cells slots Qf (F0 m pc' lsc (st'.map (cv g))) → W p l e R s m args below meth c H locs cells slots Qf (F0 m pc lsc (st.map (cv g)))) : PP p l e R s m args below meth c Qf D cA g base μ σ0 (μ, pc, ls, st, σ) :=
  fun e1 hl H locs cells slots lsc a1 a2 a3 a4 a5 => hk H locs cells slots lsc a2 (h e1 hl H locs cells slots lsc a1 a2 a3 a4 a5)
theorem PP_st {pc' i : Nat} {v : AV} {st' : List AV} (h : PP p l e R s m args below meth c Qf D cA g base μ σ0 (μ, pc', ls.set i (some v), st', σ)) (hok : okst μ i = true) (hv : cat v = 1)
    (hk : ∀ (H : Heap) (locs : List Loc) (cells slots : Nat) (lsc : Array Slot), LSx g ls lsc (mxl μ) → i < mxl μ → (∀ lsc' : Array Slot, lv_has lsc' (mxl μ) ((i, cv g v) :: (cl g ls).filter (fun q => !(q.1 == i) && !(q.1 + 1 == i && q.2.category == 2))) → W p l e R s m args below meth c H locs cells slots Qf (F0 m pc' lsc' (st'.map (cv g)))) → W p l e R s m args below meth c H locs cells slots Qf (F0 m pc lsc (st.map (cv g)))) : PP p l e R s m args below meth c Qf D cA g base μ σ0 (μ, pc, ls, st, σ) := by
  intro e1 hl H locs cells slots lsc a1 a2 a3 a4 a5
  refine hk H locs cells slots lsc a2 ?_ (fun lsc' h2 => h e1 (hl.set hv) H locs cells slots lsc' a1 (LSx.set hl hok h2) a3 a4 a5)
  simp only [okst, Bool.and_eq_true, decide_eq_true_eq] at hok
  exact hok.1
theorem k_iconst (C : Cx D cA μ p s m args meth c) {v : Int} (hd : decode (cod μ) pc = .ok (.iconst v, 1)) (h : Sd (clo dd) (fun x => Mn x.2.2.2.2 σ1 ∧ PP p l e R s m args below meth c Qf D cA g base μ σ0 x) (fun r' s' => r' = r1 ∧ s' = σ1) (nx μ (pc + 1) ls (vI (Int32.ofInt v) :: st) σ)) : PP p l e R s m args below meth c Qf D cA g base μ σ0 (μ, pc, ls, st, σ) := by
  exact PP_pure h.2 (fun H locs cells slots lsc hL k => lv_iconst C.1 C.2.1 hd rfl k)
theorem k_bipush (C : Cx D cA μ p s m args meth c) {v : Int} (hd : decode (cod μ) pc = .ok (.bipush v, 2)) (h : Sd (clo dd) (fun x => Mn x.2.2.2.2 σ1 ∧ PP p l e R s m args below meth c Qf D cA g base μ σ0 x) (fun r' s' => r' = r1 ∧ s' = σ1) (nx μ (pc + 2) ls (vI (Int8.ofInt v).toInt32 :: st) σ)) : PP p l e R s m args below meth c Qf D cA g base μ σ0 (μ, pc, ls, st, σ) := by
  exact PP_pure h.2 (fun H locs cells slots lsc hL k => lv_bipush C.1 C.2.1 hd rfl k)
theorem k_sipush (C : Cx D cA μ p s m args meth c) {v : Int} (hd : decode (cod μ) pc = .ok (.sipush v, 3)) (h : Sd (clo dd) (fun x => Mn x.2.2.2.2 σ1 ∧ PP p l e R s m args below meth c Qf D cA g base μ σ0 x) (fun r' s' => r' = r1 ∧ s' = σ1) (nx μ (pc + 3) ls (vI (Int16.ofInt v).toInt32 :: st) σ)) : PP p l e R s m args below meth c Qf D cA g base μ σ0 (μ, pc, ls, st, σ) := by
  exact PP_pure h.2 (fun H locs cells slots lsc hL k => lv_sipush C.1 C.2.1 hd rfl k)
theorem k_lconst (C : Cx D cA μ p s m args meth c) {v : Fin 2} (hd : decode (cod μ) pc = .ok (.lconst v, 1)) (h : Sd (clo dd) (fun x => Mn x.2.2.2.2 σ1 ∧ PP p l e R s m args below meth c Qf D cA g base μ σ0 x) (fun r' s' => r' = r1 ∧ s' = σ1) (nx μ (pc + 1) ls (vL (Int64.ofNat (v : Nat)) :: st) σ)) : PP p l e R s m args below meth c Qf D cA g base μ σ0 (μ, pc, ls, st, σ) := by
  exact PP_pure h.2 (fun H locs cells slots lsc hL k => lv_lconst C.1 C.2.1 hd rfl k)
theorem k_null (C : Cx D cA μ p s m args meth c)  (hd : decode (cod μ) pc = .ok (.aconst_null, 1)) (h : Sd (clo dd) (fun x => Mn x.2.2.2.2 σ1 ∧ PP p l e R s m args below meth c Qf D cA g base μ σ0 x) (fun r' s' => r' = r1 ∧ s' = σ1) (nx μ (pc + 1) ls (vR none :: st) σ)) : PP p l e R s m args below meth c Qf D cA g base μ σ0 (μ, pc, ls, st, σ) := by
  exact PP_pure h.2 (fun H locs cells slots lsc hL k => lv_null C.1 C.2.1 hd k)
theorem k_ldc (C : Cx D cA μ p s m args meth c) {x : Nat} (hd : decode (cod μ) pc = .ok (.ldc x, 2)) (h : Sd (clo dd) (fun x => Mn x.2.2.2.2 σ1 ∧ PP p l e R s m args below meth c Qf D cA g base μ σ0 x) (fun r' s' => r' = r1 ∧ s' = σ1) (match cstQ (ow μ) x with
    | some v => nx μ (pc + 2) ls (vI v :: st) σ
    | none => none)) : PP p l e R s m args below meth c Qf D cA g base μ σ0 (μ, pc, ls, st, σ) := by
  cases hq : cstQ (ow μ) x with
  | none => rw [hq] at h; exact h.elim
  | some v =>
    rw [hq] at h
    exact PP_pure h.2 (fun H locs cells slots lsc hL k => lv_ldc C.1 C.2.1 C.2.2.2.1 (C.2.2.2.2.1 _ (cst_ok hq)) hd k)
theorem k_ldc_w (C : Cx D cA μ p s m args meth c) {x : Nat} (hd : decode (cod μ) pc = .ok (.ldc_w x, 3)) (h : Sd (clo dd) (fun x => Mn x.2.2.2.2 σ1 ∧ PP p l e R s m args below meth c Qf D cA g base μ σ0 x) (fun r' s' => r' = r1 ∧ s' = σ1) (match cstQ (ow μ) x with
    | some v => nx μ (pc + 3) ls (vI v :: st) σ
    | none => none)) : PP p l e R s m args below meth c Qf D cA g base μ σ0 (μ, pc, ls, st, σ) := by
  cases hq : cstQ (ow μ) x with
  | none => rw [hq] at h; exact h.elim
  | some v =>
    rw [hq] at h
    exact PP_pure h.2 (fun H locs cells slots lsc hL k => lv_ldcw C.1 C.2.1 C.2.2.2.1 (C.2.2.2.2.1 _ (cst_ok hq)) hd k)
theorem k_ldc2_w (C : Cx D cA μ p s m args meth c) {x : Nat} (hd : decode (cod μ) pc = .ok (.ldc2_w x, 3)) (h : Sd (clo dd) (fun x => Mn x.2.2.2.2 σ1 ∧ PP p l e R s m args below meth c Qf D cA g base μ σ0 x) (fun r' s' => r' = r1 ∧ s' = σ1) (match lngQ (ow μ) x with
    | some v => nx μ (pc + 3) ls (vL v :: st) σ
    | none => none)) : PP p l e R s m args below meth c Qf D cA g base μ σ0 (μ, pc, ls, st, σ) := by
  cases hq : lngQ (ow μ) x with
  | none => rw [hq] at h; exact h.elim
  | some v =>
    rw [hq] at h
    exact PP_pure h.2 (fun H locs cells slots lsc hL k => lv_ldc2 C.1 C.2.1 C.2.2.2.1 (C.2.2.2.2.1 _ (lng_ok hq)) hd k)
theorem k_iload_n (C : Cx D cA μ p s m args meth c) {k : Fin 4} (hd : decode (cod μ) pc = .ok (.iload_n k, 1)) (h : Sd (clo dd) (fun x => Mn x.2.2.2.2 σ1 ∧ PP p l e R s m args below meth c Qf D cA g base μ σ0 x) (fun r' s' => r' = r1 ∧ s' = σ1) (ldI ls k fun x => nx μ (pc + 1) ls (vI x :: st) σ)) : PP p l e R s m args below meth c Qf D cA g base μ σ0 (μ, pc, ls, st, σ) := by
  have hz := ldI_inv h; clear h; obtain ⟨x, hx, h⟩ := hz
  exact PP_pure h.2 (fun H locs cells slots lsc hL k => lv_iload_n C.1 C.2.1 hd rfl (hL.at hx) k)
theorem k_iload (C : Cx D cA μ p s m args meth c) {k : Nat} (hd : decode (cod μ) pc = .ok (.iload k, 2)) (h : Sd (clo dd) (fun x => Mn x.2.2.2.2 σ1 ∧ PP p l e R s m args below meth c Qf D cA g base μ σ0 x) (fun r' s' => r' = r1 ∧ s' = σ1) (ldI ls k fun x => nx μ (pc + 2) ls (vI x :: st) σ)) : PP p l e R s m args below meth c Qf D cA g base μ σ0 (μ, pc, ls, st, σ) := by
  have hz := ldI_inv h; clear h; obtain ⟨x, hx, h⟩ := hz
  exact PP_pure h.2 (fun H locs cells slots lsc hL k => lv_iload C.1 C.2.1 hd (hL.at hx) k)
theorem k_lload_n (C : Cx D cA μ p s m args meth c) {k : Fin 4} (hd : decode (cod μ) pc = .ok (.lload_n k, 1)) (h : Sd (clo dd) (fun x => Mn x.2.2.2.2 σ1 ∧ PP p l e R s m args below meth c Qf D cA g base μ σ0 x) (fun r' s' => r' = r1 ∧ s' = σ1) (ldL ls k fun x => nx μ (pc + 1) ls (vL x :: st) σ)) : PP p l e R s m args below meth c Qf D cA g base μ σ0 (μ, pc, ls, st, σ) := by
  have hz := ldL_inv h; clear h; obtain ⟨x, hx, h⟩ := hz
  exact PP_pure h.2 (fun H locs cells slots lsc hL k => lv_lload_n C.1 C.2.1 hd rfl (hL.at hx) k)
theorem k_lload (C : Cx D cA μ p s m args meth c) {k : Nat} (hd : decode (cod μ) pc = .ok (.lload k, 2)) (h : Sd (clo dd) (fun x => Mn x.2.2.2.2 σ1 ∧ PP p l e R s m args below meth c Qf D cA g base μ σ0 x) (fun r' s' => r' = r1 ∧ s' = σ1) (ldL ls k fun x => nx μ (pc + 2) ls (vL x :: st) σ)) : PP p l e R s m args below meth c Qf D cA g base μ σ0 (μ, pc, ls, st, σ) := by
  have hz := ldL_inv h; clear h; obtain ⟨x, hx, h⟩ := hz
  exact PP_pure h.2 (fun H locs cells slots lsc hL k => lv_lload C.1 C.2.1 hd (hL.at hx) k)
theorem k_aload_n (C : Cx D cA μ p s m args meth c) {k : Fin 4} (hd : decode (cod μ) pc = .ok (.aload_n k, 1)) (h : Sd (clo dd) (fun x => Mn x.2.2.2.2 σ1 ∧ PP p l e R s m args below meth c Qf D cA g base μ σ0 x) (fun r' s' => r' = r1 ∧ s' = σ1) (ldR ls k fun x => nx μ (pc + 1) ls (vR x :: st) σ)) : PP p l e R s m args below meth c Qf D cA g base μ σ0 (μ, pc, ls, st, σ) := by
  have hz := ldR_inv h; clear h; obtain ⟨x, hx, h⟩ := hz
  match x, hx, h with
  | none, hx, h => exact PP_pure h.2 (fun H locs cells slots lsc hL k => lv_aload_nN C.1 C.2.1 hd rfl (hL.at hx) k)
  | some (a1, a2, a3), hx, h => exact PP_pure h.2 (fun H locs cells slots lsc hL k => lv_aload_n C.1 C.2.1 hd rfl (hL.at hx) k)
theorem k_aload (C : Cx D cA μ p s m args meth c) {k : Nat} (hd : decode (cod μ) pc = .ok (.aload k, 2)) (h : Sd (clo dd) (fun x => Mn x.2.2.2.2 σ1 ∧ PP p l e R s m args below meth c Qf D cA g base μ σ0 x) (fun r' s' => r' = r1 ∧ s' = σ1) (ldR ls k fun x => nx μ (pc + 2) ls (vR x :: st) σ)) : PP p l e R s m args below meth c Qf D cA g base μ σ0 (μ, pc, ls, st, σ) := by
  have hz := ldR_inv h; clear h; obtain ⟨x, hx, h⟩ := hz
  match x, hx, h with
  | none, hx, h => exact PP_pure h.2 (fun H locs cells slots lsc hL k => lv_aloadN C.1 C.2.1 hd (hL.at hx) k)
  | some (a1, a2, a3), hx, h => exact PP_pure h.2 (fun H locs cells slots lsc hL k => lv_aload C.1 C.2.1 hd (hL.at hx) k)
theorem k_istore_n (C : Cx D cA μ p s m args meth c) {k : Fin 4} (hd : decode (cod μ) pc = .ok (.istore_n k, 1)) (h : Sd (clo dd) (fun x => Mn x.2.2.2.2 σ1 ∧ PP p l e R s m args below meth c Qf D cA g base μ σ0 x) (fun r' s' => r' = r1 ∧ s' = σ1) (popI st fun x r => if okst μ k = true then nx μ (pc + 1) (ls.set k (some (vI x))) r σ else none)) : PP p l e R s m args below meth c Qf D cA g base μ σ0 (μ, pc, ls, st, σ) := by
  have hz := popI_inv h; clear h; obtain ⟨x, r, rfl, h⟩ := hz
  have hz := if_inv h; clear h; obtain ⟨hok, h⟩ := hz
  exact PP_st h.2 hok rfl (fun H locs cells slots lsc hL hi k => lv_istore_n C.1 C.2.1 hd rfl hL hi rfl k)
theorem k_istore (C : Cx D cA μ p s m args meth c) {k : Nat} (hd : decode (cod μ) pc = .ok (.istore k, 2)) (h : Sd (clo dd) (fun x => Mn x.2.2.2.2 σ1 ∧ PP p l e R s m args below meth c Qf D cA g base μ σ0 x) (fun r' s' => r' = r1 ∧ s' = σ1) (popI st fun x r => if okst μ k = true then nx μ (pc + 2) (ls.set k (some (vI x))) r σ else none)) : PP p l e R s m args below meth c Qf D cA g base μ σ0 (μ, pc, ls, st, σ) := by
  have hz := popI_inv h; clear h; obtain ⟨x, r, rfl, h⟩ := hz
  have hz := if_inv h; clear h; obtain ⟨hok, h⟩ := hz
  exact PP_st h.2 hok rfl (fun H locs cells slots lsc hL hi k => lv_istore C.1 C.2.1 hd hL hi rfl k)
theorem k_astore_n (C : Cx D cA μ p s m args meth c) {k : Fin 4} (hd : decode (cod μ) pc = .ok (.astore_n k, 1)) (h : Sd (clo dd) (fun x => Mn x.2.2.2.2 σ1 ∧ PP p l e R s m args below meth c Qf D cA g base μ σ0 x) (fun r' s' => r' = r1 ∧ s' = σ1) (popR st fun x r => if okst μ k = true then nx μ (pc + 1) (ls.set k (some (vR x))) r σ else none)) : PP p l e R s m args below meth c Qf D cA g base μ σ0 (μ, pc, ls, st, σ) := by
  have hz := popR_inv h; clear h; obtain ⟨x, r, rfl, h⟩ := hz
  have hz := if_inv h; clear h; obtain ⟨hok, h⟩ := hz
  match x, h with
  | none, h => exact PP_st h.2 hok rfl (fun H locs cells slots lsc hL hi k => lv_astore_nN C.1 C.2.1 hd rfl hL hi rfl k)
  | some (a1, a2, a3), h => exact PP_st h.2 hok rfl (fun H locs cells slots lsc hL hi k => lv_astore_n C.1 C.2.1 hd rfl hL hi rfl k)
theorem k_astore (C : Cx D cA μ p s m args meth c) {k : Nat} (hd : decode (cod μ) pc = .ok (.astore k, 2)) (h : Sd (clo dd) (fun x => Mn x.2.2.2.2 σ1 ∧ PP p l e R s m args below meth c Qf D cA g base μ σ0 x) (fun r' s' => r' = r1 ∧ s' = σ1) (popR st fun x r => if okst μ k = true then nx μ (pc + 2) (ls.set k (some (vR x))) r σ else none)) : PP p l e R s m args below meth c Qf D cA g base μ σ0 (μ, pc, ls, st, σ) := by
  have hz := popR_inv h; clear h; obtain ⟨x, r, rfl, h⟩ := hz
  have hz := if_inv h; clear h; obtain ⟨hok, h⟩ := hz
  match x, h with
  | none, h => exact PP_st h.2 hok rfl (fun H locs cells slots lsc hL hi k => lv_astoreN C.1 C.2.1 hd hL hi rfl k)
  | some (a1, a2, a3), h => exact PP_st h.2 hok rfl (fun H locs cells slots lsc hL hi k => lv_astore C.1 C.2.1 hd hL hi rfl k)
theorem k_lstore_n (C : Cx D cA μ p s m args meth c) {k : Fin 4} (hd : decode (cod μ) pc = .ok (.lstore_n k, 1)) (h : Sd (clo dd) (fun x => Mn x.2.2.2.2 σ1 ∧ PP p l e R s m args below meth c Qf D cA g base μ σ0 x) (fun r' s' => r' = r1 ∧ s' = σ1) (popL st fun x r => if okl μ k = true then nx μ (pc + 1) ((ls.set k (some (vL x))).set (k + 1) none) r σ else none)) : PP p l e R s m args below meth c Qf D cA g base μ σ0 (μ, pc, ls, st, σ) := by
  have hz := popL_inv h; clear h; obtain ⟨x, r, rfl, h⟩ := hz
  have hz := if_inv h; clear h; obtain ⟨hok, h⟩ := hz
  intro e1 hl H locs cells slots lsc a1 a2 a3 a4 a5
  refine lv_lstore_n C.1 C.2.1 hd rfl a2 ?_ rfl (fun lsc' h2 => h.2 e1 (hl.set2 hok) H locs cells slots lsc' a1 (LSx.set2 hl hok h2) a3 a4 a5)
  simp only [okl, Bool.and_eq_true, decide_eq_true_eq] at hok
  exact hok.1.1
theorem k_lstore (C : Cx D cA μ p s m args meth c) {k : Nat} (hd : decode (cod μ) pc = .ok (.lstore k, 2)) (h : Sd (clo dd) (fun x => Mn x.2.2.2.2 σ1 ∧ PP p l e R s m args below meth c Qf D cA g base μ σ0 x) (fun r' s' => r' = r1 ∧ s' = σ1) (popL st fun x r => if okl μ k = true then nx μ (pc + 2) ((ls.set k (some (vL x))).set (k + 1) none) r σ else none)) : PP p l e R s m args below meth c Qf D cA g base μ σ0 (μ, pc, ls, st, σ) := by
  have hz := popL_inv h; clear h; obtain ⟨x, r, rfl, h⟩ := hz
  have hz := if_inv h; clear h; obtain ⟨hok, h⟩ := hz
  intro e1 hl H locs cells slots lsc a1 a2 a3 a4 a5
  refine lv_lstore C.1 C.2.1 hd a2 ?_ rfl (fun lsc' h2 => h.2 e1 (hl.set2 hok) H locs cells slots lsc' a1 (LSx.set2 hl hok h2) a3 a4 a5)
  simp only [okl, Bool.and_eq_true, decide_eq_true_eq] at hok
  exact hok.1.1
theorem k_iinc (C : Cx D cA μ p s m args meth c) {k : Nat} {v : Int} (hd : decode (cod μ) pc = .ok (.iinc k v, 3)) (h : Sd (clo dd) (fun x => Mn x.2.2.2.2 σ1 ∧ PP p l e R s m args below meth c Qf D cA g base μ σ0 x) (fun r' s' => r' = r1 ∧ s' = σ1) (ldI ls k fun x => if k < mxl μ then nx μ (pc + 3) (ls.set k (some (vI (x + Int32.ofInt v)))) st σ else none)) : PP p l e R s m args below meth c Qf D cA g base μ σ0 (μ, pc, ls, st, σ) := by
  have hz := ldI_inv h; clear h; obtain ⟨x, hx, h⟩ := hz
  have hz := if_inv h; clear h; obtain ⟨hi, h⟩ := hz
  intro e1 hl H locs cells slots lsc a1 a2 a3 a4 a5
  obtain ⟨j, hj⟩ := List.getElem?_of_mem (cl_mem.mpr ⟨vI x, hx, rfl⟩ : (k, Value.int x) ∈ cl g ls)
  refine lv_iinc C.1 C.2.1 hd a2 hj rfl hi rfl (fun lsc' h2 => h.2 e1 (hl.set rfl) H locs cells slots lsc' a1 ?_ a3 a4 a5)
  refine ⟨h2.1, h2.2.1, fun q hq => ?_⟩
  obtain ⟨j', w⟩ := q
  obtain ⟨u, h3, rfl⟩ := cl_mem.mp hq
  rw [List.getElem?_set] at h3
  by_cases e : k = j'
  · subst e
    rw [if_pos rfl] at h3
    split at h3
    · cases h3; exact h2.2.2 _ List.mem_cons_self
    · cases h3
  · rw [if_neg e] at h3
    refine h2.2.2 _ (List.mem_cons_of_mem _ (List.mem_filter.mpr ⟨cl_mem.mpr ⟨u, h3, rfl⟩, ?_⟩))
    simp only [Bool.and_eq_true, Bool.not_eq_true', beq_eq_false_iff_ne, ne_eq, Bool.and_eq_false_iff]
    refine ⟨fun z => e z.symm, ?_⟩
    by_cases hc : (cv g u).category = 2
    · refine Or.inl (fun z => ?_)
      have y1 := a2.2.1.1 j' _ (LSx.at a2 h3) hc
      rw [z, LSx.at a2 hx] at y1
      cases y1
    · exact Or.inr hc
theorem k_iadd (C : Cx D cA μ p s m args meth c)  (hd : decode (cod μ) pc = .ok (.iadd, 1)) (h : Sd (clo dd) (fun x => Mn x.2.2.2.2 σ1 ∧ PP p l e R s m args below meth c Qf D cA g base μ σ0 x) (fun r' s' => r' = r1 ∧ s' = σ1) (bin st (· + ·) fun r => nx μ (pc + 1) ls r σ)) : PP p l e R s m args below meth c Qf D cA g base μ σ0 (μ, pc, ls, st, σ) := by
  have hz := popI_inv h; clear h; obtain ⟨y, r, rfl, h⟩ := hz
  have hz := popI_inv h; clear h; obtain ⟨x, r, rfl, h⟩ := hz
  exact PP_pure h.2 (fun H locs cells slots lsc hL k => lv_iadd C.1 C.2.1 hd k)
theorem k_isub (C : Cx D cA μ p s m args meth c)  (hd : decode (cod μ) pc = .ok (.isub, 1)) (h : Sd (clo dd) (fun x => Mn x.2.2.2.2 σ1 ∧ PP p l e R s m args below meth c Qf D cA g base μ σ0 x) (fun r' s' => r' = r1 ∧ s' = σ1) (bin st (· - ·) fun r => nx μ (pc + 1) ls r σ)) : PP p l e R s m args below meth c Qf D cA g base μ σ0 (μ, pc, ls, st, σ) := by
  have hz := popI_inv h; clear h; obtain ⟨y, r, rfl, h⟩ := hz
  have hz := popI_inv h; clear h; obtain ⟨x, r, rfl, h⟩ := hz
  exact PP_pure h.2 (fun H locs cells slots lsc hL k => lv_isub C.1 C.2.1 hd k)
theorem k_imul (C : Cx D cA μ p s m args meth c)  (hd : decode (cod μ) pc = .ok (.imul, 1)) (h : Sd (clo dd) (fun x => Mn x.2.2.2.2 σ1 ∧ PP p l e R s m args below meth c Qf D cA g base μ σ0 x) (fun r' s' => r' = r1 ∧ s' = σ1) (bin st (· * ·) fun r => nx μ (pc + 1) ls r σ)) : PP p l e R s m args below meth c Qf D cA g base μ σ0 (μ, pc, ls, st, σ) := by
  have hz := popI_inv h; clear h; obtain ⟨y, r, rfl, h⟩ := hz
  have hz := popI_inv h; clear h; obtain ⟨x, r, rfl, h⟩ := hz
  exact PP_pure h.2 (fun H locs cells slots lsc hL k => lv_imul C.1 C.2.1 hd k)
theorem k_iand (C : Cx D cA μ p s m args meth c)  (hd : decode (cod μ) pc = .ok (.iand, 1)) (h : Sd (clo dd) (fun x => Mn x.2.2.2.2 σ1 ∧ PP p l e R s m args below meth c Qf D cA g base μ σ0 x) (fun r' s' => r' = r1 ∧ s' = σ1) (bin st (· &&& ·) fun r => nx μ (pc + 1) ls r σ)) : PP p l e R s m args below meth c Qf D cA g base μ σ0 (μ, pc, ls, st, σ) := by
  have hz := popI_inv h; clear h; obtain ⟨y, r, rfl, h⟩ := hz
  have hz := popI_inv h; clear h; obtain ⟨x, r, rfl, h⟩ := hz
  exact PP_pure h.2 (fun H locs cells slots lsc hL k => lv_iand C.1 C.2.1 hd k)
theorem k_ior (C : Cx D cA μ p s m args meth c)  (hd : decode (cod μ) pc = .ok (.ior, 1)) (h : Sd (clo dd) (fun x => Mn x.2.2.2.2 σ1 ∧ PP p l e R s m args below meth c Qf D cA g base μ σ0 x) (fun r' s' => r' = r1 ∧ s' = σ1) (bin st (· ||| ·) fun r => nx μ (pc + 1) ls r σ)) : PP p l e R s m args below meth c Qf D cA g base μ σ0 (μ, pc, ls, st, σ) := by
  have hz := popI_inv h; clear h; obtain ⟨y, r, rfl, h⟩ := hz
  have hz := popI_inv h; clear h; obtain ⟨x, r, rfl, h⟩ := hz
  exact PP_pure h.2 (fun H locs cells slots lsc hL k => lv_ior C.1 C.2.1 hd k)
theorem k_ixor (C : Cx D cA μ p s m args meth c)  (hd : decode (cod μ) pc = .ok (.ixor, 1)) (h : Sd (clo dd) (fun x => Mn x.2.2.2.2 σ1 ∧ PP p l e R s m args below meth c Qf D cA g base μ σ0 x) (fun r' s' => r' = r1 ∧ s' = σ1) (bin st (· ^^^ ·) fun r => nx μ (pc + 1) ls r σ)) : PP p l e R s m args below meth c Qf D cA g base μ σ0 (μ, pc, ls, st, σ) := by
  have hz := popI_inv h; clear h; obtain ⟨y, r, rfl, h⟩ := hz
  have hz := popI_inv h; clear h; obtain ⟨x, r, rfl, h⟩ := hz
  exact PP_pure h.2 (fun H locs cells slots lsc hL k => lv_ixor C.1 C.2.1 hd k)
theorem k_ishl (C : Cx D cA μ p s m args meth c)  (hd : decode (cod μ) pc = .ok (.ishl, 1)) (h : Sd (clo dd) (fun x => Mn x.2.2.2.2 σ1 ∧ PP p l e R s m args below meth c Qf D cA g base μ σ0 x) (fun r' s' => r' = r1 ∧ s' = σ1) (bin st (fun x y => x <<< (y &&& 31)) fun r => nx μ (pc + 1) ls r σ)) : PP p l e R s m args below meth c Qf D cA g base μ σ0 (μ, pc, ls, st, σ) := by
  have hz := popI_inv h; clear h; obtain ⟨y, r, rfl, h⟩ := hz
  have hz := popI_inv h; clear h; obtain ⟨x, r, rfl, h⟩ := hz
  exact PP_pure h.2 (fun H locs cells slots lsc hL k => lv_ishl C.1 C.2.1 hd k)
theorem k_ishr (C : Cx D cA μ p s m args meth c)  (hd : decode (cod μ) pc = .ok (.ishr, 1)) (h : Sd (clo dd) (fun x => Mn x.2.2.2.2 σ1 ∧ PP p l e R s m args below meth c Qf D cA g base μ σ0 x) (fun r' s' => r' = r1 ∧ s' = σ1) (bin st (fun x y => x >>> (y &&& 31)) fun r => nx μ (pc + 1) ls r σ)) : PP p l e R s m args below meth c Qf D cA g base μ σ0 (μ, pc, ls, st, σ) := by
  have hz := popI_inv h; clear h; obtain ⟨y, r, rfl, h⟩ := hz
  have hz := popI_inv h; clear h; obtain ⟨x, r, rfl, h⟩ := hz
  exact PP_pure h.2 (fun H locs cells slots lsc hL k => lv_ishr C.1 C.2.1 hd k)
theorem k_iushr (C : Cx D cA μ p s m args meth c)  (hd : decode (cod μ) pc = .ok (.iushr, 1)) (h : Sd (clo dd) (fun x => Mn x.2.2.2.2 σ1 ∧ PP p l e R s m args below meth c Qf D cA g base μ σ0 x) (fun r' s' => r' = r1 ∧ s' = σ1) (bin st (fun x y => (x.toUInt32 >>> (y.toUInt32 &&& Int32.toUInt32 31)).toInt32) fun r => nx μ (pc + 1) ls r σ)) : PP p l e R s m args below meth c Qf D cA g base μ σ0 (μ, pc, ls, st, σ) := by
  have hz := popI_inv h; clear h; obtain ⟨y, r, rfl, h⟩ := hz
  have hz := popI_inv h; clear h; obtain ⟨x, r, rfl, h⟩ := hz
  exact PP_pure h.2 (fun H locs cells slots lsc hL k => lv_iushr C.1 C.2.1 hd rfl k)
theorem k_idiv (C : Cx D cA μ p s m args meth c)  (hd : decode (cod μ) pc = .ok (.idiv, 1)) (h : Sd (clo dd) (fun x => Mn x.2.2.2.2 σ1 ∧ PP p l e R s m args below meth c Qf D cA g base μ σ0 x) (fun r' s' => r' = r1 ∧ s' = σ1) (popI st fun y r => popI r fun x r => if y = 0 then none else nx μ (pc + 1) ls (vI (x / y) :: r) σ)) : PP p l e R s m args below meth c Qf D cA g base μ σ0 (μ, pc, ls, st, σ) := by
  have hz := popI_inv h; clear h; obtain ⟨y, r, rfl, h⟩ := hz
  have hz := popI_inv h; clear h; obtain ⟨x, r, rfl, h⟩ := hz
  have hz := ifn_inv h; clear h; obtain ⟨hy, h⟩ := hz
  exact PP_pure h.2 (fun H locs cells slots lsc hL k => lv_idiv C.1 C.2.1 hd hy k)
theorem k_irem (C : Cx D cA μ p s m args meth c)  (hd : decode (cod μ) pc = .ok (.irem, 1)) (h : Sd (clo dd) (fun x => Mn x.2.2.2.2 σ1 ∧ PP p l e R s m args below meth c Qf D cA g base μ σ0 x) (fun r' s' => r' = r1 ∧ s' = σ1) (popI st fun y r => popI r fun x r => if y = 0 then none else nx μ (pc + 1) ls (vI (x - x / y * y) :: r) σ)) : PP p l e R s m args below meth c Qf D cA g base μ σ0 (μ, pc, ls, st, σ) := by
  have hz := popI_inv h; clear h; obtain ⟨y, r, rfl, h⟩ := hz
  have hz := popI_inv h; clear h; obtain ⟨x, r, rfl, h⟩ := hz
  have hz := ifn_inv h; clear h; obtain ⟨hy, h⟩ := hz
  exact PP_pure h.2 (fun H locs cells slots lsc hL k => lv_irem C.1 C.2.1 hd hy k)
theorem k_ladd (C : Cx D cA μ p s m args meth c)  (hd : decode (cod μ) pc = .ok (.ladd, 1)) (h : Sd (clo dd) (fun x => Mn x.2.2.2.2 σ1 ∧ PP p l e R s m args below meth c Qf D cA g base μ σ0 x) (fun r' s' => r' = r1 ∧ s' = σ1) (binL st (· + ·) fun r => nx μ (pc + 1) ls r σ)) : PP p l e R s m args below meth c Qf D cA g base μ σ0 (μ, pc, ls, st, σ) := by
  have hz := popL_inv h; clear h; obtain ⟨y, r, rfl, h⟩ := hz
  have hz := popL_inv h; clear h; obtain ⟨x, r, rfl, h⟩ := hz
  exact PP_pure h.2 (fun H locs cells slots lsc hL k => lv_ladd C.1 C.2.1 hd k)
theorem k_lmul (C : Cx D cA μ p s m args meth c)  (hd : decode (cod μ) pc = .ok (.lmul, 1)) (h : Sd (clo dd) (fun x => Mn x.2.2.2.2 σ1 ∧ PP p l e R s m args below meth c Qf D cA g base μ σ0 x) (fun r' s' => r' = r1 ∧ s' = σ1) (binL st (· * ·) fun r => nx μ (pc + 1) ls r σ)) : PP p l e R s m args below meth c Qf D cA g base μ σ0 (μ, pc, ls, st, σ) := by
  have hz := popL_inv h; clear h; obtain ⟨y, r, rfl, h⟩ := hz
  have hz := popL_inv h; clear h; obtain ⟨x, r, rfl, h⟩ := hz
  exact PP_pure h.2 (fun H locs cells slots lsc hL k => lv_lmul C.1 C.2.1 hd k)
theorem k_land (C : Cx D cA μ p s m args meth c)  (hd : decode (cod μ) pc = .ok (.land, 1)) (h : Sd (clo dd) (fun x => Mn x.2.2.2.2 σ1 ∧ PP p l e R s m args below meth c Qf D cA g base μ σ0 x) (fun r' s' => r' = r1 ∧ s' = σ1) (binL st (· &&& ·) fun r => nx μ (pc + 1) ls r σ)) : PP p l e R s m args below meth c Qf D cA g base μ σ0 (μ, pc, ls, st, σ) := by
  have hz := popL_inv h; clear h; obtain ⟨y, r, rfl, h⟩ := hz
  have hz := popL_inv h; clear h; obtain ⟨x, r, rfl, h⟩ := hz
  exact PP_pure h.2 (fun H locs cells slots lsc hL k => lv_land C.1 C.2.1 hd k)
theorem k_lor (C : Cx D cA μ p s m args meth c)  (hd : decode (cod μ) pc = .ok (.lor, 1)) (h : Sd (clo dd) (fun x => Mn x.2.2.2.2 σ1 ∧ PP p l e R s m args below meth c Qf D cA g base μ σ0 x) (fun r' s' => r' = r1 ∧ s' = σ1) (binL st (· ||| ·) fun r => nx μ (pc + 1) ls r σ)) : PP p l e R s m args below meth c Qf D cA g base μ σ0 (μ, pc, ls, st, σ) := by
  have hz := popL_inv h; clear h; obtain ⟨y, r, rfl, h⟩ := hz
  have hz := popL_inv h; clear h; obtain ⟨x, r, rfl, h⟩ := hz
  exact PP_pure h.2 (fun H locs cells slots lsc hL k => lv_lor C.1 C.2.1 hd k)
theorem k_ldiv (C : Cx D cA μ p s m args meth c)  (hd : decode (cod μ) pc = .ok (.ldiv, 1)) (h : Sd (clo dd) (fun x => Mn x.2.2.2.2 σ1 ∧ PP p l e R s m args below meth c Qf D cA g base μ σ0 x) (fun r' s' => r' = r1 ∧ s' = σ1) (popL st fun y r => popL r fun x r => if y = 0 then none else nx μ (pc + 1) ls (vL (x / y) :: r) σ)) : PP p l e R s m args below meth c Qf D cA g base μ σ0 (μ, pc, ls, st, σ) := by
  have hz := popL_inv h; clear h; obtain ⟨y, r, rfl, h⟩ := hz
  have hz := popL_inv h; clear h; obtain ⟨x, r, rfl, h⟩ := hz
  have hz := ifn_inv h; clear h; obtain ⟨hy, h⟩ := hz
  exact PP_pure h.2 (fun H locs cells slots lsc hL k => lv_ldiv C.1 C.2.1 hd hy k)
theorem k_lushr (C : Cx D cA μ p s m args meth c)  (hd : decode (cod μ) pc = .ok (.lushr, 1)) (h : Sd (clo dd) (fun x => Mn x.2.2.2.2 σ1 ∧ PP p l e R s m args below meth c Qf D cA g base μ σ0 x) (fun r' s' => r' = r1 ∧ s' = σ1) (binS st (fun x y => (x.toUInt64 >>> (y.toInt64.toUInt64 &&& Int64.toUInt64 63)).toInt64) fun r => nx μ (pc + 1) ls r σ)) : PP p l e R s m args below meth c Qf D cA g base μ σ0 (μ, pc, ls, st, σ) := by
  have hz := popI_inv h; clear h; obtain ⟨y, r, rfl, h⟩ := hz
  have hz := popL_inv h; clear h; obtain ⟨x, r, rfl, h⟩ := hz
  exact PP_pure h.2 (fun H locs cells slots lsc hL k => lv_lushr C.1 C.2.1 hd rfl k)
theorem k_lshl (C : Cx D cA μ p s m args meth c)  (hd : decode (cod μ) pc = .ok (.lshl, 1)) (h : Sd (clo dd) (fun x => Mn x.2.2.2.2 σ1 ∧ PP p l e R s m args below meth c Qf D cA g base μ σ0 x) (fun r' s' => r' = r1 ∧ s' = σ1) (binS st (fun x y => x <<< (y.toInt64 &&& 63)) fun r => nx μ (pc + 1) ls r σ)) : PP p l e R s m args below meth c Qf D cA g base μ σ0 (μ, pc, ls, st, σ) := by
  have hz := popI_inv h; clear h; obtain ⟨y, r, rfl, h⟩ := hz
  have hz := popL_inv h; clear h; obtain ⟨x, r, rfl, h⟩ := hz
  exact PP_pure h.2 (fun H locs cells slots lsc hL k => lv_lshl C.1 C.2.1 hd rfl k)
theorem k_lshr (C : Cx D cA μ p s m args meth c)  (hd : decode (cod μ) pc = .ok (.lshr, 1)) (h : Sd (clo dd) (fun x => Mn x.2.2.2.2 σ1 ∧ PP p l e R s m args below meth c Qf D cA g base μ σ0 x) (fun r' s' => r' = r1 ∧ s' = σ1) (binS st (fun x y => x >>> (y.toInt64 &&& 63)) fun r => nx μ (pc + 1) ls r σ)) : PP p l e R s m args below meth c Qf D cA g base μ σ0 (μ, pc, ls, st, σ) := by
  have hz := popI_inv h; clear h; obtain ⟨y, r, rfl, h⟩ := hz
  have hz := popL_inv h; clear h; obtain ⟨x, r, rfl, h⟩ := hz
  exact PP_pure h.2 (fun H locs cells slots lsc hL k => lv_lshr C.1 C.2.1 hd rfl k)
theorem k_lcmp (C : Cx D cA μ p s m args meth c)  (hd : decode (cod μ) pc = .ok (.lcmp, 1)) (h : Sd (clo dd) (fun x => Mn x.2.2.2.2 σ1 ∧ PP p l e R s m args below meth c Qf D cA g base μ σ0 x) (fun r' s' => r' = r1 ∧ s' = σ1) (popL st fun y r => popL r fun x r => nx μ (pc + 1) ls (vI (lg_cmp x y) :: r) σ)) : PP p l e R s m args below meth c Qf D cA g base μ σ0 (μ, pc, ls, st, σ) := by
  have hz := popL_inv h; clear h; obtain ⟨y, r, rfl, h⟩ := hz
  have hz := popL_inv h; clear h; obtain ⟨x, r, rfl, h⟩ := hz
  exact PP_pure h.2 (fun H locs cells slots lsc hL k => W.lcmp C.1 C.2.1 hd k)
theorem k_lneg (C : Cx D cA μ p s m args meth c)  (hd : decode (cod μ) pc = .ok (.lneg, 1)) (h : Sd (clo dd) (fun x => Mn x.2.2.2.2 σ1 ∧ PP p l e R s m args below meth c Qf D cA g base μ σ0 x) (fun r' s' => r' = r1 ∧ s' = σ1) (popL st fun x r => nx μ (pc + 1) ls (vL (-x) :: r) σ)) : PP p l e R s m args below meth c Qf D cA g base μ σ0 (μ, pc, ls, st, σ) := by
  have hz := popL_inv h; clear h; obtain ⟨x, r, rfl, h⟩ := hz
  exact PP_pure h.2 (fun H locs cells slots lsc hL k => lv_lneg C.1 C.2.1 hd k)
theorem k_i2l (C : Cx D cA μ p s m args meth c)  (hd : decode (cod μ) pc = .ok (.i2l, 1)) (h : Sd (clo dd) (fun x => Mn x.2.2.2.2 σ1 ∧ PP p l e R s m args below meth c Qf D cA g base μ σ0 x) (fun r' s' => r' = r1 ∧ s' = σ1) (popI st fun x r => nx μ (pc + 1) ls (vL x.toInt64 :: r) σ)) : PP p l e R s m args below meth c Qf D cA g base μ σ0 (μ, pc, ls, st, σ) := by
  have hz := popI_inv h; clear h; obtain ⟨x, r, rfl, h⟩ := hz
  exact PP_pure h.2 (fun H locs cells slots lsc hL k => lv_i2l C.1 C.2.1 hd rfl k)
theorem k_l2i (C : Cx D cA μ p s m args meth c)  (hd : decode (cod μ) pc = .ok (.l2i, 1)) (h : Sd (clo dd) (fun x => Mn x.2.2.2.2 σ1 ∧ PP p l e R s m args below meth c Qf D cA g base μ σ0 x) (fun r' s' => r' = r1 ∧ s' = σ1) (popL st fun x r => nx μ (pc + 1) ls (vI x.toInt32 :: r) σ)) : PP p l e R s m args below meth c Qf D cA g base μ σ0 (μ, pc, ls, st, σ) := by
  have hz := popL_inv h; clear h; obtain ⟨x, r, rfl, h⟩ := hz
  exact PP_pure h.2 (fun H locs cells slots lsc hL k => lv_l2i C.1 C.2.1 hd rfl k)
theorem k_i2b (C : Cx D cA μ p s m args meth c)  (hd : decode (cod μ) pc = .ok (.i2b, 1)) (h : Sd (clo dd) (fun x => Mn x.2.2.2.2 σ1 ∧ PP p l e R s m args below meth c Qf D cA g base μ σ0 x) (fun r' s' => r' = r1 ∧ s' = σ1) (popI st fun x r => nx μ (pc + 1) ls (vI x.toInt8.toInt32 :: r) σ)) : PP p l e R s m args below meth c Qf D cA g base μ σ0 (μ, pc, ls, st, σ) := by
  have hz := popI_inv h; clear h; obtain ⟨x, r, rfl, h⟩ := hz
  exact PP_pure h.2 (fun H locs cells slots lsc hL k => lv_i2b C.1 C.2.1 hd rfl k)
theorem k_i2s (C : Cx D cA μ p s m args meth c)  (hd : decode (cod μ) pc = .ok (.i2s, 1)) (h : Sd (clo dd) (fun x => Mn x.2.2.2.2 σ1 ∧ PP p l e R s m args below meth c Qf D cA g base μ σ0 x) (fun r' s' => r' = r1 ∧ s' = σ1) (popI st fun x r => nx μ (pc + 1) ls (vI x.toInt16.toInt32 :: r) σ)) : PP p l e R s m args below meth c Qf D cA g base μ σ0 (μ, pc, ls, st, σ) := by
  have hz := popI_inv h; clear h; obtain ⟨x, r, rfl, h⟩ := hz
  exact PP_pure h.2 (fun H locs cells slots lsc hL k => lv_i2s C.1 C.2.1 hd rfl k)
theorem k_dup (C : Cx D cA μ p s m args meth c)  (hd : decode (cod μ) pc = .ok (.dup, 1)) (h : Sd (clo dd) (fun x => Mn x.2.2.2.2 σ1 ∧ PP p l e R s m args below meth c Qf D cA g base μ σ0 x) (fun r' s' => r' = r1 ∧ s' = σ1) (match st with
    | .inl x :: r => nx μ (pc + 1) ls (vI x :: vI x :: r) σ
    | .inr (.inr x) :: r => nx μ (pc + 1) ls (vR x :: vR x :: r) σ
    | _ => none)) : PP p l e R s m args below meth c Qf D cA g base μ σ0 (μ, pc, ls, st, σ) := by
  match st, h with
  | .inl x :: r, h => exact PP_pure h.2 (fun H locs cells slots lsc hL k => lv_dup C.1 C.2.1 hd rfl k)
  | .inr (.inr x) :: r, h => exact PP_pure h.2 (fun H locs cells slots lsc hL k => lv_dup C.1 C.2.1 hd cv_cat' k)
  | .inr (.inl x) :: r, h => exact h.elim
  | [], h => exact h.elim
theorem k_dup2 (C : Cx D cA μ p s m args meth c)  (hd : decode (cod μ) pc = .ok (.dup2, 1)) (h : Sd (clo dd) (fun x => Mn x.2.2.2.2 σ1 ∧ PP p l e R s m args below meth c Qf D cA g base μ σ0 x) (fun r' s' => r' = r1 ∧ s' = σ1) (popI st fun x r => popR r fun y r => nx μ (pc + 1) ls (vI x :: vR y :: vI x :: vR y :: r) σ)) : PP p l e R s m args below meth c Qf D cA g base μ σ0 (μ, pc, ls, st, σ) := by
  have hz := popI_inv h; clear h; obtain ⟨x, r, rfl, h⟩ := hz
  have hz := popR_inv h; clear h; obtain ⟨y, r, rfl, h⟩ := hz
  exact PP_pure h.2 (fun H locs cells slots lsc hL k => lv_dup2_11 C.1 C.2.1 hd rfl cv_cat' k)
theorem k_pop (C : Cx D cA μ p s m args meth c)  (hd : decode (cod μ) pc = .ok (.pop, 1)) (h : Sd (clo dd) (fun x => Mn x.2.2.2.2 σ1 ∧ PP p l e R s m args below meth c Qf D cA g base μ σ0 x) (fun r' s' => r' = r1 ∧ s' = σ1) (popI st fun _ r => nx μ (pc + 1) ls r σ)) : PP p l e R s m args below meth c Qf D cA g base μ σ0 (μ, pc, ls, st, σ) := by
  have hz := popI_inv h; clear h; obtain ⟨x, r, rfl, h⟩ := hz
  exact PP_pure h.2 (fun H locs cells slots lsc hL k => lv_pop (va := .int x) C.1 C.2.1 hd rfl k)
theorem k_goto (C : Cx D cA μ p s m args meth c) {off : Int} (hd : decode (cod μ) pc = .ok (.goto off, 3)) (h : Sd (clo dd) (fun x => Mn x.2.2.2.2 σ1 ∧ PP p l e R s m args below meth c Qf D cA g base μ σ0 x) (fun r' s' => r' = r1 ∧ s' = σ1) (jm μ pc off ls st σ)) : PP p l e R s m args below meth c Qf D cA g base μ σ0 (μ, pc, ls, st, σ) := by
  have hz := jm_inv h; clear h; obtain ⟨t, ht, h⟩ := hz
  exact PP_pure h.2 (fun H locs cells slots lsc hL k => lv_goto C.1 C.2.1 hd ht k)
theorem k_if_eq (C : Cx D cA μ p s m args meth c) {off : Int} (hd : decode (cod μ) pc = .ok (.ifCond .eq off, 3)) (h : Sd (clo dd) (fun x => Mn x.2.2.2.2 σ1 ∧ PP p l e R s m args below meth c Qf D cA g base μ σ0 x) (fun r' s' => r' = r1 ∧ s' = σ1) (popI st fun x r => jg pc off fun t => br (x = 0) (nx μ t ls r σ) (nx μ (pc + 3) ls r σ))) : PP p l e R s m args below meth c Qf D cA g base μ σ0 (μ, pc, ls, st, σ) := by
  have hz := popI_inv h; clear h; obtain ⟨x, r, rfl, h⟩ := hz
  have hz := jg_inv h; clear h; obtain ⟨t, ht, h⟩ := hz
  intro e1 hl H locs cells slots lsc a1 a2 a3 a4 a5
  exact lv_if_eq C.1 C.2.1 hd ht (fun hq => (br_t' h hq).2 e1 hl H locs cells slots lsc a1 a2 a3 a4 a5) (fun hq => (br_f' h hq).2 e1 hl H locs cells slots lsc a1 a2 a3 a4 a5)
theorem k_icmp_eq (C : Cx D cA μ p s m args meth c) {off : Int} (hd : decode (cod μ) pc = .ok (.if_icmp .eq off, 3)) (h : Sd (clo dd) (fun x => Mn x.2.2.2.2 σ1 ∧ PP p l e R s m args below meth c Qf D cA g base μ σ0 x) (fun r' s' => r' = r1 ∧ s' = σ1) (popI st fun y r => popI r fun x r => jg pc off fun t => br (x = y) (nx μ t ls r σ) (nx μ (pc + 3) ls r σ))) : PP p l e R s m args below meth c Qf D cA g base μ σ0 (μ, pc, ls, st, σ) := by
  have hz := popI_inv h; clear h; obtain ⟨y, r, rfl, h⟩ := hz
  have hz := popI_inv h; clear h; obtain ⟨x, r, rfl, h⟩ := hz
  have hz := jg_inv h; clear h; obtain ⟨t, ht, h⟩ := hz
  intro e1 hl H locs cells slots lsc a1 a2 a3 a4 a5
  exact lv_icmp_eq C.1 C.2.1 hd ht (fun hq => (br_t' h hq).2 e1 hl H locs cells slots lsc a1 a2 a3 a4 a5) (fun hq => (br_f' h hq).2 e1 hl H locs cells slots lsc a1 a2 a3 a4 a5)
theorem k_if_ne (C : Cx D cA μ p s m args meth c) {off : Int} (hd : decode (cod μ) pc = .ok (.ifCond .ne off, 3)) (h : Sd (clo dd) (fun x => Mn x.2.2.2.2 σ1 ∧ PP p l e R s m args below meth c Qf D cA g base μ σ0 x) (fun r' s' => r' = r1 ∧ s' = σ1) (popI st fun x r => jg pc off fun t => br (x = 0) (nx μ (pc + 3) ls r σ) (nx μ t ls r σ))) : PP p l e R s m args below meth c Qf D cA g base μ σ0 (μ, pc, ls, st, σ) := by
  have hz := popI_inv h; clear h; obtain ⟨x, r, rfl, h⟩ := hz
  have hz := jg_inv h; clear h; obtain ⟨t, ht, h⟩ := hz
  intro e1 hl H locs cells slots lsc a1 a2 a3 a4 a5
  exact lv_if_ne C.1 C.2.1 hd ht (fun hq => (br_f' h hq).2 e1 hl H locs cells slots lsc a1 a2 a3 a4 a5) (fun hq => (br_t' h hq).2 e1 hl H locs cells slots lsc a1 a2 a3 a4 a5)
theorem k_icmp_ne (C : Cx D cA μ p s m args meth c) {off : Int} (hd : decode (cod μ) pc = .ok (.if_icmp .ne off, 3)) (h : Sd (clo dd) (fun x => Mn x.2.2.2.2 σ1 ∧ PP p l e R s m args below meth c Qf D cA g base μ σ0 x) (fun r' s' => r' = r1 ∧ s' = σ1) (popI st fun y r => popI r fun x r => jg pc off fun t => br (x = y) (nx μ (pc + 3) ls r σ) (nx μ t ls r σ))) : PP p l e R s m args below meth c Qf D cA g base μ σ0 (μ, pc, ls, st, σ) := by
  have hz := popI_inv h; clear h; obtain ⟨y, r, rfl, h⟩ := hz
  have hz := popI_inv h; clear h; obtain ⟨x, r, rfl, h⟩ := hz
  have hz := jg_inv h; clear h; obtain ⟨t, ht, h⟩ := hz
  intro e1 hl H locs cells slots lsc a1 a2 a3 a4 a5
  exact lv_icmp_ne C.1 C.2.1 hd ht (fun hq => (br_f' h hq).2 e1 hl H locs cells slots lsc a1 a2 a3 a4 a5) (fun hq => (br_t' h hq).2 e1 hl H locs cells slots lsc a1 a2 a3 a4 a5)
theorem k_if_lt (C : Cx D cA μ p s m args meth c) {off : Int} (hd : decode (cod μ) pc = .ok (.ifCond .lt off, 3)) (h : Sd (clo dd) (fun x => Mn x.2.2.2.2 σ1 ∧ PP p l e R s m args below meth c Qf D cA g base μ σ0 x) (fun r' s' => r' = r1 ∧ s' = σ1) (popI st fun x r => jg pc off fun t => br (x < 0) (nx μ t ls r σ) (nx μ (pc + 3) ls r σ))) : PP p l e R s m args below meth c Qf D cA g base μ σ0 (μ, pc, ls, st, σ) := by
  have hz := popI_inv h; clear h; obtain ⟨x, r, rfl, h⟩ := hz
  have hz := jg_inv h; clear h; obtain ⟨t, ht, h⟩ := hz
  intro e1 hl H locs cells slots lsc a1 a2 a3 a4 a5
  exact lv_if_lt C.1 C.2.1 hd ht (fun hq => (br_t' h hq).2 e1 hl H locs cells slots lsc a1 a2 a3 a4 a5) (fun hq => (br_f' h hq).2 e1 hl H locs cells slots lsc a1 a2 a3 a4 a5)
theorem k_icmp_lt (C : Cx D cA μ p s m args meth c) {off : Int} (hd : decode (cod μ) pc = .ok (.if_icmp .lt off, 3)) (h : Sd (clo dd) (fun x => Mn x.2.2.2.2 σ1 ∧ PP p l e R s m args below meth c Qf D cA g base μ σ0 x) (fun r' s' => r' = r1 ∧ s' = σ1) (popI st fun y r => popI r fun x r => jg pc off fun t => br (x < y) (nx μ t ls r σ) (nx μ (pc + 3) ls r σ))) : PP p l e R s m args below meth c Qf D cA g base μ σ0 (μ, pc, ls, st, σ) := by
  have hz := popI_inv h; clear h; obtain ⟨y, r, rfl, h⟩ := hz
  have hz := popI_inv h; clear h; obtain ⟨x, r, rfl, h⟩ := hz
  have hz := jg_inv h; clear h; obtain ⟨t, ht, h⟩ := hz
  intro e1 hl H locs cells slots lsc a1 a2 a3 a4 a5
  exact lv_icmp_lt C.1 C.2.1 hd ht (fun hq => (br_t' h hq).2 e1 hl H locs cells slots lsc a1 a2 a3 a4 a5) (fun hq => (br_f' h hq).2 e1 hl H locs cells slots lsc a1 a2 a3 a4 a5)
theorem k_if_ge (C : Cx D cA μ p s m args meth c) {off : Int} (hd : decode (cod μ) pc = .ok (.ifCond .ge off, 3)) (h : Sd (clo dd) (fun x => Mn x.2.2.2.2 σ1 ∧ PP p l e R s m args below meth c Qf D cA g base μ σ0 x) (fun r' s' => r' = r1 ∧ s' = σ1) (popI st fun x r => jg pc off fun t => br (0 ≤ x) (nx μ t ls r σ) (nx μ (pc + 3) ls r σ))) : PP p l e R s m args below meth c Qf D cA g base μ σ0 (μ, pc, ls, st, σ) := by
  have hz := popI_inv h; clear h; obtain ⟨x, r, rfl, h⟩ := hz
  have hz := jg_inv h; clear h; obtain ⟨t, ht, h⟩ := hz
  intro e1 hl H locs cells slots lsc a1 a2 a3 a4 a5
  exact lv_if_ge C.1 C.2.1 hd ht (fun hq => (br_t' h hq).2 e1 hl H locs cells slots lsc a1 a2 a3 a4 a5) (fun hq => (br_f' h hq).2 e1 hl H locs cells slots lsc a1 a2 a3 a4 a5)
theorem k_icmp_ge (C : Cx D cA μ p s m args meth c) {off : Int} (hd : decode (cod μ) pc = .ok (.if_icmp .ge off, 3)) (h : Sd (clo dd) (fun x => Mn x.2.2.2.2 σ1 ∧ PP p l e R s m args below meth c Qf D cA g base μ σ0 x) (fun r' s' => r' = r1 ∧ s' = σ1) (popI st fun y r => popI r fun x r => jg pc off fun t => br (y ≤ x) (nx μ t ls r σ) (nx μ (pc + 3) ls r σ))) : PP p l e R s m args below meth c Qf D cA g base μ σ0 (μ, pc, ls, st, σ) := by
  have hz := popI_inv h; clear h; obtain ⟨y, r, rfl, h⟩ := hz
  have hz := popI_inv h; clear h; obtain ⟨x, r, rfl, h⟩ := hz
  have hz := jg_inv h; clear h; obtain ⟨t, ht, h⟩ := hz
  intro e1 hl H locs cells slots lsc a1 a2 a3 a4 a5
  exact lv_icmp_ge C.1 C.2.1 hd ht (fun hq => (br_t' h hq).2 e1 hl H locs cells slots lsc a1 a2 a3 a4 a5) (fun hq => (br_f' h hq).2 e1 hl H locs cells slots lsc a1 a2 a3 a4 a5)
theorem k_if_gt (C : Cx D cA μ p s m args meth c) {off : Int} (hd : decode (cod μ) pc = .ok (.ifCond .gt off, 3)) (h : Sd (clo dd) (fun x => Mn x.2.2.2.2 σ1 ∧ PP p l e R s m args below meth c Qf D cA g base μ σ0 x) (fun r' s' => r' = r1 ∧ s' = σ1) (popI st fun x r => jg pc off fun t => br (0 < x) (nx μ t ls r σ) (nx μ (pc + 3) ls r σ))) : PP p l e R s m args below meth c Qf D cA g base μ σ0 (μ, pc, ls, st, σ) := by
  have hz := popI_inv h; clear h; obtain ⟨x, r, rfl, h⟩ := hz
  have hz := jg_inv h; clear h; obtain ⟨t, ht, h⟩ := hz
  intro e1 hl H locs cells slots lsc a1 a2 a3 a4 a5
  exact lv_if_gt C.1 C.2.1 hd ht (fun hq => (br_t' h hq).2 e1 hl H locs cells slots lsc a1 a2 a3 a4 a5) (fun hq => (br_f' h hq).2 e1 hl H locs cells slots lsc a1 a2 a3 a4 a5)
theorem k_icmp_gt (C : Cx D cA μ p s m args meth c) {off : Int} (hd : decode (cod μ) pc = .ok (.if_icmp .gt off, 3)) (h : Sd (clo dd) (fun x => Mn x.2.2.2.2 σ1 ∧ PP p l e R s m args below meth c Qf D cA g base μ σ0 x) (fun r' s' => r' = r1 ∧ s' = σ1) (popI st fun y r => popI r fun x r => jg pc off fun t => br (y < x) (nx μ t ls r σ) (nx μ (pc + 3) ls r σ))) : PP p l e R s m args below meth c Qf D cA g base μ σ0 (μ, pc, ls, st, σ) := by
  have hz := popI_inv h; clear h; obtain ⟨y, r, rfl, h⟩ := hz
  have hz := popI_inv h; clear h; obtain ⟨x, r, rfl, h⟩ := hz
  have hz := jg_inv h; clear h; obtain ⟨t, ht, h⟩ := hz
  intro e1 hl H locs cells slots lsc a1 a2 a3 a4 a5
  exact lv_icmp_gt C.1 C.2.1 hd ht (fun hq => (br_t' h hq).2 e1 hl H locs cells slots lsc a1 a2 a3 a4 a5) (fun hq => (br_f' h hq).2 e1 hl H locs cells slots lsc a1 a2 a3 a4 a5)
theorem k_if_le (C : Cx D cA μ p s m args meth c) {off : Int} (hd : decode (cod μ) pc = .ok (.ifCond .le off, 3)) (h : Sd (clo dd) (fun x => Mn x.2.2.2.2 σ1 ∧ PP p l e R s m args below meth c Qf D cA g base μ σ0 x) (fun r' s' => r' = r1 ∧ s' = σ1) (popI st fun x r => jg pc off fun t => br (x ≤ 0) (nx μ t ls r σ) (nx μ (pc + 3) ls r σ))) : PP p l e R s m args below meth c Qf D cA g base μ σ0 (μ, pc, ls, st, σ) := by
  have hz := popI_inv h; clear h; obtain ⟨x, r, rfl, h⟩ := hz
  have hz := jg_inv h; clear h; obtain ⟨t, ht, h⟩ := hz
  intro e1 hl H locs cells slots lsc a1 a2 a3 a4 a5
  exact lv_if_le C.1 C.2.1 hd ht (fun hq => (br_t' h hq).2 e1 hl H locs cells slots lsc a1 a2 a3 a4 a5) (fun hq => (br_f' h hq).2 e1 hl H locs cells slots lsc a1 a2 a3 a4 a5)
theorem k_icmp_le (C : Cx D cA μ p s m args meth c) {off : Int} (hd : decode (cod μ) pc = .ok (.if_icmp .le off, 3)) (h : Sd (clo dd) (fun x => Mn x.2.2.2.2 σ1 ∧ PP p l e R s m args below meth c Qf D cA g base μ σ0 x) (fun r' s' => r' = r1 ∧ s' = σ1) (popI st fun y r => popI r fun x r => jg pc off fun t => br (x ≤ y) (nx μ t ls r σ) (nx μ (pc + 3) ls r σ))) : PP p l e R s m args below meth c Qf D cA g base μ σ0 (μ, pc, ls, st, σ) := by
  have hz := popI_inv h; clear h; obtain ⟨y, r, rfl, h⟩ := hz
  have hz := popI_inv h; clear h; obtain ⟨x, r, rfl, h⟩ := hz
  have hz := jg_inv h; clear h; obtain ⟨t, ht, h⟩ := hz
  intro e1 hl H locs cells slots lsc a1 a2 a3 a4 a5
  exact lv_icmp_le C.1 C.2.1 hd ht (fun hq => (br_t' h hq).2 e1 hl H locs cells slots lsc a1 a2 a3 a4 a5) (fun hq => (br_f' h hq).2 e1 hl H locs cells slots lsc a1 a2 a3 a4 a5)
theorem k_ifnull (C : Cx D cA μ p s m args meth c) {off : Int} (hd : decode (cod μ) pc = .ok (.ifnull off, 3)) (h : Sd (clo dd) (fun x => Mn x.2.2.2.2 σ1 ∧ PP p l e R s m args below meth c Qf D cA g base μ σ0 x) (fun r' s' => r' = r1 ∧ s' = σ1) (popR st fun x r => match x with
    | none => jm μ pc off ls r σ
    | some _ => nx μ (pc + 3) ls r σ)) : PP p l e R s m args below meth c Qf D cA g base μ σ0 (μ, pc, ls, st, σ) := by
  have hz := popR_inv h; clear h; obtain ⟨x, r, rfl, h⟩ := hz
  match x, h with
  | none, h =>
    have hz := jm_inv h; clear h; obtain ⟨t, ht, h⟩ := hz
    exact PP_pure h.2 (fun H locs cells slots lsc hL k => lv_ifnullN C.1 C.2.1 hd ht k)
  | some (a1, a2, a3), h => exact PP_pure h.2 (fun H locs cells slots lsc hL k => lv_ifnull C.1 C.2.1 hd k)
theorem k_ifnonnull (C : Cx D cA μ p s m args meth c) {off : Int} (hd : decode (cod μ) pc = .ok (.ifnonnull off, 3)) (h : Sd (clo dd) (fun x => Mn x.2.2.2.2 σ1 ∧ PP p l e R s m args below meth c Qf D cA g base μ σ0 x) (fun r' s' => r' = r1 ∧ s' = σ1) (popR st fun x r => match x with
    | some _ => jm μ pc off ls r σ
    | none => nx μ (pc + 3) ls r σ)) : PP p l e R s m args below meth c Qf D cA g base μ σ0 (μ, pc, ls, st, σ) := by
  have hz := popR_inv h; clear h; obtain ⟨x, r, rfl, h⟩ := hz
  match x, h with
  | none, h => exact PP_pure h.2 (fun H locs cells slots lsc hL k => lv_ifnonnullN C.1 C.2.1 hd k)
  | some (a1, a2, a3), h =>
    have hz := jm_inv h; clear h; obtain ⟨t, ht, h⟩ := hz
    exact PP_pure h.2 (fun H locs cells slots lsc hL k => lv_ifnonnull C.1 C.2.1 hd ht k)
theorem k_tswitch (C : Cx D cA μ p s m args meth c) {d lo hi : Int} {offs : Array Int} {n : Nat} (hd : decode (cod μ) pc = .ok (.tableswitch d lo hi offs, n)) (h : Sd (clo dd) (fun x => Mn x.2.2.2.2 σ1 ∧ PP p l e R s m args below meth c Qf D cA g base μ σ0 x) (fun r' s' => r' = r1 ∧ s' = σ1) (popI st fun x r => if x.toInt < lo ∨ hi < x.toInt then jm μ pc d ls r σ else match offs[(x.toInt - lo).toNat]? with
    | some off => jm μ pc off ls r σ
    | none => none)) : PP p l e R s m args below meth c Qf D cA g base μ σ0 (μ, pc, ls, st, σ) := by
  have hz := popI_inv h; clear h; obtain ⟨x, r, rfl, h⟩ := hz
  split at h
  · next hq =>
    have hz := jm_inv h; clear h; obtain ⟨t, ht, h⟩ := hz
    exact PP_pure h.2 (fun H locs cells slots lsc hL k => lv_tableOut C.1 C.2.1 hd hq ht k)
  · next hq =>
    split at h
    · next off ho =>
      have hz := jm_inv h; clear h; obtain ⟨t, ht, h⟩ := hz
      exact PP_pure h.2 (fun H locs cells slots lsc hL k => lv_tableIn C.1 C.2.1 hd (fun z => hq (Or.inl z)) (fun z => hq (Or.inr z)) ho ht k)
    · exact h.elim
end STP
