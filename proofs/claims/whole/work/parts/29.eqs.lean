def catS (st : List AV) : Nat := (st.map cat).sum
theorem catS_0 : catS [] = 0 := rfl
theorem catS_I {x : Int32} {r : List AV} : catS (.inl x :: r) = 1 + catS r := by simp [catS, cat]
theorem catS_L {x : Int64} {r : List AV} : catS (.inr (.inl x) :: r) = 2 + catS r := by simp [catS, cat]
theorem catS_R {x : Option (Nat × Nat × Nat)} {r : List AV} : catS (.inr (.inr x) :: r) = 1 + catS r := by simp [catS, cat]
theorem Rn_nx {d : Nat} {Q : Option AV → St → Prop} {μ pc : Nat} {ls : List (Option AV)} {st : List AV} {σ : St} {i : Instr} {n : Nat} (h : ins μ pc = some (i, n)) : Rn d Q (μ, pc, ls, st, σ) = Sd (clo d) (Rn d Q) Q (ex i n μ pc ls st σ) := by
  rw [Rn_eq]
  unfold nxt
  dsimp only
  rw [h]
theorem popI_eq {x : Int32} {r : List AV} {k : Int32 → List AV → Rs} : popI (vI x :: r) k = k x r := rfl
theorem popR_eq {x : Option (Nat × Nat × Nat)} {r : List AV} {k : Option (Nat × Nat × Nat) → List AV → Rs} : popR (vR x :: r) k = k x r := rfl
theorem popO_eq {c i : Nat} {σ : St} {r : List AV} {k : Nat → List AV → Rs} : popO c σ (vR (some (c, 0, i)) :: r) k = if i < gN σ c then k i r else none := by
  show (if c = c ∧ i < gN σ c then k i r else none) = _
  by_cases h : i < gN σ c
  · rw [if_pos h, if_pos ⟨rfl, h⟩]
  · rw [if_neg h, if_neg (fun z => h z.2)]
theorem popW_eq {c k i : Nat} {σ : St} {r : List AV} {K : Nat → Nat → Nat → Nat → List AV → Rs} : popW σ (vR (some (c, k + 1, i)) :: r) K = match gL σ c k i with
    | some n => if i < gN σ c then K c k i n r else none
    | none => none := rfl
theorem newW_eq {μ pc ix c k i : Nat} {n : Int32} {ls : List (Option AV)} {st : List AV} {σ : St} {f : Nat × Nat → Bool} (h2 : ins μ pc = some (.putfield ix, 3)) (hq : fldQ (ow μ) ix = some (c, k, 0)) : newW μ pc ls (vI n :: vR (some (c, 0, i)) :: st) σ f = if i < gN σ c then (if f (fk c k) = true ∧ ¬ n < 0 ∧ n.toNatClampNeg ≤ 100000 ∧ c < 13 ∧ gL σ c k i = none ∧ (fnl c k = false ∨ ((nam μ).name = "<init>" ∧ ow μ = c)) then nx μ (pc + 3) ls st (newA σ c k i n.toNatClampNeg) else none) else none := by
  unfold newW
  rw [h2]
  show (match fldQ (ow μ) ix with
    | some (c', k', 0) => popI (vI n :: vR (some (c, 0, i)) :: st) fun n r => popO c' σ r fun i r => if f (fk c' k') = true ∧ ¬ n < 0 ∧ n.toNatClampNeg ≤ 100000 ∧ c' < 13 ∧ gL σ c' k' i = none ∧ (fnl c' k' = false ∨ ((nam μ).name = "<init>" ∧ ow μ = c')) then nx μ (pc + 3) ls r (newA σ c' k' i n.toNatClampNeg) else none
    | _ => none) = _
  rw [hq]
  show popO c σ (vR (some (c, 0, i)) :: st) (fun i r => if f (fk c k) = true ∧ ¬ n < 0 ∧ n.toNatClampNeg ≤ 100000 ∧ c < 13 ∧ gL σ c k i = none ∧ (fnl c k = false ∨ ((nam μ).name = "<init>" ∧ ow μ = c)) then nx μ (pc + 3) ls r (newA σ c k i n.toNatClampNeg) else none) = _
  rw [popO_eq]
theorem Sd_no {cl : Nat → List AV → St → (Option AV → St → Prop) → Prop} {P : Cfg → Prop} {Q : Option AV → St → Prop} : Sd cl P Q (none : Rs) = False := rfl
theorem ite_Sd {cl : Nat → List AV → St → (Option AV → St → Prop) → Prop} {P : Cfg → Prop} {Q : Option AV → St → Prop} {c : Prop} [Decidable c] {a b : Rs} : Sd cl P Q (if c then a else b) = if c then Sd cl P Q a else Sd cl P Q b := by split <;> rfl
theorem ite_and {c : Prop} [Decidable c] {a : Prop} : (if c then a else False) = (c ∧ a) := by
  by_cases h : c
  · rw [if_pos h]; exact propext ⟨fun x => ⟨h, x⟩, fun x => x.2⟩
  · rw [if_neg h]; exact propext ⟨fun x => x.elim, fun x => h x.1⟩
theorem ite_not {c : Prop} [Decidable c] {a : Prop} : (if c then False else a) = (¬ c ∧ a) := by
  by_cases h : c
  · rw [if_pos h]; exact propext ⟨fun x => x.elim, fun x => x.1 h⟩
  · rw [if_neg h]; exact propext ⟨fun x => ⟨h, x⟩, fun x => x.2⟩
theorem E_iconst {d : Nat} {Q : Option AV → St → Prop} {μ pc : Nat} {ls : List (Option AV)} {st : List AV} {σ : St} {v : Int} (h : ins μ pc = some (.iconst v, 1)) : Rn (d) Q (μ, pc, ls, st, σ) = Rn (d) Q (μ, pc + 1, ls, vI (Int32.ofInt v) :: st, σ) := by
  rw [Rn_nx h]
  rfl
theorem E_bipush {d : Nat} {Q : Option AV → St → Prop} {μ pc : Nat} {ls : List (Option AV)} {st : List AV} {σ : St} {v : Int} (h : ins μ pc = some (.bipush v, 2)) : Rn (d) Q (μ, pc, ls, st, σ) = Rn (d) Q (μ, pc + 2, ls, vI (Int8.ofInt v).toInt32 :: st, σ) := by
  rw [Rn_nx h]
  rfl
theorem E_sipush {d : Nat} {Q : Option AV → St → Prop} {μ pc : Nat} {ls : List (Option AV)} {st : List AV} {σ : St} {v : Int} (h : ins μ pc = some (.sipush v, 3)) : Rn (d) Q (μ, pc, ls, st, σ) = Rn (d) Q (μ, pc + 3, ls, vI (Int16.ofInt v).toInt32 :: st, σ) := by
  rw [Rn_nx h]
  rfl
theorem E_lconst {d : Nat} {Q : Option AV → St → Prop} {μ pc : Nat} {ls : List (Option AV)} {st : List AV} {σ : St} {v : Fin 2} (h : ins μ pc = some (.lconst v, 1)) : Rn (d) Q (μ, pc, ls, st, σ) = Rn (d) Q (μ, pc + 1, ls, vL (Int64.ofNat (v : Nat)) :: st, σ) := by
  rw [Rn_nx h]
  rfl
theorem E_aconst_null {d : Nat} {Q : Option AV → St → Prop} {μ pc : Nat} {ls : List (Option AV)} {st : List AV} {σ : St}  (h : ins μ pc = some (.aconst_null, 1)) : Rn (d) Q (μ, pc, ls, st, σ) = Rn (d) Q (μ, pc + 1, ls, vR none :: st, σ) := by
  rw [Rn_nx h]
  rfl
theorem E_ldc {d : Nat} {Q : Option AV → St → Prop} {μ pc : Nat} {ls : List (Option AV)} {st : List AV} {σ : St} {x : Nat} {v : Int32} (h : ins μ pc = some (.ldc x, 2)) (hq : cstQ (ow μ) x = some v) : Rn (d) Q (μ, pc, ls, st, σ) = Rn (d) Q (μ, pc + 2, ls, vI v :: st, σ) := by
  rw [Rn_nx h]
  show Sd (clo (d)) (Rn (d) Q) Q (match cstQ (ow μ) x with
    | some v => nx μ (pc + 2) ls (vI v :: (st)) σ
    | none => none) = _
  rw [hq]
  rfl
theorem E_ldc_w {d : Nat} {Q : Option AV → St → Prop} {μ pc : Nat} {ls : List (Option AV)} {st : List AV} {σ : St} {x : Nat} {v : Int32} (h : ins μ pc = some (.ldc_w x, 3)) (hq : cstQ (ow μ) x = some v) : Rn (d) Q (μ, pc, ls, st, σ) = Rn (d) Q (μ, pc + 3, ls, vI v :: st, σ) := by
  rw [Rn_nx h]
  show Sd (clo (d)) (Rn (d) Q) Q (match cstQ (ow μ) x with
    | some v => nx μ (pc + 3) ls (vI v :: (st)) σ
    | none => none) = _
  rw [hq]
  rfl
theorem E_ldc2_w {d : Nat} {Q : Option AV → St → Prop} {μ pc : Nat} {ls : List (Option AV)} {st : List AV} {σ : St} {x : Nat} {v : Int64} (h : ins μ pc = some (.ldc2_w x, 3)) (hq : lngQ (ow μ) x = some v) : Rn (d) Q (μ, pc, ls, st, σ) = Rn (d) Q (μ, pc + 3, ls, vL v :: st, σ) := by
  rw [Rn_nx h]
  show Sd (clo (d)) (Rn (d) Q) Q (match lngQ (ow μ) x with
    | some v => nx μ (pc + 3) ls (vL v :: (st)) σ
    | none => none) = _
  rw [hq]
  rfl
theorem E_iload_n {d : Nat} {Q : Option AV → St → Prop} {μ pc : Nat} {ls : List (Option AV)} {st : List AV} {σ : St} {k : Fin 4} {x : Int32} (h : ins μ pc = some (.iload_n k, 1)) (hl : ls[(k : Nat)]? = some (some (vI x))) : Rn (d) Q (μ, pc, ls, st, σ) = Rn (d) Q (μ, pc + 1, ls, vI x :: st, σ) := by
  rw [Rn_nx h]
  show Sd (clo (d)) (Rn (d) Q) Q (ldI ls k fun x => nx μ (pc + 1) ls (vI x :: (st)) σ) = _
  dsimp only [ldI]
  rw [hl]
  rfl
theorem E_istore_n {d : Nat} {Q : Option AV → St → Prop} {μ pc : Nat} {ls : List (Option AV)} {st : List AV} {σ : St} {k : Fin 4} {x : Int32} (h : ins μ pc = some (.istore_n k, 1)) (hok : okst μ k = true) : Rn (d) Q (μ, pc, ls, vI x :: st, σ) = Rn (d) Q (μ, pc + 1, ls.set k (some (vI x)), st, σ) := by
  rw [Rn_nx h]
  show Sd (clo (d)) (Rn (d) Q) Q (popI (vI x :: st) fun x r => if okst μ k = true then nx μ (pc + 1) (ls.set k (some (vI x))) r σ else none) = _
  dsimp only [popI]
  rw [if_pos hok]
  rfl
theorem E_iload {d : Nat} {Q : Option AV → St → Prop} {μ pc : Nat} {ls : List (Option AV)} {st : List AV} {σ : St} {k : Nat} {x : Int32} (h : ins μ pc = some (.iload k, 2)) (hl : ls[(k : Nat)]? = some (some (vI x))) : Rn (d) Q (μ, pc, ls, st, σ) = Rn (d) Q (μ, pc + 2, ls, vI x :: st, σ) := by
  rw [Rn_nx h]
  show Sd (clo (d)) (Rn (d) Q) Q (ldI ls k fun x => nx μ (pc + 2) ls (vI x :: (st)) σ) = _
  dsimp only [ldI]
  rw [hl]
  rfl
theorem E_istore {d : Nat} {Q : Option AV → St → Prop} {μ pc : Nat} {ls : List (Option AV)} {st : List AV} {σ : St} {k : Nat} {x : Int32} (h : ins μ pc = some (.istore k, 2)) (hok : okst μ k = true) : Rn (d) Q (μ, pc, ls, vI x :: st, σ) = Rn (d) Q (μ, pc + 2, ls.set k (some (vI x)), st, σ) := by
  rw [Rn_nx h]
  show Sd (clo (d)) (Rn (d) Q) Q (popI (vI x :: st) fun x r => if okst μ k = true then nx μ (pc + 2) (ls.set k (some (vI x))) r σ else none) = _
  dsimp only [popI]
  rw [if_pos hok]
  rfl
theorem E_lload_n {d : Nat} {Q : Option AV → St → Prop} {μ pc : Nat} {ls : List (Option AV)} {st : List AV} {σ : St} {k : Fin 4} {x : Int64} (h : ins μ pc = some (.lload_n k, 1)) (hl : ls[(k : Nat)]? = some (some (vL x))) : Rn (d) Q (μ, pc, ls, st, σ) = Rn (d) Q (μ, pc + 1, ls, vL x :: st, σ) := by
  rw [Rn_nx h]
  show Sd (clo (d)) (Rn (d) Q) Q (ldL ls k fun x => nx μ (pc + 1) ls (vL x :: (st)) σ) = _
  dsimp only [ldL]
  rw [hl]
  rfl
theorem E_lstore_n {d : Nat} {Q : Option AV → St → Prop} {μ pc : Nat} {ls : List (Option AV)} {st : List AV} {σ : St} {k : Fin 4} {x : Int64} (h : ins μ pc = some (.lstore_n k, 1)) (hok : okl μ k = true) : Rn (d) Q (μ, pc, ls, vL x :: st, σ) = Rn (d) Q (μ, pc + 1, (ls.set k (some (vL x))).set (k + 1) none, st, σ) := by
  rw [Rn_nx h]
  show Sd (clo (d)) (Rn (d) Q) Q (popL (vL x :: st) fun x r => if okl μ k = true then nx μ (pc + 1) ((ls.set k (some (vL x))).set (k + 1) none) r σ else none) = _
  dsimp only [popL]
  rw [if_pos hok]
  rfl
theorem E_lload {d : Nat} {Q : Option AV → St → Prop} {μ pc : Nat} {ls : List (Option AV)} {st : List AV} {σ : St} {k : Nat} {x : Int64} (h : ins μ pc = some (.lload k, 2)) (hl : ls[(k : Nat)]? = some (some (vL x))) : Rn (d) Q (μ, pc, ls, st, σ) = Rn (d) Q (μ, pc + 2, ls, vL x :: st, σ) := by
  rw [Rn_nx h]
  show Sd (clo (d)) (Rn (d) Q) Q (ldL ls k fun x => nx μ (pc + 2) ls (vL x :: (st)) σ) = _
  dsimp only [ldL]
  rw [hl]
  rfl
theorem E_lstore {d : Nat} {Q : Option AV → St → Prop} {μ pc : Nat} {ls : List (Option AV)} {st : List AV} {σ : St} {k : Nat} {x : Int64} (h : ins μ pc = some (.lstore k, 2)) (hok : okl μ k = true) : Rn (d) Q (μ, pc, ls, vL x :: st, σ) = Rn (d) Q (μ, pc + 2, (ls.set k (some (vL x))).set (k + 1) none, st, σ) := by
  rw [Rn_nx h]
  show Sd (clo (d)) (Rn (d) Q) Q (popL (vL x :: st) fun x r => if okl μ k = true then nx μ (pc + 2) ((ls.set k (some (vL x))).set (k + 1) none) r σ else none) = _
  dsimp only [popL]
  rw [if_pos hok]
  rfl
theorem E_aload_n {d : Nat} {Q : Option AV → St → Prop} {μ pc : Nat} {ls : List (Option AV)} {st : List AV} {σ : St} {k : Fin 4} {x : Option (Nat × Nat × Nat)} (h : ins μ pc = some (.aload_n k, 1)) (hl : ls[(k : Nat)]? = some (some (vR x))) : Rn (d) Q (μ, pc, ls, st, σ) = Rn (d) Q (μ, pc + 1, ls, vR x :: st, σ) := by
  rw [Rn_nx h]
  show Sd (clo (d)) (Rn (d) Q) Q (ldR ls k fun x => nx μ (pc + 1) ls (vR x :: (st)) σ) = _
  dsimp only [ldR]
  rw [hl]
  rfl
theorem E_astore_n {d : Nat} {Q : Option AV → St → Prop} {μ pc : Nat} {ls : List (Option AV)} {st : List AV} {σ : St} {k : Fin 4} {x : Option (Nat × Nat × Nat)} (h : ins μ pc = some (.astore_n k, 1)) (hok : okst μ k = true) : Rn (d) Q (μ, pc, ls, vR x :: st, σ) = Rn (d) Q (μ, pc + 1, ls.set k (some (vR x)), st, σ) := by
  rw [Rn_nx h]
  show Sd (clo (d)) (Rn (d) Q) Q (popR (vR x :: st) fun x r => if okst μ k = true then nx μ (pc + 1) (ls.set k (some (vR x))) r σ else none) = _
  dsimp only [popR]
  rw [if_pos hok]
  rfl
theorem E_aload {d : Nat} {Q : Option AV → St → Prop} {μ pc : Nat} {ls : List (Option AV)} {st : List AV} {σ : St} {k : Nat} {x : Option (Nat × Nat × Nat)} (h : ins μ pc = some (.aload k, 2)) (hl : ls[(k : Nat)]? = some (some (vR x))) : Rn (d) Q (μ, pc, ls, st, σ) = Rn (d) Q (μ, pc + 2, ls, vR x :: st, σ) := by
  rw [Rn_nx h]
  show Sd (clo (d)) (Rn (d) Q) Q (ldR ls k fun x => nx μ (pc + 2) ls (vR x :: (st)) σ) = _
  dsimp only [ldR]
  rw [hl]
  rfl
theorem E_astore {d : Nat} {Q : Option AV → St → Prop} {μ pc : Nat} {ls : List (Option AV)} {st : List AV} {σ : St} {k : Nat} {x : Option (Nat × Nat × Nat)} (h : ins μ pc = some (.astore k, 2)) (hok : okst μ k = true) : Rn (d) Q (μ, pc, ls, vR x :: st, σ) = Rn (d) Q (μ, pc + 2, ls.set k (some (vR x)), st, σ) := by
  rw [Rn_nx h]
  show Sd (clo (d)) (Rn (d) Q) Q (popR (vR x :: st) fun x r => if okst μ k = true then nx μ (pc + 2) (ls.set k (some (vR x))) r σ else none) = _
  dsimp only [popR]
  rw [if_pos hok]
  rfl
theorem E_iinc {d : Nat} {Q : Option AV → St → Prop} {μ pc : Nat} {ls : List (Option AV)} {st : List AV} {σ : St} {k : Nat} {v : Int} {x : Int32} (h : ins μ pc = some (.iinc k v, 3)) (hl : ls[k]? = some (some (vI x))) (hk : k < mxl μ) : Rn (d) Q (μ, pc, ls, st, σ) = Rn (d) Q (μ, pc + 3, ls.set k (some (vI (x + Int32.ofInt v))), st, σ) := by
  rw [Rn_nx h]
  show Sd (clo (d)) (Rn (d) Q) Q (ldI ls k fun x => if k < mxl μ then nx μ (pc + 3) (ls.set k (some (vI (x + Int32.ofInt v)))) (st) σ else none) = _
  dsimp only [ldI]
  rw [hl]
  dsimp only
  rw [if_pos hk]
  rfl
theorem E_iadd {d : Nat} {Q : Option AV → St → Prop} {μ pc : Nat} {ls : List (Option AV)} {st : List AV} {σ : St} {x y : Int32} (h : ins μ pc = some (.iadd, 1)) : Rn (d) Q (μ, pc, ls, vI y :: vI x :: st, σ) = Rn (d) Q (μ, pc + 1, ls, vI (x + y) :: st, σ) := by
  rw [Rn_nx h]
  rfl
theorem E_isub {d : Nat} {Q : Option AV → St → Prop} {μ pc : Nat} {ls : List (Option AV)} {st : List AV} {σ : St} {x y : Int32} (h : ins μ pc = some (.isub, 1)) : Rn (d) Q (μ, pc, ls, vI y :: vI x :: st, σ) = Rn (d) Q (μ, pc + 1, ls, vI (x - y) :: st, σ) := by
  rw [Rn_nx h]
  rfl
theorem E_imul {d : Nat} {Q : Option AV → St → Prop} {μ pc : Nat} {ls : List (Option AV)} {st : List AV} {σ : St} {x y : Int32} (h : ins μ pc = some (.imul, 1)) : Rn (d) Q (μ, pc, ls, vI y :: vI x :: st, σ) = Rn (d) Q (μ, pc + 1, ls, vI (x * y) :: st, σ) := by
  rw [Rn_nx h]
  rfl
theorem E_iand {d : Nat} {Q : Option AV → St → Prop} {μ pc : Nat} {ls : List (Option AV)} {st : List AV} {σ : St} {x y : Int32} (h : ins μ pc = some (.iand, 1)) : Rn (d) Q (μ, pc, ls, vI y :: vI x :: st, σ) = Rn (d) Q (μ, pc + 1, ls, vI (x &&& y) :: st, σ) := by
  rw [Rn_nx h]
  rfl
theorem E_ior {d : Nat} {Q : Option AV → St → Prop} {μ pc : Nat} {ls : List (Option AV)} {st : List AV} {σ : St} {x y : Int32} (h : ins μ pc = some (.ior, 1)) : Rn (d) Q (μ, pc, ls, vI y :: vI x :: st, σ) = Rn (d) Q (μ, pc + 1, ls, vI (x ||| y) :: st, σ) := by
  rw [Rn_nx h]
  rfl
theorem E_ixor {d : Nat} {Q : Option AV → St → Prop} {μ pc : Nat} {ls : List (Option AV)} {st : List AV} {σ : St} {x y : Int32} (h : ins μ pc = some (.ixor, 1)) : Rn (d) Q (μ, pc, ls, vI y :: vI x :: st, σ) = Rn (d) Q (μ, pc + 1, ls, vI (x ^^^ y) :: st, σ) := by
  rw [Rn_nx h]
  rfl
theorem E_ishl {d : Nat} {Q : Option AV → St → Prop} {μ pc : Nat} {ls : List (Option AV)} {st : List AV} {σ : St} {x y : Int32} (h : ins μ pc = some (.ishl, 1)) : Rn (d) Q (μ, pc, ls, vI y :: vI x :: st, σ) = Rn (d) Q (μ, pc + 1, ls, vI (x <<< (y &&& 31)) :: st, σ) := by
  rw [Rn_nx h]
  rfl
theorem E_ishr {d : Nat} {Q : Option AV → St → Prop} {μ pc : Nat} {ls : List (Option AV)} {st : List AV} {σ : St} {x y : Int32} (h : ins μ pc = some (.ishr, 1)) : Rn (d) Q (μ, pc, ls, vI y :: vI x :: st, σ) = Rn (d) Q (μ, pc + 1, ls, vI (x >>> (y &&& 31)) :: st, σ) := by
  rw [Rn_nx h]
  rfl
theorem E_iushr {d : Nat} {Q : Option AV → St → Prop} {μ pc : Nat} {ls : List (Option AV)} {st : List AV} {σ : St} {x y : Int32} (h : ins μ pc = some (.iushr, 1)) : Rn (d) Q (μ, pc, ls, vI y :: vI x :: st, σ) = Rn (d) Q (μ, pc + 1, ls, vI ((x.toUInt32 >>> (y.toUInt32 &&& Int32.toUInt32 31)).toInt32) :: st, σ) := by
  rw [Rn_nx h]
  rfl
theorem E_idiv {d : Nat} {Q : Option AV → St → Prop} {μ pc : Nat} {ls : List (Option AV)} {st : List AV} {σ : St} {x y : Int32} (h : ins μ pc = some (.idiv, 1)) : Rn (d) Q (μ, pc, ls, vI y :: vI x :: st, σ) = (¬ y = 0 ∧ Rn (d) Q (μ, pc + 1, ls, vI (x / y) :: st, σ)) := by
  rw [Rn_nx h]
  show Sd (clo (d)) (Rn (d) Q) Q (popI (vI y :: vI x :: st) fun y r => popI r fun x r => if y = 0 then none else nx μ (pc + 1) ls (vI (x / y) :: r) σ) = _
  dsimp only [popI]
  rw [ite_Sd]
  exact ite_not
theorem E_irem {d : Nat} {Q : Option AV → St → Prop} {μ pc : Nat} {ls : List (Option AV)} {st : List AV} {σ : St} {x y : Int32} (h : ins μ pc = some (.irem, 1)) : Rn (d) Q (μ, pc, ls, vI y :: vI x :: st, σ) = (¬ y = 0 ∧ Rn (d) Q (μ, pc + 1, ls, vI (x - x / y * y) :: st, σ)) := by
  rw [Rn_nx h]
  show Sd (clo (d)) (Rn (d) Q) Q (popI (vI y :: vI x :: st) fun y r => popI r fun x r => if y = 0 then none else nx μ (pc + 1) ls (vI (x - x / y * y) :: r) σ) = _
  dsimp only [popI]
  rw [ite_Sd]
  exact ite_not
theorem E_ladd {d : Nat} {Q : Option AV → St → Prop} {μ pc : Nat} {ls : List (Option AV)} {st : List AV} {σ : St} {x y : Int64} (h : ins μ pc = some (.ladd, 1)) : Rn (d) Q (μ, pc, ls, vL y :: vL x :: st, σ) = Rn (d) Q (μ, pc + 1, ls, vL (x + y) :: st, σ) := by
  rw [Rn_nx h]
  rfl
theorem E_lmul {d : Nat} {Q : Option AV → St → Prop} {μ pc : Nat} {ls : List (Option AV)} {st : List AV} {σ : St} {x y : Int64} (h : ins μ pc = some (.lmul, 1)) : Rn (d) Q (μ, pc, ls, vL y :: vL x :: st, σ) = Rn (d) Q (μ, pc + 1, ls, vL (x * y) :: st, σ) := by
  rw [Rn_nx h]
  rfl
theorem E_land {d : Nat} {Q : Option AV → St → Prop} {μ pc : Nat} {ls : List (Option AV)} {st : List AV} {σ : St} {x y : Int64} (h : ins μ pc = some (.land, 1)) : Rn (d) Q (μ, pc, ls, vL y :: vL x :: st, σ) = Rn (d) Q (μ, pc + 1, ls, vL (x &&& y) :: st, σ) := by
  rw [Rn_nx h]
  rfl
theorem E_lor {d : Nat} {Q : Option AV → St → Prop} {μ pc : Nat} {ls : List (Option AV)} {st : List AV} {σ : St} {x y : Int64} (h : ins μ pc = some (.lor, 1)) : Rn (d) Q (μ, pc, ls, vL y :: vL x :: st, σ) = Rn (d) Q (μ, pc + 1, ls, vL (x ||| y) :: st, σ) := by
  rw [Rn_nx h]
  rfl
theorem E_ldiv {d : Nat} {Q : Option AV → St → Prop} {μ pc : Nat} {ls : List (Option AV)} {st : List AV} {σ : St} {x y : Int64} (h : ins μ pc = some (.ldiv, 1)) : Rn (d) Q (μ, pc, ls, vL y :: vL x :: st, σ) = (¬ y = 0 ∧ Rn (d) Q (μ, pc + 1, ls, vL (x / y) :: st, σ)) := by
  rw [Rn_nx h]
  show Sd (clo (d)) (Rn (d) Q) Q (popL (vL y :: vL x :: st) fun y r => popL r fun x r => if y = 0 then none else nx μ (pc + 1) ls (vL (x / y) :: r) σ) = _
  dsimp only [popL]
  rw [ite_Sd]
  exact ite_not
theorem E_lneg {d : Nat} {Q : Option AV → St → Prop} {μ pc : Nat} {ls : List (Option AV)} {st : List AV} {σ : St} {x : Int64} (h : ins μ pc = some (.lneg, 1)) : Rn (d) Q (μ, pc, ls, vL x :: st, σ) = Rn (d) Q (μ, pc + 1, ls, vL (-x) :: st, σ) := by
  rw [Rn_nx h]
  rfl
theorem E_lushr {d : Nat} {Q : Option AV → St → Prop} {μ pc : Nat} {ls : List (Option AV)} {st : List AV} {σ : St} {x : Int64} {y : Int32} (h : ins μ pc = some (.lushr, 1)) : Rn (d) Q (μ, pc, ls, vI y :: vL x :: st, σ) = Rn (d) Q (μ, pc + 1, ls, vL ((x.toUInt64 >>> (y.toInt64.toUInt64 &&& Int64.toUInt64 63)).toInt64) :: st, σ) := by
  rw [Rn_nx h]
  rfl
theorem E_lshl {d : Nat} {Q : Option AV → St → Prop} {μ pc : Nat} {ls : List (Option AV)} {st : List AV} {σ : St} {x : Int64} {y : Int32} (h : ins μ pc = some (.lshl, 1)) : Rn (d) Q (μ, pc, ls, vI y :: vL x :: st, σ) = Rn (d) Q (μ, pc + 1, ls, vL (x <<< (y.toInt64 &&& 63)) :: st, σ) := by
  rw [Rn_nx h]
  rfl
theorem E_lshr {d : Nat} {Q : Option AV → St → Prop} {μ pc : Nat} {ls : List (Option AV)} {st : List AV} {σ : St} {x : Int64} {y : Int32} (h : ins μ pc = some (.lshr, 1)) : Rn (d) Q (μ, pc, ls, vI y :: vL x :: st, σ) = Rn (d) Q (μ, pc + 1, ls, vL (x >>> (y.toInt64 &&& 63)) :: st, σ) := by
  rw [Rn_nx h]
  rfl
theorem E_lcmp {d : Nat} {Q : Option AV → St → Prop} {μ pc : Nat} {ls : List (Option AV)} {st : List AV} {σ : St} {x y : Int64} (h : ins μ pc = some (.lcmp, 1)) : Rn (d) Q (μ, pc, ls, vL y :: vL x :: st, σ) = Rn (d) Q (μ, pc + 1, ls, vI (lg_cmp x y) :: st, σ) := by
  rw [Rn_nx h]
  rfl
theorem E_i2l {d : Nat} {Q : Option AV → St → Prop} {μ pc : Nat} {ls : List (Option AV)} {st : List AV} {σ : St} {x : Int32} (h : ins μ pc = some (.i2l, 1)) : Rn (d) Q (μ, pc, ls, vI x :: st, σ) = Rn (d) Q (μ, pc + 1, ls, vL x.toInt64 :: st, σ) := by
  rw [Rn_nx h]
  rfl
theorem E_l2i {d : Nat} {Q : Option AV → St → Prop} {μ pc : Nat} {ls : List (Option AV)} {st : List AV} {σ : St} {x : Int64} (h : ins μ pc = some (.l2i, 1)) : Rn (d) Q (μ, pc, ls, vL x :: st, σ) = Rn (d) Q (μ, pc + 1, ls, vI x.toInt32 :: st, σ) := by
  rw [Rn_nx h]
  rfl
theorem E_i2b {d : Nat} {Q : Option AV → St → Prop} {μ pc : Nat} {ls : List (Option AV)} {st : List AV} {σ : St} {x : Int32} (h : ins μ pc = some (.i2b, 1)) : Rn (d) Q (μ, pc, ls, vI x :: st, σ) = Rn (d) Q (μ, pc + 1, ls, vI x.toInt8.toInt32 :: st, σ) := by
  rw [Rn_nx h]
  rfl
theorem E_i2s {d : Nat} {Q : Option AV → St → Prop} {μ pc : Nat} {ls : List (Option AV)} {st : List AV} {σ : St} {x : Int32} (h : ins μ pc = some (.i2s, 1)) : Rn (d) Q (μ, pc, ls, vI x :: st, σ) = Rn (d) Q (μ, pc + 1, ls, vI x.toInt16.toInt32 :: st, σ) := by
  rw [Rn_nx h]
  rfl
theorem E_dupI {d : Nat} {Q : Option AV → St → Prop} {μ pc : Nat} {ls : List (Option AV)} {st : List AV} {σ : St} {x : Int32} (h : ins μ pc = some (.dup, 1)) : Rn (d) Q (μ, pc, ls, vI x :: st, σ) = Rn (d) Q (μ, pc + 1, ls, vI x :: vI x :: st, σ) := by
  rw [Rn_nx h]
  rfl
theorem E_dupR {d : Nat} {Q : Option AV → St → Prop} {μ pc : Nat} {ls : List (Option AV)} {st : List AV} {σ : St} {x : Option (Nat × Nat × Nat)} (h : ins μ pc = some (.dup, 1)) : Rn (d) Q (μ, pc, ls, vR x :: st, σ) = Rn (d) Q (μ, pc + 1, ls, vR x :: vR x :: st, σ) := by
  rw [Rn_nx h]
  rfl
theorem E_dup2 {d : Nat} {Q : Option AV → St → Prop} {μ pc : Nat} {ls : List (Option AV)} {st : List AV} {σ : St} {x : Int32} {y : Option (Nat × Nat × Nat)} (h : ins μ pc = some (.dup2, 1)) : Rn (d) Q (μ, pc, ls, vI x :: vR y :: st, σ) = Rn (d) Q (μ, pc + 1, ls, vI x :: vR y :: vI x :: vR y :: st, σ) := by
  rw [Rn_nx h]
  rfl
theorem E_pop {d : Nat} {Q : Option AV → St → Prop} {μ pc : Nat} {ls : List (Option AV)} {st : List AV} {σ : St} {x : Int32} (h : ins μ pc = some (.pop, 1)) : Rn (d) Q (μ, pc, ls, vI x :: st, σ) = Rn (d) Q (μ, pc + 1, ls, st, σ) := by
  rw [Rn_nx h]
  rfl
theorem E_goto {d : Nat} {Q : Option AV → St → Prop} {μ pc : Nat} {ls : List (Option AV)} {st : List AV} {σ : St} {off : Int} (t : Nat) (h : ins μ pc = some (.goto off, 3)) (ht : (pc : Int) + off = (t : Int)) : Rn (d) Q (μ, pc, ls, st, σ) = Rn (d) Q (μ, t, ls, st, σ) := by
  rw [Rn_nx h]
  show Sd (clo (d)) (Rn (d) Q) Q (jm μ pc off ls (st) σ) = _
  dsimp only [jm]
  rw [if_pos (by omega), ht]
  rfl
theorem E_if_eq {d : Nat} {Q : Option AV → St → Prop} {μ pc : Nat} {ls : List (Option AV)} {st : List AV} {σ : St} {off : Int} {x : Int32} (t : Nat) (h : ins μ pc = some (.ifCond .eq off, 3)) (ht : (pc : Int) + off = (t : Int)) : Rn (d) Q (μ, pc, ls, vI x :: st, σ) = (if x = 0 then Rn (d) Q (μ, t, ls, st, σ) else Rn (d) Q (μ, pc + 3, ls, st, σ)) := by
  rw [Rn_nx h]
  show Sd (clo (d)) (Rn (d) Q) Q (popI (vI x :: st) fun x r => jg pc off fun t => br (x = 0) (nx μ t ls r σ) (nx μ (pc + 3) ls r σ)) = _
  dsimp only [popI, jg, br]
  rw [if_pos (by omega), ht, ite_Sd]
  rfl
theorem E_icmp_eq {d : Nat} {Q : Option AV → St → Prop} {μ pc : Nat} {ls : List (Option AV)} {st : List AV} {σ : St} {off : Int} {x y : Int32} (t : Nat) (h : ins μ pc = some (.if_icmp .eq off, 3)) (ht : (pc : Int) + off = (t : Int)) : Rn (d) Q (μ, pc, ls, vI y :: vI x :: st, σ) = (if x = y then Rn (d) Q (μ, t, ls, st, σ) else Rn (d) Q (μ, pc + 3, ls, st, σ)) := by
  rw [Rn_nx h]
  show Sd (clo (d)) (Rn (d) Q) Q (popI (vI y :: vI x :: st) fun y r => popI r fun x r => jg pc off fun t => br (x = y) (nx μ t ls r σ) (nx μ (pc + 3) ls r σ)) = _
  dsimp only [popI, jg, br]
  rw [if_pos (by omega), ht, ite_Sd]
  rfl
theorem E_if_ne {d : Nat} {Q : Option AV → St → Prop} {μ pc : Nat} {ls : List (Option AV)} {st : List AV} {σ : St} {off : Int} {x : Int32} (t : Nat) (h : ins μ pc = some (.ifCond .ne off, 3)) (ht : (pc : Int) + off = (t : Int)) : Rn (d) Q (μ, pc, ls, vI x :: st, σ) = (if x = 0 then Rn (d) Q (μ, pc + 3, ls, st, σ) else Rn (d) Q (μ, t, ls, st, σ)) := by
  rw [Rn_nx h]
  show Sd (clo (d)) (Rn (d) Q) Q (popI (vI x :: st) fun x r => jg pc off fun t => br (x = 0) (nx μ (pc + 3) ls r σ) (nx μ t ls r σ)) = _
  dsimp only [popI, jg, br]
  rw [if_pos (by omega), ht, ite_Sd]
  rfl
theorem E_icmp_ne {d : Nat} {Q : Option AV → St → Prop} {μ pc : Nat} {ls : List (Option AV)} {st : List AV} {σ : St} {off : Int} {x y : Int32} (t : Nat) (h : ins μ pc = some (.if_icmp .ne off, 3)) (ht : (pc : Int) + off = (t : Int)) : Rn (d) Q (μ, pc, ls, vI y :: vI x :: st, σ) = (if x = y then Rn (d) Q (μ, pc + 3, ls, st, σ) else Rn (d) Q (μ, t, ls, st, σ)) := by
  rw [Rn_nx h]
  show Sd (clo (d)) (Rn (d) Q) Q (popI (vI y :: vI x :: st) fun y r => popI r fun x r => jg pc off fun t => br (x = y) (nx μ (pc + 3) ls r σ) (nx μ t ls r σ)) = _
  dsimp only [popI, jg, br]
  rw [if_pos (by omega), ht, ite_Sd]
  rfl
theorem E_if_lt {d : Nat} {Q : Option AV → St → Prop} {μ pc : Nat} {ls : List (Option AV)} {st : List AV} {σ : St} {off : Int} {x : Int32} (t : Nat) (h : ins μ pc = some (.ifCond .lt off, 3)) (ht : (pc : Int) + off = (t : Int)) : Rn (d) Q (μ, pc, ls, vI x :: st, σ) = (if x < 0 then Rn (d) Q (μ, t, ls, st, σ) else Rn (d) Q (μ, pc + 3, ls, st, σ)) := by
  rw [Rn_nx h]
  show Sd (clo (d)) (Rn (d) Q) Q (popI (vI x :: st) fun x r => jg pc off fun t => br (x < 0) (nx μ t ls r σ) (nx μ (pc + 3) ls r σ)) = _
  dsimp only [popI, jg, br]
  rw [if_pos (by omega), ht, ite_Sd]
  rfl
theorem E_icmp_lt {d : Nat} {Q : Option AV → St → Prop} {μ pc : Nat} {ls : List (Option AV)} {st : List AV} {σ : St} {off : Int} {x y : Int32} (t : Nat) (h : ins μ pc = some (.if_icmp .lt off, 3)) (ht : (pc : Int) + off = (t : Int)) : Rn (d) Q (μ, pc, ls, vI y :: vI x :: st, σ) = (if x < y then Rn (d) Q (μ, t, ls, st, σ) else Rn (d) Q (μ, pc + 3, ls, st, σ)) := by
  rw [Rn_nx h]
  show Sd (clo (d)) (Rn (d) Q) Q (popI (vI y :: vI x :: st) fun y r => popI r fun x r => jg pc off fun t => br (x < y) (nx μ t ls r σ) (nx μ (pc + 3) ls r σ)) = _
  dsimp only [popI, jg, br]
  rw [if_pos (by omega), ht, ite_Sd]
  rfl
theorem E_if_ge {d : Nat} {Q : Option AV → St → Prop} {μ pc : Nat} {ls : List (Option AV)} {st : List AV} {σ : St} {off : Int} {x : Int32} (t : Nat) (h : ins μ pc = some (.ifCond .ge off, 3)) (ht : (pc : Int) + off = (t : Int)) : Rn (d) Q (μ, pc, ls, vI x :: st, σ) = (if 0 ≤ x then Rn (d) Q (μ, t, ls, st, σ) else Rn (d) Q (μ, pc + 3, ls, st, σ)) := by
  rw [Rn_nx h]
  show Sd (clo (d)) (Rn (d) Q) Q (popI (vI x :: st) fun x r => jg pc off fun t => br (0 ≤ x) (nx μ t ls r σ) (nx μ (pc + 3) ls r σ)) = _
  dsimp only [popI, jg, br]
  rw [if_pos (by omega), ht, ite_Sd]
  rfl
theorem E_icmp_ge {d : Nat} {Q : Option AV → St → Prop} {μ pc : Nat} {ls : List (Option AV)} {st : List AV} {σ : St} {off : Int} {x y : Int32} (t : Nat) (h : ins μ pc = some (.if_icmp .ge off, 3)) (ht : (pc : Int) + off = (t : Int)) : Rn (d) Q (μ, pc, ls, vI y :: vI x :: st, σ) = (if y ≤ x then Rn (d) Q (μ, t, ls, st, σ) else Rn (d) Q (μ, pc + 3, ls, st, σ)) := by
  rw [Rn_nx h]
  show Sd (clo (d)) (Rn (d) Q) Q (popI (vI y :: vI x :: st) fun y r => popI r fun x r => jg pc off fun t => br (y ≤ x) (nx μ t ls r σ) (nx μ (pc + 3) ls r σ)) = _
  dsimp only [popI, jg, br]
  rw [if_pos (by omega), ht, ite_Sd]
  rfl
theorem E_if_gt {d : Nat} {Q : Option AV → St → Prop} {μ pc : Nat} {ls : List (Option AV)} {st : List AV} {σ : St} {off : Int} {x : Int32} (t : Nat) (h : ins μ pc = some (.ifCond .gt off, 3)) (ht : (pc : Int) + off = (t : Int)) : Rn (d) Q (μ, pc, ls, vI x :: st, σ) = (if 0 < x then Rn (d) Q (μ, t, ls, st, σ) else Rn (d) Q (μ, pc + 3, ls, st, σ)) := by
  rw [Rn_nx h]
  show Sd (clo (d)) (Rn (d) Q) Q (popI (vI x :: st) fun x r => jg pc off fun t => br (0 < x) (nx μ t ls r σ) (nx μ (pc + 3) ls r σ)) = _
  dsimp only [popI, jg, br]
  rw [if_pos (by omega), ht, ite_Sd]
  rfl
theorem E_icmp_gt {d : Nat} {Q : Option AV → St → Prop} {μ pc : Nat} {ls : List (Option AV)} {st : List AV} {σ : St} {off : Int} {x y : Int32} (t : Nat) (h : ins μ pc = some (.if_icmp .gt off, 3)) (ht : (pc : Int) + off = (t : Int)) : Rn (d) Q (μ, pc, ls, vI y :: vI x :: st, σ) = (if y < x then Rn (d) Q (μ, t, ls, st, σ) else Rn (d) Q (μ, pc + 3, ls, st, σ)) := by
  rw [Rn_nx h]
  show Sd (clo (d)) (Rn (d) Q) Q (popI (vI y :: vI x :: st) fun y r => popI r fun x r => jg pc off fun t => br (y < x) (nx μ t ls r σ) (nx μ (pc + 3) ls r σ)) = _
  dsimp only [popI, jg, br]
  rw [if_pos (by omega), ht, ite_Sd]
  rfl
theorem E_if_le {d : Nat} {Q : Option AV → St → Prop} {μ pc : Nat} {ls : List (Option AV)} {st : List AV} {σ : St} {off : Int} {x : Int32} (t : Nat) (h : ins μ pc = some (.ifCond .le off, 3)) (ht : (pc : Int) + off = (t : Int)) : Rn (d) Q (μ, pc, ls, vI x :: st, σ) = (if x ≤ 0 then Rn (d) Q (μ, t, ls, st, σ) else Rn (d) Q (μ, pc + 3, ls, st, σ)) := by
  rw [Rn_nx h]
  show Sd (clo (d)) (Rn (d) Q) Q (popI (vI x :: st) fun x r => jg pc off fun t => br (x ≤ 0) (nx μ t ls r σ) (nx μ (pc + 3) ls r σ)) = _
  dsimp only [popI, jg, br]
  rw [if_pos (by omega), ht, ite_Sd]
  rfl
theorem E_icmp_le {d : Nat} {Q : Option AV → St → Prop} {μ pc : Nat} {ls : List (Option AV)} {st : List AV} {σ : St} {off : Int} {x y : Int32} (t : Nat) (h : ins μ pc = some (.if_icmp .le off, 3)) (ht : (pc : Int) + off = (t : Int)) : Rn (d) Q (μ, pc, ls, vI y :: vI x :: st, σ) = (if x ≤ y then Rn (d) Q (μ, t, ls, st, σ) else Rn (d) Q (μ, pc + 3, ls, st, σ)) := by
  rw [Rn_nx h]
  show Sd (clo (d)) (Rn (d) Q) Q (popI (vI y :: vI x :: st) fun y r => popI r fun x r => jg pc off fun t => br (x ≤ y) (nx μ t ls r σ) (nx μ (pc + 3) ls r σ)) = _
  dsimp only [popI, jg, br]
  rw [if_pos (by omega), ht, ite_Sd]
  rfl
theorem E_ifnullN {d : Nat} {Q : Option AV → St → Prop} {μ pc : Nat} {ls : List (Option AV)} {st : List AV} {σ : St} {off : Int} (t : Nat) (h : ins μ pc = some (.ifnull off, 3)) (ht : (pc : Int) + off = (t : Int)) : Rn (d) Q (μ, pc, ls, vR none :: st, σ) = Rn (d) Q (μ, t, ls, st, σ) := by
  rw [Rn_nx h]
  show Sd (clo (d)) (Rn (d) Q) Q (popR (vR none :: st) fun x r => match x with
    | none => jm μ pc off ls r σ
    | some _ => nx μ (pc + 3) ls r σ) = _
  dsimp only [popR, jm]
  rw [if_pos (by omega), ht]
  rfl
theorem E_ifnullS {d : Nat} {Q : Option AV → St → Prop} {μ pc : Nat} {ls : List (Option AV)} {st : List AV} {σ : St} {off : Int} {x : Nat × Nat × Nat} (t : Nat) (h : ins μ pc = some (.ifnull off, 3)) (ht : (pc : Int) + off = (t : Int)) : Rn (d) Q (μ, pc, ls, vR (some x) :: st, σ) = Rn (d) Q (μ, pc + 3, ls, st, σ) := by
  rw [Rn_nx h]
  rfl
theorem E_ifnonnullN {d : Nat} {Q : Option AV → St → Prop} {μ pc : Nat} {ls : List (Option AV)} {st : List AV} {σ : St} {off : Int} (t : Nat) (h : ins μ pc = some (.ifnonnull off, 3)) (ht : (pc : Int) + off = (t : Int)) : Rn (d) Q (μ, pc, ls, vR none :: st, σ) = Rn (d) Q (μ, pc + 3, ls, st, σ) := by
  rw [Rn_nx h]
  rfl
theorem E_ifnonnullS {d : Nat} {Q : Option AV → St → Prop} {μ pc : Nat} {ls : List (Option AV)} {st : List AV} {σ : St} {off : Int} {x : Nat × Nat × Nat} (t : Nat) (h : ins μ pc = some (.ifnonnull off, 3)) (ht : (pc : Int) + off = (t : Int)) : Rn (d) Q (μ, pc, ls, vR (some x) :: st, σ) = Rn (d) Q (μ, t, ls, st, σ) := by
  rw [Rn_nx h]
  show Sd (clo (d)) (Rn (d) Q) Q (popR (vR (some x) :: st) fun x r => match x with
    | some _ => jm μ pc off ls r σ
    | none => nx μ (pc + 3) ls r σ) = _
  dsimp only [popR, jm]
  rw [if_pos (by omega), ht]
  rfl
theorem E_tsO {d : Nat} {Q : Option AV → St → Prop} {μ pc : Nat} {ls : List (Option AV)} {st : List AV} {σ : St} {d' lo hi : Int} {offs : Array Int} {n : Nat} {x : Int32} (t : Nat) (h : ins μ pc = some (.tableswitch d' lo hi offs, n)) (ht : (pc : Int) + d' = (t : Int)) (hx : x.toInt < lo ∨ hi < x.toInt) : Rn (d) Q (μ, pc, ls, vI x :: st, σ) = Rn (d) Q (μ, t, ls, st, σ) := by
  rw [Rn_nx h]
  show Sd (clo (d)) (Rn (d) Q) Q (popI (vI x :: st) fun x r => if x.toInt < lo ∨ hi < x.toInt then jm μ pc d' ls r σ else match offs[(x.toInt - lo).toNat]? with
    | some off => jm μ pc off ls r σ
    | none => none) = _
  dsimp only [popI, jm]
  rw [if_pos hx, if_pos (by omega), ht]
  rfl
theorem E_tsI {d : Nat} {Q : Option AV → St → Prop} {μ pc : Nat} {ls : List (Option AV)} {st : List AV} {σ : St} {d' lo hi off : Int} {offs : Array Int} {n : Nat} {x : Int32} (t : Nat) (h : ins μ pc = some (.tableswitch d' lo hi offs, n)) (hx : ¬ (x.toInt < lo ∨ hi < x.toInt)) (ho : offs[(x.toInt - lo).toNat]? = some off) (ht : (pc : Int) + off = (t : Int)) : Rn (d) Q (μ, pc, ls, vI x :: st, σ) = Rn (d) Q (μ, t, ls, st, σ) := by
  rw [Rn_nx h]
  show Sd (clo (d)) (Rn (d) Q) Q (popI (vI x :: st) fun x r => if x.toInt < lo ∨ hi < x.toInt then jm μ pc d' ls r σ else match offs[(x.toInt - lo).toNat]? with
    | some off => jm μ pc off ls r σ
    | none => none) = _
  dsimp only [popI, jm]
  rw [if_neg hx, ho]
  dsimp only
  rw [if_pos (by omega), ht]
  rfl
theorem E_getI {d : Nat} {Q : Option AV → St → Prop} {μ pc : Nat} {ls : List (Option AV)} {st : List AV} {σ : St} {idx c k nst i : Nat} (h : ins μ pc = some (.getfield idx, 3)) (hq : fldQ (ow μ) idx = some (c, k, nst)) (hk : (fk c k).1 = 0) : Rn (d) Q (μ, pc, ls, vR (some (c, 0, i)) :: st, σ) = (i < gN σ c ∧ Rn (d) Q (μ, pc + 3, ls, vI (gI σ c k i) :: st, σ)) := by
  rw [Rn_nx h]
  show Sd (clo (d)) (Rn (d) Q) Q (match fldQ (ow μ) idx with
    | some (c', k', _) => popO c' σ (vR (some (c, 0, i)) :: st) fun i' r => getf σ c' k' i' fun v => nx μ (pc + 3) ls (v :: r) σ
    | none => none) = _
  rw [hq]
  dsimp only
  rw [popO_eq, ite_Sd, Sd_no, ite_and]
  unfold getf
  rw [if_pos hk]
  rfl
theorem E_getR {d : Nat} {Q : Option AV → St → Prop} {μ pc : Nat} {ls : List (Option AV)} {st : List AV} {σ : St} {idx c k nst i cc : Nat} (h : ins μ pc = some (.getfield idx, 3)) (hq : fldQ (ow μ) idx = some (c, k, nst)) (hk : fk c k = (2, cc)) : Rn (d) Q (μ, pc, ls, vR (some (c, 0, i)) :: st, σ) = (i < gN σ c ∧ Rn (d) Q (μ, pc + 3, ls, vR ((gR σ c k i).map fun j => (cc, 0, j)) :: st, σ)) := by
  rw [Rn_nx h]
  show Sd (clo (d)) (Rn (d) Q) Q (match fldQ (ow μ) idx with
    | some (c', k', _) => popO c' σ (vR (some (c, 0, i)) :: st) fun i' r => getf σ c' k' i' fun v => nx μ (pc + 3) ls (v :: r) σ
    | none => none) = _
  rw [hq]
  dsimp only
  rw [popO_eq, ite_Sd, Sd_no, ite_and]
  unfold getf
  rw [hk]
  rfl
theorem E_getA {d : Nat} {Q : Option AV → St → Prop} {μ pc : Nat} {ls : List (Option AV)} {st : List AV} {σ : St} {idx c k nst i : Nat} (h : ins μ pc = some (.getfield idx, 3)) (hq : fldQ (ow μ) idx = some (c, k, nst)) (hk : (fk c k).1 = 1 ∨ (fk c k).1 = 3) : Rn (d) Q (μ, pc, ls, vR (some (c, 0, i)) :: st, σ) = (i < gN σ c ∧ ¬ gL σ c k i = none ∧ Rn (d) Q (μ, pc + 3, ls, vR (some (c, k + 1, i)) :: st, σ)) := by
  rw [Rn_nx h]
  show Sd (clo (d)) (Rn (d) Q) Q (match fldQ (ow μ) idx with
    | some (c', k', _) => popO c' σ (vR (some (c, 0, i)) :: st) fun i' r => getf σ c' k' i' fun v => nx μ (pc + 3) ls (v :: r) σ
    | none => none) = _
  rw [hq]
  dsimp only
  rw [popO_eq, ite_Sd, Sd_no, ite_and]
  unfold getf
  rw [if_neg (by omega), if_neg (by omega), ite_Sd, Sd_no, ite_not]
  rfl
theorem E_putI {d : Nat} {Q : Option AV → St → Prop} {μ pc : Nat} {ls : List (Option AV)} {st : List AV} {σ : St} {idx c k nst i : Nat} {x : Int32} (h : ins μ pc = some (.putfield idx, 3)) (hq : fldQ (ow μ) idx = some (c, k, nst)) (hk : fk c k = (0, 0)) (hf : fnl c k = false ∨ (nst = 0 ∧ (nam μ).name = "<init>" ∧ ow μ = c)) : Rn (d) Q (μ, pc, ls, vI x :: vR (some (c, 0, i)) :: st, σ) = (i < gN σ c ∧ Rn (d) Q (μ, pc + 3, ls, st, setI σ c k i x)) := by
  rw [Rn_nx h]
  show Sd (clo (d)) (Rn (d) Q) Q (match fldQ (ow μ) idx, (vI x :: vR (some (c, 0, i)) :: st) with
    | some (c, k, nst), v :: st => popO c σ st fun i r => putf μ nst σ c k i v fun σ => nx μ (pc + 3) ls r σ
    | _, _ => none) = _
  rw [hq]
  dsimp only
  rw [popO_eq, ite_Sd, Sd_no, ite_and]
  unfold putf
  rw [if_pos hf]
  rw [hk]
  rfl
theorem E_putZ {d : Nat} {Q : Option AV → St → Prop} {μ pc : Nat} {ls : List (Option AV)} {st : List AV} {σ : St} {idx c k nst i : Nat} {x : Int32} (h : ins μ pc = some (.putfield idx, 3)) (hq : fldQ (ow μ) idx = some (c, k, nst)) (hk : fk c k = (0, 1)) (hf : fnl c k = false ∨ (nst = 0 ∧ (nam μ).name = "<init>" ∧ ow μ = c)) : Rn (d) Q (μ, pc, ls, vI x :: vR (some (c, 0, i)) :: st, σ) = (i < gN σ c ∧ (x = 0 ∨ x = 1) ∧ Rn (d) Q (μ, pc + 3, ls, st, setI σ c k i x)) := by
  rw [Rn_nx h]
  show Sd (clo (d)) (Rn (d) Q) Q (match fldQ (ow μ) idx, (vI x :: vR (some (c, 0, i)) :: st) with
    | some (c, k, nst), v :: st => popO c σ st fun i r => putf μ nst σ c k i v fun σ => nx μ (pc + 3) ls r σ
    | _, _ => none) = _
  rw [hq]
  dsimp only
  rw [popO_eq, ite_Sd, Sd_no, ite_and]
  unfold putf
  rw [if_pos hf]
  rw [hk]
  dsimp only
  rw [if_pos rfl, ite_Sd, Sd_no, ite_and, show ((1 : Nat) = 0 ∨ x = 0 ∨ x = 1) = (x = 0 ∨ x = 1) from propext ⟨fun z => z.resolve_left (by decide), Or.inr⟩]
  rfl
theorem E_putR {d : Nat} {Q : Option AV → St → Prop} {μ pc : Nat} {ls : List (Option AV)} {st : List AV} {σ : St} {idx c k nst i cc j : Nat} (h : ins μ pc = some (.putfield idx, 3)) (hq : fldQ (ow μ) idx = some (c, k, nst)) (hk : fk c k = (2, cc)) (hf : fnl c k = false ∨ (nst = 0 ∧ (nam μ).name = "<init>" ∧ ow μ = c)) : Rn (d) Q (μ, pc, ls, vR (some (cc, 0, j)) :: vR (some (c, 0, i)) :: st, σ) = (i < gN σ c ∧ Rn (d) Q (μ, pc + 3, ls, st, setR σ c k i (some j))) := by
  rw [Rn_nx h]
  show Sd (clo (d)) (Rn (d) Q) Q (match fldQ (ow μ) idx, (vR (some (cc, 0, j)) :: vR (some (c, 0, i)) :: st) with
    | some (c, k, nst), v :: st => popO c σ st fun i r => putf μ nst σ c k i v fun σ => nx μ (pc + 3) ls r σ
    | _, _ => none) = _
  rw [hq]
  dsimp only
  rw [popO_eq, ite_Sd, Sd_no, ite_and]
  unfold putf
  rw [if_pos hf]
  rw [hk]
  dsimp only
  rw [if_neg (by decide), if_pos rfl]
  show (i < gN σ c ∧ Sd (clo d) (Rn d Q) Q (if cc = cc then nx μ (pc + 3) ls st (setR σ c k i (some j)) else none)) = _
  rw [if_pos rfl]
  rfl
theorem E_new {d : Nat} {Q : Option AV → St → Prop} {μ pc : Nat} {ls : List (Option AV)} {st : List AV} {σ : St} {idx c : Nat} (h : ins μ pc = some (.new idx, 3)) (hq : clsQ (ow μ) idx = some c) : Rn (d) Q (μ, pc, ls, st, σ) = Rn (d) Q (μ, pc + 3, ls, vR (some (c, 0, gN σ c)) :: st, newO σ c) := by
  rw [Rn_nx h]
  show Sd (clo (d)) (Rn (d) Q) Q (match clsQ (ow μ) idx with
    | some c => nx μ (pc + 3) ls (vR (some (c, 0, gN σ c)) :: (st)) (newO σ c)
    | none => none) = _
  rw [hq]
  rfl
theorem E_newarray {d : Nat} {Q : Option AV → St → Prop} {μ pc : Nat} {ls : List (Option AV)} {st : List AV} {σ : St} {t : ArrayType} {ix c k i : Nat} {n : Int32} (h : ins μ pc = some (.newarray t, 2)) (h2 : ins μ (pc + 2) = some (.putfield ix, 3)) (hq : fldQ (ow μ) ix = some (c, k, 0)) (hk : (fk c k).1 = 1 ∧ aty (fk c k).2 t = true) (hc13 : c < 13) (hf : fnl c k = false ∨ ((nam μ).name = "<init>" ∧ ow μ = c)) (hn : ¬ n < 0 ∧ n.toNatClampNeg ≤ 100000) : Rn (d) Q (μ, pc, ls, vI n :: vR (some (c, 0, i)) :: st, σ) = (i < gN σ c ∧ gL σ c k i = none ∧ Rn (d) Q (μ, pc + 5, ls, st, newA σ c k i n.toNatClampNeg)) := by
  rw [Rn_nx h]
  show Sd (clo (d)) (Rn (d) Q) Q (newW μ (pc + 2) ls (vI n :: vR (some (c, 0, i)) :: st) σ (fun q => q.1 == 1 && aty q.2 t)) = _
  rw [newW_eq h2 hq, ite_Sd, ite_Sd, Sd_no, ite_and, ite_and]
  refine propext ⟨fun x => ⟨x.1, x.2.1.2.2.2.2.1, x.2.2⟩, fun x => ⟨x.1, ⟨by simp [hk], hn.1, hn.2, hc13, x.2.1, hf⟩, x.2.2⟩⟩
theorem E_anewarray {d : Nat} {Q : Option AV → St → Prop} {μ pc : Nat} {ls : List (Option AV)} {st : List AV} {σ : St} {idx cc : Nat} {ix c k i : Nat} {n : Int32} (h : ins μ pc = some (.anewarray idx, 3)) (h2 : ins μ (pc + 3) = some (.putfield ix, 3)) (hq : fldQ (ow μ) ix = some (c, k, 0)) (hc : clsQ (ow μ) idx = some cc) (hk : fk c k = (3, cc)) (hc13 : c < 13) (hf : fnl c k = false ∨ ((nam μ).name = "<init>" ∧ ow μ = c)) (hn : ¬ n < 0 ∧ n.toNatClampNeg ≤ 100000) : Rn (d) Q (μ, pc, ls, vI n :: vR (some (c, 0, i)) :: st, σ) = (i < gN σ c ∧ gL σ c k i = none ∧ Rn (d) Q (μ, pc + 6, ls, st, newA σ c k i n.toNatClampNeg)) := by
  rw [Rn_nx h]
  show Sd (clo (d)) (Rn (d) Q) Q (match clsQ (ow μ) idx with
    | some c' => newW μ (pc + 3) ls (vI n :: vR (some (c, 0, i)) :: st) σ (fun q => q == (3, c'))
    | none => none) = _
  rw [hc]
  dsimp only
  rw [newW_eq h2 hq, ite_Sd, ite_Sd, Sd_no, ite_and, ite_and]
  refine propext ⟨fun x => ⟨x.1, x.2.1.2.2.2.2.1, x.2.2⟩, fun x => ⟨x.1, ⟨by simp [hk], hn.1, hn.2, hc13, x.2.1, hf⟩, x.2.2⟩⟩
theorem E_iaload1 {d : Nat} {Q : Option AV → St → Prop} {μ pc : Nat} {ls : List (Option AV)} {st : List AV} {σ : St} {c k i : Nat} {j : Int32} (h : ins μ pc = some (.iaload, 1)) (hk : fk c k = (1, 1)) : Rn (d) Q (μ, pc, ls, vI j :: vR (some (c, k + 1, i)) :: st, σ) = (∃ n, gL σ c k i = some n ∧ i < gN σ c ∧ (0 ≤ j.toInt ∧ j.toInt < n) ∧ Rn (d) Q (μ, pc + 1, ls, vI (gA σ c k i j.toNatClampNeg) :: st, σ)) := by
  rw [Rn_nx h]
  show Sd (clo (d)) (Rn (d) Q) Q (ald 1 μ (pc + 1) ls (vI j :: vR (some (c, k + 1, i)) :: st) σ (fun t => t == 1)) = _
  unfold ald
  rw [popI_eq, popW_eq]
  cases hg : gL σ c k i with
  | none => exact propext ⟨fun z => z.elim, fun ⟨n, z, _⟩ => by cases z⟩
  | some n =>
    dsimp only
    rw [hk, ite_Sd, ite_Sd, Sd_no, ite_and, ite_and]
    exact propext ⟨fun z => ⟨n, rfl, z.1, z.2.1.2.2, z.2.2⟩, fun ⟨n', e, z⟩ => by cases e; exact ⟨z.1, ⟨rfl, rfl, z.2.1⟩, z.2.2⟩⟩
theorem E_baload0 {d : Nat} {Q : Option AV → St → Prop} {μ pc : Nat} {ls : List (Option AV)} {st : List AV} {σ : St} {c k i : Nat} {j : Int32} (h : ins μ pc = some (.baload, 1)) (hk : fk c k = (1, 0)) : Rn (d) Q (μ, pc, ls, vI j :: vR (some (c, k + 1, i)) :: st, σ) = (∃ n, gL σ c k i = some n ∧ i < gN σ c ∧ (0 ≤ j.toInt ∧ j.toInt < n) ∧ Rn (d) Q (μ, pc + 1, ls, vI (gA σ c k i j.toNatClampNeg) :: st, σ)) := by
  rw [Rn_nx h]
  show Sd (clo (d)) (Rn (d) Q) Q (ald 0 μ (pc + 1) ls (vI j :: vR (some (c, k + 1, i)) :: st) σ (fun t => t == 0 || t == 3)) = _
  unfold ald
  rw [popI_eq, popW_eq]
  cases hg : gL σ c k i with
  | none => exact propext ⟨fun z => z.elim, fun ⟨n, z, _⟩ => by cases z⟩
  | some n =>
    dsimp only
    rw [hk, ite_Sd, ite_Sd, Sd_no, ite_and, ite_and]
    exact propext ⟨fun z => ⟨n, rfl, z.1, z.2.1.2.2, z.2.2⟩, fun ⟨n', e, z⟩ => by cases e; exact ⟨z.1, ⟨rfl, rfl, z.2.1⟩, z.2.2⟩⟩
theorem E_baload3 {d : Nat} {Q : Option AV → St → Prop} {μ pc : Nat} {ls : List (Option AV)} {st : List AV} {σ : St} {c k i : Nat} {j : Int32} (h : ins μ pc = some (.baload, 1)) (hk : fk c k = (1, 3)) : Rn (d) Q (μ, pc, ls, vI j :: vR (some (c, k + 1, i)) :: st, σ) = (∃ n, gL σ c k i = some n ∧ i < gN σ c ∧ (0 ≤ j.toInt ∧ j.toInt < n) ∧ Rn (d) Q (μ, pc + 1, ls, vI (gA σ c k i j.toNatClampNeg) :: st, σ)) := by
  rw [Rn_nx h]
  show Sd (clo (d)) (Rn (d) Q) Q (ald 0 μ (pc + 1) ls (vI j :: vR (some (c, k + 1, i)) :: st) σ (fun t => t == 0 || t == 3)) = _
  unfold ald
  rw [popI_eq, popW_eq]
  cases hg : gL σ c k i with
  | none => exact propext ⟨fun z => z.elim, fun ⟨n, z, _⟩ => by cases z⟩
  | some n =>
    dsimp only
    rw [hk, ite_Sd, ite_Sd, Sd_no, ite_and, ite_and]
    exact propext ⟨fun z => ⟨n, rfl, z.1, z.2.1.2.2, z.2.2⟩, fun ⟨n', e, z⟩ => by cases e; exact ⟨z.1, ⟨rfl, rfl, z.2.1⟩, z.2.2⟩⟩
theorem E_saload2 {d : Nat} {Q : Option AV → St → Prop} {μ pc : Nat} {ls : List (Option AV)} {st : List AV} {σ : St} {c k i : Nat} {j : Int32} (h : ins μ pc = some (.saload, 1)) (hk : fk c k = (1, 2)) : Rn (d) Q (μ, pc, ls, vI j :: vR (some (c, k + 1, i)) :: st, σ) = (∃ n, gL σ c k i = some n ∧ i < gN σ c ∧ (0 ≤ j.toInt ∧ j.toInt < n) ∧ Rn (d) Q (μ, pc + 1, ls, vI (gA σ c k i j.toNatClampNeg) :: st, σ)) := by
  rw [Rn_nx h]
  show Sd (clo (d)) (Rn (d) Q) Q (ald 2 μ (pc + 1) ls (vI j :: vR (some (c, k + 1, i)) :: st) σ (fun t => t == 2)) = _
  unfold ald
  rw [popI_eq, popW_eq]
  cases hg : gL σ c k i with
  | none => exact propext ⟨fun z => z.elim, fun ⟨n, z, _⟩ => by cases z⟩
  | some n =>
    dsimp only
    rw [hk, ite_Sd, ite_Sd, Sd_no, ite_and, ite_and]
    exact propext ⟨fun z => ⟨n, rfl, z.1, z.2.1.2.2, z.2.2⟩, fun ⟨n', e, z⟩ => by cases e; exact ⟨z.1, ⟨rfl, rfl, z.2.1⟩, z.2.2⟩⟩
theorem E_iastore1 {d : Nat} {Q : Option AV → St → Prop} {μ pc : Nat} {ls : List (Option AV)} {st : List AV} {σ : St} {c k i : Nat} {j x : Int32} (h : ins μ pc = some (.iastore, 1)) (hk : fk c k = (1, 1)) (hc : c < 13) : Rn (d) Q (μ, pc, ls, vI x :: vI j :: vR (some (c, k + 1, i)) :: st, σ) = (∃ n, gL σ c k i = some n ∧ i < gN σ c ∧ (0 ≤ j.toInt ∧ j.toInt < n) ∧ Rn (d) Q (μ, pc + 1, ls, st, setA σ c k i (upd (gA σ c k i) j.toNatClampNeg x))) := by
  rw [Rn_nx h]
  show Sd (clo (d)) (Rn (d) Q) Q (ast μ (pc + 1) ls (vI x :: vI j :: vR (some (c, k + 1, i)) :: st) σ (fun t => t == 1)) = _
  unfold ast
  rw [popI_eq, popI_eq, popW_eq]
  cases hg : gL σ c k i with
  | none => exact propext ⟨fun z => z.elim, fun ⟨n, z, _⟩ => by cases z⟩
  | some n =>
    dsimp only
    rw [hk, ite_Sd, ite_Sd, Sd_no, ite_and, ite_and]
    exact propext ⟨fun z => ⟨n, rfl, z.1, z.2.1.2.2.2, z.2.2⟩, fun ⟨n', e, z⟩ => by cases e; exact ⟨z.1, ⟨hc, rfl, rfl, z.2.1⟩, z.2.2⟩⟩
theorem E_bastore0 {d : Nat} {Q : Option AV → St → Prop} {μ pc : Nat} {ls : List (Option AV)} {st : List AV} {σ : St} {c k i : Nat} {j x : Int32} (h : ins μ pc = some (.bastore, 1)) (hk : fk c k = (1, 0)) (hc : c < 13) : Rn (d) Q (μ, pc, ls, vI x :: vI j :: vR (some (c, k + 1, i)) :: st, σ) = (∃ n, gL σ c k i = some n ∧ i < gN σ c ∧ (0 ≤ j.toInt ∧ j.toInt < n) ∧ Rn (d) Q (μ, pc + 1, ls, st, setA σ c k i (upd (gA σ c k i) j.toNatClampNeg x.toInt8.toInt32))) := by
  rw [Rn_nx h]
  show Sd (clo (d)) (Rn (d) Q) Q (ast μ (pc + 1) ls (vI x :: vI j :: vR (some (c, k + 1, i)) :: st) σ (fun t => t == 0 || t == 3)) = _
  unfold ast
  rw [popI_eq, popI_eq, popW_eq]
  cases hg : gL σ c k i with
  | none => exact propext ⟨fun z => z.elim, fun ⟨n, z, _⟩ => by cases z⟩
  | some n =>
    dsimp only
    rw [hk, ite_Sd, ite_Sd, Sd_no, ite_and, ite_and]
    exact propext ⟨fun z => ⟨n, rfl, z.1, z.2.1.2.2.2, z.2.2⟩, fun ⟨n', e, z⟩ => by cases e; exact ⟨z.1, ⟨hc, rfl, rfl, z.2.1⟩, z.2.2⟩⟩
theorem E_bastore3 {d : Nat} {Q : Option AV → St → Prop} {μ pc : Nat} {ls : List (Option AV)} {st : List AV} {σ : St} {c k i : Nat} {j x : Int32} (h : ins μ pc = some (.bastore, 1)) (hk : fk c k = (1, 3)) (hc : c < 13) : Rn (d) Q (μ, pc, ls, vI x :: vI j :: vR (some (c, k + 1, i)) :: st, σ) = (∃ n, gL σ c k i = some n ∧ i < gN σ c ∧ (0 ≤ j.toInt ∧ j.toInt < n) ∧ Rn (d) Q (μ, pc + 1, ls, st, setA σ c k i (upd (gA σ c k i) j.toNatClampNeg (x &&& 1)))) := by
  rw [Rn_nx h]
  show Sd (clo (d)) (Rn (d) Q) Q (ast μ (pc + 1) ls (vI x :: vI j :: vR (some (c, k + 1, i)) :: st) σ (fun t => t == 0 || t == 3)) = _
  unfold ast
  rw [popI_eq, popI_eq, popW_eq]
  cases hg : gL σ c k i with
  | none => exact propext ⟨fun z => z.elim, fun ⟨n, z, _⟩ => by cases z⟩
  | some n =>
    dsimp only
    rw [hk, ite_Sd, ite_Sd, Sd_no, ite_and, ite_and]
    exact propext ⟨fun z => ⟨n, rfl, z.1, z.2.1.2.2.2, z.2.2⟩, fun ⟨n', e, z⟩ => by cases e; exact ⟨z.1, ⟨hc, rfl, rfl, z.2.1⟩, z.2.2⟩⟩
theorem E_sastore2 {d : Nat} {Q : Option AV → St → Prop} {μ pc : Nat} {ls : List (Option AV)} {st : List AV} {σ : St} {c k i : Nat} {j x : Int32} (h : ins μ pc = some (.sastore, 1)) (hk : fk c k = (1, 2)) (hc : c < 13) : Rn (d) Q (μ, pc, ls, vI x :: vI j :: vR (some (c, k + 1, i)) :: st, σ) = (∃ n, gL σ c k i = some n ∧ i < gN σ c ∧ (0 ≤ j.toInt ∧ j.toInt < n) ∧ Rn (d) Q (μ, pc + 1, ls, st, setA σ c k i (upd (gA σ c k i) j.toNatClampNeg x.toInt16.toInt32))) := by
  rw [Rn_nx h]
  show Sd (clo (d)) (Rn (d) Q) Q (ast μ (pc + 1) ls (vI x :: vI j :: vR (some (c, k + 1, i)) :: st) σ (fun t => t == 2)) = _
  unfold ast
  rw [popI_eq, popI_eq, popW_eq]
  cases hg : gL σ c k i with
  | none => exact propext ⟨fun z => z.elim, fun ⟨n, z, _⟩ => by cases z⟩
  | some n =>
    dsimp only
    rw [hk, ite_Sd, ite_Sd, Sd_no, ite_and, ite_and]
    exact propext ⟨fun z => ⟨n, rfl, z.1, z.2.1.2.2.2, z.2.2⟩, fun ⟨n', e, z⟩ => by cases e; exact ⟨z.1, ⟨hc, rfl, rfl, z.2.1⟩, z.2.2⟩⟩
theorem E_aaload {d : Nat} {Q : Option AV → St → Prop} {μ pc : Nat} {ls : List (Option AV)} {st : List AV} {σ : St} {c k i cc : Nat} {j : Int32} (h : ins μ pc = some (.aaload, 1)) (hk : fk c k = (3, cc)) (hc : c < 13) : Rn (d) Q (μ, pc, ls, vI j :: vR (some (c, k + 1, i)) :: st, σ) = (∃ n, gL σ c k i = some n ∧ i < gN σ c ∧ (0 ≤ j.toInt ∧ j.toInt < n) ∧ Rn (d) Q (μ, pc + 1, ls, vR ((gQ σ c k i j.toNatClampNeg).map fun q => (cc, 0, q)) :: st, σ)) := by
  rw [Rn_nx h]
  show Sd (clo (d)) (Rn (d) Q) Q (popI (vI j :: vR (some (c, k + 1, i)) :: st) fun j r => popW σ r fun c k i n r => if c < 13 ∧ (fk c k).1 = 3 ∧ (0 ≤ j.toInt ∧ j.toInt < n) then nx μ (pc + 1) ls (vR ((gQ σ c k i j.toNatClampNeg).map fun q => ((fk c k).2, 0, q)) :: r) σ else none) = _
  rw [popI_eq, popW_eq]
  cases hg : gL σ c k i with
  | none => exact propext ⟨fun z => z.elim, fun ⟨n, z, _⟩ => by cases z⟩
  | some n =>
    dsimp only
    rw [hk, ite_Sd, ite_Sd, Sd_no, ite_and, ite_and]
    exact propext ⟨fun z => ⟨n, rfl, z.1, z.2.1.2.2, z.2.2⟩, fun ⟨n', e, z⟩ => by cases e; exact ⟨z.1, ⟨hc, rfl, z.2.1⟩, z.2.2⟩⟩
theorem E_aastore {d : Nat} {Q : Option AV → St → Prop} {μ pc : Nat} {ls : List (Option AV)} {st : List AV} {σ : St} {c k i cc q : Nat} {j : Int32} (h : ins μ pc = some (.aastore, 1)) (hk : fk c k = (3, cc)) (hc : c < 13) : Rn (d) Q (μ, pc, ls, vR (some (cc, 0, q)) :: vI j :: vR (some (c, k + 1, i)) :: st, σ) = (∃ n, gL σ c k i = some n ∧ i < gN σ c ∧ (0 ≤ j.toInt ∧ j.toInt < n) ∧ q < gN σ cc ∧ Rn (d) Q (μ, pc + 1, ls, st, setQ σ c k i (va_up (gQ σ c k i) j.toNatClampNeg (some q)))) := by
  rw [Rn_nx h]
  show Sd (clo (d)) (Rn (d) Q) Q (popR (vR (some (cc, 0, q)) :: vI j :: vR (some (c, k + 1, i)) :: st) fun v r => popI r fun j r => popW σ r fun c k i n r => if c < 13 ∧ (fk c k).1 = 3 ∧ (0 ≤ j.toInt ∧ j.toInt < n) then (match v with
      | some (c', 0, q) => if c' = (fk c k).2 ∧ q < gN σ c' then nx μ (pc + 1) ls r (setQ σ c k i (va_up (gQ σ c k i) j.toNatClampNeg (some q))) else none
      | _ => none) else none) = _
  rw [popR_eq, popI_eq, popW_eq]
  cases hg : gL σ c k i with
  | none => exact propext ⟨fun z => z.elim, fun ⟨n, z, _⟩ => by cases z⟩
  | some n =>
    dsimp only
    rw [hk, ite_Sd, ite_Sd]
    show (if i < gN σ c then (if c < 13 ∧ 3 = 3 ∧ (0 ≤ j.toInt ∧ j.toInt < n) then Sd (clo d) (Rn d Q) Q (if cc = cc ∧ q < gN σ cc then nx μ (pc + 1) ls st (setQ σ c k i (va_up (gQ σ c k i) j.toNatClampNeg (some q))) else none) else Sd (clo d) (Rn d Q) Q none) else Sd (clo d) (Rn d Q) Q none) = _
    rw [ite_Sd, Sd_no, ite_and, ite_and, ite_and]
    exact propext ⟨fun z => ⟨n, rfl, z.1, z.2.1.2.2, z.2.2.1.2, z.2.2.2⟩, fun ⟨n', e, z⟩ => by cases e; exact ⟨z.1, ⟨hc, rfl, z.2.1⟩, ⟨rfl, z.2.2.1⟩, z.2.2.2⟩⟩
theorem E_arraylength {d : Nat} {Q : Option AV → St → Prop} {μ pc : Nat} {ls : List (Option AV)} {st : List AV} {σ : St} {c k i : Nat} (h : ins μ pc = some (.arraylength, 1)) (hk : (fk c k).1 = 1) : Rn (d) Q (μ, pc, ls, vR (some (c, k + 1, i)) :: st, σ) = (∃ n, gL σ c k i = some n ∧ i < gN σ c ∧ Rn (d) Q (μ, pc + 1, ls, vI (Int32.ofNat n) :: st, σ)) := by
  rw [Rn_nx h]
  show Sd (clo (d)) (Rn (d) Q) Q (popW σ (vR (some (c, k + 1, i)) :: st) fun c k _ n r => if (fk c k).1 = 1 then nx μ (pc + 1) ls (vI (Int32.ofNat n) :: r) σ else none) = _
  rw [popW_eq]
  cases hg : gL σ c k i with
  | none => exact propext ⟨fun z => z.elim, fun ⟨n, z, _⟩ => by cases z⟩
  | some n =>
    dsimp only
    rw [ite_Sd, ite_Sd, Sd_no, ite_and, ite_and]
    exact propext ⟨fun z => ⟨n, rfl, z.1, z.2.2⟩, fun ⟨n', e, z⟩ => by cases e; exact ⟨z.1, hk, z.2⟩⟩
theorem E_invV {d : Nat} {Q : Option AV → St → Prop} {μ pc : Nat} {ls : List (Option AV)} {st : List AV} {σ : St} {idx μ' na c i : Nat} {a : List AV} {en : List (Option AV)} (h : ins μ pc = some (.invokevirtual idx, 3)) (hq : mthQ (ow μ) idx = some (0, μ', na)) (ho : ow μ' = c) (hna : a.length = na) (hok : entOK μ' (vR (some (c, 0, i)) :: a.reverse) = true) (hen : ent μ' (vR (some (c, 0, i)) :: a.reverse) = en) : Rn (d + 1) Q (μ, pc, ls, a ++ vR (some (c, 0, i)) :: st, σ) = (i < gN σ c ∧ catS st ≤ 8 ∧ Rn d (fun r σ' => Rn (d + 1) Q (μ, pc + 3, ls, r.toList ++ st, σ')) (μ', 0, en, [], σ)) := by
  rw [Rn_nx h]
  show Sd (clo (d + 1)) (Rn (d + 1) Q) Q (match mthQ (ow μ) idx with
    | some (0, μ', na) => if na ≤ (a ++ vR (some (c, 0, i)) :: st).length then popO (ow μ') σ ((a ++ vR (some (c, 0, i)) :: st).drop na) fun i' r' => call μ' (vR (some (ow μ', 0, i')) :: ((a ++ vR (some (c, 0, i)) :: st).take na).reverse) μ (pc + 3) ls r' σ else none
    | _ => none) = _
  subst ho
  subst hen
  subst hna
  rw [hq]
  show Sd (clo (d + 1)) (Rn (d + 1) Q) Q (if a.length ≤ (a ++ vR (some (ow μ', 0, i)) :: st).length then popO (ow μ') σ ((a ++ vR (some (ow μ', 0, i)) :: st).drop a.length) fun i' r' => call μ' (vR (some (ow μ', 0, i')) :: ((a ++ vR (some (ow μ', 0, i)) :: st).take a.length).reverse) μ (pc + 3) ls r' σ else none) = _
  rw [if_pos (by rw [List.length_append]; omega), List.drop_left, List.take_left]
  rw [popO_eq, ite_Sd, Sd_no, ite_and]
  unfold call
  rw [ite_Sd, Sd_no, ite_and]
  exact propext ⟨fun z => ⟨z.1, z.2.1.2, z.2.2⟩, fun z => ⟨z.1, ⟨hok, z.2.1⟩, z.2.2⟩⟩
theorem E_invI2 {d : Nat} {Q : Option AV → St → Prop} {μ pc : Nat} {ls : List (Option AV)} {st : List AV} {σ : St} {idx μ' na c i : Nat} {a : List AV} {en : List (Option AV)} (h : ins μ pc = some (.invokespecial idx, 3)) (hq : mthQ (ow μ) idx = some (2, μ', na)) (ho : ow μ' = c) (hna : a.length = na) (hok : entOK μ' (vR (some (c, 0, i)) :: a.reverse) = true) (hen : ent μ' (vR (some (c, 0, i)) :: a.reverse) = en) : Rn (d + 1) Q (μ, pc, ls, a ++ vR (some (c, 0, i)) :: st, σ) = (i < gN σ c ∧ catS st ≤ 8 ∧ Rn d (fun r σ' => Rn (d + 1) Q (μ, pc + 3, ls, r.toList ++ st, σ')) (μ', 0, en, [], σ)) := by
  rw [Rn_nx h]
  show Sd (clo (d + 1)) (Rn (d + 1) Q) Q (match mthQ (ow μ) idx with
    | some (2, μ', na) => if na ≤ (a ++ vR (some (c, 0, i)) :: st).length then popO (ow μ') σ ((a ++ vR (some (c, 0, i)) :: st).drop na) fun i' r' => call μ' (vR (some (ow μ', 0, i')) :: ((a ++ vR (some (c, 0, i)) :: st).take na).reverse) μ (pc + 3) ls r' σ else none
    | some (5, μ', na) => if na ≤ (a ++ vR (some (c, 0, i)) :: st).length then popO (ow μ') σ ((a ++ vR (some (c, 0, i)) :: st).drop na) fun i' r' => call μ' (vR (some (ow μ', 0, i')) :: ((a ++ vR (some (c, 0, i)) :: st).take na).reverse) μ (pc + 3) ls r' σ else none
    | some (6, _, _) => popR (a ++ vR (some (c, 0, i)) :: st) fun x r => match x with
      | some _ => if (r.map cat).sum ≤ 8 then nx μ (pc + 3) ls r σ else none
      | none => none
    | _ => none) = _
  subst ho
  subst hen
  subst hna
  rw [hq]
  show Sd (clo (d + 1)) (Rn (d + 1) Q) Q (if a.length ≤ (a ++ vR (some (ow μ', 0, i)) :: st).length then popO (ow μ') σ ((a ++ vR (some (ow μ', 0, i)) :: st).drop a.length) fun i' r' => call μ' (vR (some (ow μ', 0, i')) :: ((a ++ vR (some (ow μ', 0, i)) :: st).take a.length).reverse) μ (pc + 3) ls r' σ else none) = _
  rw [if_pos (by rw [List.length_append]; omega), List.drop_left, List.take_left]
  rw [popO_eq, ite_Sd, Sd_no, ite_and]
  unfold call
  rw [ite_Sd, Sd_no, ite_and]
  exact propext ⟨fun z => ⟨z.1, z.2.1.2, z.2.2⟩, fun z => ⟨z.1, ⟨hok, z.2.1⟩, z.2.2⟩⟩
theorem E_invI5 {d : Nat} {Q : Option AV → St → Prop} {μ pc : Nat} {ls : List (Option AV)} {st : List AV} {σ : St} {idx μ' na c i : Nat} {a : List AV} {en : List (Option AV)} (h : ins μ pc = some (.invokespecial idx, 3)) (hq : mthQ (ow μ) idx = some (5, μ', na)) (ho : ow μ' = c) (hna : a.length = na) (hok : entOK μ' (vR (some (c, 0, i)) :: a.reverse) = true) (hen : ent μ' (vR (some (c, 0, i)) :: a.reverse) = en) : Rn (d + 1) Q (μ, pc, ls, a ++ vR (some (c, 0, i)) :: st, σ) = (i < gN σ c ∧ catS st ≤ 8 ∧ Rn d (fun r σ' => Rn (d + 1) Q (μ, pc + 3, ls, r.toList ++ st, σ')) (μ', 0, en, [], σ)) := by
  rw [Rn_nx h]
  show Sd (clo (d + 1)) (Rn (d + 1) Q) Q (match mthQ (ow μ) idx with
    | some (2, μ', na) => if na ≤ (a ++ vR (some (c, 0, i)) :: st).length then popO (ow μ') σ ((a ++ vR (some (c, 0, i)) :: st).drop na) fun i' r' => call μ' (vR (some (ow μ', 0, i')) :: ((a ++ vR (some (c, 0, i)) :: st).take na).reverse) μ (pc + 3) ls r' σ else none
    | some (5, μ', na) => if na ≤ (a ++ vR (some (c, 0, i)) :: st).length then popO (ow μ') σ ((a ++ vR (some (c, 0, i)) :: st).drop na) fun i' r' => call μ' (vR (some (ow μ', 0, i')) :: ((a ++ vR (some (c, 0, i)) :: st).take na).reverse) μ (pc + 3) ls r' σ else none
    | some (6, _, _) => popR (a ++ vR (some (c, 0, i)) :: st) fun x r => match x with
      | some _ => if (r.map cat).sum ≤ 8 then nx μ (pc + 3) ls r σ else none
      | none => none
    | _ => none) = _
  subst ho
  subst hen
  subst hna
  rw [hq]
  show Sd (clo (d + 1)) (Rn (d + 1) Q) Q (if a.length ≤ (a ++ vR (some (ow μ', 0, i)) :: st).length then popO (ow μ') σ ((a ++ vR (some (ow μ', 0, i)) :: st).drop a.length) fun i' r' => call μ' (vR (some (ow μ', 0, i')) :: ((a ++ vR (some (ow μ', 0, i)) :: st).take a.length).reverse) μ (pc + 3) ls r' σ else none) = _
  rw [if_pos (by rw [List.length_append]; omega), List.drop_left, List.take_left]
  rw [popO_eq, ite_Sd, Sd_no, ite_and]
  unfold call
  rw [ite_Sd, Sd_no, ite_and]
  exact propext ⟨fun z => ⟨z.1, z.2.1.2, z.2.2⟩, fun z => ⟨z.1, ⟨hok, z.2.1⟩, z.2.2⟩⟩
theorem E_invS1 {d : Nat} {Q : Option AV → St → Prop} {μ pc : Nat} {ls : List (Option AV)} {st : List AV} {σ : St} {idx μ' na : Nat} {a : List AV} {en : List (Option AV)} (h : ins μ pc = some (.invokestatic idx, 3)) (hq : mthQ (ow μ) idx = some (1, μ', na)) (hna : a.length = na) (hok : entOK μ' a.reverse = true) (hen : ent μ' a.reverse = en) : Rn (d + 1) Q (μ, pc, ls, a ++ st, σ) = (catS st ≤ 8 ∧ Rn d (fun r σ' => Rn (d + 1) Q (μ, pc + 3, ls, r.toList ++ st, σ')) (μ', 0, en, [], σ)) := by
  rw [Rn_nx h]
  show Sd (clo (d + 1)) (Rn (d + 1) Q) Q (match mthQ (ow μ) idx with
    | some (1, μ', na) => if na ≤ (a ++ st).length then call μ' ((a ++ st).take na).reverse μ (pc + 3) ls ((a ++ st).drop na) σ else none
    | some (4, μ', na) => if na ≤ (a ++ st).length then call μ' ((a ++ st).take na).reverse μ (pc + 3) ls ((a ++ st).drop na) σ else none
    | some (7, _, _) => acopy μ (pc + 3) ls (a ++ st) σ
    | some (8, _, _) => popI (a ++ st) fun y r => popI r fun x r => if (r.map cat).sum ≤ 8 then nx μ (pc + 3) ls (vI (if x < y then y else x) :: r) σ else none
    | some (9, _, _) => popI (a ++ st) fun y r => popI r fun x r => if (r.map cat).sum ≤ 8 then nx μ (pc + 3) ls (vI (if y < x then y else x) :: r) σ else none
    | _ => none) = _
  subst hen
  subst hna
  rw [hq]
  show Sd (clo (d + 1)) (Rn (d + 1) Q) Q (if a.length ≤ (a ++ st).length then call μ' ((a ++ st).take a.length).reverse μ (pc + 3) ls ((a ++ st).drop a.length) σ else none) = _
  rw [if_pos (by rw [List.length_append]; omega), List.drop_left, List.take_left]
  unfold call
  rw [ite_Sd, Sd_no, ite_and]
  exact propext ⟨fun z => ⟨z.1.2, z.2⟩, fun z => ⟨⟨hok, z.1⟩, z.2⟩⟩
theorem E_invS4 {d : Nat} {Q : Option AV → St → Prop} {μ pc : Nat} {ls : List (Option AV)} {st : List AV} {σ : St} {idx μ' na : Nat} {a : List AV} {en : List (Option AV)} (h : ins μ pc = some (.invokestatic idx, 3)) (hq : mthQ (ow μ) idx = some (4, μ', na)) (hna : a.length = na) (hok : entOK μ' a.reverse = true) (hen : ent μ' a.reverse = en) : Rn (d + 1) Q (μ, pc, ls, a ++ st, σ) = (catS st ≤ 8 ∧ Rn d (fun r σ' => Rn (d + 1) Q (μ, pc + 3, ls, r.toList ++ st, σ')) (μ', 0, en, [], σ)) := by
  rw [Rn_nx h]
  show Sd (clo (d + 1)) (Rn (d + 1) Q) Q (match mthQ (ow μ) idx with
    | some (1, μ', na) => if na ≤ (a ++ st).length then call μ' ((a ++ st).take na).reverse μ (pc + 3) ls ((a ++ st).drop na) σ else none
    | some (4, μ', na) => if na ≤ (a ++ st).length then call μ' ((a ++ st).take na).reverse μ (pc + 3) ls ((a ++ st).drop na) σ else none
    | some (7, _, _) => acopy μ (pc + 3) ls (a ++ st) σ
    | some (8, _, _) => popI (a ++ st) fun y r => popI r fun x r => if (r.map cat).sum ≤ 8 then nx μ (pc + 3) ls (vI (if x < y then y else x) :: r) σ else none
    | some (9, _, _) => popI (a ++ st) fun y r => popI r fun x r => if (r.map cat).sum ≤ 8 then nx μ (pc + 3) ls (vI (if y < x then y else x) :: r) σ else none
    | _ => none) = _
  subst hen
  subst hna
  rw [hq]
  show Sd (clo (d + 1)) (Rn (d + 1) Q) Q (if a.length ≤ (a ++ st).length then call μ' ((a ++ st).take a.length).reverse μ (pc + 3) ls ((a ++ st).drop a.length) σ else none) = _
  rw [if_pos (by rw [List.length_append]; omega), List.drop_left, List.take_left]
  unfold call
  rw [ite_Sd, Sd_no, ite_and]
  exact propext ⟨fun z => ⟨z.1.2, z.2⟩, fun z => ⟨⟨hok, z.1⟩, z.2⟩⟩
theorem E_objInit {d : Nat} {Q : Option AV → St → Prop} {μ pc : Nat} {ls : List (Option AV)} {st : List AV} {σ : St} {idx a b : Nat} {x : Nat × Nat × Nat} (h : ins μ pc = some (.invokespecial idx, 3)) (hq : mthQ (ow μ) idx = some (6, a, b)) : Rn (d) Q (μ, pc, ls, vR (some x) :: st, σ) = (catS st ≤ 8 ∧ Rn (d) Q (μ, pc + 3, ls, st, σ)) := by
  rw [Rn_nx h]
  show Sd (clo (d)) (Rn (d) Q) Q (match mthQ (ow μ) idx with
    | some (2, μ', na) => if na ≤ (vR (some x) :: st).length then popO (ow μ') σ ((vR (some x) :: st).drop na) fun i' r' => call μ' (vR (some (ow μ', 0, i')) :: ((vR (some x) :: st).take na).reverse) μ (pc + 3) ls r' σ else none
    | some (5, μ', na) => if na ≤ (vR (some x) :: st).length then popO (ow μ') σ ((vR (some x) :: st).drop na) fun i' r' => call μ' (vR (some (ow μ', 0, i')) :: ((vR (some x) :: st).take na).reverse) μ (pc + 3) ls r' σ else none
    | some (6, _, _) => popR (vR (some x) :: st) fun x r => match x with
      | some _ => if (r.map cat).sum ≤ 8 then nx μ (pc + 3) ls r σ else none
      | none => none
    | _ => none) = _
  rw [hq]
  show Sd (clo d) (Rn d Q) Q (if (st.map cat).sum ≤ 8 then nx μ (pc + 3) ls st σ else none) = _
  rw [ite_Sd]
  exact ite_and
theorem E_mmax {d : Nat} {Q : Option AV → St → Prop} {μ pc : Nat} {ls : List (Option AV)} {st : List AV} {σ : St} {idx a b : Nat} {x y : Int32} (h : ins μ pc = some (.invokestatic idx, 3)) (hq : mthQ (ow μ) idx = some (8, a, b)) : Rn (d) Q (μ, pc, ls, vI y :: vI x :: st, σ) = (catS st ≤ 8 ∧ Rn (d) Q (μ, pc + 3, ls, vI (if x < y then y else x) :: st, σ)) := by
  rw [Rn_nx h]
  show Sd (clo (d)) (Rn (d) Q) Q (match mthQ (ow μ) idx with
    | some (1, μ', na) => if na ≤ (vI y :: vI x :: st).length then call μ' ((vI y :: vI x :: st).take na).reverse μ (pc + 3) ls ((vI y :: vI x :: st).drop na) σ else none
    | some (4, μ', na) => if na ≤ (vI y :: vI x :: st).length then call μ' ((vI y :: vI x :: st).take na).reverse μ (pc + 3) ls ((vI y :: vI x :: st).drop na) σ else none
    | some (7, _, _) => acopy μ (pc + 3) ls (vI y :: vI x :: st) σ
    | some (8, _, _) => popI (vI y :: vI x :: st) fun y r => popI r fun x r => if (r.map cat).sum ≤ 8 then nx μ (pc + 3) ls (vI (if x < y then y else x) :: r) σ else none
    | some (9, _, _) => popI (vI y :: vI x :: st) fun y r => popI r fun x r => if (r.map cat).sum ≤ 8 then nx μ (pc + 3) ls (vI (if y < x then y else x) :: r) σ else none
    | _ => none) = _
  rw [hq]
  show Sd (clo d) (Rn d Q) Q (if (st.map cat).sum ≤ 8 then nx μ (pc + 3) ls (vI (if x < y then y else x) :: st) σ else none) = _
  rw [ite_Sd]
  exact ite_and
theorem E_mmin {d : Nat} {Q : Option AV → St → Prop} {μ pc : Nat} {ls : List (Option AV)} {st : List AV} {σ : St} {idx a b : Nat} {x y : Int32} (h : ins μ pc = some (.invokestatic idx, 3)) (hq : mthQ (ow μ) idx = some (9, a, b)) : Rn (d) Q (μ, pc, ls, vI y :: vI x :: st, σ) = (catS st ≤ 8 ∧ Rn (d) Q (μ, pc + 3, ls, vI (if y < x then y else x) :: st, σ)) := by
  rw [Rn_nx h]
  show Sd (clo (d)) (Rn (d) Q) Q (match mthQ (ow μ) idx with
    | some (1, μ', na) => if na ≤ (vI y :: vI x :: st).length then call μ' ((vI y :: vI x :: st).take na).reverse μ (pc + 3) ls ((vI y :: vI x :: st).drop na) σ else none
    | some (4, μ', na) => if na ≤ (vI y :: vI x :: st).length then call μ' ((vI y :: vI x :: st).take na).reverse μ (pc + 3) ls ((vI y :: vI x :: st).drop na) σ else none
    | some (7, _, _) => acopy μ (pc + 3) ls (vI y :: vI x :: st) σ
    | some (8, _, _) => popI (vI y :: vI x :: st) fun y r => popI r fun x r => if (r.map cat).sum ≤ 8 then nx μ (pc + 3) ls (vI (if x < y then y else x) :: r) σ else none
    | some (9, _, _) => popI (vI y :: vI x :: st) fun y r => popI r fun x r => if (r.map cat).sum ≤ 8 then nx μ (pc + 3) ls (vI (if y < x then y else x) :: r) σ else none
    | _ => none) = _
  rw [hq]
  show Sd (clo d) (Rn d Q) Q (if (st.map cat).sum ≤ 8 then nx μ (pc + 3) ls (vI (if y < x then y else x) :: st) σ else none) = _
  rw [ite_Sd]
  exact ite_and
theorem E_iretI {d : Nat} {Q : Option AV → St → Prop} {μ pc : Nat} {ls : List (Option AV)} {st : List AV} {σ : St} {x : Int32} (h : ins μ pc = some (.ireturn, 1)) (hr : rt μ = some .int) : Rn (d) Q (μ, pc, ls, [vI x], σ) = Q (some (vI x)) σ := by
  rw [Rn_nx h]
  show Sd (clo (d)) (Rn (d) Q) Q (match ([vI x]), rt μ with
    | [.inl x], some .int => rtn (some (vI x)) σ
    | [.inl x], some .boolean => if x = 0 ∨ x = 1 then rtn (some (vI x)) σ else none
    | _, _ => none) = _
  rw [hr]
  rfl
theorem E_iretZ {d : Nat} {Q : Option AV → St → Prop} {μ pc : Nat} {ls : List (Option AV)} {st : List AV} {σ : St} {x : Int32} (h : ins μ pc = some (.ireturn, 1)) (hr : rt μ = some .boolean) : Rn (d) Q (μ, pc, ls, [vI x], σ) = ((x = 0 ∨ x = 1) ∧ Q (some (vI x)) σ) := by
  rw [Rn_nx h]
  show Sd (clo (d)) (Rn (d) Q) Q (match ([vI x]), rt μ with
    | [.inl x], some .int => rtn (some (vI x)) σ
    | [.inl x], some .boolean => if x = 0 ∨ x = 1 then rtn (some (vI x)) σ else none
    | _, _ => none) = _
  rw [hr]
  dsimp only
  rw [ite_Sd]
  exact ite_and
theorem E_lret {d : Nat} {Q : Option AV → St → Prop} {μ pc : Nat} {ls : List (Option AV)} {st : List AV} {σ : St} {x : Int64} (h : ins μ pc = some (.lreturn, 1)) (hr : rt μ = some .long) : Rn (d) Q (μ, pc, ls, [vL x], σ) = Q (some (vL x)) σ := by
  rw [Rn_nx h]
  show Sd (clo (d)) (Rn (d) Q) Q (match ([vL x]), rt μ with
    | [.inr (.inl x)], some .long => rtn (some (vL x)) σ
    | _, _ => none) = _
  rw [hr]
  rfl
theorem E_aret {d : Nat} {Q : Option AV → St → Prop} {μ pc : Nat} {ls : List (Option AV)} {st : List AV} {σ : St} {x : Option (Nat × Nat × Nat)} {n : String} (h : ins μ pc = some (.areturn, 1)) (hr : rt μ = some (.object n)) : Rn (d) Q (μ, pc, ls, [vR x], σ) = Q (some (vR x)) σ := by
  rw [Rn_nx h]
  show Sd (clo (d)) (Rn (d) Q) Q (match ([vR x]), rt μ with
    | [.inr (.inr x)], some (.object _) => rtn (some (vR x)) σ
    | _, _ => none) = _
  rw [hr]
  rfl
theorem E_ret {d : Nat} {Q : Option AV → St → Prop} {μ pc : Nat} {ls : List (Option AV)} {st : List AV} {σ : St}  (h : ins μ pc = some (.return_, 1)) (hr : rt μ = none) : Rn (d) Q (μ, pc, ls, ([] : List AV), σ) = Q none σ := by
  rw [Rn_nx h]
  show Sd (clo (d)) (Rn (d) Q) Q (match (([] : List AV)), rt μ with
    | [], none => rtn none σ
    | _, _ => none) = _
  rw [hr]
  rfl
