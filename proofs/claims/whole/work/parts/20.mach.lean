abbrev AV : Type := Int32 ⊕ (Int64 ⊕ Option (Nat × Nat × Nat))
abbrev vI (x : Int32) : AV := .inl x
abbrev vL (x : Int64) : AV := .inr (.inl x)
abbrev vR (r : Option (Nat × Nat × Nat)) : AV := .inr (.inr r)
/-- the state: numbers in fields, rows of numbers, references in fields, rows of references, lengths of rows, how many objects of a class, where they lie, the heap's size, the slots used -/
abbrev St : Type := (Nat → Nat → Nat → Int32) × (Nat → Nat → Nat → Nat → Int32) × (Nat → Nat → Nat → Option Nat) × (Nat → Nat → Nat → Nat → Option Nat) × (Nat → Nat → Nat → Option Nat) × (Nat → Nat) × (Nat → Nat → Nat → Nat) × Nat × Nat
def gI (σ : St) (c k i : Nat) : Int32 := σ.1 c k i
def gA (σ : St) (c k i : Nat) : Nat → Int32 := σ.2.1 c k i
def gR (σ : St) (c k i : Nat) : Option Nat := σ.2.2.1 c k i
def gQ (σ : St) (c k i : Nat) : Nat → Option Nat := σ.2.2.2.1 c k i
def gL (σ : St) (c k i : Nat) : Option Nat := σ.2.2.2.2.1 c k i
def gN (σ : St) (c : Nat) : Nat := σ.2.2.2.2.2.1 c
def gT (σ : St) (c k i : Nat) : Nat := σ.2.2.2.2.2.2.1 c k i
def gH (σ : St) : Nat := σ.2.2.2.2.2.2.2.1
def gS (σ : St) : Nat := σ.2.2.2.2.2.2.2.2
def up3 {α : Type} (f : Nat → Nat → Nat → α) (c k i : Nat) (v : α) : Nat → Nat → Nat → α := fun a b d => if a = c ∧ b = k ∧ d = i then v else f a b d
def rs3 {α : Type} (f : Nat → Nat → Nat → α) (c i : Nat) (v : α) : Nat → Nat → Nat → α := fun a b d => if a = c ∧ d = i then v else f a b d
def setI (σ : St) (c k i : Nat) (v : Int32) : St := (up3 σ.1 c k i v, σ.2)
def setA (σ : St) (c k i : Nat) (f : Nat → Int32) : St := (σ.1, up3 σ.2.1 c k i f, σ.2.2)
def setR (σ : St) (c k i : Nat) (r : Option Nat) : St := (σ.1, σ.2.1, up3 σ.2.2.1 c k i r, σ.2.2.2)
def setQ (σ : St) (c k i : Nat) (f : Nat → Option Nat) : St := (σ.1, σ.2.1, σ.2.2.1, up3 σ.2.2.2.1 c k i f, σ.2.2.2.2)
def newO (σ : St) (c : Nat) : St := (rs3 σ.1 c (gN σ c) 0, σ.2.1, rs3 σ.2.2.1 c (gN σ c) none, σ.2.2.2.1, rs3 σ.2.2.2.2.1 c (gN σ c) none, (fun a => if a = c then gN σ c + 1 else gN σ a), up3 σ.2.2.2.2.2.2.1 c 0 (gN σ c) (gH σ), gH σ + 1, gS σ + nfd c)
def newA (σ : St) (c k i n : Nat) : St := (σ.1, up3 σ.2.1 c k i (fun _ => 0), σ.2.2.1, up3 σ.2.2.2.1 c k i (fun _ => none), up3 σ.2.2.2.2.1 c k i (some n), σ.2.2.2.2.2.1, up3 σ.2.2.2.2.2.2.1 c (k + 1) i (gH σ), gH σ + 1, gS σ + n)
abbrev Cfg : Type := Nat × Nat × List (Option AV) × List AV × St
abbrev Rs : Type := Option (Cfg ⊕ ((Option AV × St) ⊕ (Nat × List AV × Cfg)))
def popI (st : List AV) (k : Int32 → List AV → Rs) : Rs := match st with
  | .inl x :: r => k x r
  | _ => none
def popL (st : List AV) (k : Int64 → List AV → Rs) : Rs := match st with
  | .inr (.inl x) :: r => k x r
  | _ => none
def popR (st : List AV) (k : Option (Nat × Nat × Nat) → List AV → Rs) : Rs := match st with
  | .inr (.inr x) :: r => k x r
  | _ => none
/-- an object of class c -/
def popO (c : Nat) (σ : St) (st : List AV) (k : Nat → List AV → Rs) : Rs := match st with
  | .inr (.inr (some (c', 0, i))) :: r => if c' = c ∧ i < gN σ c then k i r else none
  | _ => none
/-- a row: of class c, field k, object i -/
def popW (σ : St) (st : List AV) (K : Nat → Nat → Nat → Nat → List AV → Rs) : Rs := match st with
  | .inr (.inr (some (c, k + 1, i))) :: r => match gL σ c k i with
    | some n => if i < gN σ c then K c k i n r else none
    | none => none
  | _ => none
def ldI (ls : List (Option AV)) (i : Nat) (k : Int32 → Rs) : Rs := match ls[i]? with
  | some (some (.inl x)) => k x
  | _ => none
def ldL (ls : List (Option AV)) (i : Nat) (k : Int64 → Rs) : Rs := match ls[i]? with
  | some (some (.inr (.inl x))) => k x
  | _ => none
def ldR (ls : List (Option AV)) (i : Nat) (k : Option (Nat × Nat × Nat) → Rs) : Rs := match ls[i]? with
  | some (some (.inr (.inr x))) => k x
  | _ => none
def okst (μ i : Nat) : Bool := decide (i < mxl μ) && (lg μ).all (fun j => !(j + 1 == i))
def okl (μ i : Nat) : Bool := decide (i + 1 < mxl μ) && (lg μ).all (fun j => !(j + 1 == i)) && (lg μ).contains i
def nx (μ pc : Nat) (ls : List (Option AV)) (st : List AV) (σ : St) : Rs := some (.inl (μ, pc, ls, st, σ))
def jm (μ pc : Nat) (off : Int) (ls : List (Option AV)) (st : List AV) (σ : St) : Rs := if 0 ≤ (pc : Int) + off then nx μ ((pc : Int) + off).toNat ls st σ else none
def jg (pc : Nat) (off : Int) (k : Nat → Rs) : Rs := if 0 ≤ (pc : Int) + off then k ((pc : Int) + off).toNat else none
def bin (st : List AV) (f : Int32 → Int32 → Int32) (k : List AV → Rs) : Rs := popI st fun y r => popI r fun x r => k (vI (f x y) :: r)
def binL (st : List AV) (f : Int64 → Int64 → Int64) (k : List AV → Rs) : Rs := popL st fun y r => popL r fun x r => k (vL (f x y) :: r)
def binS (st : List AV) (f : Int64 → Int32 → Int64) (k : List AV → Rs) : Rs := popI st fun y r => popL r fun x r => k (vL (f x y) :: r)
def nar (t : Nat) (x : Int32) : Int32 := if t = 0 then x.toInt8.toInt32 else if t = 2 then x.toInt16.toInt32 else if t = 3 then x &&& 1 else x
def cat (v : AV) : Nat := match v with
  | .inr (.inl _) => 2
  | _ => 1
def sl (v : AV) : List (Option AV) := match v with
  | .inr (.inl x) => [some (vL x), none]
  | v => [some v]
def sls (a : List AV) : List (Option AV) := a.flatMap sl
def lgs : Nat → List AV → List Nat
  | _, [] => []
  | n, .inr (.inl _) :: r => n :: lgs (n + 2) r
  | n, .inl _ :: r => lgs (n + 1) r
  | n, .inr (.inr _) :: r => lgs (n + 1) r
def ent (μ : Nat) (a : List AV) : List (Option AV) := sls a ++ List.replicate (mxl μ - (sls a).length) none
def entOK (μ : Nat) (a : List AV) : Bool := decide ((sls a).length ≤ mxl μ) && (lgs 0 a).all (fun i => (lg μ).contains i)
def call (μ' : Nat) (a : List AV) (μ pc : Nat) (ls : List (Option AV)) (rest : List AV) (σ : St) : Rs :=
  if entOK μ' a = true ∧ (rest.map cat).sum ≤ 8 then some (.inr (.inr (μ', a, (μ, pc, ls, rest, σ)))) else none
def rtn (r : Option AV) (σ : St) : Rs := some (.inr (.inl (r, σ)))
def getf (σ : St) (c k i : Nat) (K : AV → Rs) : Rs :=
  if (fk c k).1 = 0 then K (vI (gI σ c k i)) else if (fk c k).1 = 2 then K (vR ((gR σ c k i).map fun j => ((fk c k).2, 0, j))) else if gL σ c k i = none then none else K (vR (some (c, k + 1, i)))
def putf (μ nst : Nat) (σ : St) (c k i : Nat) (v : AV) (K : St → Rs) : Rs :=
  if fnl c k = false ∨ (nst = 0 ∧ (nam μ).name = "<init>" ∧ ow μ = c) then
    (if (fk c k).1 = 0 then (match v with
      | .inl x => if (fk c k).2 = 0 ∨ x = 0 ∨ x = 1 then K (setI σ c k i x) else none
      | _ => none)
    else if (fk c k).1 = 2 then (match v with
      | .inr (.inr none) => K (setR σ c k i none)
      | .inr (.inr (some (c', 0, j))) => if c' = (fk c k).2 then K (setR σ c k i (some j)) else none
      | _ => none)
    else none)
  else none
def aty (t : Nat) : ArrayType → Bool
  | .byte => t == 0
  | .int => t == 1
  | .short => t == 2
  | .boolean => t == 3
  | _ => false
/-- a new row goes at once into its field -/
def newW (μ pc : Nat) (ls : List (Option AV)) (st : List AV) (σ : St) (f : Nat × Nat → Bool) : Rs :=
  match ins μ pc with
  | some (.putfield idx, 3) => match fldQ (ow μ) idx with
    | some (c, k, 0) => popI st fun n r => popO c σ r fun i r =>
      if f (fk c k) = true ∧ ¬ n < 0 ∧ n.toNatClampNeg ≤ 100000 ∧ c < 13 ∧ gL σ c k i = none ∧ (fnl c k = false ∨ ((nam μ).name = "<init>" ∧ ow μ = c)) then nx μ (pc + 3) ls r (newA σ c k i n.toNatClampNeg) else none
    | _ => none
  | _ => none
def inb (j : Int32) (n : Nat) : Prop := 0 ≤ j.toInt ∧ j.toInt < n
def ald (t μ pc : Nat) (ls : List (Option AV)) (st : List AV) (σ : St) (ok : Nat → Bool) : Rs :=
  popI st fun j r => popW σ r fun c k i n r => if (fk c k).1 = 1 ∧ ok (fk c k).2 = true ∧ (0 ≤ j.toInt ∧ j.toInt < n) then nx μ pc ls (vI (gA σ c k i j.toNatClampNeg) :: r) σ else none
def ast (μ pc : Nat) (ls : List (Option AV)) (st : List AV) (σ : St) (ok : Nat → Bool) : Rs :=
  popI st fun x r => popI r fun j r => popW σ r fun c k i n r => if c < 13 ∧ (fk c k).1 = 1 ∧ ok (fk c k).2 = true ∧ (0 ≤ j.toInt ∧ j.toInt < n) then nx μ pc ls r (setA σ c k i (upd (gA σ c k i) j.toNatClampNeg (nar (fk c k).2 x))) else none
def acopy (μ pc : Nat) (ls : List (Option AV)) (st : List AV) (σ : St) : Rs :=
  popI st fun n r => popI r fun dp r => popW σ r fun c1 k1 i1 n1 r => popI r fun sp r => popW σ r fun c0 k0 i0 n0 r =>
    if c0 < 13 ∧ c1 < 13 ∧ fk c0 k0 = (1, 1) ∧ fk c1 k1 = (1, 1) ∧ ¬ (c0 = c1 ∧ k0 = k1 ∧ i0 = i1) ∧ ¬ sp < 0 ∧ ¬ dp < 0 ∧ ¬ n < 0 ∧ sp.toNatClampNeg + n.toNatClampNeg ≤ n0 ∧ dp.toNatClampNeg + n.toNatClampNeg ≤ n1 ∧ (r.map cat).sum ≤ 8 then
      nx μ pc ls r (setA σ c1 k1 i1 (va_cpy (gA σ c0 k0 i0) (gA σ c1 k1 i1) sp.toNatClampNeg dp.toNatClampNeg n.toNatClampNeg)) else none
def br (c : Prop) [Decidable c] (a b : Rs) : Rs := if c then a else b
def ex (i : Instr) (n μ pc : Nat) (ls : List (Option AV)) (st : List AV) (σ : St) : Rs := match i, n with
  | .iconst v, 1 => nx μ (pc + 1) ls (vI (Int32.ofInt v) :: st) σ
  | .bipush v, 2 => nx μ (pc + 2) ls (vI (Int8.ofInt v).toInt32 :: st) σ
  | .sipush v, 3 => nx μ (pc + 3) ls (vI (Int16.ofInt v).toInt32 :: st) σ
  | .lconst v, 1 => nx μ (pc + 1) ls (vL (Int64.ofNat (v : Nat)) :: st) σ
  | .aconst_null, 1 => nx μ (pc + 1) ls (vR none :: st) σ
  | .ldc x, 2 => match cstQ (ow μ) x with
    | some v => nx μ (pc + 2) ls (vI v :: st) σ
    | none => none
  | .ldc_w x, 3 => match cstQ (ow μ) x with
    | some v => nx μ (pc + 3) ls (vI v :: st) σ
    | none => none
  | .ldc2_w x, 3 => match lngQ (ow μ) x with
    | some v => nx μ (pc + 3) ls (vL v :: st) σ
    | none => none
  | .iload_n k, 1 => ldI ls k fun x => nx μ (pc + 1) ls (vI x :: st) σ
  | .iload k, 2 => ldI ls k fun x => nx μ (pc + 2) ls (vI x :: st) σ
  | .lload_n k, 1 => ldL ls k fun x => nx μ (pc + 1) ls (vL x :: st) σ
  | .lload k, 2 => ldL ls k fun x => nx μ (pc + 2) ls (vL x :: st) σ
  | .aload_n k, 1 => ldR ls k fun x => nx μ (pc + 1) ls (vR x :: st) σ
  | .aload k, 2 => ldR ls k fun x => nx μ (pc + 2) ls (vR x :: st) σ
  | .istore_n k, 1 => popI st fun x r => if okst μ k = true then nx μ (pc + 1) (ls.set k (some (vI x))) r σ else none
  | .istore k, 2 => popI st fun x r => if okst μ k = true then nx μ (pc + 2) (ls.set k (some (vI x))) r σ else none
  | .astore_n k, 1 => popR st fun x r => if okst μ k = true then nx μ (pc + 1) (ls.set k (some (vR x))) r σ else none
  | .astore k, 2 => popR st fun x r => if okst μ k = true then nx μ (pc + 2) (ls.set k (some (vR x))) r σ else none
  | .lstore_n k, 1 => popL st fun x r => if okl μ k = true then nx μ (pc + 1) ((ls.set k (some (vL x))).set (k + 1) none) r σ else none
  | .lstore k, 2 => popL st fun x r => if okl μ k = true then nx μ (pc + 2) ((ls.set k (some (vL x))).set (k + 1) none) r σ else none
  | .iinc k v, 3 => ldI ls k fun x => if k < mxl μ then nx μ (pc + 3) (ls.set k (some (vI (x + Int32.ofInt v)))) st σ else none
  | .iadd, 1 => bin st (· + ·) fun r => nx μ (pc + 1) ls r σ
  | .isub, 1 => bin st (· - ·) fun r => nx μ (pc + 1) ls r σ
  | .imul, 1 => bin st (· * ·) fun r => nx μ (pc + 1) ls r σ
  | .iand, 1 => bin st (· &&& ·) fun r => nx μ (pc + 1) ls r σ
  | .ior, 1 => bin st (· ||| ·) fun r => nx μ (pc + 1) ls r σ
  | .ixor, 1 => bin st (· ^^^ ·) fun r => nx μ (pc + 1) ls r σ
  | .ishl, 1 => bin st (fun x y => x <<< (y &&& 31)) fun r => nx μ (pc + 1) ls r σ
  | .ishr, 1 => bin st (fun x y => x >>> (y &&& 31)) fun r => nx μ (pc + 1) ls r σ
  | .iushr, 1 => bin st (fun x y => (x.toUInt32 >>> (y.toUInt32 &&& Int32.toUInt32 31)).toInt32) fun r => nx μ (pc + 1) ls r σ
  | .idiv, 1 => popI st fun y r => popI r fun x r => if y = 0 then none else nx μ (pc + 1) ls (vI (x / y) :: r) σ
  | .irem, 1 => popI st fun y r => popI r fun x r => if y = 0 then none else nx μ (pc + 1) ls (vI (x - x / y * y) :: r) σ
  | .ladd, 1 => binL st (· + ·) fun r => nx μ (pc + 1) ls r σ
  | .lmul, 1 => binL st (· * ·) fun r => nx μ (pc + 1) ls r σ
  | .land, 1 => binL st (· &&& ·) fun r => nx μ (pc + 1) ls r σ
  | .lor, 1 => binL st (· ||| ·) fun r => nx μ (pc + 1) ls r σ
  | .ldiv, 1 => popL st fun y r => popL r fun x r => if y = 0 then none else nx μ (pc + 1) ls (vL (x / y) :: r) σ
  | .lneg, 1 => popL st fun x r => nx μ (pc + 1) ls (vL (-x) :: r) σ
  | .lushr, 1 => binS st (fun x y => (x.toUInt64 >>> (y.toInt64.toUInt64 &&& Int64.toUInt64 63)).toInt64) fun r => nx μ (pc + 1) ls r σ
  | .lshl, 1 => binS st (fun x y => x <<< (y.toInt64 &&& 63)) fun r => nx μ (pc + 1) ls r σ
  | .lshr, 1 => binS st (fun x y => x >>> (y.toInt64 &&& 63)) fun r => nx μ (pc + 1) ls r σ
  | .lcmp, 1 => popL st fun y r => popL r fun x r => nx μ (pc + 1) ls (vI (lg_cmp x y) :: r) σ
  | .i2l, 1 => popI st fun x r => nx μ (pc + 1) ls (vL x.toInt64 :: r) σ
  | .l2i, 1 => popL st fun x r => nx μ (pc + 1) ls (vI x.toInt32 :: r) σ
  | .i2b, 1 => popI st fun x r => nx μ (pc + 1) ls (vI x.toInt8.toInt32 :: r) σ
  | .i2s, 1 => popI st fun x r => nx μ (pc + 1) ls (vI x.toInt16.toInt32 :: r) σ
  | .dup, 1 => match st with
    | .inl x :: r => nx μ (pc + 1) ls (vI x :: vI x :: r) σ
    | .inr (.inr x) :: r => nx μ (pc + 1) ls (vR x :: vR x :: r) σ
    | _ => none
  | .dup2, 1 => popI st fun x r => popR r fun y r => nx μ (pc + 1) ls (vI x :: vR y :: vI x :: vR y :: r) σ
  | .pop, 1 => popI st fun _ r => nx μ (pc + 1) ls r σ
  | .goto off, 3 => jm μ pc off ls st σ
  | .ifCond .eq off, 3 => popI st fun x r => jg pc off fun t => br (x = 0) (nx μ t ls r σ) (nx μ (pc + 3) ls r σ)
  | .ifCond .ne off, 3 => popI st fun x r => jg pc off fun t => br (x = 0) (nx μ (pc + 3) ls r σ) (nx μ t ls r σ)
  | .ifCond .lt off, 3 => popI st fun x r => jg pc off fun t => br (x < 0) (nx μ t ls r σ) (nx μ (pc + 3) ls r σ)
  | .ifCond .ge off, 3 => popI st fun x r => jg pc off fun t => br (0 ≤ x) (nx μ t ls r σ) (nx μ (pc + 3) ls r σ)
  | .ifCond .gt off, 3 => popI st fun x r => jg pc off fun t => br (0 < x) (nx μ t ls r σ) (nx μ (pc + 3) ls r σ)
  | .ifCond .le off, 3 => popI st fun x r => jg pc off fun t => br (x ≤ 0) (nx μ t ls r σ) (nx μ (pc + 3) ls r σ)
  | .if_icmp .eq off, 3 => popI st fun y r => popI r fun x r => jg pc off fun t => br (x = y) (nx μ t ls r σ) (nx μ (pc + 3) ls r σ)
  | .if_icmp .ne off, 3 => popI st fun y r => popI r fun x r => jg pc off fun t => br (x = y) (nx μ (pc + 3) ls r σ) (nx μ t ls r σ)
  | .if_icmp .lt off, 3 => popI st fun y r => popI r fun x r => jg pc off fun t => br (x < y) (nx μ t ls r σ) (nx μ (pc + 3) ls r σ)
  | .if_icmp .ge off, 3 => popI st fun y r => popI r fun x r => jg pc off fun t => br (y ≤ x) (nx μ t ls r σ) (nx μ (pc + 3) ls r σ)
  | .if_icmp .gt off, 3 => popI st fun y r => popI r fun x r => jg pc off fun t => br (y < x) (nx μ t ls r σ) (nx μ (pc + 3) ls r σ)
  | .if_icmp .le off, 3 => popI st fun y r => popI r fun x r => jg pc off fun t => br (x ≤ y) (nx μ t ls r σ) (nx μ (pc + 3) ls r σ)
  | .ifnull off, 3 => popR st fun x r => match x with
    | none => jm μ pc off ls r σ
    | some _ => nx μ (pc + 3) ls r σ
  | .ifnonnull off, 3 => popR st fun x r => match x with
    | some _ => jm μ pc off ls r σ
    | none => nx μ (pc + 3) ls r σ
  | .tableswitch d lo hi offs, _ => popI st fun x r => if x.toInt < lo ∨ hi < x.toInt then jm μ pc d ls r σ else match offs[(x.toInt - lo).toNat]? with
    | some off => jm μ pc off ls r σ
    | none => none
  | .getfield idx, 3 => match fldQ (ow μ) idx with
    | some (c, k, _) => popO c σ st fun i r => getf σ c k i fun v => nx μ (pc + 3) ls (v :: r) σ
    | none => none
  | .putfield idx, 3 => match fldQ (ow μ) idx, st with
    | some (c, k, nst), v :: st => popO c σ st fun i r => putf μ nst σ c k i v fun σ => nx μ (pc + 3) ls r σ
    | _, _ => none
  | .new idx, 3 => match clsQ (ow μ) idx with
    | some c => nx μ (pc + 3) ls (vR (some (c, 0, gN σ c)) :: st) (newO σ c)
    | none => none
  | .newarray t, 2 => newW μ (pc + 2) ls st σ (fun q => q.1 == 1 && aty q.2 t)
  | .anewarray idx, 3 => match clsQ (ow μ) idx with
    | some c => newW μ (pc + 3) ls st σ (fun q => q == (3, c))
    | none => none
  | .iaload, 1 => ald 1 μ (pc + 1) ls st σ (fun t => t == 1)
  | .baload, 1 => ald 0 μ (pc + 1) ls st σ (fun t => t == 0 || t == 3)
  | .saload, 1 => ald 2 μ (pc + 1) ls st σ (fun t => t == 2)
  | .iastore, 1 => ast μ (pc + 1) ls st σ (fun t => t == 1)
  | .bastore, 1 => ast μ (pc + 1) ls st σ (fun t => t == 0 || t == 3)
  | .sastore, 1 => ast μ (pc + 1) ls st σ (fun t => t == 2)
  | .aaload, 1 => popI st fun j r => popW σ r fun c k i n r => if c < 13 ∧ (fk c k).1 = 3 ∧ (0 ≤ j.toInt ∧ j.toInt < n) then nx μ (pc + 1) ls (vR ((gQ σ c k i j.toNatClampNeg).map fun q => ((fk c k).2, 0, q)) :: r) σ else none
  | .aastore, 1 => popR st fun v r => popI r fun j r => popW σ r fun c k i n r => if c < 13 ∧ (fk c k).1 = 3 ∧ (0 ≤ j.toInt ∧ j.toInt < n) then (match v with
      | some (c', 0, q) => if c' = (fk c k).2 ∧ q < gN σ c' then nx μ (pc + 1) ls r (setQ σ c k i (va_up (gQ σ c k i) j.toNatClampNeg (some q))) else none
      | _ => none) else none
  | .arraylength, 1 => popW σ st fun c k _ n r => if (fk c k).1 = 1 then nx μ (pc + 1) ls (vI (Int32.ofNat n) :: r) σ else none
  | .invokevirtual idx, 3 => match mthQ (ow μ) idx with
    | some (0, μ', na) => if na ≤ st.length then popO (ow μ') σ (st.drop na) fun i r => call μ' (vR (some (ow μ', 0, i)) :: (st.take na).reverse) μ (pc + 3) ls r σ else none
    | _ => none
  | .invokestatic idx, 3 => match mthQ (ow μ) idx with
    | some (1, μ', na) => if na ≤ st.length then call μ' (st.take na).reverse μ (pc + 3) ls (st.drop na) σ else none
    | some (4, μ', na) => if na ≤ st.length then call μ' (st.take na).reverse μ (pc + 3) ls (st.drop na) σ else none
    | some (7, _, _) => acopy μ (pc + 3) ls st σ
    | some (8, _, _) => popI st fun y r => popI r fun x r => if (r.map cat).sum ≤ 8 then nx μ (pc + 3) ls (vI (if x < y then y else x) :: r) σ else none
    | some (9, _, _) => popI st fun y r => popI r fun x r => if (r.map cat).sum ≤ 8 then nx μ (pc + 3) ls (vI (if y < x then y else x) :: r) σ else none
    | _ => none
  | .invokespecial idx, 3 => match mthQ (ow μ) idx with
    | some (2, μ', na) => if na ≤ st.length then popO (ow μ') σ (st.drop na) fun i r => call μ' (vR (some (ow μ', 0, i)) :: (st.take na).reverse) μ (pc + 3) ls r σ else none
    | some (5, μ', na) => if na ≤ st.length then popO (ow μ') σ (st.drop na) fun i r => call μ' (vR (some (ow μ', 0, i)) :: (st.take na).reverse) μ (pc + 3) ls r σ else none
    | some (6, _, _) => popR st fun x r => match x with
      | some _ => if (r.map cat).sum ≤ 8 then nx μ (pc + 3) ls r σ else none
      | none => none
    | _ => none
  | .ireturn, 1 => match st, rt μ with
    | [.inl x], some .int => rtn (some (vI x)) σ
    | [.inl x], some .boolean => if x = 0 ∨ x = 1 then rtn (some (vI x)) σ else none
    | _, _ => none
  | .lreturn, 1 => match st, rt μ with
    | [.inr (.inl x)], some .long => rtn (some (vL x)) σ
    | _, _ => none
  | .areturn, 1 => match st, rt μ with
    | [.inr (.inr x)], some (.object _) => rtn (some (vR x)) σ
    | _, _ => none
  | .return_, 1 => match st, rt μ with
    | [], none => rtn none σ
    | _, _ => none
  | _, _ => none
def nxt (c : Cfg) : Rs := match ins c.1 c.2.1 with
  | some (i, n) => ex i n c.1 c.2.1 c.2.2.1 c.2.2.2.1 c.2.2.2.2
  | none => none
def Sd (cl : Nat → List AV → St → (Option AV → St → Prop) → Prop) (P : Cfg → Prop) (Q : Option AV → St → Prop) (x : Rs) : Prop := match x with
  | none => False
  | some (.inl c) => P c
  | some (.inr (.inl (r, σ))) => Q r σ
  | some (.inr (.inr (μ', a, (μ, pc, ls, st, σ)))) => cl μ' a σ (fun r σ' => P (μ, pc, ls, r.toList ++ st, σ'))
def Rn : Nat → (Option AV → St → Prop) → Cfg → Prop
  | 0, Q, c => ∀ P : Cfg → Prop, (∀ c, Sd (fun _ _ _ _ => False) P Q (nxt c) → P c) → P c
  | d + 1, Q, c => ∀ P : Cfg → Prop, (∀ c, Sd (fun μ a σ K => Rn d K (μ, 0, ent μ a, [], σ)) P Q (nxt c) → P c) → P c
def clo (d : Nat) : Nat → List AV → St → (Option AV → St → Prop) → Prop := match d with
  | 0 => fun _ _ _ _ => False
  | d + 1 => fun μ a σ K => Rn d K (μ, 0, ent μ a, [], σ)
theorem Rn_def (d : Nat) (Q : Option AV → St → Prop) (c : Cfg) : Rn d Q c = ∀ P : Cfg → Prop, (∀ c, Sd (clo d) P Q (nxt c) → P c) → P c := by
  cases d <;> rfl
theorem Sd_mono {cl : Nat → List AV → St → (Option AV → St → Prop) → Prop} (hcl : ∀ μ a σ K K', (∀ r s, K r s → K' r s) → cl μ a σ K → cl μ a σ K') {P P' : Cfg → Prop} {Q Q' : Option AV → St → Prop} (hP : ∀ c, P c → P' c) (hQ : ∀ r s, Q r s → Q' r s) {x : Rs} (h : Sd cl P Q x) : Sd cl P' Q' x := by
  match x, h with
  | some (.inl c), h => exact hP _ h
  | some (.inr (.inl (r, σ))), h => exact hQ _ _ h
  | some (.inr (.inr (μ', a, (μ, pc, ls, st, σ)))), h => exact hcl _ _ _ _ _ (fun r s => hP _) h
theorem Rn_mono {d : Nat} : ∀ {Q Q' : Option AV → St → Prop}, (∀ r s, Q r s → Q' r s) → ∀ {c : Cfg}, Rn d Q c → Rn d Q' c := by
  induction d with
  | zero =>
    intro Q Q' hQ c h P hP
    exact h P (fun c hc => hP c (Sd_mono (fun _ _ _ _ _ _ h => h) (fun _ h => h) hQ hc))
  | succ d ih =>
    intro Q Q' hQ c h P hP
    exact h P (fun c hc => hP c (Sd_mono (cl := fun μ a σ K => Rn d K (μ, 0, ent μ a, [], σ)) (fun _ _ _ _ _ hK h => ih hK h) (fun _ h => h) hQ hc))
theorem clo_mono (d : Nat) : ∀ (μ : Nat) (a : List AV) (σ : St) (K K' : Option AV → St → Prop), (∀ r s, K r s → K' r s) → clo d μ a σ K → clo d μ a σ K' := by
  intro μ a σ K K' hK h
  cases d with
  | zero => exact h
  | succ d => exact Rn_mono hK h
theorem Rn_fold {d : Nat} {Q : Option AV → St → Prop} {c : Cfg} (h : Sd (clo d) (Rn d Q) Q (nxt c)) : Rn d Q c := by
  rw [Rn_def]
  intro P hP
  exact hP c (Sd_mono (clo_mono d) (fun c hc => by rw [Rn_def] at hc; exact hc P hP) (fun _ _ h => h) h)
theorem Rn_eq (d : Nat) (Q : Option AV → St → Prop) (c : Cfg) : Rn d Q c = Sd (clo d) (Rn d Q) Q (nxt c) := by
  refine propext ⟨fun h => ?_, Rn_fold⟩
  rw [Rn_def] at h
  exact h (fun c => Sd (clo d) (Rn d Q) Q (nxt c)) (fun c hc => Sd_mono (clo_mono d) (fun c hc => Rn_fold hc) (fun _ _ h => h) hc)
/-- deeper is as good -/
theorem Rn_deep {d : Nat} : ∀ {Q : Option AV → St → Prop} {c : Cfg}, Rn d Q c → Rn (d + 1) Q c := by
  induction d with
  | zero =>
    intro Q c h
    refine h _ (fun c hc => Rn_fold ?_)
    cases hx : nxt c with
    | none => rw [hx] at hc; exact hc
    | some x =>
      rw [hx] at hc
      match x, hc with
      | .inl c, hc => exact hc
      | .inr (.inl (r, σ)), hc => exact hc
      | .inr (.inr (μ', a, (μ, pc, ls, st, σ))), hc => exact hc.elim
  | succ d ih =>
    intro Q c h
    refine h _ (fun c hc => Rn_fold ?_)
    cases hx : nxt c with
    | none => rw [hx] at hc; exact hc
    | some x =>
      rw [hx] at hc
      match x, hc with
      | .inl c, hc => exact hc
      | .inr (.inl (r, σ)), hc => exact hc
      | .inr (.inr (μ', a, (μ, pc, ls, st, σ))), hc => exact ih hc
theorem Rn_le {d d' : Nat} (h : d ≤ d') {Q : Option AV → St → Prop} {c : Cfg} (hr : Rn d Q c) : Rn d' Q c := by
  induction h with
  | refl => exact hr
  | step _ ih => exact Rn_deep ih
/-- what is reached is one answer and one state -/
theorem Rn_one {d : Nat} : ∀ {Q : Option AV → St → Prop} {c : Cfg}, Rn d Q c → ∃ r σ, Q r σ ∧ Rn d (fun r' σ' => r' = r ∧ σ' = σ) c := by
  induction d with
  | zero =>
    intro Q c h
    refine h (fun c => ∃ r σ, Q r σ ∧ Rn 0 (fun r' σ' => r' = r ∧ σ' = σ) c) (fun c hc => ?_)
    cases hx : nxt c with
    | none => rw [hx] at hc; exact hc.elim
    | some x =>
      rw [hx] at hc
      match x, hc, hx with
      | .inl c', ⟨r, σ, hq, hr⟩, hx => exact ⟨r, σ, hq, Rn_fold (by rw [hx]; exact hr)⟩
      | .inr (.inl (r, σ)), hc, hx => exact ⟨r, σ, hc, Rn_fold (by rw [hx]; exact ⟨rfl, rfl⟩)⟩
      | .inr (.inr (μ', a, (μ, pc, ls, st, σ))), hc, hx => exact hc.elim
  | succ d ih =>
    intro Q c h
    refine h (fun c => ∃ r σ, Q r σ ∧ Rn (d + 1) (fun r' σ' => r' = r ∧ σ' = σ) c) (fun c hc => ?_)
    cases hx : nxt c with
    | none => rw [hx] at hc; exact hc.elim
    | some x =>
      rw [hx] at hc
      match x, hc, hx with
      | .inl c', ⟨r, σ, hq, hr⟩, hx => exact ⟨r, σ, hq, Rn_fold (by rw [hx]; exact hr)⟩
      | .inr (.inl (r, σ)), hc, hx => exact ⟨r, σ, hc, Rn_fold (by rw [hx]; exact ⟨rfl, rfl⟩)⟩
      | .inr (.inr (μ', a, (μ, pc, ls, st, σ))), hc, hx =>
        obtain ⟨r1, σ1, ⟨r, σ', hq, hr⟩, h1⟩ := ih hc
        refine ⟨r, σ', hq, Rn_fold ?_⟩
        rw [hx]
        exact Rn_mono (fun r' s' e => by obtain ⟨rfl, rfl⟩ := e; exact hr) h1
