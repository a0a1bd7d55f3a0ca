-- what holds between the class and the reference, column by column
def TA (sg : Nat → Int32) (len : Int32) (tp : Nat → Int32) (td : Int32) : Prop := ∃ n : Nat, n ≤ 120 ∧ len = nI n ∧ td = nI n ∧ ∀ j, j < n → sg j = tp j ∧ 32 ≤ (tp j).toInt ∧ (tp j).toInt ≤ 126
def KE (kc km : Nat → Int32) (lc lm : Int32) : Prop := lc = lm ∧ (0 ≤ lm.toInt ∧ lm.toInt < 20) ∧ ∀ j, j < 800 → kc j = km j ∧ 0 ≤ (km j).toInt ∧ (km j).toInt < 5
def PO (n : Nat) (dc ec cc dm em cm : Nat → Int32) : Prop := ∀ j, j < 6 → dc j = dm j ∧ (1 ≤ (dm j).toInt ∧ (dm j).toInt ≤ 60) ∧ ec j = em j ∧ (0 ≤ (em j).toInt ∧ (em j).toInt < 10) ∧ ∃ x : Nat, x ≤ n ∧ cm j = nI x ∧ (0 < (em j).toInt → cc j = nI (x % (em j).toInt.toNat))
def SS (lc zc : Nat → Int32) (ic : Nat → Nat → Int32) (lm zm im : Nat → Int32) : Prop := ∀ s, s < 4 → lc s = lm s ∧ (-1 ≤ (lm s).toInt ∧ (lm s).toInt ≤ 2) ∧ zc s = zm s ∧ (0 ≤ (zm s).toInt ∧ (zm s).toInt ≤ 30) ∧ ∀ j, j < 30 → ic s j = im (30 * s + j)
def TU (nt : Nat) (q : Nat → Option Nat) (cc cm : Int32) (tc pc kc lc tm pm km lm : Nat → Int32) : Prop := nt ≤ 6 ∧ cc = nI nt ∧ cm = nI nt ∧ (∀ u, u < nt → q u = some u ∧ tc u = tm u ∧ (0 ≤ (tm u).toInt ∧ (tm u).toInt < 16) ∧ pc u = pm u ∧ (1 ≤ (pm u).toInt ∧ (pm u).toInt ≤ 9) ∧ kc u = km u ∧ (0 ≤ (km u).toInt ∧ (km u).toInt < 4096) ∧ lc u = lm u) ∧ ∀ u, nt ≤ u → u < 6 → km u = 0 ∧ lm u = 0
def cntT (kd tt : Nat → Int32) (u : Nat) : Nat → Nat
  | 0 => 0
  | n + 1 => cntT kd tt u n + if kd n = 1 ∧ tt n = nI u then 1 else 0
def LO (nt nth : Nat) (lm kd tt : Nat → Int32) : Prop := (∀ u, u < nt → lm u = nI (cntT kd tt u nth) ∧ cntT kd tt u nth ≤ 12) ∧ ∀ t, t < nth → kd t = 0 ∨ kd t = 3 → tt t = -4
def PU (np : Nat) (q qe rt : Nat → Option Nat) (ems : Nat → Int32) (cc cm : Int32) (pl bg co ed hb lf mpl med mbg mhb mlf : Nat → Int32) : Prop := np ≤ 12 ∧ cc = nI np ∧ cm = nI np ∧ ∀ p, p < np → q p = some p ∧ pl p = mpl p ∧ (0 ≤ (mpl p).toInt ∧ (mpl p).toInt < 6) ∧ bg p = mbg p ∧ (0 ≤ (mbg p).toInt ∧ (mbg p).toInt < 4000) ∧ hb p = mhb p ∧ lf p = mlf p ∧ ∃ x y : Nat, x < 4 ∧ y < 6 ∧ co p = nI x ∧ ed p = nI y ∧ med p = nI (6 * x + y) ∧ (y : Int) < (ems x).toInt ∧ rt p = qe (6 * x + y)
/-- a thing's own columns -/
def TH (n np nt : Nat) (q : Nat → Option Nat) (cc cm : Int32) (pu na le fs : Nat → Int32) (ch : Nat → Nat → Int32) (ki se co tu gi ag ma md st sm : Nat → Int32) (kim pum nam' lem fsm sem com tum gim agm mam mdm stm smm chm : Nat → Int32) : Prop := n ≤ 80 ∧ cc = nI n ∧ cm = nI n ∧
  (∀ t, t < n → q t = some t ∧ pu t = pum t ∧ (0 ≤ (pum t).toInt ∧ (pum t).toInt < np) ∧ na t = nam' t ∧ (0 ≤ (nam' t).toInt ∧ (nam' t).toInt < 40) ∧ le t = lem t ∧ fs t = fsm t ∧ ki t = kim t ∧ (0 ≤ (kim t).toInt ∧ (kim t).toInt ≤ 4) ∧ se t = sem t ∧ co t = com t ∧ tu t = tum t ∧ (tum t = -4 ∨ (0 ≤ (tum t).toInt ∧ (tum t).toInt < nt)) ∧ gi t = gim t ∧ ag t = agm t ∧ (0 ≤ (agm t).toInt ∧ (agm t).toInt ≤ 2) ∧ ma t = mam t ∧ (0 ≤ (mam t).toInt ∧ (mam t).toInt ≤ 100) ∧ md t = mdm t ∧ (0 ≤ (mdm t).toInt ∧ (mdm t).toInt < 4000) ∧ st t = stm t ∧ (if stm t = -4 then sm t = -4 else sm t = smm t ∧ 0 ≤ (smm t).toInt ∧ (smm t).toInt ≤ 100) ∧ ∀ j, j < 20 → ch t j = chm (20 * t + j) ∧ 0 ≤ (chm (20 * t + j)).toInt ∧ (chm (20 * t + j)).toInt < 5) ∧
  ∀ t, n ≤ t → t < 80 → agm t = 0 ∧ gim t = 0 ∧ mam t = 0 ∧ mdm t = 0 ∧ ∀ j, j < 20 → chm (20 * t + j) = 0
def psum (c : Nat → Bool) (pe : Nat → Int32) : Nat → Nat
  | 0 => 0
  | n + 1 => psum c pe n + if c n then (pe n).toInt.toNat else 0
def LE (n : Nat) (py pe pd : Nat → Int32) (ct : Int32) (pa po : Nat → Int32) : Prop := ∃ m : Nat, m ≤ n ∧ ct = nI m ∧ (∀ j, j < m → (0 ≤ (py j).toInt ∧ (py j).toInt < 12) ∧ (1 ≤ (pe j).toInt ∧ (pe j).toInt ≤ 99999) ∧ (0 ≤ (pd j).toInt ∧ (pd j).toInt < 4000)) ∧ (∀ p, p < 12 → pa p = nI (psum (fun j => decide (py j = nI p)) pe m)) ∧ ∀ p d, p < 12 → d < 4000 → po (4000 * p + d) = nI (psum (fun j => decide (py j = nI p ∧ pd j = nI d)) pe m)
/-- how many of the first k clauses are parts -/
def rk (pt : Nat → Int32) : Nat → Nat
  | 0 => 0
  | k + 1 => rk pt k + if pt k = 1 then 1 else 0
/-- one course's fees: the class's clauses in their order, the reference's parts and backs apart -/
def FR (ct : Int32) (pt dy am : Nat → Int32) (pn bn : Int32) (pd pp bd bp : Nat → Int32) : Prop := ∃ c : Nat, c ≤ 6 ∧ ct = nI c ∧ pn = nI (rk pt c) ∧ bn = nI (c - rk pt c) ∧ ∀ k, k < c → (0 ≤ (dy k).toInt ∧ (dy k).toInt ≤ 999) ∧ (0 ≤ (am k).toInt ∧ (am k).toInt ≤ 99999) ∧ ((pt k = 1 ∧ pd (rk pt k) = dy k ∧ pp (rk pt k) = am k) ∨ (pt k = 0 ∧ (am k).toInt ≤ 100 ∧ bd (k - rk pt k) = dy k ∧ bp (k - rk pt k) = am k))
def FE (q : Nat → Option Nat) (dr : Option Nat) (ct : Nat → Int32) (pt dy am : Nat → Nat → Int32) (pn pd pp bn bd bp : Nat → Int32) : Prop := ∃ f : Nat → Nat, (∀ co, co < 5 → f co < 5) ∧ (∀ a b, a < 5 → b < 5 → f a = f b → a = b) ∧ (∀ co, co < 4 → q co = some (f co)) ∧ dr = some (f 4) ∧ ∀ co, co < 4 → FR (ct (f co)) (pt (f co)) (dy (f co)) (am (f co)) (pn co) (bn co) (fun k => pd (6 * co + k)) (fun k => pp (6 * co + k)) (fun k => bd (6 * co + k)) (fun k => bp (6 * co + k))
/-- the lessons that stand in the first k codes from s on -/
def orS (mw : Nat → Int32) (s : Nat) : Nat → Nat
  | 0 => 0
  | k + 1 => orS mw s k ||| if 0 ≤ (mw (s + k)).toInt then 2 ^ ((mw (s + k)).toInt.toNat % 8) else 0
/-- one row of codes: claims, and what joins them; D is how many stand waiting -/
def CW (b : Nat) (cd mw : Nat → Int32) (s e : Nat) : Prop := ∃ D : Nat → Nat, D s = 0 ∧ D e ≤ 1 ∧ ∀ k, s ≤ k → k < e → D (k + 1) ≤ 20 ∧ ((∃ on m : Nat, on < 8 ∧ m ≤ 101 ∧ b.testBit on = true ∧ cd k = nI (8 * m + on) ∧ mw k = nI (8 * m + on) ∧ D (k + 1) = D k + 1) ∨ (cd k = -1 ∧ mw k = -2 ∧ 1 ≤ D k ∧ D (k + 1) = D k) ∨ (cd k = -2 ∧ mw k = -3 ∧ 2 ≤ D k ∧ D (k + 1) + 1 = D k) ∨ (cd k = -3 ∧ mw k = -4 ∧ 2 ≤ D k ∧ D (k + 1) + 1 = D k))
def ER (fr le : Int32) (nm ps sd sr en cd : Nat → Int32) (mfr mle : Int32) (mn mp mf mt mw : Nat → Int32) : Prop := fr = mfr ∧ (0 ≤ mfr.toInt ∧ mfr.toInt < 4000) ∧ ∃ b : Nat, b < 256 ∧ le = nI b ∧ mle = nI b ∧ ∀ l, l < 8 → b.testBit l = true → nm l = mn l ∧ (0 ≤ (mn l).toInt ∧ (mn l).toInt < 40) ∧ ps l = mp l ∧ (0 ≤ (mp l).toInt ∧ (mp l).toInt ≤ 100) ∧ ∃ s e : Nat, s ≤ e ∧ e ≤ 120 ∧ sr l = nI s ∧ mf l = nI s ∧ en l = nI e ∧ mt l = nI e ∧ sd l = nI (orS mw s (e - s)) ∧ CW b cd mw s e
def ED (n : Nat) (dr : Option Nat) (q : Nat → Option Nat) (ec : Nat → Int32) (fr le : Nat → Int32) (nm ps sd sr en cd : Nat → Nat → Int32) (mem mfr mle mnm mps mrf mrt mrw : Nat → Int32) : Prop := (∃ z : Nat, n = z + 1 ∧ dr = some z ∧ ∀ co y : Nat, co < 4 → y < 6 → (y : Int) < (mem co).toInt → ∃ i, i < z ∧ q (6 * co + y) = some i ∧ ER (fr i) (le i) (nm i) (ps i) (sd i) (sr i) (en i) (cd i) (mfr (6 * co + y)) (mle (6 * co + y)) (fun l => mnm (8 * (6 * co + y) + l)) (fun l => mps (8 * (6 * co + y) + l)) (fun l => mrf (8 * (6 * co + y) + l)) (fun l => mrt (8 * (6 * co + y) + l)) (fun k => mrw (128 * (6 * co + y) + k))) ∧ ∀ co, co < 4 → ec co = mem co ∧ ∃ y : Nat, y ≤ 6 ∧ mem co = nI y
def RM (h0 n gh gs : Nat) : Prop := gh ≤ h0 + 400 + 20 * n ∧ gs ≤ 70000 + 400 * n
def Inv (h0 n : Nat) (σ : St) : Prop := SH σ ∧
  TA (gA σ 7 0 0) (gI σ 7 1 0) (gA σ 12 0 0) (gI σ 12 1 0) ∧
  KE (gA σ 11 14 0) (gA σ 12 68 0) (gI σ 11 15 0) (gI σ 12 69 0) ∧
  PO n (gI σ 3 0) (gI σ 3 1) (gI σ 3 2) (gA σ 12 35 0) (gA σ 12 36 0) (gA σ 12 37 0) ∧
  SS (gI σ 6 0) (gI σ 6 1) (gA σ 6 2) (gA σ 12 79 0) (gA σ 12 80 0) (gA σ 12 81 0) ∧
  TU (gN σ 9) (gQ σ 11 8 0) (gI σ 11 9 0) (gI σ 12 54 0) (gI σ 9 0) (gI σ 9 1) (gI σ 9 2) (gI σ 9 3) (gA σ 12 55 0) (gA σ 12 56 0) (gA σ 12 57 0) (gA σ 12 58 0) ∧
  LO (gN σ 9) (gN σ 8) (gA σ 12 58 0) (gA σ 12 39 0) (gA σ 12 46 0) ∧
  PU (gN σ 4) (gQ σ 11 6 0) (gQ σ 11 1 0) (gR σ 4 4) (gA σ 12 15 0) (gI σ 11 7 0) (gI σ 12 23 0) (gI σ 4 0) (gI σ 4 1) (gI σ 4 2) (gI σ 4 3) (gI σ 4 5) (gI σ 4 6) (gA σ 12 24 0) (gA σ 12 25 0) (gA σ 12 26 0) (gA σ 12 27 0) (gA σ 12 28 0) ∧
  TH (gN σ 8) (gN σ 4) (gN σ 9) (gQ σ 11 10 0) (gI σ 11 11 0) (gI σ 12 38 0) (gI σ 8 0) (gI σ 8 1) (gI σ 8 2) (gI σ 8 3) (gA σ 8 4) (gI σ 8 5) (gI σ 8 6) (gI σ 8 7) (gI σ 8 8) (gI σ 8 9) (gI σ 8 10) (gI σ 8 11) (gI σ 8 12) (gI σ 8 13) (gI σ 8 14) (gA σ 12 39 0) (gA σ 12 40 0) (gA σ 12 41 0) (gA σ 12 42 0) (gA σ 12 43 0) (gA σ 12 44 0) (gA σ 12 45 0) (gA σ 12 46 0) (gA σ 12 47 0) (gA σ 12 48 0) (gA σ 12 49 0) (gA σ 12 50 0) (gA σ 12 51 0) (gA σ 12 52 0) (gA σ 12 53 0) ∧
  LE n (gA σ 2 0 0) (gA σ 2 1 0) (gA σ 2 2 0) (gI σ 2 3 0) (gA σ 12 29 0) (gA σ 12 30 0) ∧
  FE (gQ σ 11 3 0) (gR σ 11 5 0) (gI σ 1 0) (gA σ 1 1) (gA σ 1 2) (gA σ 1 3) (gA σ 12 70 0) (gA σ 12 71 0) (gA σ 12 72 0) (gA σ 12 73 0) (gA σ 12 74 0) (gA σ 12 75 0) ∧
  ED (gN σ 0) (gR σ 11 4 0) (gQ σ 11 1 0) (gA σ 11 2 0) (gI σ 0 0) (gI σ 0 1) (gA σ 0 2) (gA σ 0 3) (gA σ 0 4) (gA σ 0 5) (gA σ 0 6) (gA σ 0 7) (gA σ 12 15 0) (gA σ 12 16 0) (gA σ 12 17 0) (gA σ 12 18 0) (gA σ 12 19 0) (gA σ 12 20 0) (gA σ 12 21 0) (gA σ 12 22 0) ∧
  RM h0 n (gH σ) (gS σ)
theorem PO.up {n : Nat} {a b c d e f : Nat → Int32} (h : PO n a b c d e f) : PO (n + 1) a b c d e f := fun j hj => by
  obtain ⟨h1, h2, h3, h4, x, h5, h6⟩ := h j hj
  exact ⟨h1, h2, h3, h4, x, Nat.le_succ_of_le h5, h6⟩
theorem LE.up {n : Nat} {a b c : Nat → Int32} {d : Int32} {e f : Nat → Int32} (h : LE n a b c d e f) : LE (n + 1) a b c d e f := by
  obtain ⟨m, h1, h2⟩ := h
  exact ⟨m, Nat.le_succ_of_le h1, h2⟩
theorem RM.up {h0 n a b : Nat} (h : RM h0 n a b) : RM h0 (n + 1) a b := ⟨by have := h.1; omega, by have := h.2; omega⟩
theorem Inv.up {h0 n : Nat} {σ : St} (h : Inv h0 n σ) : Inv h0 (n + 1) σ := by
  obtain ⟨a1, a2, a3, a4, a5, a6, a7, a8, a9, a10, a11, a12, a13⟩ := h
  exact ⟨a1, a2, a3, a4.up, a5, a6, a7, a8, a9, a10.up, a11, a12, a13.up⟩
/-- class and reference, one call -/
def PR (h0 n d : Nat) (μc : Nat) (ec : List (Option AV)) (μm : Nat) (em : List (Option AV)) (σ : St) : Prop := Rn d (fun r σ1 => ∃ v, r = some (vI v) ∧ Rn d (fun r' σ2 => r' = some (vI v) ∧ Inv h0 (n + 1) σ2) (μm, 0, em, [], σ1)) (μc, 0, ec, [], σ)
