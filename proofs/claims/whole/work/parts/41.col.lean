-- columns of the state
section COL
variable {σ : St} {a b c k i j n : Nat} {v : Int32} {f : Nat → Int32} {r : Option Nat} {q : Nat → Option Nat}
theorem II : gI (setI σ c k i v) a b = if a = c ∧ b = k then upd (gI σ c k) i v else gI σ a b := by
  funext d
  show (if a = c ∧ b = k ∧ d = i then v else gI σ a b d) = _
  by_cases h : a = c ∧ b = k
  · rw [if_pos h]
    obtain ⟨rfl, rfl⟩ := h
    unfold upd
    by_cases hd : d = i
    · rw [if_pos ⟨rfl, rfl, hd⟩, if_pos hd]
    · rw [if_neg (fun z => hd z.2.2), if_neg hd]
  · rw [if_neg h, if_neg (fun z => h ⟨z.1, z.2.1⟩)]
theorem AA : gA (setA σ c k i f) a b = if a = c ∧ b = k then (fun d => if d = i then f else gA σ c k d) else gA σ a b := by
  funext d
  show (if a = c ∧ b = k ∧ d = i then f else gA σ a b d) = _
  by_cases h : a = c ∧ b = k
  · rw [if_pos h]
    obtain ⟨rfl, rfl⟩ := h
    by_cases hd : d = i
    · simp [hd]
    · simp [hd]
  · rw [if_neg h, if_neg (fun z => h ⟨z.1, z.2.1⟩)]
theorem RR : gR (setR σ c k i r) a b = if a = c ∧ b = k then va_up (gR σ c k) i r else gR σ a b := by
  funext d
  show (if a = c ∧ b = k ∧ d = i then r else gR σ a b d) = _
  by_cases h : a = c ∧ b = k
  · rw [if_pos h]
    obtain ⟨rfl, rfl⟩ := h
    unfold va_up
    by_cases hd : d = i
    · rw [if_pos ⟨rfl, rfl, hd⟩, if_pos hd]
    · rw [if_neg (fun z => hd z.2.2), if_neg hd]
  · rw [if_neg h, if_neg (fun z => h ⟨z.1, z.2.1⟩)]
theorem QQ : gQ (setQ σ c k i q) a b = if a = c ∧ b = k then (fun d => if d = i then q else gQ σ c k d) else gQ σ a b := by
  funext d
  show (if a = c ∧ b = k ∧ d = i then q else gQ σ a b d) = _
  by_cases h : a = c ∧ b = k
  · rw [if_pos h]
    obtain ⟨rfl, rfl⟩ := h
    by_cases hd : d = i
    · simp [hd]
    · simp [hd]
  · rw [if_neg h, if_neg (fun z => h ⟨z.1, z.2.1⟩)]
theorem IA : gI (setA σ c k i f) = gI σ := rfl
theorem IR : gI (setR σ c k i r) = gI σ := rfl
theorem IQ : gI (setQ σ c k i q) = gI σ := rfl
theorem AI : gA (setI σ c k i v) = gA σ := rfl
theorem AR : gA (setR σ c k i r) = gA σ := rfl
theorem AQ : gA (setQ σ c k i q) = gA σ := rfl
theorem RI : gR (setI σ c k i v) = gR σ := rfl
theorem RA : gR (setA σ c k i f) = gR σ := rfl
theorem RQ : gR (setQ σ c k i q) = gR σ := rfl
theorem QI : gQ (setI σ c k i v) = gQ σ := rfl
theorem QA : gQ (setA σ c k i f) = gQ σ := rfl
theorem QR : gQ (setR σ c k i r) = gQ σ := rfl
theorem LI : gL (setI σ c k i v) = gL σ := rfl
theorem LA : gL (setA σ c k i f) = gL σ := rfl
theorem LR : gL (setR σ c k i r) = gL σ := rfl
theorem LQ : gL (setQ σ c k i q) = gL σ := rfl
theorem NI : gN (setI σ c k i v) = gN σ := rfl
theorem NA : gN (setA σ c k i f) = gN σ := rfl
theorem NR : gN (setR σ c k i r) = gN σ := rfl
theorem NQ : gN (setQ σ c k i q) = gN σ := rfl
theorem HI : gH (setI σ c k i v) = gH σ := rfl
theorem HA : gH (setA σ c k i f) = gH σ := rfl
theorem HR : gH (setR σ c k i r) = gH σ := rfl
theorem HQ : gH (setQ σ c k i q) = gH σ := rfl
theorem SI : gS (setI σ c k i v) = gS σ := rfl
theorem SA : gS (setA σ c k i f) = gS σ := rfl
theorem SR : gS (setR σ c k i r) = gS σ := rfl
theorem SQ : gS (setQ σ c k i q) = gS σ := rfl
end COL
/-- lengths of the rows, class by class -/
def alen (c k : Nat) : Nat := ([[0, 0, 8, 8, 8, 8, 8, 120, 0], [0, 6, 6, 6], [512, 512, 512, 0], [0, 0, 0], [0, 0, 0, 0, 0, 0, 0], [6, 6, 6, 6, 7, 7, 6, 6, 0, 0, 0, 0], [0, 0, 30], [120, 0, 0], [0, 0, 0, 0, 20, 0, 0, 0, 0, 0, 0, 0, 0, 0, 0], [0, 0, 0, 0], [256, 256, 8], [0, 24, 4, 4, 0, 0, 12, 0, 6, 0, 80, 0, 6, 0, 800, 0, 4, 0, 0, 8], [120, 0, 0, 0, 8, 8, 8, 8, 128, 0, 0, 0, 0, 128, 0, 4, 24, 24, 192, 192, 192, 192, 3072, 0, 12, 12, 12, 12, 12, 12, 48000, 40, 128, 256, 256, 6, 6, 6, 0, 80, 80, 80, 80, 80, 80, 80, 80, 80, 80, 80, 80, 80, 80, 1600, 0, 6, 6, 6, 6, 0, 6, 6, 6, 6, 0, 0, 0, 0, 800, 0, 4, 24, 24, 4, 24, 24, 6, 6, 6, 4, 4, 120]].getD c []).getD k 0
def isA (c k : Nat) : Prop := (fk c k).1 = 1 ∨ (fk c k).1 = 3
