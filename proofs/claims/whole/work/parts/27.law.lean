/-! THE CLAIM OUT OF ONE WALK OF THE LAW'S BODY. Your part is whole_start (and what it stands on); all else here is the same for every law, but numbers. -/
def R_law : String := "LetterSchoolLaw"
def lw_P (b : Addr) (xs : List Int32) (args : Array Value) (s : State) : Prop := args = #[.ref b] ∧ s.IntsAt b xs ∧ xs.length ≤ 3072 ∧ (Jvm.Cond.and given_1 narrow_1).before args s = true
def lw_Q (_ : Array Value) (s : State) (o : Outcome) (t : State) : Prop := o = .returned (some (.int 1)) ∧ Framed s o t [] 600000 room_1.slots
def lw_Z (below : List Frame) (a : Array Value) (s : State) : State → Prop := fun t => ∃ o, t.status = .running ∧ Ended t below o ∧ lw_Q a s o t
/-- the law's own end, with 1 on the stack, nothing written that was there before, its room as the claim has it -/
theorem lw_ret {p : Program} {l : Launch} {e : Env} {s : State} {m : MethodId} {below : List Frame} {meth : Method} {c : Code} {b : Nat} (hx : p.tables.exec = Jvm.exec) (hb : c.code = code) (hr : meth.sig.returnType = ret) (hlocks : meth.locks = false) {pc : Nat} {H : Heap} {ls : Array Slot} (hdg : decode code pc = .ok (.ireturn, 1)) : W p l e room_1 s m #[Value.ref b] below meth c H [] 600000 room_1.slots (lw_Z below #[Value.ref b] s) (F0 m pc ls [.int 1]) := by
  intro T hT X
  obtain ⟨fs, hret, hrun, hended, hW, hframe⟩ := X.leave (v := some (.int 1)) (hlocks := hlocks) (fun h => by rw [hr] at h; cases h)
  have hmeth' : T.vm.method? m = some meth := X.method'
  refine ⟨T.setFrames fs, ?_, .returned (some (.int 1)), hrun, hended, rfl, ⟨_, rfl⟩, hW, hframe⟩
  jvm_step X.here [X.here.top, hx, hb, hdg, hmeth', hr, ret, narrow_b1]
  (try refine ⟨rfl, ?_⟩); (try refine ⟨rfl, ?_⟩)
  first | (intro acts; rw [hret _ acts rfl rfl rfl]) | rw [hret _ _ rfl rfl rfl]
  exact Steps.refl _
/-- what holds at the law's entry: the machine, the code, the tables' words (any of lw_tbl by 'hts w (by decide +kernel)'), the script of L ints xs at the cell b, what the Statement gives of the start (any of its parts by flat_of_before) -/
def lw_At (p : Program) (s : State) (m : MethodId) (meth : Method) (c : Code) (b L : Nat) (xs : Nat → Int32) : Prop :=
  p.tables.exec = Jvm.exec ∧ c.code = code ∧ meth.sig.returnType = ret ∧ c.maxLocals = 4 ∧ s.vm.findClass R_law = some m.cls ∧ (∀ w ∈ lw_tbl, w.before #[Value.ref b] s = true) ∧ va_X b L xs s s.heap ∧ b < s.heap.size ∧ meth.locks = false ∧ (Jvm.Cond.and given_1 narrow_1).before #[Value.ref b] s = true
def σS (h b L : Nat) (xs : Nat → Int32) : St := (fun _ _ _ => 0, fun _ _ _ => xs, fun _ _ _ => none, fun _ _ _ _ => none, fun c k i => if c = 13 ∧ k = 0 ∧ i = 0 then some L else none, fun c => if c = 13 then 1 else 0, fun _ _ _ => b, h, 0)
theorem pQ_law : pQ 218 = (iT218, yL_law, cL_law, 4, some FieldType.boolean, 13) := by
  have hl : pL.length = 218 := by decide +kernel
  unfold pQ
  rw [pT_pL, List.getD_eq_getElem?_getD, List.getElem?_append_right (by omega), hl]
  rfl
theorem cod_law : cod 218 = code := by unfold cod; rw [pQ_law]
theorem mxl_law : mxl 218 = 4 := by unfold mxl; rw [pQ_law]
theorem rt_law : rt 218 = some .boolean := by unfold rt; rw [pQ_law]
theorem own_law : onm (ow 218) = R_law := by unfold ow; rw [pQ_law]; rfl
theorem nam_law : (nam 218).name = "law" := by unfold nam; rw [pQ_law]; rfl
theorem ent_law : entOK 218 [vR (some (13, 1, 0))] = true := by unfold entOK; rw [mxl_law]; rfl
theorem law_sound {p : Program} {e : Env} {s : State} {m : MethodId} {below : List Frame} {meth : Method} {c : Code} (l : Launch) {b L : Nat} {xs : Nat → Int32} (C0 : lw_At p s m meth c b L xs)
    (hp : Rn 100 (fun r σ' => r = some (vI 1) ∧ gH σ' ≤ s.heap.size + 600000 ∧ gS σ' ≤ room_1.slots) (218, 0, ent 218 [vR (some (13, 1, 0))], [], σS s.heap.size b L xs)) : W p l e room_1 s m #[Value.ref b] below meth c s.heap [] 0 0 (lw_Z below #[Value.ref b] s) (entryFrame m ([Value.ref b] : List Value).toArray 4) := by
  obtain ⟨hx, hb, hrr, hml, hown, hts, hX, hbl, hlocks, hgv⟩ := C0
  obtain ⟨r1, σ1, ⟨hr1, hh1, hs1⟩, hR⟩ := Rn_one hp
  subst hr1
  obtain ⟨D, cA, hKS⟩ := KS_start hts
  have hM : Mn (σS s.heap.size b L xs) σ1 := Rn_Mn hR
  have hH0 : gH (σS s.heap.size b L xs) = s.heap.size := rfl
  have hS0 : gS (σS s.heap.size b L xs) = 0 := rfl
  have hg0 : gT σ1 13 1 0 = b := (hM.2.2.2 13 0 0 L (by show 0 < if 13 = 13 then 1 else 0; decide) rfl).2
  have C : Cx D cA 218 p s m #[Value.ref b] meth c := ⟨hx, by rw [cod_law]; exact hb, by rw [mxl_law]; exact hml, by rw [own_law]; exact hown, fun w hw => hts w (gW_tbl hw), hKS, hlocks, by rw [rt_law]; exact hrr, fun h => by rw [nam_law] at h; exact absurd h (by decide)⟩
  have hW : Wd D cA (gT σ1) s.heap.size (σS s.heap.size b L xs) s s.heap := by
    refine ⟨rfl, Nat.le_refl _, fun c k i h => ?_, fun c k i c' k' i' h => ?_, fun k i n hl => ?_, fun c hc => ?_⟩
    · have h2 : i < if c = 13 then 1 else 0 := h.2.1
      rw [if_neg (by have := h.1; omega)] at h2
      omega
    · have h2 : i < if c = 13 then 1 else 0 := h.2.1
      rw [if_neg (by have := h.1; omega)] at h2
      omega
    · have hl : (if 13 = 13 ∧ k = 0 ∧ i = 0 then some L else none) = some n := hl
      by_cases hz : k = 0 ∧ i = 0
      · rw [if_pos ⟨rfl, hz⟩] at hl
        cases hl
        refine ⟨hz.1, hz.2, ?_, by rw [hg0]; exact hbl⟩
        rw [hg0]
        exact hX
      · rw [if_neg (fun z => hz z.2)] at hl
        cases hl
    · show (if c = 13 then 1 else 0) = 0
      rw [if_neg (by omega)]
  have hag : Agree (gT σ1) σ1 := ⟨fun _ _ _ => rfl, fun _ _ _ _ _ _ => rfl⟩
  have hret : RetH p l e room_1 s m #[Value.ref b] below meth c (lw_Z below #[Value.ref b] s) D cA (gT σ1) s.heap.size 218 (σS s.heap.size b L xs) σ1 (some (vI 1)) := by
    intro pc H locs cells slots lsc hW1 hS h1 h2
    refine ⟨fun x hd hr hrt => ?_, fun x hd hr hrt => ?_, fun x hd hr hrt => ?_, fun hd hr hrt => ?_⟩
    · have hx1 : x = 1 := by cases hr; rfl
      subst hx1
      refine va_forget (fun q hq => hS.2.2 q hq) ?_
      refine W.widen (k := 600000) (n := room_1.slots) (by omega) (by omega) ?_
      exact lw_ret hx hb hrr hlocks (by rw [cod_law] at hd; exact hd)
    · cases hr
    · cases hr
    · cases hr
  have hbody := body_all (dd := 100) C hag (fun d' h => MM_all l D cA (gT σ1) s.heap.size d') (by show gH σ1 ≤ 600000 + gH (σS s.heap.size b L xs); omega) (by show gS σ1 ≤ room_1.slots + gS (σS s.heap.size b L xs); omega) (by decide) (by decide) (Nat.le_refl _) hret hR
  have hcv : ([vR (some (13, 1, 0))] : List AV).map (cv (gT σ1)) = [Value.ref b] := by
    show [Value.ref (gT σ1 13 1 0)] = _
    rw [hg0]
  have hLS := ent_LS (g := gT σ1) (μ := 218) (a := [vR (some (13, 1, 0))]) (by rw [mxl_law]; decide)
  rw [hcv, mxl_law] at hLS
  rw [lg_entry_eq]
  have := hbody.2 rfl (ent_Lg ent_law) s.heap [] 0 0 _ hW (by rw [mxl_law]; exact hLS) va_S.rf (Nat.zero_add _) (Nat.zero_add _)
  exact this
