theorem sls_len (g : GG) : ∀ a : List AV, (lg_sl (a.map (cv g))).length = (sls a).length
  | [] => rfl
  | .inl x :: r => by
    have ih := sls_len g r
    simp only [lg_sl, sls, List.map_cons, List.flatMap_cons, List.length_append] at ih ⊢
    rw [ih]; rfl
  | .inr (.inl x) :: r => by
    have ih := sls_len g r
    simp only [lg_sl, sls, List.map_cons, List.flatMap_cons, List.length_append] at ih ⊢
    rw [ih]; rfl
  | .inr (.inr none) :: r => by
    have ih := sls_len g r
    simp only [lg_sl, sls, List.map_cons, List.flatMap_cons, List.length_append] at ih ⊢
    rw [ih]; rfl
  | .inr (.inr (some (_, _, _))) :: r => by
    have ih := sls_len g r
    simp only [lg_sl, sls, List.map_cons, List.flatMap_cons, List.length_append] at ih ⊢
    rw [ih]; rfl
theorem rep_no {n i : Nat} {v : AV} (h : (List.replicate n (none : Option AV))[i]? = some (some v)) : False := by
  rw [List.getElem?_replicate] at h
  split at h <;> cases h
theorem ent_in (g : GG) (n : Nat) : ∀ (a : List AV) (off i : Nat) (v : AV), (sls a ++ List.replicate n none)[i]? = some (some v) → (off + i, cv g v) ∈ lv_args off (a.map (cv g))
  | [], off, i, v, h => (rep_no h).elim
  | .inl x :: r, off, i, v, h => by
    cases i with
    | zero => cases h; exact List.mem_cons_self
    | succ i =>
      have := ent_in g n r (off + 1) i v h
      rw [Nat.add_right_comm, Nat.add_assoc] at this
      exact List.mem_cons_of_mem _ this
  | .inr (.inl x) :: r, off, i, v, h => by
    match i, h with
    | 0, h => cases h; exact List.mem_cons_self
    | 1, h => cases h
    | i + 2, h =>
      have := ent_in g n r (off + 2) i v h
      rw [Nat.add_right_comm, Nat.add_assoc] at this
      exact List.mem_cons_of_mem _ this
  | .inr (.inr none) :: r, off, i, v, h => by
    cases i with
    | zero => cases h; exact List.mem_cons_self
    | succ i =>
      have := ent_in g n r (off + 1) i v h
      rw [Nat.add_right_comm, Nat.add_assoc] at this
      exact List.mem_cons_of_mem _ this
  | .inr (.inr (some (a1, a2, a3))) :: r, off, i, v, h => by
    cases i with
    | zero => cases h; exact List.mem_cons_self
    | succ i =>
      have := ent_in g n r (off + 1) i v h
      rw [Nat.add_right_comm, Nat.add_assoc] at this
      exact List.mem_cons_of_mem _ this
theorem ent_lg (n : Nat) : ∀ (a : List AV) (off i : Nat) (x : Int64), (sls a ++ List.replicate n none)[i]? = some (some (vL x)) → off + i ∈ lgs off a
  | [], off, i, v, h => (rep_no h).elim
  | .inl x :: r, off, i, v, h => by
    cases i with
    | zero => cases h
    | succ i =>
      have := ent_lg n r (off + 1) i v h
      rw [Nat.add_right_comm, Nat.add_assoc] at this
      exact this
  | .inr (.inl x) :: r, off, i, v, h => by
    match i, h with
    | 0, h => exact List.mem_cons_self
    | 1, h => cases h
    | i + 2, h =>
      have := ent_lg n r (off + 2) i v h
      rw [Nat.add_right_comm, Nat.add_assoc] at this
      exact List.mem_cons_of_mem _ this
  | .inr (.inr y) :: r, off, i, v, h => by
    cases i with
    | zero => cases h
    | succ i =>
      have := ent_lg n r (off + 1) i v h
      rw [Nat.add_right_comm, Nat.add_assoc] at this
      exact this
theorem ent_LS {g : GG} {μ : Nat} {a : List AV} (h : (sls a).length ≤ mxl μ) : LSx g (ent μ a) ((lg_sl (a.map (cv g)) ++ List.replicate (mxl μ - (lg_sl (a.map (cv g))).length) Slot.unset).toArray) (mxl μ) := by
  have hl := lv_entry (a.map (cv g)) (n := mxl μ) (by rw [sls_len]; exact h)
  refine ⟨hl.1, hl.2.1, fun q hq => hl.2.2 q ?_⟩
  obtain ⟨j, w⟩ := q
  obtain ⟨u, h1, rfl⟩ := cl_mem.mp hq
  have := ent_in g _ a 0 j u h1
  rw [Nat.zero_add] at this
  exact this
theorem ent_Lg {μ : Nat} {a : List AV} (h : entOK μ a = true) : LgOK μ (ent μ a) := by
  intro j x hj
  have h1 := ent_lg _ a 0 j x hj
  rw [Nat.zero_add] at h1
  simp only [entOK, Bool.and_eq_true, List.all_eq_true, List.contains_iff_mem] at h
  exact h.2 j h1
theorem MM_step {l : Launch} {D : va_G} {cA : Nat → ClassId} {g : GG} {base d : Nat} (hMM : ∀ d', d = d' + 1 → MM l D cA g base d') : MM l D cA g base d := by
  intro μ a σ σ' r mc ms hμ hent hR hag hmc hms
  have hokW := okW_of hμ
  refine Met.ofW (cc := cod μ) (maxL := mxl μ) (ret := rt μ) hokW.2.1 rfl ?_
  intro p e s m args below meth c s₁ B hml hv
  obtain ⟨rfl, hW, hKS⟩ := hv
  have C : Cx D cA μ p s m ((a.map (cv g)).toArray) meth c := ⟨B.exec, B.bytes, hml, by rw [← hokW.2.2.2.1]; exact findClass_of_methodNamed B.named, fun w hw => atoms_spec (ws := wsM μ) B.pre w (List.mem_cons_of_mem _ hw), hKS, B.notSynchronized, B.returns, fun h => (name_of_methodNamed B.named B.method).1.trans h⟩
  have hba : base ≤ s.heap.size := by rw [hW.1]; exact hW.2.1
  have hret : RetH p l e (headSpec (wsM μ) (rmM d mc ms)).room s m ((a.map (cv g)).toArray) below meth c (MQ below (MQc D cA g base r σ') ((a.map (cv g)).toArray) s mc ms (fun q => base ≤ q)) D cA g base μ σ σ' r := by
    intro pc H locs cells slots lsc hW1 hS h1 h2
    have ec : cells = mc := by omega
    have es : slots = ms := by omega
    subst ec
    subst es
    have hq : ∀ (t : State), t.heap = H → s.WarmedH t.vm → MQc D cA g base r σ' ((a.map (cv g)).toArray) s (.returned (r.map (cv g))) t := fun t ht hWm => ⟨rfl, by rw [ht]; exact hW1.moved hWm.alike, hS.F ht⟩
    refine ⟨fun x hd hr hrt => ?_, fun x hd hr hrt => ?_, fun x hd hr hrt => ?_, fun hd hr hrt => ?_⟩
    · subst hr
      rcases hrt with hrt | ⟨hrt, hx⟩
      · exact W.iret C.1 C.2.1 (B.returns.trans hrt) hq hS.2.2 hd (hlocks := B.notSynchronized)
      · exact W.zret (ty := .boolean) C.1 C.2.1 (B.returns.trans hrt) (by rcases hx with rfl | rfl <;> rfl) hq hS.2.2 hd (hlocks := B.notSynchronized)
    · subst hr
      exact W.lret C.1 C.2.1 (B.returns.trans hrt) hq hS.2.2 hd (hlocks := B.notSynchronized)
    · subst hr
      obtain ⟨n, hrt⟩ := hrt
      refine W.aret C.1 C.2.1 (B.returns.trans hrt) (Or.inl ⟨n, rfl⟩) ?_ hq hS.2.2 hd (hlocks := B.notSynchronized)
      match x with
      | none => exact Or.inl rfl
      | some (a1, a2, a3) => exact Or.inr ⟨_, rfl⟩
    · subst hr
      exact W.vret C.1 C.2.1 (B.returns.trans hrt) hq hS.2.2 hd (hlocks := B.notSynchronized)
  have hbody := body_all (dd := d) C hag hMM (by show gH σ' ≤ mc + gH σ; omega) (by show gS σ' ≤ ms + gS σ; omega) (Nat.le_refl (d + 1)) (Nat.le_refl (40 * (d + 1))) hba hret hR
  rw [lg_entry_eq]
  have hlen : (sls a).length ≤ mxl μ := by
    simp only [entOK, Bool.and_eq_true, decide_eq_true_eq] at hent
    exact hent.1
  exact hbody.2 rfl (ent_Lg hent) s.heap [] 0 0 _ hW (ent_LS hlen) va_S.rf (Nat.zero_add _) (Nat.zero_add _)
theorem MM_all (l : Launch) (D : va_G) (cA : Nat → ClassId) (g : GG) (base : Nat) : ∀ d, MM l D cA g base d
  | 0 => MM_step (fun _ h => by cases h)
  | d + 1 => MM_step (fun d' h => by cases h; exact MM_all l D cA g base d)
theorem arr_b {args : Array Value} {s : State} {ty : FieldType} (h : (Cond.arrayClass ty).before args s = true) : ∃ c : ClassId, ArrOfT s c ty ∧ s.vm.findClass ("[" ++ ty.toString) = some c := by
  obtain ⟨c, k, comp, h1, h2, h3⟩ := Cond.arrayClass_spec h
  exact ⟨c, fun n z => ⟨fun k h => (by cases h), k, h2, comp, h3⟩, h1⟩
theorem arr_o {s : State} {C : String} (h : va_AO C s) : ∃ c : ClassId, ArrOfT s c (.object C) ∧ va_RA s c (.object C) := by
  obtain ⟨comp, c, k, h1, h2, h3, h4, h5⟩ := Cond.arrayOver_spec h
  exact ⟨c, fun n z => ⟨fun k h => (by cases h), k, h3, comp, h4⟩, k, comp, h3, h4, h1, h5⟩
theorem gW_tbl {w : Cond} (h : w ∈ gW) : w ∈ lw_tbl := (List.mem_filter.mp h).1
theorem KS_start {args : Array Value} {s : State} (hts : ∀ w ∈ lw_tbl, w.before args s = true) : ∃ D cA, KS D cA s := by
  have hgw : ∀ w ∈ gW, w.before args s = true := fun w h => hts w (gW_tbl h)
  have hao : ∀ C ∈ aoL, va_AO C s := by
    intro C hC
    have : Cond.arrayOver (.object C) ∈ lw_tbl := by
      simp only [aoL, List.mem_cons, List.not_mem_nil, or_false] at hC
      rcases hC with rfl | rfl | rfl | rfl | rfl | rfl | rfl
      all_goals decide +kernel
    exact va_AO.of (hts _ this)
  have hcl : ∀ ci : Nat, ∃ q : ClassId × (Nat → Nat), ∀ x : vw_C, vwCl[ci]? = some x → u_Kn s x.1 x.2.1 x.2.2 q.1 q.2 := by
    intro ci
    by_cases hci : ci < 13
    · obtain ⟨T, hc, hin, hty, hnm, hfn, hinst, hini⟩ := okK_all hci
      obtain ⟨cC, iS, hK⟩ := u_known (C := onm ci) (T := T) (N := nfd ci) hgw hin (hgw _ hinst)
      refine ⟨(cC, iS), fun x hx => ?_⟩
      have := Option.some.inj (hc.symm.trans hx)
      rw [← this]
      exact hK
    · exact ⟨(0, fun _ => 0), fun x hx => absurd (vw_lt hx) hci⟩
  obtain ⟨c0, h0, h0'⟩ := arr_b (hgw _ ak_0)
  obtain ⟨c1, h1, h1'⟩ := arr_b (hgw _ ak_1)
  obtain ⟨c2, h2, h2'⟩ := arr_b (hgw _ ak_2)
  obtain ⟨c3, h3, h3'⟩ := arr_b (hgw _ ak_3)
  obtain ⟨c4, h4⟩ := arr_o (hao RX0 (by simp [aoL]))
  obtain ⟨c5, h5⟩ := arr_o (hao RX1 (by simp [aoL]))
  obtain ⟨c7, h7⟩ := arr_o (hao RX3 (by simp [aoL]))
  obtain ⟨c8, h8⟩ := arr_o (hao RX4 (by simp [aoL]))
  obtain ⟨c10, h10⟩ := arr_o (hao RX6 (by simp [aoL]))
  obtain ⟨c12, h12⟩ := arr_o (hao RX8 (by simp [aoL]))
  obtain ⟨c13, h13⟩ := arr_o (hao RX9 (by simp [aoL]))
  refine ⟨(fun ci => (Classical.choose (hcl ci)).1, fun ci => (Classical.choose (hcl ci)).2), fun j => [c0, c1, c2, c3, c4, c5, 0, c7, c8, 0, c10, 0, c12, c13].getD j 0, ⟨fun ci x hx => Classical.choose_spec (hcl ci) x hx, fun k q hq => ?_⟩, fun w hw => ?_, hao⟩
  · match k, hq with
    | 0, hq => cases hq; exact ⟨h0, h0'⟩
    | 1, hq => cases hq; exact ⟨h1, h1'⟩
    | 2, hq => cases hq; exact ⟨h2, h2'⟩
    | 3, hq => cases hq; exact ⟨h3, h3'⟩
    | 4, hq => cases hq; exact h4
    | 5, hq => cases hq; exact h5
    | 6, hq => cases hq; exact h7
    | 7, hq => cases hq; exact h8
    | 8, hq => cases hq; exact h10
    | 9, hq => cases hq; exact h12
    | 10, hq => cases hq; exact h13
    | k + 11, hq => simp [tysG] at hq
  · have h := hts _ (nW_in w hw)
    rcases nW_form w hw with ⟨a, i, b, n, d, ho, rfl⟩ | ⟨a, i, x, ho, rfl⟩
    · exact va_Nw.of rfl h
    · exact va_Nw.of rfl h
