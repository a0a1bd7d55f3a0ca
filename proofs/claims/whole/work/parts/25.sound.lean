def MQc (D : va_G) (cA : Nat → ClassId) (g : GG) (base : Nat) (r : Option AV) (σ' : St) : Array Value → State → Outcome → State → Prop := fun _ st oc t => oc = .returned (r.map (cv g)) ∧ Wd D cA g base σ' t t.heap ∧ va_F (fun q => base ≤ q) st t
def wsM (μ : Nat) : List Cond := Cond.code (nam μ) (cod μ) (mxl μ) (rt μ) :: gW
def rmM (d mc ms : Nat) : Room := { frames := d + 1, cells := mc, slots := ms, locals := 40 * (d + 1) }
def PcM (D : va_G) (cA : Nat → ClassId) (g : GG) (base : Nat) (a : List AV) (σ : St) : Array Value → State → Prop := va_Pc (a.map (cv g)) (fun U => Wd D cA g base σ U U.heap ∧ KS D cA U)
def MM (l : Launch) (D : va_G) (cA : Nat → ClassId) (g : GG) (base d : Nat) : Prop := ∀ (μ : Nat) (a : List AV) (σ σ' : St) (r : Option AV) (mc ms : Nat), μ < 218 → entOK μ a = true → Rn d (fun r' s' => r' = r ∧ s' = σ') (μ, 0, ent μ a, [], σ) → Agree g σ' → mc + gH σ = gH σ' → ms + gS σ = gS σ' →
  Met l (nam μ) (wsM μ) (rmM d mc ms) (PcM D cA g base a σ) (MQc D cA g base r σ') mc ms (fun q => base ≤ q)
theorem PcM_blind {D : va_G} {cA : Nat → ClassId} {g : GG} {base : Nat} {a : List AV} {σ : St} : FrameBlind (PcM D cA g base a σ) := fun _ U _ _ q => ⟨q.1, Wd.moved (Vm.Alike.refl U.vm) q.2.1, KS.same (s := U) (show U.vm = _ from rfl) q.2.2⟩
theorem okW_of {μ : Nat} (h : μ < 218) : Cond.code (nam μ) (cod μ) (mxl μ) (rt μ) ∈ gW ∧ plainName (nam μ).cls = true ∧ mxl μ ≤ 20 ∧ (nam μ).cls = onm (ow μ) ∧ ((nam μ).cls ≠ "java/lang/invoke/MethodHandle" ∧ (nam μ).cls ≠ "java/lang/invoke/VarHandle") ∧ Cond.initialized (nam μ).cls ∈ gW := pL_ok (pQ μ) (pQ_L h)
theorem wsM_good {μ : Nat} (h : μ < 218) : GoodIn gW (wsM μ) := gW_good0 (okW_of h).1
def RetH (p : Program) (l : Launch) (e : Env) (R : Room) (s : State) (m : MethodId) (args : Array Value) (below : List Frame) (meth : Method) (c : Code) (Qf : State → Prop) (D : va_G) (cA : Nat → ClassId) (g : GG) (base μ : Nat) (σ0 σ1 : St) (r1 : Option AV) : Prop :=
  ∀ (pc : Nat) (H : Heap) (locs : List Loc) (cells slots : Nat) (lsc : Array Slot), Wd D cA g base σ1 s H → va_S (fun q => base ≤ q) s.heap H locs → cells + gH σ0 = gH σ1 → slots + gS σ0 = gS σ1 →
    (∀ x : Int32, decode (cod μ) pc = .ok (.ireturn, 1) → r1 = some (vI x) → (rt μ = some .int ∨ (rt μ = some .boolean ∧ (x = 0 ∨ x = 1))) → W p l e R s m args below meth c H locs cells slots Qf (F0 m pc lsc [.int x])) ∧
    (∀ x : Int64, decode (cod μ) pc = .ok (.lreturn, 1) → r1 = some (vL x) → rt μ = some .long → W p l e R s m args below meth c H locs cells slots Qf (F0 m pc lsc [.long x])) ∧
    (∀ x : Option (Nat × Nat × Nat), decode (cod μ) pc = .ok (.areturn, 1) → r1 = some (vR x) → (∃ n, rt μ = some (.object n)) → W p l e R s m args below meth c H locs cells slots Qf (F0 m pc lsc [cv g (vR x)])) ∧
    (decode (cod μ) pc = .ok (.return_, 1) → r1 = none → rt μ = none → W p l e R s m args below meth c H locs cells slots Qf (F0 m pc lsc []))
section SND
variable {p : Program} {l : Launch} {e : Env} {R : Room} {s : State} {m : MethodId} {args : Array Value} {below : List Frame} {meth : Method} {c : Code} {Qf : State → Prop} {D : va_G} {cA : Nat → ClassId} {g : GG} {base μ : Nat} {σ0 σ1 : St} {r1 : Option AV} {dd : Nat}
variable {pc : Nat} {ls : List (Option AV)} {st : List AV} {σ : St} {H : Heap} {locs : List Loc} {cells slots : Nat} {lsc : Array Slot}
theorem w_ret {mc ms : Nat} {r : Option AV} {σ' : St} {a : Array Value} {st0 rest : List Value} (hr : va_Run p l e R s m args below meth c H locs cells slots mc ms (F0 m pc lsc st0) rest (MQc D cA g base r σ' a) (fun q => base ≤ q)) (hS : va_S (fun q => base ≤ q) s.heap H locs)
    (kk : ∀ (H1 : Heap) (locs1 : List Loc), Wd D cA g base σ' s H1 → va_S (fun q => base ≤ q) s.heap H1 locs1 → W p l e R s m args below meth c H1 locs1 (cells + mc) (slots + ms) Qf (F0 m (pc + 3) lsc ((r.map (cv g)).toList ++ rest))) : W p l e R s m args below meth c H locs cells slots Qf (F0 m pc lsc st0) := by
  intro T hT X
  obtain ⟨v, st₀, t, T', L, h0, X', hL, e1, e2, ⟨hv, hW, hz, hk⟩, st⟩ := hr T hT X
  cases hv
  have hal : t.vm.Alike s.vm := by rw [← e2]; exact X'.warmed.alike.symm
  rw [h0] at hz hk
  obtain ⟨t2, a1, b1⟩ := kk T'.heap (locs ++ L) (by rw [e1]; exact hW.moved hal)
    ⟨Nat.le_trans hS.1 (by rw [e1]; exact hz), fun q h1 h2 => by rw [e1, hk q (Nat.lt_of_lt_of_le h1 hS.1) h2]; exact hS.2.1 q h1 h2, fun q hq => by
      rcases List.mem_append.mp hq with h | h
      · exact hS.2.2 q h
      · exact hL q h⟩ T' rfl X'
  exact ⟨t2, st t2 a1, b1⟩
theorem call_PP (hg : Agree g σ1) (hMM : ∀ d', dd = d' + 1 → MM l D cA g base d') (hRc : gH σ1 ≤ R.cells + gH σ0) (hRs : gS σ1 ≤ R.slots + gS σ0) {μ' : Nat} {a rest : List AV} (hμ : μ' < 218) (h : Sd (clo dd) (fun x => Mn x.2.2.2.2 σ1 ∧ PP p l e R s m args below meth c Qf D cA g base μ σ0 x) (fun r' s' => r' = r1 ∧ s' = σ1) (call μ' a μ (pc + 3) ls rest σ))
    (hrun : ∀ (d' mc ms : Nat) (r2 : Option AV) (σ2 : St) (H : Heap) (locs : List Loc) (cells slots : Nat) (lsc : Array Slot), dd = d' + 1 → (rest.map cat).sum ≤ 8 → cells + mc ≤ R.cells → slots + ms ≤ R.slots → Wd D cA g base σ s H → LSx g ls lsc (mxl μ) → Met l (nam μ') (wsM μ') (rmM d' mc ms) (PcM D cA g base a σ) (MQc D cA g base r2 σ2) mc ms (fun q => base ≤ q) →
      va_Run p l e R s m args below meth c H locs cells slots mc ms (F0 m pc lsc (st.map (cv g))) (rest.map (cv g)) (MQc D cA g base r2 σ2 (a.map (cv g)).toArray) (fun q => base ≤ q)) : PP p l e R s m args below meth c Qf D cA g base μ σ0 (μ, pc, ls, st, σ) := by
  unfold call at h
  have hz := if_inv h; clear h; obtain ⟨⟨hent, hcat⟩, h⟩ := hz
  cases dd with
  | zero => exact h.elim
  | succ d' =>
    obtain ⟨r2, σ2, ⟨hM2, hP2⟩, hR2⟩ := Rn_one (show Rn d' _ (μ', 0, ent μ' a, [], σ) from h)
    have hM12 : Mn σ σ2 := Rn_Mn hR2
    have hM2 : Mn σ2 σ1 := hM2
    have m1 := hM12.1
    have m2 := hM12.2.1
    have m3 := hM2.1
    have m4 := hM2.2.1
    intro e1 hl H locs cells slots lsc a1 a2 a3 a4 a5
    dsimp only at a4 a5
    have hMet := hMM d' rfl μ' a σ σ2 r2 (gH σ2 - gH σ) (gS σ2 - gS σ) hμ hent hR2 (hg.back hM2) (by omega) (by omega)
    refine w_ret (hrun d' _ _ r2 σ2 H locs cells slots lsc rfl hcat (by omega) (by omega) a1 a2 hMet) a3 (fun H1 locs1 hW1 hS1 => ?_)
    have hk := hP2 e1 hl H1 locs1 (cells + (gH σ2 - gH σ)) (slots + (gS σ2 - gS σ)) lsc hW1 a2 hS1 (by show _ = gH σ2; omega) (by show _ = gS σ2; omega)
    have hk : W p l e R s m args below meth c H1 locs1 (cells + (gH σ2 - gH σ)) (slots + (gS σ2 - gS σ)) Qf (F0 m (pc + 3) lsc ((r2.toList ++ rest).map (cv g))) := hk
    rw [List.map_append] at hk
    have hr : r2.toList.map (cv g) = (r2.map (cv g)).toList := by cases r2 <;> rfl
    rw [hr] at hk
    exact hk
theorem st_split {na : Nat} (hna : na ≤ st.length) : (F0 m pc lsc (st.map (cv g))).stack = ((st.take na).reverse.map (cv g)).reverse ++ (st.drop na).map (cv g) := by
  show st.map (cv g) = _
  rw [← List.map_reverse, List.reverse_reverse, ← List.map_append, List.take_append_drop]
theorem args_len {na : Nat} (hna : na ≤ st.length) : ((st.take na).reverse.map (cv g)).length = na := by
  rw [List.length_map, List.length_reverse, List.length_take]; omega
theorem hW8 {rest : List AV} (h : (rest.map cat).sum ≤ 8) : 2 * (F0 m pc lsc (st.map (cv g))).monitorRoom + ((rest.map (cv g)).map fun v => v.category).sum ≤ 8 := by
  rw [cat_sum]
  show 2 * 0 + _ ≤ 8
  omega
theorem hRoom {d' mc ms μ' : Nat} (hfr : dd + 1 ≤ R.frames) (hlo : 40 * (dd + 1) ≤ R.locals) (h : dd = d' + 1) (hμ : μ' < 218) : (rmM d' mc ms).frames + 1 ≤ R.frames ∧ 8 + (mxl μ' + 11) + (rmM d' mc ms).locals ≤ R.locals := by
  have := (okW_of hμ).2.2.1
  refine ⟨?_, ?_⟩
  · show d' + 1 + 1 ≤ _; omega
  · show 8 + (mxl μ' + 11) + 40 * (d' + 1) ≤ _; omega
theorem k_invokevirtual (C : Cx D cA μ p s m args meth c) (hg : Agree g σ1) (hMM : ∀ d', dd = d' + 1 → MM l D cA g base d') (hRc : gH σ1 ≤ R.cells + gH σ0) (hRs : gS σ1 ≤ R.slots + gS σ0) (hfr : dd + 1 ≤ R.frames) (hlo : 40 * (dd + 1) ≤ R.locals) {idx : Nat} (hd : decode (cod μ) pc = .ok (.invokevirtual idx, 3)) (h : Sd (clo dd) (fun x => Mn x.2.2.2.2 σ1 ∧ PP p l e R s m args below meth c Qf D cA g base μ σ0 x) (fun r' s' => r' = r1 ∧ s' = σ1) (match mthQ (ow μ) idx with
    | some (0, μ', na) => if na ≤ st.length then popO (ow μ') σ (st.drop na) fun i r => call μ' (vR (some (ow μ', 0, i)) :: (st.take na).reverse) μ (pc + 3) ls r σ else none
    | _ => none)) : PP p l e R s m args below meth c Qf D cA g base μ σ0 (μ, pc, ls, st, σ) := by
  split at h
  · next μ' na hq =>
    have hz := if_inv h; clear h; obtain ⟨hna, h⟩ := hz
    have hz := popO_inv h; clear h; obtain ⟨i, r, hdrop, hi, h⟩ := hz
    have hok := mth_ok hq
    rcases hok with ⟨-, hμ, hlink, hinst, hsel, how, hpar⟩ | ⟨h0, -⟩ | ⟨h0, -⟩ | ⟨_, h0, -⟩ | ⟨_, h0, -⟩ | ⟨h0, -⟩ | ⟨h0, -⟩ | ⟨h0, -⟩ | ⟨h0, -⟩
    · refine call_PP hg hMM hRc hRs hμ h (fun d' mc ms r2 σ2 H locs cells slots lsc hdd hcat hc1 hc2 hW hL hMet => ?_)
      have hPre : ∀ U : State, U.heap = H → s.WarmedH U.vm → PcM D cA g base (vR (some (ow μ', 0, i)) :: (st.take na).reverse) σ ((vR (some (ow μ', 0, i)) :: (st.take na).reverse).map (cv g)).toArray U := fun U hU hWm => ⟨rfl, by rw [hU]; exact hW.moved hWm.alike, KS.warm hWm C.2.2.2.2.2.1⟩
      have hS' : CallFix p m c (cod μ) (mxl μ) s args gW (onm (ow μ)) := ⟨C.1, C.2.1, C.2.2.1, C.2.2.2.1, C.2.2.2.2.1⟩
      have hR' := hRoom (mc := mc) (ms := ms) hfr hlo hdd hμ
      have hokW := okW_of hμ
      have hobj := Wd.obj hW how hi
      obtain ⟨T, hcl, -⟩ := okK_all how
      refine va_runV (b := g (ow μ') 0 i) (As := (st.take na).reverse.map (cv g)) (C := onm (ow μ')) (n := na) hS' hMet ⟨callB_of na C.2.2.2.2.1 (wsM_good hμ) rfl rfl rfl (C.2.2.2.2.1 _ hokW.2.2.2.2.2) (C.2.2.2.2.1 _ hlink) ⟨hokW.2.2.2.2.1.1, hokW.2.2.2.2.1.2, hpar⟩ hR', C.2.2.2.2.1 _ hinst, C.2.2.2.2.1 _ hsel⟩ ⟨PcM_blind, va_recv C.2.2.2.2.2.1.1 (P1 hobj.1) hcl (q0 := 0) rfl, hPre⟩ rfl (args_len hna) hL.1 ?_ (hW8 hcat) hd ⟨hc1, hc2⟩
      rw [st_split hna, hdrop]
      rfl
    all_goals cases h0
  · exact h.elim
theorem k_mmax (C : Cx D cA μ p s m args meth c) (hRc : gH σ1 ≤ R.cells + gH σ0) (hRs : gS σ1 ≤ R.slots + gS σ0) (hfr : dd + 1 ≤ R.frames) (hlo : 40 * (dd + 1) ≤ R.locals) {idx : Nat} (hlink : Cond.methodLink (onm (ow μ)) idx Lib.Math.max.name ∈ gW) (hd : decode (cod μ) pc = .ok (.invokestatic idx, 3)) (h : Sd (clo dd) (fun x => Mn x.2.2.2.2 σ1 ∧ PP p l e R s m args below meth c Qf D cA g base μ σ0 x) (fun r' s' => r' = r1 ∧ s' = σ1) (popI st fun y r => popI r fun x r => if (r.map cat).sum ≤ 8 then nx μ (pc + 3) ls (vI (if x < y then y else x) :: r) σ else none)) : PP p l e R s m args below meth c Qf D cA g base μ σ0 (μ, pc, ls, st, σ) := by
  have hz := popI_inv h; clear h; obtain ⟨y, r, rfl, h⟩ := hz
  have hz := popI_inv h; clear h; obtain ⟨x, r, rfl, h⟩ := hz
  have hz := if_inv h; clear h; obtain ⟨hcat, hM, h⟩ := hz
  have hM : Mn σ σ1 := hM
  have m1 := hM.1
  have m2 := hM.2.1
  intro e1 hl H locs cells slots lsc a1 a2 a3 a4 a5
  dsimp only at a4 a5
  refine va_mmax C.1 C.2.1 (by rw [C.2.2.1]; exact a2.1.symm) C.2.2.2.1 (C.2.2.2.2.1 _ hlink) (C.2.2.2.2.1 _ mmax_1) (C.2.2.2.2.1 _ mm_ini) (C.2.2.2.2.1 _ mmax_2) (by omega) (by rw [cat_sum]; omega) (by omega) (by omega) hd ?_
  exact h e1 hl H locs cells slots lsc a1 a2 a3 a4 a5
theorem k_mmin (C : Cx D cA μ p s m args meth c) (hRc : gH σ1 ≤ R.cells + gH σ0) (hRs : gS σ1 ≤ R.slots + gS σ0) (hfr : dd + 1 ≤ R.frames) (hlo : 40 * (dd + 1) ≤ R.locals) {idx : Nat} (hlink : Cond.methodLink (onm (ow μ)) idx Lib.Math.min.name ∈ gW) (hd : decode (cod μ) pc = .ok (.invokestatic idx, 3)) (h : Sd (clo dd) (fun x => Mn x.2.2.2.2 σ1 ∧ PP p l e R s m args below meth c Qf D cA g base μ σ0 x) (fun r' s' => r' = r1 ∧ s' = σ1) (popI st fun y r => popI r fun x r => if (r.map cat).sum ≤ 8 then nx μ (pc + 3) ls (vI (if y < x then y else x) :: r) σ else none)) : PP p l e R s m args below meth c Qf D cA g base μ σ0 (μ, pc, ls, st, σ) := by
  have hz := popI_inv h; clear h; obtain ⟨y, r, rfl, h⟩ := hz
  have hz := popI_inv h; clear h; obtain ⟨x, r, rfl, h⟩ := hz
  have hz := if_inv h; clear h; obtain ⟨hcat, hM, h⟩ := hz
  have hM : Mn σ σ1 := hM
  have m1 := hM.1
  have m2 := hM.2.1
  intro e1 hl H locs cells slots lsc a1 a2 a3 a4 a5
  dsimp only at a4 a5
  refine va_mmin C.1 C.2.1 (by rw [C.2.2.1]; exact a2.1.symm) C.2.2.2.1 (C.2.2.2.2.1 _ hlink) (C.2.2.2.2.1 _ mmin_1) (C.2.2.2.2.1 _ mm_ini) (C.2.2.2.2.1 _ mmin_2) (by omega) (by rw [cat_sum]; omega) (by omega) (by omega) hd ?_
  exact h e1 hl H locs cells slots lsc a1 a2 a3 a4 a5
theorem w_copy (C : Cx D cA μ p s m args meth c) (hml : c.maxLocals = lsc.size) {idx : Nat} (hlink : Cond.methodLink (onm (ow μ)) idx arraycopyName ∈ gW) {a0 a : Nat} {n0 n1 : Nat} {f f1 : Nat → Int32} {rest : List Value} (hc0 : H[a0]? = some (vp_cell (cA 1) (n0, .inl f))) (hc1 : H[a]? = some (vp_cell (cA 1) (n1, .inl f1)))
    {sp dp n : Int32} (h1 : ¬ sp < 0) (h2 : ¬ dp < 0) (h3 : ¬ n < 0) (h4 : sp.toNatClampNeg + n.toNatClampNeg ≤ n0) (h5 : dp.toNatClampNeg + n.toNatClampNeg ≤ n1) (hframes : 1 ≤ R.frames) (hlocals : (rest.map fun v => v.category).sum + (nativeFrameWords "java/lang/System" "arraycopy" 5 + 11) ≤ R.locals) (hd : decode (cod μ) pc = .ok (.invokestatic idx, 3))
    (kk : ∀ (H1 : Heap) (L : List Loc), H1[a]? = some (vp_cell (cA 1) (n1, .inl (va_cpy f f1 sp.toNatClampNeg dp.toNatClampNeg n.toNatClampNeg))) → H1.size = H.size → (∀ q, q ≠ a → H1[q]? = H[q]?) → (∀ q ∈ L, q.base = a) → W p l e R s m args below meth c H1 (locs ++ L) cells slots Qf (F0 m (pc + 3) lsc rest)) : W p l e R s m args below meth c H locs cells slots Qf (F0 m pc lsc (.int n :: .int dp :: .ref a :: .int sp :: .ref a0 :: rest)) := by
  obtain ⟨hx, hb, hml0, hown, hts, hK, -⟩ := C
  have nn : ∀ z : Int32, ¬ z < 0 → z.toInt = (z.toNatClampNeg : Int) := by
    intro z hz
    have hz0 : (0 : Int) ≤ z.toInt := by
      have := Int32.not_lt.mp hz
      simpa using Int32.le_iff_toInt_le.mp this
    show z.toInt = ((z.toInt.toNat : Nat) : Int)
    omega
  intro T hT X
  obtain ⟨-, k0, hk0, cm0, hkk0⟩ := (hK.1.2 1 _ rfl).1 n0 (fun j => .int (f j))
  obtain ⟨-, k1, hk1, cm1, hkk1⟩ := (hK.1.2 1 _ rfl).1 n1 (fun j => .int (f1 j))
  obtain ⟨vm', X', step⟩ := X.arraycopy hx hown (hts _ hlink) (hts _ ac_1) (hts _ ac_2) (hts _ ac_3) (src := a0) (dst := a) (cs := vp_cell (cA 1) (n0, .inl f)) (cd := vp_cell (cA 1) (n1, .inl f1)) (srcPos := sp) (destPos := dp) (n := n) (by rw [hT]; exact hc0) (by rw [hT]; exact hc1)
    (fun _ h => by cases h) (fun _ h => by cases h) (fun h => by cases h) (fun h => by cases h) hk0 hk1 hkk0 hkk1 (by simp [refKind]) h1 h2 h3
    (by rw [nn sp h1, nn n h3]; show ¬ _ > ((arrV (cA 1) n0 (fun j => .int (f j))).slots.size : Int); rw [arrV_size]; omega)
    (by rw [nn dp h2, nn n h3]; show ¬ _ > ((arrV (cA 1) n1 (fun j => .int (f1 j))).slots.size : Int); rw [arrV_size]; omega)
    (fun vm₁ _ i hi => by
      have e : (vp_cell (cA 1) (n0, .inl f)).slots.getD (sp.toNatClampNeg + i) .null = .int (f (sp.toNatClampNeg + i)) := by
        show (arrV (cA 1) n0 (fun j => .int (f j))).slots.getD _ _ = _
        rw [Array.getD_eq_getD_getElem?, arrV_read _ _ (by omega)]
        rfl
      refine ⟨?_, ?_⟩
      · rw [e]
        rfl
      · rw [e]
        exact trivial)
    (g := F0 m pc lsc (.int n :: .int dp :: .ref a :: .int sp :: .ref a0 :: rest)) rfl (by rw [hml]) (rest := rest) rfl (by rw [hb]; exact hd) hframes (by show 2 * 0 + _ + _ ≤ _; omega)
  have e1 : copied (vp_cell (cA 1) (n0, .inl f)) (vp_cell (cA 1) (n1, .inl f1)) sp dp n = vp_cell (cA 1) (n1, .inl (va_cpy f f1 sp.toNatClampNeg dp.toNatClampNeg n.toNatClampNeg)) := va_copied (fun z => .int z) (cA 1) (cA 1) f f1 h4
  rw [e1] at X' step
  have hl : a < H.size := (Array.getElem?_eq_some_iff.mp hc1).1
  have hheap : ((T.setVm vm').setCell a (vp_cell (cA 1) (n1, .inl (va_cpy f f1 sp.toNatClampNeg dp.toNatClampNeg n.toNatClampNeg)))).heap = H.setIfInBounds a (vp_cell (cA 1) (n1, .inl (va_cpy f f1 sp.toNatClampNeg dp.toNatClampNeg n.toNatClampNeg))) := by rw [← hT]; rfl
  obtain ⟨t, a1, b1⟩ := kk _ _ (show (H.setIfInBounds a _)[a]? = some _ by simp [Array.getElem?_setIfInBounds, hl]) (by simp) (fun q hq => by simp [Array.getElem?_setIfInBounds, Ne.symm hq]) (fun q h => by
    obtain ⟨z, -, hz⟩ := List.mem_map.mp h
    rw [← hz]) _ hheap X'
  exact ⟨t, step t a1, b1⟩
theorem k_acopy (C : Cx D cA μ p s m args meth c) (hfr : dd + 1 ≤ R.frames) (hlo : 40 * (dd + 1) ≤ R.locals) {idx : Nat} (hlink : Cond.methodLink (onm (ow μ)) idx arraycopyName ∈ gW) (hd : decode (cod μ) pc = .ok (.invokestatic idx, 3)) (h : Sd (clo dd) (fun x => Mn x.2.2.2.2 σ1 ∧ PP p l e R s m args below meth c Qf D cA g base μ σ0 x) (fun r' s' => r' = r1 ∧ s' = σ1) (acopy μ (pc + 3) ls st σ)) : PP p l e R s m args below meth c Qf D cA g base μ σ0 (μ, pc, ls, st, σ) := by
  unfold acopy at h
  have hz := popI_inv h; clear h; obtain ⟨n, r, rfl, h⟩ := hz
  have hz := popI_inv h; clear h; obtain ⟨dp, r, rfl, h⟩ := hz
  have hz := popW_inv h; clear h; obtain ⟨c1, k1, i1, n1, r, rfl, hl1, hi1, h⟩ := hz
  have hz := popI_inv h; clear h; obtain ⟨sp, r, rfl, h⟩ := hz
  have hz := popW_inv h; clear h; obtain ⟨c0, k0, i0, n0, r, rfl, hl0, hi0, h⟩ := hz
  have hz := if_inv h; clear h; obtain ⟨⟨hc0, hc1, hf0, hf1, hne, hsp, hdp, hn, h4, h5, hcat⟩, h⟩ := hz
  intro e1 hl H locs cells slots lsc a1 a2 a3 a4 a5
  have hr0 := Wd.row a1 hc0 hi0 hl0
  have hr1 := Wd.row a1 hc1 hi1 hl1
  have hP0 := hr0.1
  have hP1 := hr1.1
  rw [ct_num hf0 hl0] at hP0
  rw [ct_num hf1 hl1] at hP1
  have hnf : nativeFrameWords "java/lang/System" "arraycopy" 5 ≤ 20 := by decide +kernel
  refine w_copy C (by rw [C.2.2.1]; exact a2.1.symm) hlink hP0 hP1 hsp hdp hn h4 h5 (by omega) (by rw [cat_sum]; omega) hd (fun H1 L b1 b2 b3 b4 => ?_)
  have hW2 := Wd.set (σ' := setA σ c1 k1 i1 (va_cpy (gA σ c0 k0 i0) (gA σ c1 k1 i1) sp.toNatClampNeg dp.toNatClampNeg n.toNatClampNeg)) a1 rfl rfl rfl (up3_ne (fun z => by omega)) ⟨hc1, hi1, by show gL σ c1 k1 i1 ≠ none; rw [hl1]; exact fun z => by cases z⟩ b2 (by
    have hl2 : gL (setA σ c1 k1 i1 (va_cpy (gA σ c0 k0 i0) (gA σ c1 k1 i1) sp.toNatClampNeg dp.toNatClampNeg n.toNatClampNeg)) c1 k1 i1 = some n1 := hl1
    rw [ct_num hf1 hl2]
    have hga : gA (setA σ c1 k1 i1 (va_cpy (gA σ c0 k0 i0) (gA σ c1 k1 i1) sp.toNatClampNeg dp.toNatClampNeg n.toNatClampNeg)) c1 k1 i1 = va_cpy (gA σ c0 k0 i0) (gA σ c1 k1 i1) sp.toNatClampNeg dp.toNatClampNeg n.toNatClampNeg := up3_eq
    rw [hga]
    exact b1) b3 ct_setA
  refine h.2 e1 hl H1 _ cells slots lsc hW2 a2 ⟨by rw [b2]; exact a3.1, fun q w1 w2 => ?_, fun q hq => ?_⟩ a4 a5
  · rw [b3 q (fun z => w2 (by rw [z]; exact hr1.2))]
    exact a3.2.1 q w1 w2
  · rcases List.mem_append.mp hq with w | w
    · exact a3.2.2 q w
    · rw [b4 q w]; exact hr1.2
theorem k_invokestatic (C : Cx D cA μ p s m args meth c) (hg : Agree g σ1) (hMM : ∀ d', dd = d' + 1 → MM l D cA g base d') (hRc : gH σ1 ≤ R.cells + gH σ0) (hRs : gS σ1 ≤ R.slots + gS σ0) (hfr : dd + 1 ≤ R.frames) (hlo : 40 * (dd + 1) ≤ R.locals) {idx : Nat} (hd : decode (cod μ) pc = .ok (.invokestatic idx, 3)) (h : Sd (clo dd) (fun x => Mn x.2.2.2.2 σ1 ∧ PP p l e R s m args below meth c Qf D cA g base μ σ0 x) (fun r' s' => r' = r1 ∧ s' = σ1) (match mthQ (ow μ) idx with
    | some (1, μ', na) => if na ≤ st.length then call μ' (st.take na).reverse μ (pc + 3) ls (st.drop na) σ else none
    | some (4, μ', na) => if na ≤ st.length then call μ' (st.take na).reverse μ (pc + 3) ls (st.drop na) σ else none
    | some (7, _, _) => acopy μ (pc + 3) ls st σ
    | some (8, _, _) => popI st fun y r => popI r fun x r => if (r.map cat).sum ≤ 8 then nx μ (pc + 3) ls (vI (if x < y then y else x) :: r) σ else none
    | some (9, _, _) => popI st fun y r => popI r fun x r => if (r.map cat).sum ≤ 8 then nx μ (pc + 3) ls (vI (if y < x then y else x) :: r) σ else none
    | _ => none)) : PP p l e R s m args below meth c Qf D cA g base μ σ0 (μ, pc, ls, st, σ) := by
  split at h
  · next μ' na hq =>
      have hz := if_inv h; clear h; obtain ⟨hna, h⟩ := hz
      have hok := mth_ok hq
      rcases hok with ⟨h0, -⟩ | ⟨-, hμ, hlink, hst, hpar⟩ | ⟨h0, -⟩ | ⟨_, h0, -⟩ | ⟨_, h0, -⟩ | ⟨h0, -⟩ | ⟨h0, -⟩ | ⟨h0, -⟩ | ⟨h0, -⟩
      · cases h0
      · refine call_PP hg hMM hRc hRs hμ h (fun d' mc ms r2 σ2 H locs cells slots lsc hdd hcat hc1 hc2 hW hL hMet => ?_)
        have hPre : ∀ U : State, U.heap = H → s.WarmedH U.vm → PcM D cA g base (st.take na).reverse σ ((st.take na).reverse.map (cv g)).toArray U := fun U hU hWm => ⟨rfl, by rw [hU]; exact hW.moved hWm.alike, KS.warm hWm C.2.2.2.2.2.1⟩
        have hS' : CallFix p m c (cod μ) (mxl μ) s args gW (onm (ow μ)) := ⟨C.1, C.2.1, C.2.2.1, C.2.2.2.1, C.2.2.2.2.1⟩
        have hR' := hRoom (mc := mc) (ms := ms) hfr hlo hdd hμ
        have hokW := okW_of hμ
        exact va_runS (As := (st.take na).reverse.map (cv g)) (n := na) hS' hMet ⟨callB_of na C.2.2.2.2.1 (wsM_good hμ) rfl rfl rfl (C.2.2.2.2.1 _ hokW.2.2.2.2.2) (C.2.2.2.2.1 _ hlink) ⟨hokW.2.2.2.2.1.1, hokW.2.2.2.2.1.2, hpar⟩ hR', C.2.2.2.2.1 _ hst⟩ ⟨PcM_blind, hPre⟩ rfl (args_len hna) hL.1 (st_split hna) (hW8 hcat) hd ⟨hc1, hc2⟩
      · cases h0
      · cases h0
      · cases h0
      · cases h0
      · cases h0
      · cases h0
      · cases h0
  · next μ' na hq =>
      have hz := if_inv h; clear h; obtain ⟨hna, h⟩ := hz
      have hok := mth_ok hq
      rcases hok with ⟨h0, -⟩ | ⟨h0, -⟩ | ⟨h0, -⟩ | ⟨host, -, hμ, hlink, hst, hpar⟩ | ⟨_, h0, -⟩ | ⟨h0, -⟩ | ⟨h0, -⟩ | ⟨h0, -⟩ | ⟨h0, -⟩
      · cases h0
      · cases h0
      · cases h0
      · refine call_PP hg hMM hRc hRs hμ h (fun d' mc ms r2 σ2 H locs cells slots lsc hdd hcat hc1 hc2 hW hL hMet => ?_)
        have hPre : ∀ U : State, U.heap = H → s.WarmedH U.vm → PcM D cA g base (st.take na).reverse σ ((st.take na).reverse.map (cv g)).toArray U := fun U hU hWm => ⟨rfl, by rw [hU]; exact hW.moved hWm.alike, KS.warm hWm C.2.2.2.2.2.1⟩
        have hS' : CallFix p m c (cod μ) (mxl μ) s args gW (onm (ow μ)) := ⟨C.1, C.2.1, C.2.2.1, C.2.2.2.1, C.2.2.2.2.1⟩
        have hR' := hRoom (mc := mc) (ms := ms) hfr hlo hdd hμ
        have hokW := okW_of hμ
        exact va_runSN (As := (st.take na).reverse.map (cv g)) (n := na) hS' hMet ⟨va_cnB na C.2.2.2.2.1 (wsM_good hμ) rfl rfl rfl (C.2.2.2.2.2.1.2.1 _ hlink) (C.2.2.2.2.1 _ hokW.2.2.2.2.2) ⟨hokW.2.2.2.2.1.1, hokW.2.2.2.2.1.2, hpar⟩ hR', C.2.2.2.2.1 _ hst, trivial⟩ ⟨PcM_blind, hPre⟩ rfl (args_len hna) hL.1 (st_split hna) (hW8 hcat) hd ⟨hc1, hc2⟩
      · cases h0
      · cases h0
      · cases h0
      · cases h0
      · cases h0
  · next hq =>
    have hok := mth_ok hq
    rcases hok with ⟨h0, -⟩ | ⟨h0, -⟩ | ⟨h0, -⟩ | ⟨_, h0, -⟩ | ⟨_, h0, -⟩ | ⟨h0, -⟩ | ⟨-, hlink⟩ | ⟨h0, -⟩ | ⟨h0, -⟩
    · cases h0
    · cases h0
    · cases h0
    · cases h0
    · cases h0
    · cases h0
    · exact k_acopy C hfr hlo hlink hd h
    · cases h0
    · cases h0
  · next hq =>
    have hok := mth_ok hq
    rcases hok with ⟨h0, -⟩ | ⟨h0, -⟩ | ⟨h0, -⟩ | ⟨_, h0, -⟩ | ⟨_, h0, -⟩ | ⟨h0, -⟩ | ⟨h0, -⟩ | ⟨-, hlink⟩ | ⟨h0, -⟩
    · cases h0
    · cases h0
    · cases h0
    · cases h0
    · cases h0
    · cases h0
    · cases h0
    · exact k_mmax C hRc hRs hfr hlo hlink hd h
    · cases h0
  · next hq =>
    have hok := mth_ok hq
    rcases hok with ⟨h0, -⟩ | ⟨h0, -⟩ | ⟨h0, -⟩ | ⟨_, h0, -⟩ | ⟨_, h0, -⟩ | ⟨h0, -⟩ | ⟨h0, -⟩ | ⟨h0, -⟩ | ⟨-, hlink⟩
    · cases h0
    · cases h0
    · cases h0
    · cases h0
    · cases h0
    · cases h0
    · cases h0
    · cases h0
    · exact k_mmin C hRc hRs hfr hlo hlink hd h
  · exact h.elim
theorem k_invokespecial (C : Cx D cA μ p s m args meth c) (hg : Agree g σ1) (hMM : ∀ d', dd = d' + 1 → MM l D cA g base d') (hRc : gH σ1 ≤ R.cells + gH σ0) (hRs : gS σ1 ≤ R.slots + gS σ0) (hfr : dd + 1 ≤ R.frames) (hlo : 40 * (dd + 1) ≤ R.locals) {idx : Nat} (hd : decode (cod μ) pc = .ok (.invokespecial idx, 3)) (h : Sd (clo dd) (fun x => Mn x.2.2.2.2 σ1 ∧ PP p l e R s m args below meth c Qf D cA g base μ σ0 x) (fun r' s' => r' = r1 ∧ s' = σ1) (match mthQ (ow μ) idx with
    | some (2, μ', na) => if na ≤ st.length then popO (ow μ') σ (st.drop na) fun i r => call μ' (vR (some (ow μ', 0, i)) :: (st.take na).reverse) μ (pc + 3) ls r σ else none
    | some (5, μ', na) => if na ≤ st.length then popO (ow μ') σ (st.drop na) fun i r => call μ' (vR (some (ow μ', 0, i)) :: (st.take na).reverse) μ (pc + 3) ls r σ else none
    | some (6, _, _) => popR st fun x r => match x with
      | some _ => if (r.map cat).sum ≤ 8 then nx μ (pc + 3) ls r σ else none
      | none => none
    | _ => none)) : PP p l e R s m args below meth c Qf D cA g base μ σ0 (μ, pc, ls, st, σ) := by
  split at h
  · next μ' na hq =>
      have hz := if_inv h; clear h; obtain ⟨hna, h⟩ := hz
      have hz := popO_inv h; clear h; obtain ⟨i, r, hdrop, hi, h⟩ := hz
      have hok := mth_ok hq
      rcases hok with ⟨h0, -⟩ | ⟨h0, -⟩ | ⟨-, hμ, hlink, hinst, hnm, hrt, hpar⟩ | ⟨_, h0, -⟩ | ⟨_, h0, -⟩ | ⟨h0, -⟩ | ⟨h0, -⟩ | ⟨h0, -⟩ | ⟨h0, -⟩
      · cases h0
      · cases h0
      · refine call_PP hg hMM hRc hRs hμ h (fun d' mc ms r2 σ2 H locs cells slots lsc hdd hcat hc1 hc2 hW hL hMet => ?_)
        have hPre : ∀ U : State, U.heap = H → s.WarmedH U.vm → PcM D cA g base (vR (some (ow μ', 0, i)) :: (st.take na).reverse) σ ((vR (some (ow μ', 0, i)) :: (st.take na).reverse).map (cv g)).toArray U := fun U hU hWm => ⟨rfl, by rw [hU]; exact hW.moved hWm.alike, KS.warm hWm C.2.2.2.2.2.1⟩
        have hS' : CallFix p m c (cod μ) (mxl μ) s args gW (onm (ow μ)) := ⟨C.1, C.2.1, C.2.2.1, C.2.2.2.1, C.2.2.2.2.1⟩
        have hR' := hRoom (mc := mc) (ms := ms) hfr hlo hdd hμ
        have hokW := okW_of hμ
        refine va_runI (b := g (ow μ') 0 i) (As := (st.take na).reverse.map (cv g)) (n := na) hS' hMet ⟨callB_of na C.2.2.2.2.1 (wsM_good hμ) (by rw [wsM, hrt]) rfl rfl (C.2.2.2.2.1 _ hokW.2.2.2.2.2) (C.2.2.2.2.1 _ hlink) ⟨hokW.2.2.2.2.1.1, hokW.2.2.2.2.1.2, hpar⟩ hR', hnm, C.2.2.2.2.1 _ hinst⟩ ⟨PcM_blind, hPre⟩ rfl (args_len hna) hL.1 ?_ (hW8 hcat) hd ⟨hc1, hc2⟩
        rw [st_split hna, hdrop]
        rfl
      · cases h0
      · cases h0
      · cases h0
      · cases h0
      · cases h0
      · cases h0
  · next μ' na hq =>
      have hz := if_inv h; clear h; obtain ⟨hna, h⟩ := hz
      have hz := popO_inv h; clear h; obtain ⟨i, r, hdrop, hi, h⟩ := hz
      have hok := mth_ok hq
      rcases hok with ⟨h0, -⟩ | ⟨h0, -⟩ | ⟨h0, -⟩ | ⟨_, h0, -⟩ | ⟨host, -, hμ, hlink, hinst, hnm, hrt, hpar⟩ | ⟨h0, -⟩ | ⟨h0, -⟩ | ⟨h0, -⟩ | ⟨h0, -⟩
      · cases h0
      · cases h0
      · cases h0
      · cases h0
      · refine call_PP hg hMM hRc hRs hμ h (fun d' mc ms r2 σ2 H locs cells slots lsc hdd hcat hc1 hc2 hW hL hMet => ?_)
        have hPre : ∀ U : State, U.heap = H → s.WarmedH U.vm → PcM D cA g base (vR (some (ow μ', 0, i)) :: (st.take na).reverse) σ ((vR (some (ow μ', 0, i)) :: (st.take na).reverse).map (cv g)).toArray U := fun U hU hWm => ⟨rfl, by rw [hU]; exact hW.moved hWm.alike, KS.warm hWm C.2.2.2.2.2.1⟩
        have hS' : CallFix p m c (cod μ) (mxl μ) s args gW (onm (ow μ)) := ⟨C.1, C.2.1, C.2.2.1, C.2.2.2.1, C.2.2.2.2.1⟩
        have hR' := hRoom (mc := mc) (ms := ms) hfr hlo hdd hμ
        have hokW := okW_of hμ
        refine va_runIN (b := g (ow μ') 0 i) (As := (st.take na).reverse.map (cv g)) (n := na) hS' hMet ⟨va_cnB na C.2.2.2.2.1 (wsM_good hμ) (by rw [wsM, hrt]) rfl rfl (C.2.2.2.2.2.1.2.1 _ hlink) (C.2.2.2.2.1 _ hokW.2.2.2.2.2) ⟨hokW.2.2.2.2.1.1, hokW.2.2.2.2.1.2, hpar⟩ hR', hnm, C.2.2.2.2.1 _ hinst⟩ ⟨PcM_blind, hPre⟩ rfl (args_len hna) hL.1 ?_ (hW8 hcat) hd ⟨hc1, hc2⟩
        rw [st_split hna, hdrop]
        rfl
      · cases h0
      · cases h0
      · cases h0
      · cases h0
  · next hq =>
    have hok := mth_ok hq
    have hz := popR_inv h; clear h; obtain ⟨x, r, rfl, h⟩ := hz
    match x, h with
    | none, h => exact h.elim
    | some (b1, b2, b3), h =>
      have hz := if_inv h; clear h; obtain ⟨hcat, hM, h⟩ := hz
      rcases hok with ⟨h0, -⟩ | ⟨h0, -⟩ | ⟨h0, -⟩ | ⟨_, h0, -⟩ | ⟨_, h0, -⟩ | ⟨-, hlink⟩ | ⟨h0, -⟩ | ⟨h0, -⟩ | ⟨h0, -⟩
      · cases h0
      · cases h0
      · cases h0
      · cases h0
      · cases h0
      · intro e1 hl H locs cells slots lsc a1 a2 a3 a4 a5
        refine W.objInit C.1 C.2.1 C.2.2.2.1 (C.2.2.2.2.1 _ hlink) (C.2.2.2.2.1 _ oi_1) (C.2.2.2.2.1 _ oi_2) rfl (by rw [C.2.2.1]; exact a2.1) rfl hd (by omega) ?_ (h e1 hl H locs cells slots lsc a1 a2 a3 a4 a5)
        rw [cat_sum]
        show 2 * 0 + _ + 12 ≤ _
        omega
      · cases h0
      · cases h0
      · cases h0
  · exact h.elim
theorem k_ireturn (C : Cx D cA μ p s m args meth c) (hret : RetH p l e R s m args below meth c Qf D cA g base μ σ0 σ1 r1) (hd : decode (cod μ) pc = .ok (.ireturn, 1)) (h : Sd (clo dd) (fun x => Mn x.2.2.2.2 σ1 ∧ PP p l e R s m args below meth c Qf D cA g base μ σ0 x) (fun r' s' => r' = r1 ∧ s' = σ1) (match st, rt μ with
    | [.inl x], some .int => rtn (some (vI x)) σ
    | [.inl x], some .boolean => if x = 0 ∨ x = 1 then rtn (some (vI x)) σ else none
    | _, _ => none)) : PP p l e R s m args below meth c Qf D cA g base μ σ0 (μ, pc, ls, st, σ) := by
  split at h
  · next hr =>
    obtain ⟨h1, rfl⟩ := h
    intro e1 hl H locs cells slots lsc a1 a2 a3 a4 a5
    exact (hret pc H locs cells slots lsc a1 a3 a4 a5).1 _ hd h1.symm (Or.inl hr)
  · next hr =>
    obtain ⟨hx, h1, rfl⟩ := if_inv h
    intro e1 hl H locs cells slots lsc a1 a2 a3 a4 a5
    exact (hret pc H locs cells slots lsc a1 a3 a4 a5).1 _ hd h1.symm (Or.inr ⟨hr, hx⟩)
  · exact h.elim
theorem k_lreturn (C : Cx D cA μ p s m args meth c) (hret : RetH p l e R s m args below meth c Qf D cA g base μ σ0 σ1 r1) (hd : decode (cod μ) pc = .ok (.lreturn, 1)) (h : Sd (clo dd) (fun x => Mn x.2.2.2.2 σ1 ∧ PP p l e R s m args below meth c Qf D cA g base μ σ0 x) (fun r' s' => r' = r1 ∧ s' = σ1) (match st, rt μ with
    | [.inr (.inl x)], some .long => rtn (some (vL x)) σ
    | _, _ => none)) : PP p l e R s m args below meth c Qf D cA g base μ σ0 (μ, pc, ls, st, σ) := by
  split at h
  · next hr =>
    obtain ⟨h1, rfl⟩ := h
    intro e1 hl H locs cells slots lsc a1 a2 a3 a4 a5
    exact (hret pc H locs cells slots lsc a1 a3 a4 a5).2.1 _ hd h1.symm hr
  · exact h.elim
theorem k_areturn (C : Cx D cA μ p s m args meth c) (hret : RetH p l e R s m args below meth c Qf D cA g base μ σ0 σ1 r1) (hd : decode (cod μ) pc = .ok (.areturn, 1)) (h : Sd (clo dd) (fun x => Mn x.2.2.2.2 σ1 ∧ PP p l e R s m args below meth c Qf D cA g base μ σ0 x) (fun r' s' => r' = r1 ∧ s' = σ1) (match st, rt μ with
    | [.inr (.inr x)], some (.object _) => rtn (some (vR x)) σ
    | _, _ => none)) : PP p l e R s m args below meth c Qf D cA g base μ σ0 (μ, pc, ls, st, σ) := by
  split at h
  · next hr =>
    obtain ⟨h1, rfl⟩ := h
    intro e1 hl H locs cells slots lsc a1 a2 a3 a4 a5
    exact (hret pc H locs cells slots lsc a1 a3 a4 a5).2.2.1 _ hd h1.symm ⟨_, hr⟩
  · exact h.elim
theorem k_return (C : Cx D cA μ p s m args meth c) (hret : RetH p l e R s m args below meth c Qf D cA g base μ σ0 σ1 r1) (hd : decode (cod μ) pc = .ok (.return_, 1)) (h : Sd (clo dd) (fun x => Mn x.2.2.2.2 σ1 ∧ PP p l e R s m args below meth c Qf D cA g base μ σ0 x) (fun r' s' => r' = r1 ∧ s' = σ1) (match st, rt μ with
    | [], none => rtn none σ
    | _, _ => none)) : PP p l e R s m args below meth c Qf D cA g base μ σ0 (μ, pc, ls, st, σ) := by
  split at h
  · next hr =>
    obtain ⟨h1, rfl⟩ := h
    intro e1 hl H locs cells slots lsc a1 a2 a3 a4 a5
    exact (hret pc H locs cells slots lsc a1 a3 a4 a5).2.2.2 hd h1.symm hr
  · exact h.elim
set_option maxHeartbeats 4000000 in
theorem step_all (C : Cx D cA μ p s m args meth c) (hg : Agree g σ1) (hMM : ∀ d', dd = d' + 1 → MM l D cA g base d') (hRc : gH σ1 ≤ R.cells + gH σ0) (hRs : gS σ1 ≤ R.slots + gS σ0) (hfr : dd + 1 ≤ R.frames) (hlo : 40 * (dd + 1) ≤ R.locals) (hba : base ≤ s.heap.size) (hret : RetH p l e R s m args below meth c Qf D cA g base μ σ0 σ1 r1) {i : Instr} {n : Nat} (hd : decode (cod μ) pc = .ok (i, n)) (h : Sd (clo dd) (fun x => Mn x.2.2.2.2 σ1 ∧ PP p l e R s m args below meth c Qf D cA g base μ σ0 x) (fun r' s' => r' = r1 ∧ s' = σ1) (ex i n μ pc ls st σ)) : PP p l e R s m args below meth c Qf D cA g base μ σ0 (μ, pc, ls, st, σ) := by
  unfold ex at h
  split at h
  · exact k_iconst C hd h
  · exact k_bipush C hd h
  · exact k_sipush C hd h
  · exact k_lconst C hd h
  · exact k_null C hd h
  · exact k_ldc C hd h
  · exact k_ldc_w C hd h
  · exact k_ldc2_w C hd h
  · exact k_iload_n C hd h
  · exact k_iload C hd h
  · exact k_lload_n C hd h
  · exact k_lload C hd h
  · exact k_aload_n C hd h
  · exact k_aload C hd h
  · exact k_istore_n C hd h
  · exact k_istore C hd h
  · exact k_astore_n C hd h
  · exact k_astore C hd h
  · exact k_lstore_n C hd h
  · exact k_lstore C hd h
  · exact k_iinc C hd h
  · exact k_iadd C hd h
  · exact k_isub C hd h
  · exact k_imul C hd h
  · exact k_iand C hd h
  · exact k_ior C hd h
  · exact k_ixor C hd h
  · exact k_ishl C hd h
  · exact k_ishr C hd h
  · exact k_iushr C hd h
  · exact k_idiv C hd h
  · exact k_irem C hd h
  · exact k_ladd C hd h
  · exact k_lmul C hd h
  · exact k_land C hd h
  · exact k_lor C hd h
  · exact k_ldiv C hd h
  · exact k_lneg C hd h
  · exact k_lushr C hd h
  · exact k_lshl C hd h
  · exact k_lshr C hd h
  · exact k_lcmp C hd h
  · exact k_i2l C hd h
  · exact k_l2i C hd h
  · exact k_i2b C hd h
  · exact k_i2s C hd h
  · exact k_dup C hd h
  · exact k_dup2 C hd h
  · exact k_pop C hd h
  · exact k_goto C hd h
  · exact k_if_eq C hd h
  · exact k_if_ne C hd h
  · exact k_if_lt C hd h
  · exact k_if_ge C hd h
  · exact k_if_gt C hd h
  · exact k_if_le C hd h
  · exact k_icmp_eq C hd h
  · exact k_icmp_ne C hd h
  · exact k_icmp_lt C hd h
  · exact k_icmp_ge C hd h
  · exact k_icmp_gt C hd h
  · exact k_icmp_le C hd h
  · exact k_ifnull C hd h
  · exact k_ifnonnull C hd h
  · exact k_tswitch C hd h
  · exact k_getfield C hd h
  · exact k_putfield C hd h
  · exact k_new C hg hRc hRs hba hd h
  · exact k_newarray C hg hRc hRs hba hd h
  · exact k_anewarray C hg hRc hRs hba hd h
  · exact k_iaload C hd h
  · exact k_baload C hd h
  · exact k_saload C hd h
  · exact k_iastore C hd h
  · exact k_bastore C hd h
  · exact k_sastore C hd h
  · exact k_aaload C hd h
  · exact k_aastore C hd h
  · exact k_alen C hd h
  · exact k_invokevirtual C hg hMM hRc hRs hfr hlo hd h
  · exact k_invokestatic C hg hMM hRc hRs hfr hlo hd h
  · exact k_invokespecial C hg hMM hRc hRs hfr hlo hd h
  · exact k_ireturn C hret hd h
  · exact k_lreturn C hret hd h
  · exact k_areturn C hret hd h
  · exact k_return C hret hd h
  · exact h.elim
theorem body_all (C : Cx D cA μ p s m args meth c) (hg : Agree g σ1) (hMM : ∀ d', dd = d' + 1 → MM l D cA g base d') (hRc : gH σ1 ≤ R.cells + gH σ0) (hRs : gS σ1 ≤ R.slots + gS σ0) (hfr : dd + 1 ≤ R.frames) (hlo : 40 * (dd + 1) ≤ R.locals) (hba : base ≤ s.heap.size) (hret : RetH p l e R s m args below meth c Qf D cA g base μ σ0 σ1 r1) {x : Cfg} (hx : Rn dd (fun r' s' => r' = r1 ∧ s' = σ1) x) : Mn x.2.2.2.2 σ1 ∧ PP p l e R s m args below meth c Qf D cA g base μ σ0 x := by
  rw [Rn_def] at hx
  refine hx (fun x => Mn x.2.2.2.2 σ1 ∧ PP p l e R s m args below meth c Qf D cA g base μ σ0 x) (fun x hc => ⟨?_, ?_⟩)
  · have hn := nxt_Nn x
    cases hy : nxt x with
    | none => rw [hy] at hc; exact hc.elim
    | some y =>
      rw [hy] at hc hn
      match y, hc, hn with
      | .inl c', hc, hn => exact hn.tr hc.1
      | .inr (.inl (r', σ')), hc, hn => obtain ⟨-, rfl⟩ := hc; exact hn
      | .inr (.inr (μ', a, (μ2, pc2, ls2, st2, σ2))), hc, hn =>
        have h4 : σ2 = x.2.2.2.2 := hn
        cases dd with
        | zero => exact hc.elim
        | succ d' =>
          obtain ⟨r3, σ3, h1, h2⟩ := Rn_one (show Rn d' _ (μ', 0, ent μ' a, [], σ2) from hc)
          have h3 : Mn σ2 σ3 := Rn_Mn h2
          rw [← h4]
          exact h3.tr h1.1
  · obtain ⟨μ2, pc, ls, st, σ⟩ := x
    intro e1
    have e1 : μ2 = μ := e1
    subst e1
    unfold nxt at hc
    dsimp only at hc
    cases hi : ins μ2 pc with
    | none => rw [hi] at hc; exact hc.elim
    | some q =>
      obtain ⟨i, n⟩ := q
      rw [hi] at hc
      exact step_all C hg hMM hRc hRs hfr hlo hba hret (ins_ok hi) hc rfl
end SND
