theorem vw_lt {ci : Nat} {x : vw_C} (h : vwCl[ci]? = some x) : ci < 13 := (List.getElem?_eq_some_iff.mp h).1
theorem fldK {o idx ci k nst : Nat} (h : fldQ o idx = some (ci, k, nst)) : ci < 13 ∧ k < nfd ci ∧ ∃ (T : u_T), vwCl[ci]? = some (onm ci, T, nfd ci) ∧ (∀ w ∈ u_ws (onm ci) T (nfd ci), w ∈ gW) ∧ (∀ k, k < nfd ci → parseFieldDescriptor (T k).2.2.1 = some (tyk (fk ci k))) ∧ (∀ a, a < nfd ci → ∀ b, b < nfd ci → a ≠ b → (T a).2.1 ≠ (T b).2.1) ∧ (∀ k, k < nfd ci → (T k).1 = onm ci ∧ (T k).2.2.2 = fnl ci k) ∧
    ((nst = 0 ∧ Cond.fieldLink (onm o) idx (onm ci) (T k).2.1 (T k).2.2.1 ∈ gW) ∨ ∃ host, nst = 1 ∧ Cond.fieldLinkNest (onm o) idx (onm ci) (T k).2.1 (T k).2.2.1 host ∈ nW) := by
  obtain ⟨C', T', N', hc', hk', hlink⟩ := fld_ok h
  dsimp only at hc' hk' hlink
  have hlt := vw_lt hc'
  obtain ⟨T, hc, hin, hty, hnm, hfn, -, -⟩ := okK_all hlt
  have e := Option.some.inj (hc'.symm.trans hc)
  have e1 : C' = onm ci := congrArg (fun x => x.1) e
  have e2 : T' = T := congrArg (fun x => x.2.1) e
  have e3 : N' = nfd ci := congrArg (fun x => x.2.2) e
  rw [e1, e2] at hlink
  rw [e3] at hk'
  exact ⟨hlt, hk', T, hc, hin, hty, hnm, hfn, hlink⟩
theorem fk_k {ci k a : Nat} (ha : a < 9) (h : (fk ci k).1 = a) : k < nfd ci := by
  unfold fk nfd at *
  rcases Nat.lt_or_ge k (fkt.getD ci []).length with q | q
  · exact q
  · rw [List.getD_eq_getElem?_getD (l := fkt.getD ci []), List.getElem?_eq_none q] at h
    simp at h
    omega
theorem fk1_lt : ∀ ci, ci < 14 → ∀ k, k < 82 → (fk ci k).1 = 1 → (fk ci k).2 < 4 := by decide +kernel
theorem fk3_in : ∀ ci, ci < 14 → ∀ k, k < 82 → (fk ci k).1 = 3 → (fk ci k).2 ∈ [0, 1, 3, 4, 6, 8, 9] := by decide +kernel
theorem nfd_le : ∀ ci, ci < 14 → nfd ci ≤ 82 := by decide +kernel
theorem fk1 {ci k : Nat} (hc : ci < 14) (h : (fk ci k).1 = 1) : (fk ci k).2 < 4 := fk1_lt ci hc k (Nat.lt_of_lt_of_le (fk_k (by decide) h) (nfd_le ci hc)) h
theorem fk3 {ci k : Nat} (cA : Nat → ClassId) (hc : ci < 14) (h : (fk ci k).1 = 3) : (fk ci k).2 < 13 ∧ onm (fk ci k).2 ∈ aoL ∧ ∃ t0 : Nat, (tysG cA)[t0]? = some (cA (4 + (fk ci k).2), .object (onm (fk ci k).2)) := by
  have h1 := fk3_in ci hc k (Nat.lt_of_lt_of_le (fk_k (by decide) h) (nfd_le ci hc)) h
  generalize (fk ci k).2 = z at h1 ⊢
  simp only [List.mem_cons, List.not_mem_nil, or_false] at h1
  rcases h1 with rfl | rfl | rfl | rfl | rfl | rfl | rfl
  · exact ⟨by decide, by decide +kernel, 4, rfl⟩
  · exact ⟨by decide, by decide +kernel, 5, rfl⟩
  · exact ⟨by decide, by decide +kernel, 6, rfl⟩
  · exact ⟨by decide, by decide +kernel, 7, rfl⟩
  · exact ⟨by decide, by decide +kernel, 8, rfl⟩
  · exact ⟨by decide, by decide +kernel, 9, rfl⟩
  · exact ⟨by decide, by decide +kernel, 10, rfl⟩
def pty (t : Nat) : FieldType := if t = 0 then .byte else if t = 1 then .int else if t = 2 then .short else .boolean
theorem tys1 (cA : Nat → ClassId) {t : Nat} (h : t < 4) : (tysG cA)[t]? = some (cA t, pty t) := by
  match t, h with
  | 0, _ => rfl
  | 1, _ => rfl
  | 2, _ => rfl
  | 3, _ => rfl
theorem cv_map {g : GG} {cc : Nat} (o : Option Nat) : cv g (vR (o.map fun j => (cc, 0, j))) = va_rf (o.map (g cc 0)) := by cases o <;> rfl
theorem ct_num {cA : Nat → ClassId} {g : GG} {σ : St} {ci k i n t : Nat} (h1 : fk ci k = (1, t)) (hl : gL σ ci k i = some n) : ct cA g σ ci (k + 1) i = .inl (cA t, n, .inl (gA σ ci k i)) := by simp [ct, arE, h1, hl]
theorem ct_obj {cA : Nat → ClassId} {g : GG} {σ : St} {ci k i n t : Nat} (h1 : fk ci k = (3, t)) (hl : gL σ ci k i = some n) : ct cA g σ ci (k + 1) i = .inl (cA (4 + t), n, .inr (.inr (.inr (.inr (fun j => (gQ σ ci k i j).map (g t 0)))))) := by simp [ct, arE, h1, hl]
theorem P1 {D : va_G} {a : Nat} {x : va_E} {H : Heap} (h : va_at D vwCl (a, x) H) : va_P D vwCl [(a, x)] H := by
  intro j q hj
  cases j with
  | zero => cases hj; exact h
  | succ j => simp at hj
section HP
variable {p : Program} {l : Launch} {e : Env} {R : Room} {s : State} {m : MethodId} {args : Array Value} {below : List Frame} {meth : Method} {c : Code} {Qf : State → Prop} {D : va_G} {cA : Nat → ClassId} {g : GG} {base μ : Nat} {σ0 σ1 : St} {r1 : Option AV} {dd : Nat}
variable {pc : Nat} {ls : List (Option AV)} {st : List AV} {σ : St} {H : Heap} {locs : List Loc} {cells slots : Nat} {lsc : Array Slot} {rest : List Value}
theorem w_get (C : Cx D cA μ p s m args meth c) {ci k nst idx a : Nat} {fs : List Value} {v : Value} (hcell : va_at D vwCl (a, .inr (ci, fs)) H) (hv : fs[k]? = some v) (hf : fldQ (ow μ) idx = some (ci, k, nst)) (hd : decode (cod μ) pc = .ok (.getfield idx, 3))
    (kk : W p l e R s m args below meth c H locs cells slots Qf (F0 m (pc + 3) lsc (v :: rest))) : W p l e R s m args below meth c H locs cells slots Qf (F0 m pc lsc (.ref a :: rest)) := by
  obtain ⟨hx, hb, hml, hown, hts, hK, -⟩ := C
  obtain ⟨hci, hk', T, hc, hin, hty, hnm, hfn, hlink⟩ := fldK hf
  rcases hlink with ⟨-, hlink⟩ | ⟨host, -, hlink⟩
  · exact va_get (D := D) (ci := ci) (v := v) (C := onm ci) (T := T) (N := nfd ci) hx hb hts hin hown hK.1 (P1 hcell) 0 rfl hc k hk' (hts _ hlink) (fun x h9 => by rw [(hfn k hk').1] at h9; exact h9) hv hd kk
  · exact va_getN (D := D) (ci := ci) (v := v) (C := onm ci) (T := T) (N := nfd ci) hx hb hts hin hown hK.1 (P1 hcell) 0 rfl hc k hk' (va_Nw.use rfl (hK.2.1 _ hlink)) (fun x h9 => by rw [(hfn k hk').1] at h9; exact h9) hv hd kk
theorem w_put (C : Cx D cA μ p s m args meth c) {ci k nst idx a : Nat} {fs : List Value} {v : Value} (hcell : va_at D vwCl (a, .inr (ci, fs)) H) (hfl : fs.length = nfd ci) (hf : fldQ (ow μ) idx = some (ci, k, nst)) (hfin : fnl ci k = false ∨ (nst = 0 ∧ (nam μ).name = "<init>" ∧ ow μ = ci))
    (hn : narrow (tyk (fk ci k)) v = v) (hfit : fits (tyk (fk ci k)) v = true) (hd : decode (cod μ) pc = .ok (.putfield idx, 3))
    (kk : ∀ (H1 : Heap) (sl : Nat), va_at D vwCl (a, .inr (ci, fs.set k v)) H1 → H1.size = H.size → (∀ q, q ≠ a → H1[q]? = H[q]?) → W p l e R s m args below meth c H1 (locs ++ [⟨a, sl⟩]) cells slots Qf (F0 m (pc + 3) lsc rest)) : W p l e R s m args below meth c H locs cells slots Qf (F0 m pc lsc (v :: .ref a :: rest)) := by
  obtain ⟨hx, hb, hml, hown, hts, hK, hlk, hrt, hname⟩ := C
  obtain ⟨hci, hk', T, hc, hin, hty, hnm, hfn, hlink⟩ := fldK hf
  have hap := va_apart (own := onm (ow μ)) hts hin (fun k => tyk (fk ci k)) hty hnm hK.1 hc
  obtain ⟨r, hr1, cell, q1, q2, q3, q4⟩ := hcell
  have hr : r = (onm ci, T, nfd ci) := Option.some.inj (hr1.symm.trans hc)
  subst hr
  obtain ⟨hS, hfc, kC, hkC, hkind⟩ := hK.1.1 ci _ hc
  obtain ⟨cf, kf, fi, f, hfi, hsl⟩ := hS k hk'
  have hst := (u_facts hfc hkC (u_lays hts hin hk') hfi).1
  have hfi' : s.fieldFound? (onm ci) (T k).2.1 (T k).2.2.1 = some (cf, kf, fi, f) := by rw [← hfi, (hfn k hk').1]
  have key : ∀ H' : Heap, H'[a]? = some (cell.setSlot f.slot v) → H'.size = H.size → (∀ q, q ≠ a → H'[q]? = H[q]?) → W p l e R s m args below meth c H' (locs ++ [⟨a, f.slot⟩]) cells slots Qf (F0 m (pc + 3) lsc rest) := by
    intro H' e1 e2 e3
    rw [hsl] at e1
    exact kk H' _ ⟨_, hc, t_OB.to (V := updV (vp_V fs) k v) ⟨_, e1, q2, q3, t_set q4 hap hk' v⟩ (fun j _ => vp_updV_set (by rw [hfl]; exact hk') v j)⟩ e2 e3
  have hlay := hts _ (hin _ (u_in_lay hk'))
  unfold u_lay at hlay
  by_cases hfl2 : (T k).2.2.2 = true
  · rw [if_pos hfl2] at hlay
    have hf3 : nst = 0 ∧ (nam μ).name = "<init>" ∧ ow μ = ci := by
      rcases hfin with h | h
      · rw [← (hfn k hk').2, hfl2] at h; cases h
      · exact h
    obtain ⟨hz, hini, how⟩ := hf3
    have hcf : m.cls = cf := by
      obtain ⟨_, _, c', _, _, _, -, -, hf', -, -, -, hown2, -⟩ := Cond.laysFinal_spec hlay
      have e1 : c' = cf := by have := hfi.symm.trans hf'; simp at this; exact this.1.symm
      rw [(hfn k hk').1, ← how] at hown2
      rw [← e1]; exact Option.some.inj (hown.symm.trans hown2)
    have h6 := u_fits hfc hkC hkind (Or.inr hlay) hfi (hty k hk') hn hfit
    rcases hlink with ⟨-, hlink⟩ | ⟨host, h1, -⟩
    · exact W.putFinK hx hb hown (hts _ hlink) hfi' hst hcf (hname hini) (by rw [q2]; exact h6) q1 q3 (by rw [hsl]; exact k2_hasslot (q4 k hk')) rfl rfl hd key
    · rw [hz] at h1; cases h1
  · rw [if_neg hfl2] at hlay
    have h6 := u_store hfc hkC hkind hlay hfi (hty k hk') hn hfit
    rcases hlink with ⟨-, hlink⟩ | ⟨host, -, hlink⟩
    · exact W.putK hx hb (f := f) ⟨hown, hts _ hlink, ⟨_, _, _, hfi'⟩, hst⟩ (by rw [q2]; exact h6) q1 q3 (by rw [hsl]; exact k2_hasslot (q4 k hk')) rfl rfl hd key
    · exact va_WputK hx hb (f := f) hown (va_Nw.use rfl (hK.2.1 _ hlink)) hfi' hst (by rw [q2]; exact h6) q1 q3 (by rw [hsl]; exact k2_hasslot (q4 k hk')) rfl rfl hd key
theorem Wd.obj {ci i : Nat} (hW : Wd D cA g base σ s H) (hc : ci < 13) (hi : i < gN σ ci) : va_at D vwCl (g ci 0 i, .inr (ci, flds g σ ci i)) H ∧ base ≤ g ci 0 i := hW.2.2.1 ci 0 i ⟨hc, hi, trivial⟩
theorem Wd.row {ci k i n : Nat} (hW : Wd D cA g base σ s H) (hc : ci < 13) (hi : i < gN σ ci) (hl : gL σ ci k i = some n) : va_at D vwCl (g ci (k + 1) i, ct cA g σ ci (k + 1) i) H ∧ base ≤ g ci (k + 1) i := hW.2.2.1 ci (k + 1) i ⟨hc, hi, by show gL σ ci k i ≠ none; rw [hl]; exact fun z => by cases z⟩
theorem Wd.le13 {ci i : Nat} (hW : Wd D cA g base σ s H) (hi : i < gN σ ci) : ci < 14 := by
  rcases Nat.lt_or_ge ci 14 with q | q
  · exact q
  · have := hW.2.2.2.2.2 ci (by omega)
    omega
theorem vin {j : Int32} {n : Nat} (h : 0 ≤ j.toInt ∧ j.toInt < n) : vp_in j n := vp_in_iff.mpr h
theorem k_getfield (C : Cx D cA μ p s m args meth c) {idx : Nat} (hd : decode (cod μ) pc = .ok (.getfield idx, 3)) (h : Sd (clo dd) (fun x => Mn x.2.2.2.2 σ1 ∧ PP p l e R s m args below meth c Qf D cA g base μ σ0 x) (fun r' s' => r' = r1 ∧ s' = σ1) (match fldQ (ow μ) idx with
    | some (c, k, _) => popO c σ st fun i r => getf σ c k i fun v => nx μ (pc + 3) ls (v :: r) σ
    | none => none)) : PP p l e R s m args below meth c Qf D cA g base μ σ0 (μ, pc, ls, st, σ) := by
  cases hq : fldQ (ow μ) idx with
  | none => rw [hq] at h; exact h.elim
  | some q =>
    obtain ⟨ci, kf, nst⟩ := q
    rw [hq] at h
    have hz := popO_inv h; clear h; obtain ⟨i, r, rfl, hi, h⟩ := hz
    obtain ⟨hci, hk', T, hc, -⟩ := fldK hq
    intro e1 hl H locs cells slots lsc a1 a2 a3 a4 a5
    have hv := flds_at (g := g) (σ := σ) (i := i) hk'
    have key := fun kk => w_get (l := l) (e := e) (R := R) (below := below) (locs := locs) (cells := cells) (slots := slots) (Qf := Qf) (lsc := lsc) (rest := r.map (cv g)) C (Wd.obj a1 hci hi).1 hv hq hd kk
    refine key ?_
    unfold getf at h
    split at h
    · next h0 =>
      have hv2 : fv g σ ci i kf = .int (gI σ ci kf i) := by simp only [fv, h0, if_true]
      rw [hv2]
      exact h.2 e1 hl H locs cells slots lsc a1 a2 a3 a4 a5
    · next h0 =>
      split at h
      · next h2 =>
        have hv2 : fv g σ ci i kf = cv g (vR ((gR σ ci kf i).map fun j => ((fk ci kf).2, 0, j))) := by
          rw [cv_map]
          unfold fv
          rw [if_neg h0, if_pos h2]
        rw [hv2]
        exact h.2 e1 hl H locs cells slots lsc a1 a2 a3 a4 a5
      · next h2 =>
        split at h
        · exact h.elim
        · next h3 =>
          have hv2 : fv g σ ci i kf = .ref (g ci (kf + 1) i) := by
            unfold fv
            rw [if_neg h0, if_neg h2]
            cases hz : gL σ ci kf i with
            | none => exact absurd hz h3
            | some n => rfl
          rw [hv2]
          exact h.2 e1 hl H locs cells slots lsc a1 a2 a3 a4 a5
theorem putI (C : Cx D cA μ p s m args meth c) {idx ci kf nst i : Nat} {x : Int32} {r : List AV} (hq : fldQ (ow μ) idx = some (ci, kf, nst)) (hi : i < gN σ ci) (hfin : fnl ci kf = false ∨ (nst = 0 ∧ (nam μ).name = "<init>" ∧ ow μ = ci)) (h0 : (fk ci kf).1 = 0) (hx : (fk ci kf).2 = 0 ∨ x = 0 ∨ x = 1) (hd : decode (cod μ) pc = .ok (.putfield idx, 3)) (h : PP p l e R s m args below meth c Qf D cA g base μ σ0 (μ, pc + 3, ls, r, setI σ ci kf i x)) : PP p l e R s m args below meth c Qf D cA g base μ σ0 (μ, pc, ls, vI x :: vR (some (ci, 0, i)) :: r, σ) := by
  obtain ⟨hci, hk', T, hc, -⟩ := fldK hq
  intro e1 hl H locs cells slots lsc a1 a2 a3 a4 a5
  have hty : tyk (fk ci kf) = .int ∨ (tyk (fk ci kf) = .boolean ∧ (x = 0 ∨ x = 1)) := by
    obtain ⟨u, w⟩ : ∃ w, fk ci kf = (0, w) := ⟨(fk ci kf).2, by rw [← h0]⟩
    rw [w] at hx ⊢
    cases u with
    | zero => exact Or.inl rfl
    | succ u =>
      rcases hx with hx | hx
      · cases hx
      · exact Or.inr ⟨rfl, hx⟩
  refine w_put C (Wd.obj a1 hci hi).1 (flds_len g σ ci i) hq hfin (v := .int x) ?_ ?_ hd (fun H1 sl b1 b2 b3 => ?_)
  · rcases hty with hh | ⟨hh, rfl | rfl⟩ <;> rw [hh] <;> rfl
  · rcases hty with hh | ⟨hh, rfl | rfl⟩ <;> rw [hh] <;> rfl
  · have hfv := fv_setI (g := g) (σ := σ) (i := i) (v := x) h0
    rw [flds_set hk' hfv.1 hfv.2] at b1
    exact h e1 hl H1 _ cells slots lsc (Wd.set a1 rfl rfl rfl rfl ⟨hci, hi, trivial⟩ b2 b1 b3 ct_setI) a2 (a3.put b2 b3 (Wd.obj a1 hci hi).2) a4 a5
theorem putR (C : Cx D cA μ p s m args meth c) {idx ci kf nst i : Nat} {o : Option Nat} {r : List AV} (hq : fldQ (ow μ) idx = some (ci, kf, nst)) (hi : i < gN σ ci) (hfin : fnl ci kf = false ∨ (nst = 0 ∧ (nam μ).name = "<init>" ∧ ow μ = ci)) (h0 : (fk ci kf).1 = 2) (hd : decode (cod μ) pc = .ok (.putfield idx, 3)) (h : PP p l e R s m args below meth c Qf D cA g base μ σ0 (μ, pc + 3, ls, r, setR σ ci kf i o)) : PP p l e R s m args below meth c Qf D cA g base μ σ0 (μ, pc, ls, vR (o.map fun j => ((fk ci kf).2, 0, j)) :: vR (some (ci, 0, i)) :: r, σ) := by
  obtain ⟨hci, hk', T, hc, -⟩ := fldK hq
  intro e1 hl H locs cells slots lsc a1 a2 a3 a4 a5
  have hty : tyk (fk ci kf) = .object (onm (fk ci kf).2) := by
    obtain ⟨u, w⟩ : ∃ w, fk ci kf = (2, w) := ⟨(fk ci kf).2, by rw [← h0]⟩
    rw [w]
    rfl
  show W p l e R s m args below meth c H locs cells slots Qf (F0 m pc lsc (cv g (vR (o.map fun j => ((fk ci kf).2, 0, j))) :: .ref (g ci 0 i) :: r.map (cv g)))
  rw [cv_map]
  refine w_put C (Wd.obj a1 hci hi).1 (flds_len g σ ci i) hq hfin (v := va_rf (o.map (g (fk ci kf).2 0))) ?_ ?_ hd (fun H1 sl b1 b2 b3 => ?_)
  · rw [hty]; cases o <;> rfl
  · rw [hty]; cases o <;> rfl
  · have hfv := fv_setR (g := g) (σ := σ) (i := i) (v := o) h0
    rw [flds_set hk' hfv.1 hfv.2] at b1
    exact h e1 hl H1 _ cells slots lsc (Wd.set a1 rfl rfl rfl rfl ⟨hci, hi, trivial⟩ b2 b1 b3 ct_setR) a2 (a3.put b2 b3 (Wd.obj a1 hci hi).2) a4 a5
theorem k_putfield (C : Cx D cA μ p s m args meth c) {idx : Nat} (hd : decode (cod μ) pc = .ok (.putfield idx, 3)) (h : Sd (clo dd) (fun x => Mn x.2.2.2.2 σ1 ∧ PP p l e R s m args below meth c Qf D cA g base μ σ0 x) (fun r' s' => r' = r1 ∧ s' = σ1) (match fldQ (ow μ) idx, st with
    | some (c, k, nst), v :: st => popO c σ st fun i r => putf μ nst σ c k i v fun σ => nx μ (pc + 3) ls r σ
    | _, _ => none)) : PP p l e R s m args below meth c Qf D cA g base μ σ0 (μ, pc, ls, st, σ) := by
  cases hq : fldQ (ow μ) idx with
  | none => rw [hq] at h; exact h.elim
  | some q =>
    obtain ⟨ci, kf, nst⟩ := q
    rw [hq] at h
    match st, h with
    | [], h => exact h.elim
    | v :: st, h =>
      have hz := popO_inv h; clear h; obtain ⟨i, r, rfl, hi, h⟩ := hz
      unfold putf at h
      have hz := if_inv h; clear h; obtain ⟨hfin, h⟩ := hz
      split at h
      · next h0 =>
        match v, h with
        | .inl x, h =>
          have hz := if_inv h; clear h; obtain ⟨hx, h⟩ := hz
          exact putI C hq hi hfin h0 hx hd h.2
        | .inr (.inl x), h => exact h.elim
        | .inr (.inr x), h => exact h.elim
      · next h0 =>
        have hz := if_inv h; clear h; obtain ⟨h2, h⟩ := hz
        match v, h with
        | .inl x, h => exact h.elim
        | .inr (.inl x), h => exact h.elim
        | .inr (.inr none), h => exact putR (o := none) C hq hi hfin h2 hd h.2
        | .inr (.inr (some (c', 0, j))), h =>
          have hz := if_inv h; clear h; obtain ⟨rfl, h⟩ := hz
          exact putR (o := some j) C hq hi hfin h2 hd h.2
        | .inr (.inr (some (c', k + 1, j))), h => exact h.elim
theorem dv_tyk {g : GG} {σ : St} {ci i k : Nat} (h0 : gI σ ci k i = 0) (h1 : gR σ ci k i = none) (h2 : gL σ ci k i = none) (hk : (fk ci k).1 < 4) (hb : (fk ci k).1 = 1 → (fk ci k).2 < 4) : defaultValue (tyk (fk ci k)) = fv g σ ci i k := by
  unfold fv
  generalize fk ci k = z at hk hb ⊢
  obtain ⟨a, b⟩ := z
  dsimp only at hk hb ⊢
  match a, hk with
  | 0, _ =>
    rw [if_pos rfl, h0]
    cases b <;> rfl
  | 1, _ =>
    rw [if_neg (by decide), if_neg (by decide), h2]
    match b, hb rfl with
    | 0, _ => rfl
    | 1, _ => rfl
    | 2, _ => rfl
    | 3, _ => rfl
  | 2, _ => rw [if_neg (by decide), if_pos rfl, h1]; rfl
  | 3, _ => rw [if_neg (by decide), if_neg (by decide), h2]; rfl
theorem fk_lt4 : ∀ ci, ci < 13 → ∀ k, k < 82 → k < nfd ci → (fk ci k).1 < 4 ∧ ((fk ci k).1 = 1 → (fk ci k).2 < 4) := by decide +kernel
theorem k_new (C : Cx D cA μ p s m args meth c) (hg : Agree g σ1) (hRc : gH σ1 ≤ R.cells + gH σ0) (hRs : gS σ1 ≤ R.slots + gS σ0) (hba : base ≤ s.heap.size) {idx : Nat} (hd : decode (cod μ) pc = .ok (.new idx, 3)) (h : Sd (clo dd) (fun x => Mn x.2.2.2.2 σ1 ∧ PP p l e R s m args below meth c Qf D cA g base μ σ0 x) (fun r' s' => r' = r1 ∧ s' = σ1) (match clsQ (ow μ) idx with
    | some c => nx μ (pc + 3) ls (vR (some (c, 0, gN σ c)) :: st) (newO σ c)
    | none => none)) : PP p l e R s m args below meth c Qf D cA g base μ σ0 (μ, pc, ls, st, σ) := by
  cases hq : clsQ (ow μ) idx with
  | none => rw [hq] at h; exact h.elim
  | some ci =>
    rw [hq] at h
    obtain ⟨hM, h⟩ := h
    have hM : Mn (newO σ ci) σ1 := hM
    obtain ⟨hlink, hci⟩ := cls_ok hq
    obtain ⟨T, hc, hin, hty, hnm, hfn, hinst, hini⟩ := okK_all hci
    have hag : Agree g (newO σ ci) := hg.back hM
    have hHn : gH (newO σ ci) = gH σ + 1 := rfl
    have hSn : gS (newO σ ci) = gS σ + nfd ci := rfl
    have hNn : gN (newO σ ci) ci = gN σ ci + 1 := if_pos rfl
    have hm1 := hM.1
    have hm2 := hM.2.1
    intro e1 hl H locs cells slots lsc a1 a2 a3 a4 a5
    dsimp only at a4 a5
    have hKn := C.2.2.2.2.2.1.1.1 ci _ hc
    have hgi : g ci 0 (gN σ ci) = H.size := by
      rw [hag.1 ci (gN σ ci) (by rw [hNn]; omega), a1.1]
      exact up3_eq
    refine W.newcK C.1 C.2.1 C.2.2.2.1 (C.2.2.2.2.1 _ hlink) (C.2.2.2.2.1 _ hinst) (C.2.2.2.2.1 _ hini) rfl hd (by omega) (by omega) hKn.2.1 rfl fun H1 kC hkC b1 z1 o1 => ?_
    have hat : va_at D vwCl (H.size, .inr (ci, flds g (newO σ ci) ci (gN σ ci))) H1 := by
      refine ⟨_, hc, (u_born (fun k => tyk (fk ci k)) C.2.2.2.2.1 hin hKn hkC b1 hty).to (fun j hj => ?_)⟩
      show _ = (flds g (newO σ ci) ci (gN σ ci)).getD j .null
      have hj : j < nfd ci := hj
      rw [List.getD_eq_getElem?_getD, flds_at hj]
      have hk4 := fk_lt4 ci hci j (Nat.lt_of_lt_of_le hj (nfd_le ci (by omega))) hj
      exact dv_tyk (if_pos ⟨rfl, rfl⟩) (if_pos ⟨rfl, rfl⟩) (if_pos ⟨rfl, rfl⟩) hk4.1 hk4.2
    have hW2 : Wd D cA g base (newO σ ci) s H1 := Wd_newO hci a1 hag z1 o1 hat
    have := h e1 hl H1 locs (cells + 1) (slots + nfd ci) lsc hW2 a2 ⟨Nat.le_trans a3.1 (by omega), fun q w1 w2 => (o1 q (Nat.lt_of_lt_of_le w1 a3.1)).trans (a3.2.1 q w1 w2), a3.2.2⟩ (by show _ = gH (newO σ ci); omega) (by show _ = gS (newO σ ci); omega)
    rw [← hgi]
    exact this
theorem newP (C : Cx D cA μ p s m args meth c) (hg : Agree g σ1) (hba : base ≤ s.heap.size) {idx ci kf i n : Nat} {r : List AV} (hM : Mn (newA σ ci kf i n) σ1) (hq : fldQ (ow μ) idx = some (ci, kf, 0)) (hci : ci < 13) (hi : i < gN σ ci) (hgl : gL σ ci kf i = none) (hfin : fnl ci kf = false ∨ ((nam μ).name = "<init>" ∧ ow μ = ci)) (hkd : (fk ci kf).1 = 1 ∨ (fk ci kf).1 = 3) (hd : decode (cod μ) pc = .ok (.putfield idx, 3))
    (h : PP p l e R s m args below meth c Qf D cA g base μ σ0 (μ, pc + 3, ls, r, newA σ ci kf i n)) (hlg : LgOK μ ls) {H1 : Heap} (a1 : Wd D cA g base σ s H) (a2 : LSx g ls lsc (mxl μ)) (a3 : va_S (fun q => base ≤ q) s.heap H locs) (a4 : cells + gH σ0 = gH σ) (a5 : slots + gS σ0 = gS σ)
    (z1 : H1.size = H.size + 1) (o1 : ∀ q, q < H.size → H1[q]? = H[q]?) (hat : va_at D vwCl (H.size, arE cA g (newA σ ci kf i n) ci kf i n) H1) : W p l e R s m args below meth c H1 locs (cells + 1) (slots + n) Qf (F0 m pc lsc (.ref H.size :: .ref (g ci 0 i) :: r.map (cv g))) := by
  have hag : Agree g (newA σ ci kf i n) := hg.back hM
  have hLn : gL (newA σ ci kf i n) ci kf i = some n := up3_eq
  have hgi : g ci (kf + 1) i = H.size := by
    rw [hag.2 ci kf i n hi hLn, a1.1]
    exact up3_eq
  have hobj := Wd.obj a1 hci hi
  have hlt := hobj.1.lt
  dsimp only at hlt
  have hobj1 : va_at D vwCl (g ci 0 i, .inr (ci, flds g σ ci i)) H1 := hobj.1.kept (o1 _ hlt)
  have hk' : kf < nfd ci := by
    rcases hkd with h | h
    · exact fk_k (by decide) h
    · exact fk_k (by decide) h
  have hty : ∃ t, tyk (fk ci kf) = .array t := by
    obtain ⟨a, b, hab⟩ : ∃ a b, fk ci kf = (a, b) := ⟨_, _, rfl⟩
    rw [hab] at hkd ⊢
    dsimp only at hkd
    rcases hkd with rfl | rfl
    · rcases b with _ | _ | _ | b <;> exact ⟨_, rfl⟩
    · exact ⟨_, rfl⟩
  obtain ⟨t, hty⟩ := hty
  refine w_put C hobj1 (flds_len g σ ci i) hq (hfin.imp id (fun z => ⟨rfl, z⟩)) (v := .ref H.size) (by rw [hty]; rfl) (by rw [hty]; rfl) hd (fun H2 sl b1 b2 b3 => ?_)
  have hfs : (flds g σ ci i).set kf (.ref H.size) = flds g (newA σ ci kf i n) ci i := by
    refine flds_set hk' ?_ (fun j hj => ?_)
    · unfold fv
      rw [if_neg (by omega), if_neg (by omega), hLn, hgi]
    · have e3 : gL (newA σ ci kf i n) ci j i = gL σ ci j i := up3_ne (fun z => hj z.2.1)
      simp only [fv, e3]
      rfl
  rw [hfs] at b1
  have hW2 : Wd D cA g base (newA σ ci kf i n) s H2 := Wd_newA hci hi hgl a1 hag (by rw [b2, z1]) (fun q w1 w2 => (b3 q w2).trans (o1 q w1)) b1 (hat.kept (b3 _ (by dsimp only; omega)))
  exact h rfl hlg H2 _ (cells + 1) (slots + n) lsc hW2 a2 (va_S.put (H := H1) ⟨Nat.le_trans a3.1 (by omega), fun q w1 w2 => (o1 q (Nat.lt_of_lt_of_le w1 a3.1)).trans (a3.2.1 q w1 w2), a3.2.2⟩ b2 b3 hobj.2) (by show _ = gH σ + 1; omega) (by show _ = gS σ + n; omega)
theorem newW_inv {P : Cfg → Prop} {cl' : Nat → List AV → St → (Option AV → St → Prop) → Prop} {Q : Option AV → St → Prop} {f : Nat × Nat → Bool} (h : Sd cl' P Q (newW μ pc ls st σ f)) : ∃ idx ci kf n i r, ins μ pc = some (.putfield idx, 3) ∧ fldQ (ow μ) idx = some (ci, kf, 0) ∧ st = vI n :: vR (some (ci, 0, i)) :: r ∧ i < gN σ ci ∧ f (fk ci kf) = true ∧ ¬ n < 0 ∧ n.toNatClampNeg ≤ 100000 ∧ ci < 13 ∧ gL σ ci kf i = none ∧ (fnl ci kf = false ∨ ((nam μ).name = "<init>" ∧ ow μ = ci)) ∧ P (μ, pc + 3, ls, r, newA σ ci kf i n.toNatClampNeg) := by
  unfold newW at h
  split at h
  · next idx hi =>
    split at h
    · next ci kf hf =>
      have hz := popI_inv h; clear h; obtain ⟨n, r, rfl, h⟩ := hz
      have hz := popO_inv h; clear h; obtain ⟨i, r, rfl, hi2, h⟩ := hz
      have hz := if_inv h; clear h; obtain ⟨⟨h1, h2, h3, h4, h5, h6⟩, h⟩ := hz
      exact ⟨idx, ci, kf, n, i, r, hi, hf, rfl, hi2, h1, h2, h3, h4, h5, h6, h⟩
    · exact h.elim
  · exact h.elim
theorem k_newarray (C : Cx D cA μ p s m args meth c) (hg : Agree g σ1) (hRc : gH σ1 ≤ R.cells + gH σ0) (hRs : gS σ1 ≤ R.slots + gS σ0) (hba : base ≤ s.heap.size) {t : ArrayType} (hd : decode (cod μ) pc = .ok (.newarray t, 2)) (h : Sd (clo dd) (fun x => Mn x.2.2.2.2 σ1 ∧ PP p l e R s m args below meth c Qf D cA g base μ σ0 x) (fun r' s' => r' = r1 ∧ s' = σ1) (newW μ (pc + 2) ls st σ (fun q => q.1 == 1 && aty q.2 t))) : PP p l e R s m args below meth c Qf D cA g base μ σ0 (μ, pc, ls, st, σ) := by
  have hz := newW_inv h; clear h; obtain ⟨idx, ci, kf, n, i, r, hin, hq, rfl, hi, hf, hn, hn2, hci, hgl, hfin, hM, h⟩ := hz
  have hM : Mn (newA σ ci kf i n.toNatClampNeg) σ1 := hM
  simp only [Bool.and_eq_true, beq_iff_eq] at hf
  intro e1 hl H locs cells slots lsc a1 a2 a3 a4 a5
  have hm1 : gH σ + 1 ≤ gH σ1 := hM.1
  have hm2 : gS σ + n.toNatClampNeg ≤ gS σ1 := hM.2.1
  dsimp only at a4 a5
  have hcb : componentBytes (newarray.typeOf t) ≤ 8 := by cases t <;> decide
  have hb8 : n.toNatClampNeg * componentBytes (newarray.typeOf t) ≤ 536870912 := Nat.le_trans (Nat.mul_le_mul hn2 hcb) (by decide)
  have harr : (Cond.arrayClass (newarray.typeOf t)).before args s = true := by
    obtain ⟨-, h2⟩ := hf
    cases t
    case byte => exact C.2.2.2.2.1 _ ak_0
    case int => exact C.2.2.2.2.1 _ ak_1
    case short => exact C.2.2.2.2.1 _ ak_2
    case boolean => exact C.2.2.2.2.1 _ ak_3
    all_goals cases h2
  refine va_newaK C.1 C.2.1 harr rfl hd rfl hn rfl hb8 (by omega) (by omega) rfl fun H1 cN b1 z1 o1 hAr hNm => ?_
  refine newP C hg hba hM hq hci hi hgl hfin (Or.inl hf.1) (ins_ok hin) h hl a1 a2 a3 a4 a5 z1 o1 ?_
  have hfk : fk ci kf = (1, (fk ci kf).2) := by rw [← hf.1]
  have hcN : cN = cA (fk ci kf).2 := by
    have h2 := hf.2
    have hK := C.2.2.2.2.2.1.1.2
    generalize (fk ci kf).2 = z at h2 ⊢
    cases t
    case byte => simp only [aty, beq_iff_eq] at h2; subst h2; exact (Option.some.inj ((hK 0 _ rfl).2.symm.trans hNm)).symm
    case int => simp only [aty, beq_iff_eq] at h2; subst h2; exact (Option.some.inj ((hK 1 _ rfl).2.symm.trans hNm)).symm
    case short => simp only [aty, beq_iff_eq] at h2; subst h2; exact (Option.some.inj ((hK 2 _ rfl).2.symm.trans hNm)).symm
    case boolean => simp only [aty, beq_iff_eq] at h2; subst h2; exact (Option.some.inj ((hK 3 _ rfl).2.symm.trans hNm)).symm
    all_goals cases h2
  have hdv : defaultValue (newarray.typeOf t) = .int 0 := by
    obtain ⟨-, h2⟩ := hf
    cases t <;> first | rfl | cases h2
  have hga : gA (newA σ ci kf i n.toNatClampNeg) ci kf i = fun _ => 0 := up3_eq
  unfold arE
  rw [if_pos hf.1, hga, ← hcN]
  rw [hdv] at b1
  exact b1
theorem k_anewarray (C : Cx D cA μ p s m args meth c) (hg : Agree g σ1) (hRc : gH σ1 ≤ R.cells + gH σ0) (hRs : gS σ1 ≤ R.slots + gS σ0) (hba : base ≤ s.heap.size) {idx : Nat} (hd : decode (cod μ) pc = .ok (.anewarray idx, 3)) (h : Sd (clo dd) (fun x => Mn x.2.2.2.2 σ1 ∧ PP p l e R s m args below meth c Qf D cA g base μ σ0 x) (fun r' s' => r' = r1 ∧ s' = σ1) (match clsQ (ow μ) idx with
    | some c => newW μ (pc + 3) ls st σ (fun q => q == (3, c))
    | none => none)) : PP p l e R s m args below meth c Qf D cA g base μ σ0 (μ, pc, ls, st, σ) := by
  cases hqc : clsQ (ow μ) idx with
  | none => rw [hqc] at h; exact h.elim
  | some cc =>
    rw [hqc] at h
    have hz := newW_inv h; clear h; obtain ⟨idx2, ci, kf, n, i, r, hin, hq, rfl, hi, hf, hn, hn2, hci, hgl, hfin, hM, h⟩ := hz
    have hM : Mn (newA σ ci kf i n.toNatClampNeg) σ1 := hM
    have hf : fk ci kf = (3, cc) := by simpa using hf
    obtain ⟨hlink, hcc⟩ := cls_ok hqc
    intro e1 hl H locs cells slots lsc a1 a2 a3 a4 a5
    have hm1 : gH σ + 1 ≤ gH σ1 := hM.1
    have hm2 : gS σ + n.toNatClampNeg ≤ gS σ1 := hM.2.1
    dsimp only at a4 a5
    have hf3 := fk3 cA (ci := ci) (k := kf) (by omega) (by rw [hf])
    rw [hf] at hf3
    obtain ⟨-, hao, t0, ht0⟩ := hf3
    have hb8 : n.toNatClampNeg * 4 ≤ 536870912 := Nat.le_trans (Nat.mul_le_mul_right 4 hn2) (by decide)
    refine W.anew C.1 C.2.1 C.2.2.2.1 (C.2.2.2.2.1 _ hlink) (va_AO.use (C.2.2.2.2.2.1.2.2 _ hao)) rfl hd rfl hn hb8 (by omega) (by omega) fun cN kA comp f1 f2 f3 f4 => ?_
    generalize hH1 : H.push ({ cls := cN, slots := Array.replicate n.toNatClampNeg .null, vm := .none } : Cell) = H1
    have z1 : H1.size = H.size + 1 := by rw [← hH1, Array.size_push]
    have b1 : H1[H.size]? = some (arrV cN n.toNatClampNeg (fun _ => .null)) := by rw [← hH1, Array.getElem?_push_size, ← arrV_new]
    have o1 : ∀ q : Nat, q < H.size → H1[q]? = H[q]? := fun q hq => by rw [← hH1, Array.getElem?_push, if_neg (Nat.ne_of_lt hq)]
    refine newP C hg hba hM hq hci hi hgl hfin (Or.inr (by rw [hf])) (ins_ok hin) h hl a1 a2 a3 a4 a5 z1 o1 ?_
    have hcN : cN = cA (4 + cc) := by
      obtain ⟨kA', comp', k1, k2, k3, k4⟩ := (C.2.2.2.2.2.1.1.2 t0 _ ht0).2
      exact (Option.some.inj (k4.symm.trans f1)).symm
    have hgq : gQ (newA σ ci kf i n.toNatClampNeg) ci kf i = fun _ => none := up3_eq
    unfold arE
    rw [if_neg (by rw [hf]; show ¬ (3 = 1); decide), hgq, hf, ← hcN]
    exact b1

theorem k_iaload (C : Cx D cA μ p s m args meth c)  (hd : decode (cod μ) pc = .ok (.iaload, 1)) (h : Sd (clo dd) (fun x => Mn x.2.2.2.2 σ1 ∧ PP p l e R s m args below meth c Qf D cA g base μ σ0 x) (fun r' s' => r' = r1 ∧ s' = σ1) (ald 1 μ (pc + 1) ls st σ (fun t => t == 1))) : PP p l e R s m args below meth c Qf D cA g base μ σ0 (μ, pc, ls, st, σ) := by
  have hz := popI_inv h; clear h; obtain ⟨j, r, rfl, h⟩ := hz
  have hz := popW_inv h; clear h; obtain ⟨ci, kf, i, n, r, rfl, hgl, hi, h⟩ := hz
  have hz := if_inv h; clear h; obtain ⟨⟨h1, h2, hj⟩, h⟩ := hz
  intro e1 hl H locs cells slots lsc a1 a2 a3 a4 a5
  have hk := h.2 e1 hl H locs cells slots lsc a1 a2 a3 a4 a5
  have hc14 := Wd.le13 a1 hi
  rcases Nat.lt_or_ge ci 13 with hc | hc
  · have hfk : fk ci kf = (1, 1) := by simp only [beq_iff_eq] at h2; exact Prod.ext h1 h2
    have hP := (Wd.row a1 hc hi hgl).1
    rw [ct_num hfk hgl] at hP
    exact va_iald C.1 C.2.1 C.2.2.2.2.2.1.1 (P1 hP) 0 1 rfl rfl (vin hj) hd hk
  · have : ci = 13 := by omega
    subst this
    obtain ⟨rfl, rfl, ⟨scr, x1, x2, x3, x4, x5⟩, -⟩ := a1.2.2.2.2.1 kf i n hgl
    have hlt : j.toNatClampNeg < n := Nat.not_le.mp fun q => (vin hj) (Or.inr q)
    exact W.iald (v := .int (gA σ 13 0 0 j.toNatClampNeg)) C.1 C.2.1 x1 x2 x3 (by rw [x4]; exact vin hj) (x5 _ hlt) rfl rfl hd hk

theorem k_baload (C : Cx D cA μ p s m args meth c)  (hd : decode (cod μ) pc = .ok (.baload, 1)) (h : Sd (clo dd) (fun x => Mn x.2.2.2.2 σ1 ∧ PP p l e R s m args below meth c Qf D cA g base μ σ0 x) (fun r' s' => r' = r1 ∧ s' = σ1) (ald 0 μ (pc + 1) ls st σ (fun t => t == 0 || t == 3))) : PP p l e R s m args below meth c Qf D cA g base μ σ0 (μ, pc, ls, st, σ) := by
  have hz := popI_inv h; clear h; obtain ⟨j, r, rfl, h⟩ := hz
  have hz := popW_inv h; clear h; obtain ⟨ci, kf, i, n, r, rfl, hgl, hi, h⟩ := hz
  have hz := if_inv h; clear h; obtain ⟨⟨h1, h2, hj⟩, h⟩ := hz
  intro e1 hl H locs cells slots lsc a1 a2 a3 a4 a5
  have hk := h.2 e1 hl H locs cells slots lsc a1 a2 a3 a4 a5
  have hc14 := Wd.le13 a1 hi
  rcases Nat.lt_or_ge ci 13 with hc | hc
  · simp only [Bool.or_eq_true, beq_iff_eq] at h2
    have hP := (Wd.row a1 hc hi hgl).1
    rcases h2 with h2 | h2
    · have hfk : fk ci kf = (1, 0) := Prod.ext h1 h2
      rw [ct_num hfk hgl] at hP
      exact va_bald C.1 C.2.1 C.2.2.2.2.2.1.1 (P1 hP) 0 0 rfl rfl (vin hj) hd hk
    · have hfk : fk ci kf = (1, 3) := Prod.ext h1 h2
      rw [ct_num hfk hgl] at hP
      exact va_zald C.1 C.2.1 C.2.2.2.2.2.1.1 (P1 hP) 0 3 rfl rfl (vin hj) hd hk
  · have : ci = 13 := by omega
    subst this
    obtain ⟨rfl, -⟩ := a1.2.2.2.2.1 kf i n hgl
    have h2' : (fun t => t == 0 || t == 3) (fk 13 0).2 = true := h2
    exact absurd h2' (by decide)

theorem k_saload (C : Cx D cA μ p s m args meth c)  (hd : decode (cod μ) pc = .ok (.saload, 1)) (h : Sd (clo dd) (fun x => Mn x.2.2.2.2 σ1 ∧ PP p l e R s m args below meth c Qf D cA g base μ σ0 x) (fun r' s' => r' = r1 ∧ s' = σ1) (ald 2 μ (pc + 1) ls st σ (fun t => t == 2))) : PP p l e R s m args below meth c Qf D cA g base μ σ0 (μ, pc, ls, st, σ) := by
  have hz := popI_inv h; clear h; obtain ⟨j, r, rfl, h⟩ := hz
  have hz := popW_inv h; clear h; obtain ⟨ci, kf, i, n, r, rfl, hgl, hi, h⟩ := hz
  have hz := if_inv h; clear h; obtain ⟨⟨h1, h2, hj⟩, h⟩ := hz
  intro e1 hl H locs cells slots lsc a1 a2 a3 a4 a5
  have hk := h.2 e1 hl H locs cells slots lsc a1 a2 a3 a4 a5
  have hc14 := Wd.le13 a1 hi
  rcases Nat.lt_or_ge ci 13 with hc | hc
  · have hfk : fk ci kf = (1, 2) := by simp only [beq_iff_eq] at h2; exact Prod.ext h1 h2
    have hP := (Wd.row a1 hc hi hgl).1
    rw [ct_num hfk hgl] at hP
    exact va_sald C.1 C.2.1 C.2.2.2.2.2.1.1 (P1 hP) 0 2 rfl rfl (vin hj) hd hk
  · have : ci = 13 := by omega
    subst this
    obtain ⟨rfl, -⟩ := a1.2.2.2.2.1 kf i n hgl
    have h2' : (fun t => t == 2) (fk 13 0).2 = true := h2
    exact absurd h2' (by decide)
theorem storeA {ci k i n t j : Nat} (hW : Wd D cA g base σ s H) (hS0 : va_S (fun q => base ≤ q) s.heap H locs) (hc : ci < 13) (hi : i < gN σ ci) (hgl : gL σ ci k i = some n) (h1 : fk ci k = (1, t)) {H1 : Heap} {x : Int32} (e : H1[g ci (k + 1) i]? = some ((vp_cell (cA t) (n, .inl (gA σ ci k i))).setSlot j (.int x))) (z : H1.size = H.size) (oq : ∀ q, q ≠ g ci (k + 1) i → H1[q]? = H[q]?) :
    Wd D cA g base (setA σ ci k i (upd (gA σ ci k i) j x)) s H1 ∧ va_S (fun q => base ≤ q) s.heap H1 (locs ++ [⟨g ci (k + 1) i, j⟩]) := by
  have hrow := Wd.row hW hc hi hgl
  refine ⟨Wd.set hW rfl rfl rfl ?_ ⟨hc, hi, ?_⟩ z ?_ oq ct_setA, hS0.put z oq hrow.2⟩
  · exact up3_ne (fun z => by omega)
  · show gL σ ci k i ≠ none
    rw [hgl]; exact fun z => by cases z
  · have hgl2 : gL (setA σ ci k i (upd (gA σ ci k i) j x)) ci k i = some n := hgl
    rw [ct_num h1 hgl2]
    show H1[g ci (k + 1) i]? = some (vp_cell (cA t) (n, .inl (gA (setA σ ci k i (upd (gA σ ci k i) j x)) ci k i)))
    have hga : gA (setA σ ci k i (upd (gA σ ci k i) j x)) ci k i = upd (gA σ ci k i) j x := up3_eq
    rw [hga, e, vp_cell_i, vp_cell_i, arrV_store]
    congr 2
    funext q
    by_cases hq : q = j
    · subst hq; simp [updV, upd]
    · simp [updV, upd, hq]
theorem k_iastore (C : Cx D cA μ p s m args meth c)  (hd : decode (cod μ) pc = .ok (.iastore, 1)) (h : Sd (clo dd) (fun x => Mn x.2.2.2.2 σ1 ∧ PP p l e R s m args below meth c Qf D cA g base μ σ0 x) (fun r' s' => r' = r1 ∧ s' = σ1) (ast μ (pc + 1) ls st σ (fun t => t == 1))) : PP p l e R s m args below meth c Qf D cA g base μ σ0 (μ, pc, ls, st, σ) := by
  have hz := popI_inv h; clear h; obtain ⟨x, r, rfl, h⟩ := hz
  have hz := popI_inv h; clear h; obtain ⟨j, r, rfl, h⟩ := hz
  have hz := popW_inv h; clear h; obtain ⟨ci, kf, i, n, r, rfl, hgl, hi, h⟩ := hz
  have hz := if_inv h; clear h; obtain ⟨⟨hc, h1, h2, hj⟩, h⟩ := hz
  intro e1 hl H locs cells slots lsc a1 a2 a3 a4 a5
  simp only [Bool.or_eq_true, beq_iff_eq] at h2
  have hfk : fk ci kf = (1, 1) := Prod.ext h1 h2
  have hcell := (Wd.row a1 hc hi hgl).1
  rw [ct_num hfk hgl] at hcell
  have hin' : vp_in j n := vin hj
  refine W.iast C.1 C.2.1 hcell ((C.2.2.2.2.2.1.1.2 1 _ rfl).1 n (fun j => .int (gA σ ci kf i j))) (fun q => by cases q) (by show ¬ (j < 0 ∨ (arrV _ _ _).slots.size ≤ _); rw [arrV_size]; exact hin') rfl rfl hd fun H1 e z oq => ?_
  obtain ⟨w1, w2⟩ := storeA a1 a3 hc hi hgl hfk (x := x) e z oq
  refine h.2 e1 hl H1 _ cells slots lsc ?_ a2 w2 a4 a5
  rw [hfk]
  exact w1
theorem k_bastore (C : Cx D cA μ p s m args meth c)  (hd : decode (cod μ) pc = .ok (.bastore, 1)) (h : Sd (clo dd) (fun x => Mn x.2.2.2.2 σ1 ∧ PP p l e R s m args below meth c Qf D cA g base μ σ0 x) (fun r' s' => r' = r1 ∧ s' = σ1) (ast μ (pc + 1) ls st σ (fun t => t == 0 || t == 3))) : PP p l e R s m args below meth c Qf D cA g base μ σ0 (μ, pc, ls, st, σ) := by
  have hz := popI_inv h; clear h; obtain ⟨x, r, rfl, h⟩ := hz
  have hz := popI_inv h; clear h; obtain ⟨j, r, rfl, h⟩ := hz
  have hz := popW_inv h; clear h; obtain ⟨ci, kf, i, n, r, rfl, hgl, hi, h⟩ := hz
  have hz := if_inv h; clear h; obtain ⟨⟨hc, h1, h2, hj⟩, h⟩ := hz
  intro e1 hl H locs cells slots lsc a1 a2 a3 a4 a5
  simp only [Bool.or_eq_true, beq_iff_eq] at h2
  rcases h2 with h2 | h2
  · have hfk : fk ci kf = (1, 0) := Prod.ext h1 h2
    have hcell := (Wd.row a1 hc hi hgl).1
    rw [ct_num hfk hgl] at hcell
    have hin' : vp_in j n := vin hj
    refine W.bast C.1 C.2.1 hcell ((C.2.2.2.2.2.1.1.2 0 _ rfl).1 n (fun j => .int (gA σ ci kf i j))) (fun q => by cases q) (by show ¬ (j < 0 ∨ (arrV _ _ _).slots.size ≤ _); rw [arrV_size]; exact hin') rfl rfl hd fun H1 e z oq => ?_
    obtain ⟨w1, w2⟩ := storeA a1 a3 hc hi hgl hfk (x := x.toInt8.toInt32) e z oq
    refine h.2 e1 hl H1 _ cells slots lsc ?_ a2 w2 a4 a5
    rw [hfk]
    exact w1
  · have hfk : fk ci kf = (1, 3) := Prod.ext h1 h2
    have hcell := (Wd.row a1 hc hi hgl).1
    rw [ct_num hfk hgl] at hcell
    have hin' : vp_in j n := vin hj
    refine W.zast C.1 C.2.1 hcell ((C.2.2.2.2.2.1.1.2 3 _ rfl).1 n (fun j => .int (gA σ ci kf i j))) (fun q => by cases q) (by show ¬ (j < 0 ∨ (arrV _ _ _).slots.size ≤ _); rw [arrV_size]; exact hin') rfl rfl hd fun H1 e z oq => ?_
    obtain ⟨w1, w2⟩ := storeA a1 a3 hc hi hgl hfk (x := x &&& 1) e z oq
    refine h.2 e1 hl H1 _ cells slots lsc ?_ a2 w2 a4 a5
    rw [hfk]
    exact w1
theorem k_sastore (C : Cx D cA μ p s m args meth c)  (hd : decode (cod μ) pc = .ok (.sastore, 1)) (h : Sd (clo dd) (fun x => Mn x.2.2.2.2 σ1 ∧ PP p l e R s m args below meth c Qf D cA g base μ σ0 x) (fun r' s' => r' = r1 ∧ s' = σ1) (ast μ (pc + 1) ls st σ (fun t => t == 2))) : PP p l e R s m args below meth c Qf D cA g base μ σ0 (μ, pc, ls, st, σ) := by
  have hz := popI_inv h; clear h; obtain ⟨x, r, rfl, h⟩ := hz
  have hz := popI_inv h; clear h; obtain ⟨j, r, rfl, h⟩ := hz
  have hz := popW_inv h; clear h; obtain ⟨ci, kf, i, n, r, rfl, hgl, hi, h⟩ := hz
  have hz := if_inv h; clear h; obtain ⟨⟨hc, h1, h2, hj⟩, h⟩ := hz
  intro e1 hl H locs cells slots lsc a1 a2 a3 a4 a5
  simp only [Bool.or_eq_true, beq_iff_eq] at h2
  have hfk : fk ci kf = (1, 2) := Prod.ext h1 h2
  have hcell := (Wd.row a1 hc hi hgl).1
  rw [ct_num hfk hgl] at hcell
  have hin' : vp_in j n := vin hj
  refine W.sast C.1 C.2.1 hcell ((C.2.2.2.2.2.1.1.2 2 _ rfl).1 n (fun j => .int (gA σ ci kf i j))) (fun q => by cases q) (by show ¬ (j < 0 ∨ (arrV _ _ _).slots.size ≤ _); rw [arrV_size]; exact hin') rfl rfl hd fun H1 e z oq => ?_
  obtain ⟨w1, w2⟩ := storeA a1 a3 hc hi hgl hfk (x := x.toInt16.toInt32) e z oq
  refine h.2 e1 hl H1 _ cells slots lsc ?_ a2 w2 a4 a5
  rw [hfk]
  exact w1
theorem k_aaload (C : Cx D cA μ p s m args meth c)  (hd : decode (cod μ) pc = .ok (.aaload, 1)) (h : Sd (clo dd) (fun x => Mn x.2.2.2.2 σ1 ∧ PP p l e R s m args below meth c Qf D cA g base μ σ0 x) (fun r' s' => r' = r1 ∧ s' = σ1) (popI st fun j r => popW σ r fun c k i n r => if c < 13 ∧ (fk c k).1 = 3 ∧ (0 ≤ j.toInt ∧ j.toInt < n) then nx μ (pc + 1) ls (vR ((gQ σ c k i j.toNatClampNeg).map fun q => ((fk c k).2, 0, q)) :: r) σ else none)) : PP p l e R s m args below meth c Qf D cA g base μ σ0 (μ, pc, ls, st, σ) := by
  have hz := popI_inv h; clear h; obtain ⟨j, r, rfl, h⟩ := hz
  have hz := popW_inv h; clear h; obtain ⟨ci, kf, i, n, r, rfl, hgl, hi, h⟩ := hz
  have hz := if_inv h; clear h; obtain ⟨⟨hc, h1, hj⟩, h⟩ := hz
  intro e1 hl H locs cells slots lsc a1 a2 a3 a4 a5
  have hk := h.2 e1 hl H locs cells slots lsc a1 a2 a3 a4 a5
  have hk : W p l e R s m args below meth c H locs cells slots Qf (F0 m (pc + 1) lsc (cv g (vR ((gQ σ ci kf i j.toNatClampNeg).map fun q => ((fk ci kf).2, 0, q))) :: r.map (cv g))) := hk
  rw [cv_map] at hk
  have hfk : fk ci kf = (3, (fk ci kf).2) := by rw [← h1]
  obtain ⟨-, -, t0, ht0⟩ := fk3 cA (ci := ci) (k := kf) (by omega) h1
  have hP := (Wd.row a1 hc hi hgl).1
  rw [ct_obj hfk hgl] at hP
  exact va_aldq C.1 C.2.1 C.2.2.2.2.2.1.1 (P1 hP) 0 t0 rfl ht0 (vin hj) hd hk
theorem k_aastore (C : Cx D cA μ p s m args meth c)  (hd : decode (cod μ) pc = .ok (.aastore, 1)) (h : Sd (clo dd) (fun x => Mn x.2.2.2.2 σ1 ∧ PP p l e R s m args below meth c Qf D cA g base μ σ0 x) (fun r' s' => r' = r1 ∧ s' = σ1) (popR st fun v r => popI r fun j r => popW σ r fun c k i n r => if c < 13 ∧ (fk c k).1 = 3 ∧ (0 ≤ j.toInt ∧ j.toInt < n) then (match v with
      | some (c', 0, q) => if c' = (fk c k).2 ∧ q < gN σ c' then nx μ (pc + 1) ls r (setQ σ c k i (va_up (gQ σ c k i) j.toNatClampNeg (some q))) else none
      | _ => none) else none)) : PP p l e R s m args below meth c Qf D cA g base μ σ0 (μ, pc, ls, st, σ) := by
  have hz := popR_inv h; clear h; obtain ⟨v, r, rfl, h⟩ := hz
  have hz := popI_inv h; clear h; obtain ⟨j, r, rfl, h⟩ := hz
  have hz := popW_inv h; clear h; obtain ⟨ci, kf, i, n, r, rfl, hgl, hi, h⟩ := hz
  have hz := if_inv h; clear h; obtain ⟨⟨hc, h1, hj⟩, h⟩ := hz
  match v, h with
  | none, h => exact h.elim
  | some (c', k' + 1, q), h => exact h.elim
  | some (c', 0, q), hh =>
    have hz := if_inv hh
    obtain ⟨⟨hcc', hq⟩, h5⟩ := hz
    subst hcc'
    intro e1 hl H locs cells slots lsc a1 a2 a3 a4 a5
    have hfk : fk ci kf = (3, (fk ci kf).2) := by rw [← h1]
    obtain ⟨hc3, -, t0, ht0⟩ := fk3 cA (ci := ci) (k := kf) (by omega) h1
    generalize hcc : (fk ci kf).2 = cc at *
    have hrow := Wd.row a1 hc hi hgl
    have hP := hrow.1
    rw [ct_obj hfk hgl] at hP
    obtain ⟨T, hcl, -⟩ := okK_all hc3
    obtain ⟨r', hr', cellV, g1, g2, g3, -⟩ := (Wd.obj a1 hc3 hq).1
    have hr2 : r' = (onm cc, T, nfd cc) := Option.some.inj (hr'.symm.trans hcl)
    subst hr2
    have hcls := (C.2.2.2.2.2.1.1.1 cc _ hcl).2
    obtain ⟨kA, comp, k1, k2, k3, -⟩ := (C.2.2.2.2.2.1.1.2 t0 _ ht0).2
    have hcomp : comp = D.1 cc := Option.some.inj (k3.symm.trans hcls.1)
    subst hcomp
    obtain ⟨kC, hkC, -⟩ := hcls.2
    have hlt : j.toNatClampNeg < n := Nat.not_le.mp fun q => (vin hj) (Or.inr q)
    have h0 : ¬ j < 0 := fun q => (vin hj) (Or.inl q)
    refine W.aast C.1 C.2.1 hP (fun q h => by cases h) (fun h => by cases h) k1 k2 rfl hkC ⟨h0, by show _ < (arrV _ _ _).slots.size; rw [arrV_size]; exact hlt⟩ g1 (fun q h => by rw [g3] at h; cases h) (by rw [g2]; exact hkC) (by rw [g2]; exact va_assign hcls) rfl rfl hd fun H1 e z oq => ?_
    refine h5.2 e1 hl H1 _ cells slots lsc (Wd.set a1 rfl rfl rfl rfl ⟨hc, hi, by show gL σ ci kf i ≠ none; rw [hgl]; exact fun z => by cases z⟩ z ?_ oq ct_setQ) a2 (a3.put z oq hrow.2) a4 a5
    have hgl2 : gL (setQ σ ci kf i (va_up (gQ σ ci kf i) j.toNatClampNeg (some q))) ci kf i = some n := hgl
    rw [ct_obj hfk hgl2]
    have hgq : gQ (setQ σ ci kf i (va_up (gQ σ ci kf i) j.toNatClampNeg (some q))) ci kf i = va_up (gQ σ ci kf i) j.toNatClampNeg (some q) := up3_eq
    rw [hgq]
    show H1[g ci (kf + 1) i]? = some (vp_cell _ _)
    rw [e, vp_cell_q, vp_cell_q, arrV_store]
    congr 2
    funext z
    by_cases hz : z = j.toNatClampNeg
    · subst hz
      simp [updV, va_up, va_rf]
    · simp [updV, va_up, hz]
theorem k_alen (C : Cx D cA μ p s m args meth c)  (hd : decode (cod μ) pc = .ok (.arraylength, 1)) (h : Sd (clo dd) (fun x => Mn x.2.2.2.2 σ1 ∧ PP p l e R s m args below meth c Qf D cA g base μ σ0 x) (fun r' s' => r' = r1 ∧ s' = σ1) (popW σ st fun c k _ n r => if (fk c k).1 = 1 then nx μ (pc + 1) ls (vI (Int32.ofNat n) :: r) σ else none)) : PP p l e R s m args below meth c Qf D cA g base μ σ0 (μ, pc, ls, st, σ) := by
  have hz := popW_inv h; clear h; obtain ⟨ci, kf, i, n, r, rfl, hgl, hi, h⟩ := hz
  have hz := if_inv h; clear h; obtain ⟨h1, h⟩ := hz
  intro e1 hl H locs cells slots lsc a1 a2 a3 a4 a5
  have hk := h.2 e1 hl H locs cells slots lsc a1 a2 a3 a4 a5
  have hc14 := Wd.le13 a1 hi
  rcases Nat.lt_or_ge ci 13 with hc | hc
  · have hfk : fk ci kf = (1, (fk ci kf).2) := by rw [← h1]
    have hP := (Wd.row a1 hc hi hgl).1
    rw [ct_num hfk hgl] at hP
    exact va_alen C.1 C.2.1 C.2.2.2.2.2.1.1 (P1 hP) 0 _ rfl (tys1 cA (fk1 hc14 h1)) rfl hd hk
  · have : ci = 13 := by omega
    subst this
    obtain ⟨rfl, rfl, ⟨scr, x1, x2, x3, x4, x5⟩, -⟩ := a1.2.2.2.2.1 kf i n hgl
    exact W.alen (n := Int32.ofNat n) C.1 C.2.1 x1 x2 (by rw [x4] <;> rfl) rfl rfl hd hk
end HP
