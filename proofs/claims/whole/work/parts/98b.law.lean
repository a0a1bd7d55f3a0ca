theorem law_type {h0 m L : Nat} {xs : Nat → Int32} {σ : St} {Q : Option AV → St → Prop} (h : Inv h0 m σ) (hs : SC L xs σ) (hm : 6 * m + 6 ≤ L) (hL : L ≤ 3072) (ih : ∀ σ', Inv h0 (m + 1) σ' → SC L xs σ' → Rn 100 Q (218, 18, [some (vR (some (13, 1, 0))), some (vR (some (11, 0, 0))), some (vR (some (12, 0, 0))), some (vI (nI (6 * (m + 1))))], [], σ')) : Rn 100 Q (218, 216, [some (vR (some (13, 1, 0))), some (vR (some (11, 0, 0))), some (vR (some (12, 0, 0))), some (vI (nI (6 * m)))], [], σ) := by
  have hT := SC_keep (L := L) (xs := xs) (c := (66, 0, _, [], σ)) hs (T_type (h0 := h0) (n := m) (d := 98) (σ := σ) (w := (xs (6 * m + 1)).toInt64 <<< ((32 : Int32).toInt64 &&& 63) ||| (xs (6 * m + 2)).toInt64 &&& 4294967295) (a := xs (6 * m + 3)) h)
  obtain ⟨s1, s2, s3, s4⟩ := hs
  have n11 := N11 h.1
  have n12 := N12 h.1
  have lw6 : nI (6 * m) + 6 = nI (6 * (m + 1)) := by rw [lN6, nI_add]; congr 1
  have i1 : nI (6 * m) + 1 = nI (6 * m + 1) := nI_add _ 1
  have j1 : (nI (6 * m + 1)).toInt = ((6 * m + 1 : Nat) : Int) := nI_toInt (by omega)
  have k1 : (nI (6 * m + 1)).toNatClampNeg = 6 * m + 1 := nI_clamp (by omega)
  have o1 : (0 : Int) ≤ ((6 * m + 1 : Nat) : Int) ∧ ((6 * m + 1 : Nat) : Int) < (L : Int) := by omega
  have i2 : nI (6 * m) + 2 = nI (6 * m + 2) := nI_add _ 2
  have j2 : (nI (6 * m + 2)).toInt = ((6 * m + 2 : Nat) : Int) := nI_toInt (by omega)
  have k2 : (nI (6 * m + 2)).toNatClampNeg = 6 * m + 2 := nI_clamp (by omega)
  have o2 : (0 : Int) ≤ ((6 * m + 2 : Nat) : Int) ∧ ((6 * m + 2 : Nat) : Int) < (L : Int) := by omega
  have i3 : nI (6 * m) + 3 = nI (6 * m + 3) := nI_add _ 3
  have j3 : (nI (6 * m + 3)).toInt = ((6 * m + 3 : Nat) : Int) := nI_toInt (by omega)
  have k3 : (nI (6 * m + 3)).toNatClampNeg = 6 * m + 3 := nI_clamp (by omega)
  have o3 : (0 : Int) ≤ ((6 * m + 3 : Nat) : Int) ∧ ((6 * m + 3 : Nat) : Int) < (L : Int) := by omega
  have i4 : nI (6 * m) + 4 = nI (6 * m + 4) := nI_add _ 4
  have j4 : (nI (6 * m + 4)).toInt = ((6 * m + 4 : Nat) : Int) := nI_toInt (by omega)
  have k4 : (nI (6 * m + 4)).toNatClampNeg = 6 * m + 4 := nI_clamp (by omega)
  have o4 : (0 : Int) ≤ ((6 * m + 4 : Nat) : Int) ∧ ((6 * m + 4 : Nat) : Int) < (L : Int) := by omega
  have i5 : nI (6 * m) + 5 = nI (6 * m + 5) := nI_add _ 5
  have j5 : (nI (6 * m + 5)).toInt = ((6 * m + 5 : Nat) : Int) := nI_toInt (by omega)
  have k5 : (nI (6 * m + 5)).toNatClampNeg = 6 * m + 5 := nI_clamp (by omega)
  have o5 : (0 : Int) ≤ ((6 * m + 5 : Nat) : Int) ∧ ((6 * m + 5 : Nat) : Int) < (L : Int) := by omega
  simp +decide only [e218_216, e218_217, e218_218, e218_219, e218_220, e218_221, e218_222, e218_223, e218_225, e218_226, e218_227, e218_228, e218_229, e218_230, e218_231, e218_232, e218_235, e218_236, e218_237, e218_238, e218_239, e218_240, e218_241, e218_242, true_and, and_true, or_true, true_or, if_true, if_false, not_true_eq_false, not_false_eq_true, ne_eq, and_self, Option.toList_some, Option.toList_none, List.cons_append, List.nil_append, catS_0, catS_I, catS_L, catS_R, Option.map_some, Option.map_none, Option.some.injEq, Sum.inl.injEq, exists_eq_left', exists_eq', s1, s2, s3, n11, i1, j1, k1, o1, i2, j2, k2, o2, i3, j3, k3, o3, i4, j4, k4, o4, i5, j5, k5, o5]
  refine Rn_mono (fun r σ1 hz => ?_) hT
  obtain ⟨⟨v, rfl, hm2⟩, hs1⟩ := hz
  have hT2 := SC_keep (L := L) (xs := xs) (c := (132, 0, _, [], σ1)) hs1 hm2
  obtain ⟨x1, x2, x3, n12b⟩ := hs1
  simp +decide only [e218_245, e218_246, e218_247, e218_248, e218_249, e218_250, e218_251, e218_252, e218_254, e218_255, e218_256, e218_257, e218_258, e218_259, e218_260, e218_261, e218_264, e218_265, e218_266, e218_267, e218_268, e218_269, e218_270, e218_271, true_and, and_true, or_true, true_or, if_true, if_false, not_true_eq_false, not_false_eq_true, ne_eq, and_self, Option.toList_some, Option.toList_none, List.cons_append, List.nil_append, catS_0, catS_I, catS_L, catS_R, Option.map_some, Option.map_none, Option.some.injEq, Sum.inl.injEq, exists_eq_left', exists_eq', x1, x2, x3, n12b, i1, j1, k1, o1, i2, j2, k2, o2, i3, j3, k3, o3, i4, j4, k4, o4, i5, j5, k5, o5]
  refine Rn_mono (fun r' σ2 hz2 => ?_) hT2
  obtain ⟨⟨rfl, hI2⟩, hs2⟩ := hz2
  simp +decide only [e218_274, e218_1812, e218_1815, true_and, and_true, or_true, true_or, if_true, if_false, not_true_eq_false, not_false_eq_true, ne_eq, and_self, Option.toList_some, Option.toList_none, List.cons_append, List.nil_append, catS_0, catS_I, catS_L, catS_R, Option.map_some, Option.map_none, Option.some.injEq, Sum.inl.injEq, exists_eq_left', exists_eq', eq_self, lw6]
  exact ih σ2 hI2 hs2
theorem law_edition {h0 m L : Nat} {xs : Nat → Int32} {σ : St} {Q : Option AV → St → Prop} (h : Inv h0 m σ) (hs : SC L xs σ) (hm : 6 * m + 6 ≤ L) (hL : L ≤ 3072) (ih : ∀ σ', Inv h0 (m + 1) σ' → SC L xs σ' → Rn 100 Q (218, 18, [some (vR (some (13, 1, 0))), some (vR (some (11, 0, 0))), some (vR (some (12, 0, 0))), some (vI (nI (6 * (m + 1))))], [], σ')) : Rn 100 Q (218, 279, [some (vR (some (13, 1, 0))), some (vR (some (11, 0, 0))), some (vR (some (12, 0, 0))), some (vI (nI (6 * m)))], [], σ) := by
  have hT := SC_keep (L := L) (xs := xs) (c := (67, 0, _, [], σ)) hs (T_edition (h0 := h0) (n := m) (d := 59) (σ := σ) (a := xs (6 * m + 1)) (b := xs (6 * m + 2)) h)
  obtain ⟨s1, s2, s3, s4⟩ := hs
  have n11 := N11 h.1
  have n12 := N12 h.1
  have lw6 : nI (6 * m) + 6 = nI (6 * (m + 1)) := by rw [lN6, nI_add]; congr 1
  have i1 : nI (6 * m) + 1 = nI (6 * m + 1) := nI_add _ 1
  have j1 : (nI (6 * m + 1)).toInt = ((6 * m + 1 : Nat) : Int) := nI_toInt (by omega)
  have k1 : (nI (6 * m + 1)).toNatClampNeg = 6 * m + 1 := nI_clamp (by omega)
  have o1 : (0 : Int) ≤ ((6 * m + 1 : Nat) : Int) ∧ ((6 * m + 1 : Nat) : Int) < (L : Int) := by omega
  have i2 : nI (6 * m) + 2 = nI (6 * m + 2) := nI_add _ 2
  have j2 : (nI (6 * m + 2)).toInt = ((6 * m + 2 : Nat) : Int) := nI_toInt (by omega)
  have k2 : (nI (6 * m + 2)).toNatClampNeg = 6 * m + 2 := nI_clamp (by omega)
  have o2 : (0 : Int) ≤ ((6 * m + 2 : Nat) : Int) ∧ ((6 * m + 2 : Nat) : Int) < (L : Int) := by omega
  have i3 : nI (6 * m) + 3 = nI (6 * m + 3) := nI_add _ 3
  have j3 : (nI (6 * m + 3)).toInt = ((6 * m + 3 : Nat) : Int) := nI_toInt (by omega)
  have k3 : (nI (6 * m + 3)).toNatClampNeg = 6 * m + 3 := nI_clamp (by omega)
  have o3 : (0 : Int) ≤ ((6 * m + 3 : Nat) : Int) ∧ ((6 * m + 3 : Nat) : Int) < (L : Int) := by omega
  have i4 : nI (6 * m) + 4 = nI (6 * m + 4) := nI_add _ 4
  have j4 : (nI (6 * m + 4)).toInt = ((6 * m + 4 : Nat) : Int) := nI_toInt (by omega)
  have k4 : (nI (6 * m + 4)).toNatClampNeg = 6 * m + 4 := nI_clamp (by omega)
  have o4 : (0 : Int) ≤ ((6 * m + 4 : Nat) : Int) ∧ ((6 * m + 4 : Nat) : Int) < (L : Int) := by omega
  have i5 : nI (6 * m) + 5 = nI (6 * m + 5) := nI_add _ 5
  have j5 : (nI (6 * m + 5)).toInt = ((6 * m + 5 : Nat) : Int) := nI_toInt (by omega)
  have k5 : (nI (6 * m + 5)).toNatClampNeg = 6 * m + 5 := nI_clamp (by omega)
  have o5 : (0 : Int) ≤ ((6 * m + 5 : Nat) : Int) ∧ ((6 * m + 5 : Nat) : Int) < (L : Int) := by omega
  simp +decide only [e218_279, e218_280, e218_281, e218_282, e218_283, e218_284, e218_285, e218_286, e218_287, e218_288, e218_289, e218_290, true_and, and_true, or_true, true_or, if_true, if_false, not_true_eq_false, not_false_eq_true, ne_eq, and_self, Option.toList_some, Option.toList_none, List.cons_append, List.nil_append, catS_0, catS_I, catS_L, catS_R, Option.map_some, Option.map_none, Option.some.injEq, Sum.inl.injEq, exists_eq_left', exists_eq', s1, s2, s3, n11, i1, j1, k1, o1, i2, j2, k2, o2, i3, j3, k3, o3, i4, j4, k4, o4, i5, j5, k5, o5]
  refine Rn_mono (fun r σ1 hz => ?_) hT
  obtain ⟨⟨v, rfl, hm2⟩, hs1⟩ := hz
  have hT2 := SC_keep (L := L) (xs := xs) (c := (146, 0, _, [], σ1)) hs1 hm2
  obtain ⟨x1, x2, x3, n12b⟩ := hs1
  simp +decide only [e218_293, e218_294, e218_295, e218_296, e218_297, e218_298, e218_299, e218_300, e218_301, e218_302, e218_303, e218_304, true_and, and_true, or_true, true_or, if_true, if_false, not_true_eq_false, not_false_eq_true, ne_eq, and_self, Option.toList_some, Option.toList_none, List.cons_append, List.nil_append, catS_0, catS_I, catS_L, catS_R, Option.map_some, Option.map_none, Option.some.injEq, Sum.inl.injEq, exists_eq_left', exists_eq', x1, x2, x3, n12b, i1, j1, k1, o1, i2, j2, k2, o2, i3, j3, k3, o3, i4, j4, k4, o4, i5, j5, k5, o5]
  refine Rn_mono (fun r' σ2 hz2 => ?_) hT2
  obtain ⟨⟨rfl, hI2⟩, hs2⟩ := hz2
  simp +decide only [e218_307, e218_1812, e218_1815, true_and, and_true, or_true, true_or, if_true, if_false, not_true_eq_false, not_false_eq_true, ne_eq, and_self, Option.toList_some, Option.toList_none, List.cons_append, List.nil_append, catS_0, catS_I, catS_L, catS_R, Option.map_some, Option.map_none, Option.some.injEq, Sum.inl.injEq, exists_eq_left', exists_eq', eq_self, lw6]
  exact ih σ2 hI2 hs2
theorem law_told {h0 m L : Nat} {xs : Nat → Int32} {σ : St} {Q : Option AV → St → Prop} (h : Inv h0 m σ) (hs : SC L xs σ) (hm : 6 * m + 6 ≤ L) (hL : L ≤ 3072) (ih : ∀ σ', Inv h0 (m + 1) σ' → SC L xs σ' → Rn 100 Q (218, 18, [some (vR (some (13, 1, 0))), some (vR (some (11, 0, 0))), some (vR (some (12, 0, 0))), some (vI (nI (6 * (m + 1))))], [], σ')) : Rn 100 Q (218, 312, [some (vR (some (13, 1, 0))), some (vR (some (11, 0, 0))), some (vR (some (12, 0, 0))), some (vI (nI (6 * m)))], [], σ) := by
  have hT := SC_keep (L := L) (xs := xs) (c := (68, 0, _, [], σ)) hs (T_told (h0 := h0) (n := m) (d := 96) (σ := σ) (a := xs (6 * m + 1)) (b := xs (6 * m + 2)) (c := xs (6 * m + 3)) h)
  obtain ⟨s1, s2, s3, s4⟩ := hs
  have n11 := N11 h.1
  have n12 := N12 h.1
  have lw6 : nI (6 * m) + 6 = nI (6 * (m + 1)) := by rw [lN6, nI_add]; congr 1
  have i1 : nI (6 * m) + 1 = nI (6 * m + 1) := nI_add _ 1
  have j1 : (nI (6 * m + 1)).toInt = ((6 * m + 1 : Nat) : Int) := nI_toInt (by omega)
  have k1 : (nI (6 * m + 1)).toNatClampNeg = 6 * m + 1 := nI_clamp (by omega)
  have o1 : (0 : Int) ≤ ((6 * m + 1 : Nat) : Int) ∧ ((6 * m + 1 : Nat) : Int) < (L : Int) := by omega
  have i2 : nI (6 * m) + 2 = nI (6 * m + 2) := nI_add _ 2
  have j2 : (nI (6 * m + 2)).toInt = ((6 * m + 2 : Nat) : Int) := nI_toInt (by omega)
  have k2 : (nI (6 * m + 2)).toNatClampNeg = 6 * m + 2 := nI_clamp (by omega)
  have o2 : (0 : Int) ≤ ((6 * m + 2 : Nat) : Int) ∧ ((6 * m + 2 : Nat) : Int) < (L : Int) := by omega
  have i3 : nI (6 * m) + 3 = nI (6 * m + 3) := nI_add _ 3
  have j3 : (nI (6 * m + 3)).toInt = ((6 * m + 3 : Nat) : Int) := nI_toInt (by omega)
  have k3 : (nI (6 * m + 3)).toNatClampNeg = 6 * m + 3 := nI_clamp (by omega)
  have o3 : (0 : Int) ≤ ((6 * m + 3 : Nat) : Int) ∧ ((6 * m + 3 : Nat) : Int) < (L : Int) := by omega
  have i4 : nI (6 * m) + 4 = nI (6 * m + 4) := nI_add _ 4
  have j4 : (nI (6 * m + 4)).toInt = ((6 * m + 4 : Nat) : Int) := nI_toInt (by omega)
  have k4 : (nI (6 * m + 4)).toNatClampNeg = 6 * m + 4 := nI_clamp (by omega)
  have o4 : (0 : Int) ≤ ((6 * m + 4 : Nat) : Int) ∧ ((6 * m + 4 : Nat) : Int) < (L : Int) := by omega
  have i5 : nI (6 * m) + 5 = nI (6 * m + 5) := nI_add _ 5
  have j5 : (nI (6 * m + 5)).toInt = ((6 * m + 5 : Nat) : Int) := nI_toInt (by omega)
  have k5 : (nI (6 * m + 5)).toNatClampNeg = 6 * m + 5 := nI_clamp (by omega)
  have o5 : (0 : Int) ≤ ((6 * m + 5 : Nat) : Int) ∧ ((6 * m + 5 : Nat) : Int) < (L : Int) := by omega
  simp +decide only [e218_312, e218_313, e218_314, e218_315, e218_316, e218_317, e218_318, e218_319, e218_320, e218_321, e218_322, e218_323, e218_324, e218_325, e218_326, e218_327, e218_328, true_and, and_true, or_true, true_or, if_true, if_false, not_true_eq_false, not_false_eq_true, ne_eq, and_self, Option.toList_some, Option.toList_none, List.cons_append, List.nil_append, catS_0, catS_I, catS_L, catS_R, Option.map_some, Option.map_none, Option.some.injEq, Sum.inl.injEq, exists_eq_left', exists_eq', s1, s2, s3, n11, i1, j1, k1, o1, i2, j2, k2, o2, i3, j3, k3, o3, i4, j4, k4, o4, i5, j5, k5, o5]
  refine Rn_mono (fun r σ1 hz => ?_) hT
  obtain ⟨⟨v, rfl, hm2⟩, hs1⟩ := hz
  have hT2 := SC_keep (L := L) (xs := xs) (c := (149, 0, _, [], σ1)) hs1 hm2
  obtain ⟨x1, x2, x3, n12b⟩ := hs1
  simp +decide only [e218_331, e218_332, e218_333, e218_334, e218_335, e218_336, e218_337, e218_338, e218_339, e218_340, e218_341, e218_342, e218_343, e218_344, e218_345, e218_346, e218_347, true_and, and_true, or_true, true_or, if_true, if_false, not_true_eq_false, not_false_eq_true, ne_eq, and_self, Option.toList_some, Option.toList_none, List.cons_append, List.nil_append, catS_0, catS_I, catS_L, catS_R, Option.map_some, Option.map_none, Option.some.injEq, Sum.inl.injEq, exists_eq_left', exists_eq', x1, x2, x3, n12b, i1, j1, k1, o1, i2, j2, k2, o2, i3, j3, k3, o3, i4, j4, k4, o4, i5, j5, k5, o5]
  refine Rn_mono (fun r' σ2 hz2 => ?_) hT2
  obtain ⟨⟨rfl, hI2⟩, hs2⟩ := hz2
  simp +decide only [e218_350, e218_1812, e218_1815, true_and, and_true, or_true, true_or, if_true, if_false, not_true_eq_false, not_false_eq_true, ne_eq, and_self, Option.toList_some, Option.toList_none, List.cons_append, List.nil_append, catS_0, catS_I, catS_L, catS_R, Option.map_some, Option.map_none, Option.some.injEq, Sum.inl.injEq, exists_eq_left', exists_eq', eq_self, lw6]
  exact ih σ2 hI2 hs2
theorem law_lesson {h0 m L : Nat} {xs : Nat → Int32} {σ : St} {Q : Option AV → St → Prop} (h : Inv h0 m σ) (hs : SC L xs σ) (hm : 6 * m + 6 ≤ L) (hL : L ≤ 3072) (ih : ∀ σ', Inv h0 (m + 1) σ' → SC L xs σ' → Rn 100 Q (218, 18, [some (vR (some (13, 1, 0))), some (vR (some (11, 0, 0))), some (vR (some (12, 0, 0))), some (vI (nI (6 * (m + 1))))], [], σ')) : Rn 100 Q (218, 355, [some (vR (some (13, 1, 0))), some (vR (some (11, 0, 0))), some (vR (some (12, 0, 0))), some (vI (nI (6 * m)))], [], σ) := by
  have hT := SC_keep (L := L) (xs := xs) (c := (69, 0, _, [], σ)) hs (T_lesson (h0 := h0) (n := m) (d := 96) (σ := σ) (a := xs (6 * m + 1)) (b := xs (6 * m + 2)) (c := xs (6 * m + 3)) (w := xs (6 * m + 4)) h)
  obtain ⟨s1, s2, s3, s4⟩ := hs
  have n11 := N11 h.1
  have n12 := N12 h.1
  have lw6 : nI (6 * m) + 6 = nI (6 * (m + 1)) := by rw [lN6, nI_add]; congr 1
  have i1 : nI (6 * m) + 1 = nI (6 * m + 1) := nI_add _ 1
  have j1 : (nI (6 * m + 1)).toInt = ((6 * m + 1 : Nat) : Int) := nI_toInt (by omega)
  have k1 : (nI (6 * m + 1)).toNatClampNeg = 6 * m + 1 := nI_clamp (by omega)
  have o1 : (0 : Int) ≤ ((6 * m + 1 : Nat) : Int) ∧ ((6 * m + 1 : Nat) : Int) < (L : Int) := by omega
  have i2 : nI (6 * m) + 2 = nI (6 * m + 2) := nI_add _ 2
  have j2 : (nI (6 * m + 2)).toInt = ((6 * m + 2 : Nat) : Int) := nI_toInt (by omega)
  have k2 : (nI (6 * m + 2)).toNatClampNeg = 6 * m + 2 := nI_clamp (by omega)
  have o2 : (0 : Int) ≤ ((6 * m + 2 : Nat) : Int) ∧ ((6 * m + 2 : Nat) : Int) < (L : Int) := by omega
  have i3 : nI (6 * m) + 3 = nI (6 * m + 3) := nI_add _ 3
  have j3 : (nI (6 * m + 3)).toInt = ((6 * m + 3 : Nat) : Int) := nI_toInt (by omega)
  have k3 : (nI (6 * m + 3)).toNatClampNeg = 6 * m + 3 := nI_clamp (by omega)
  have o3 : (0 : Int) ≤ ((6 * m + 3 : Nat) : Int) ∧ ((6 * m + 3 : Nat) : Int) < (L : Int) := by omega
  have i4 : nI (6 * m) + 4 = nI (6 * m + 4) := nI_add _ 4
  have j4 : (nI (6 * m + 4)).toInt = ((6 * m + 4 : Nat) : Int) := nI_toInt (by omega)
  have k4 : (nI (6 * m + 4)).toNatClampNeg = 6 * m + 4 := nI_clamp (by omega)
  have o4 : (0 : Int) ≤ ((6 * m + 4 : Nat) : Int) ∧ ((6 * m + 4 : Nat) : Int) < (L : Int) := by omega
  have i5 : nI (6 * m) + 5 = nI (6 * m + 5) := nI_add _ 5
  have j5 : (nI (6 * m + 5)).toInt = ((6 * m + 5 : Nat) : Int) := nI_toInt (by omega)
  have k5 : (nI (6 * m + 5)).toNatClampNeg = 6 * m + 5 := nI_clamp (by omega)
  have o5 : (0 : Int) ≤ ((6 * m + 5 : Nat) : Int) ∧ ((6 * m + 5 : Nat) : Int) < (L : Int) := by omega
  simp +decide only [e218_355, e218_356, e218_357, e218_358, e218_359, e218_360, e218_361, e218_362, e218_363, e218_364, e218_365, e218_366, e218_367, e218_368, e218_369, e218_370, e218_371, e218_372, e218_373, e218_374, e218_375, e218_376, true_and, and_true, or_true, true_or, if_true, if_false, not_true_eq_false, not_false_eq_true, ne_eq, and_self, Option.toList_some, Option.toList_none, List.cons_append, List.nil_append, catS_0, catS_I, catS_L, catS_R, Option.map_some, Option.map_none, Option.some.injEq, Sum.inl.injEq, exists_eq_left', exists_eq', s1, s2, s3, n11, i1, j1, k1, o1, i2, j2, k2, o2, i3, j3, k3, o3, i4, j4, k4, o4, i5, j5, k5, o5]
  refine Rn_mono (fun r σ1 hz => ?_) hT
  obtain ⟨⟨v, rfl, hm2⟩, hs1⟩ := hz
  have hT2 := SC_keep (L := L) (xs := xs) (c := (151, 0, _, [], σ1)) hs1 hm2
  obtain ⟨x1, x2, x3, n12b⟩ := hs1
  simp +decide only [e218_379, e218_380, e218_381, e218_382, e218_383, e218_384, e218_385, e218_386, e218_387, e218_388, e218_389, e218_390, e218_391, e218_392, e218_393, e218_394, e218_395, e218_396, e218_397, e218_398, e218_399, e218_400, true_and, and_true, or_true, true_or, if_true, if_false, not_true_eq_false, not_false_eq_true, ne_eq, and_self, Option.toList_some, Option.toList_none, List.cons_append, List.nil_append, catS_0, catS_I, catS_L, catS_R, Option.map_some, Option.map_none, Option.some.injEq, Sum.inl.injEq, exists_eq_left', exists_eq', x1, x2, x3, n12b, i1, j1, k1, o1, i2, j2, k2, o2, i3, j3, k3, o3, i4, j4, k4, o4, i5, j5, k5, o5]
  refine Rn_mono (fun r' σ2 hz2 => ?_) hT2
  obtain ⟨⟨rfl, hI2⟩, hs2⟩ := hz2
  simp +decide only [e218_403, e218_1812, e218_1815, true_and, and_true, or_true, true_or, if_true, if_false, not_true_eq_false, not_false_eq_true, ne_eq, and_self, Option.toList_some, Option.toList_none, List.cons_append, List.nil_append, catS_0, catS_I, catS_L, catS_R, Option.map_some, Option.map_none, Option.some.injEq, Sum.inl.injEq, exists_eq_left', exists_eq', eq_self, lw6]
  exact ih σ2 hI2 hs2
theorem law_pupil {h0 m L : Nat} {xs : Nat → Int32} {σ : St} {Q : Option AV → St → Prop} (h : Inv h0 m σ) (hs : SC L xs σ) (hm : 6 * m + 6 ≤ L) (hL : L ≤ 3072) (ih : ∀ σ', Inv h0 (m + 1) σ' → SC L xs σ' → Rn 100 Q (218, 18, [some (vR (some (13, 1, 0))), some (vR (some (11, 0, 0))), some (vR (some (12, 0, 0))), some (vI (nI (6 * (m + 1))))], [], σ')) : Rn 100 Q (218, 408, [some (vR (some (13, 1, 0))), some (vR (some (11, 0, 0))), some (vR (some (12, 0, 0))), some (vI (nI (6 * m)))], [], σ) := by
  have hT := SC_keep (L := L) (xs := xs) (c := (70, 0, _, [], σ)) hs (T_pupil (h0 := h0) (n := m) (d := 96) (σ := σ) (a := xs (6 * m + 1)) (b := xs (6 * m + 2)) (c := xs (6 * m + 3)) h)
  obtain ⟨s1, s2, s3, s4⟩ := hs
  have n11 := N11 h.1
  have n12 := N12 h.1
  have lw6 : nI (6 * m) + 6 = nI (6 * (m + 1)) := by rw [lN6, nI_add]; congr 1
  have i1 : nI (6 * m) + 1 = nI (6 * m + 1) := nI_add _ 1
  have j1 : (nI (6 * m + 1)).toInt = ((6 * m + 1 : Nat) : Int) := nI_toInt (by omega)
  have k1 : (nI (6 * m + 1)).toNatClampNeg = 6 * m + 1 := nI_clamp (by omega)
  have o1 : (0 : Int) ≤ ((6 * m + 1 : Nat) : Int) ∧ ((6 * m + 1 : Nat) : Int) < (L : Int) := by omega
  have i2 : nI (6 * m) + 2 = nI (6 * m + 2) := nI_add _ 2
  have j2 : (nI (6 * m + 2)).toInt = ((6 * m + 2 : Nat) : Int) := nI_toInt (by omega)
  have k2 : (nI (6 * m + 2)).toNatClampNeg = 6 * m + 2 := nI_clamp (by omega)
  have o2 : (0 : Int) ≤ ((6 * m + 2 : Nat) : Int) ∧ ((6 * m + 2 : Nat) : Int) < (L : Int) := by omega
  have i3 : nI (6 * m) + 3 = nI (6 * m + 3) := nI_add _ 3
  have j3 : (nI (6 * m + 3)).toInt = ((6 * m + 3 : Nat) : Int) := nI_toInt (by omega)
  have k3 : (nI (6 * m + 3)).toNatClampNeg = 6 * m + 3 := nI_clamp (by omega)
  have o3 : (0 : Int) ≤ ((6 * m + 3 : Nat) : Int) ∧ ((6 * m + 3 : Nat) : Int) < (L : Int) := by omega
  have i4 : nI (6 * m) + 4 = nI (6 * m + 4) := nI_add _ 4
  have j4 : (nI (6 * m + 4)).toInt = ((6 * m + 4 : Nat) : Int) := nI_toInt (by omega)
  have k4 : (nI (6 * m + 4)).toNatClampNeg = 6 * m + 4 := nI_clamp (by omega)
  have o4 : (0 : Int) ≤ ((6 * m + 4 : Nat) : Int) ∧ ((6 * m + 4 : Nat) : Int) < (L : Int) := by omega
  have i5 : nI (6 * m) + 5 = nI (6 * m + 5) := nI_add _ 5
  have j5 : (nI (6 * m + 5)).toInt = ((6 * m + 5 : Nat) : Int) := nI_toInt (by omega)
  have k5 : (nI (6 * m + 5)).toNatClampNeg = 6 * m + 5 := nI_clamp (by omega)
  have o5 : (0 : Int) ≤ ((6 * m + 5 : Nat) : Int) ∧ ((6 * m + 5 : Nat) : Int) < (L : Int) := by omega
  simp +decide only [e218_408, e218_409, e218_410, e218_411, e218_412, e218_413, e218_414, e218_415, e218_416, e218_417, e218_418, e218_419, e218_420, e218_421, e218_422, e218_423, e218_424, true_and, and_true, or_true, true_or, if_true, if_false, not_true_eq_false, not_false_eq_true, ne_eq, and_self, Option.toList_some, Option.toList_none, List.cons_append, List.nil_append, catS_0, catS_I, catS_L, catS_R, Option.map_some, Option.map_none, Option.some.injEq, Sum.inl.injEq, exists_eq_left', exists_eq', s1, s2, s3, n11, i1, j1, k1, o1, i2, j2, k2, o2, i3, j3, k3, o3, i4, j4, k4, o4, i5, j5, k5, o5]
  refine Rn_mono (fun r σ1 hz => ?_) hT
  obtain ⟨⟨v, rfl, hm2⟩, hs1⟩ := hz
  have hT2 := SC_keep (L := L) (xs := xs) (c := (153, 0, _, [], σ1)) hs1 hm2
  obtain ⟨x1, x2, x3, n12b⟩ := hs1
  simp +decide only [e218_427, e218_428, e218_429, e218_430, e218_431, e218_432, e218_433, e218_434, e218_435, e218_436, e218_437, e218_438, e218_439, e218_440, e218_441, e218_442, e218_443, true_and, and_true, or_true, true_or, if_true, if_false, not_true_eq_false, not_false_eq_true, ne_eq, and_self, Option.toList_some, Option.toList_none, List.cons_append, List.nil_append, catS_0, catS_I, catS_L, catS_R, Option.map_some, Option.map_none, Option.some.injEq, Sum.inl.injEq, exists_eq_left', exists_eq', x1, x2, x3, n12b, i1, j1, k1, o1, i2, j2, k2, o2, i3, j3, k3, o3, i4, j4, k4, o4, i5, j5, k5, o5]
  refine Rn_mono (fun r' σ2 hz2 => ?_) hT2
  obtain ⟨⟨rfl, hI2⟩, hs2⟩ := hz2
  simp +decide only [e218_446, e218_1812, e218_1815, true_and, and_true, or_true, true_or, if_true, if_false, not_true_eq_false, not_false_eq_true, ne_eq, and_self, Option.toList_some, Option.toList_none, List.cons_append, List.nil_append, catS_0, catS_I, catS_L, catS_R, Option.map_some, Option.map_none, Option.some.injEq, Sum.inl.injEq, exists_eq_left', exists_eq', eq_self, lw6]
  exact ih σ2 hI2 hs2
theorem law_who {h0 m L : Nat} {xs : Nat → Int32} {σ : St} {Q : Option AV → St → Prop} (h : Inv h0 m σ) (hs : SC L xs σ) (hm : 6 * m + 6 ≤ L) (hL : L ≤ 3072) (ih : ∀ σ', Inv h0 (m + 1) σ' → SC L xs σ' → Rn 100 Q (218, 18, [some (vR (some (13, 1, 0))), some (vR (some (11, 0, 0))), some (vR (some (12, 0, 0))), some (vI (nI (6 * (m + 1))))], [], σ')) : Rn 100 Q (218, 451, [some (vR (some (13, 1, 0))), some (vR (some (11, 0, 0))), some (vR (some (12, 0, 0))), some (vI (nI (6 * m)))], [], σ) := by
  have hT := SC_keep (L := L) (xs := xs) (c := (71, 0, _, [], σ)) hs (T_who (h0 := h0) (n := m) (d := 97) (σ := σ) (a := xs (6 * m + 1)) (b := xs (6 * m + 2)) (by omega) h)
  obtain ⟨s1, s2, s3, s4⟩ := hs
  have n11 := N11 h.1
  have n12 := N12 h.1
  have lw6 : nI (6 * m) + 6 = nI (6 * (m + 1)) := by rw [lN6, nI_add]; congr 1
  have i1 : nI (6 * m) + 1 = nI (6 * m + 1) := nI_add _ 1
  have j1 : (nI (6 * m + 1)).toInt = ((6 * m + 1 : Nat) : Int) := nI_toInt (by omega)
  have k1 : (nI (6 * m + 1)).toNatClampNeg = 6 * m + 1 := nI_clamp (by omega)
  have o1 : (0 : Int) ≤ ((6 * m + 1 : Nat) : Int) ∧ ((6 * m + 1 : Nat) : Int) < (L : Int) := by omega
  have i2 : nI (6 * m) + 2 = nI (6 * m + 2) := nI_add _ 2
  have j2 : (nI (6 * m + 2)).toInt = ((6 * m + 2 : Nat) : Int) := nI_toInt (by omega)
  have k2 : (nI (6 * m + 2)).toNatClampNeg = 6 * m + 2 := nI_clamp (by omega)
  have o2 : (0 : Int) ≤ ((6 * m + 2 : Nat) : Int) ∧ ((6 * m + 2 : Nat) : Int) < (L : Int) := by omega
  have i3 : nI (6 * m) + 3 = nI (6 * m + 3) := nI_add _ 3
  have j3 : (nI (6 * m + 3)).toInt = ((6 * m + 3 : Nat) : Int) := nI_toInt (by omega)
  have k3 : (nI (6 * m + 3)).toNatClampNeg = 6 * m + 3 := nI_clamp (by omega)
  have o3 : (0 : Int) ≤ ((6 * m + 3 : Nat) : Int) ∧ ((6 * m + 3 : Nat) : Int) < (L : Int) := by omega
  have i4 : nI (6 * m) + 4 = nI (6 * m + 4) := nI_add _ 4
  have j4 : (nI (6 * m + 4)).toInt = ((6 * m + 4 : Nat) : Int) := nI_toInt (by omega)
  have k4 : (nI (6 * m + 4)).toNatClampNeg = 6 * m + 4 := nI_clamp (by omega)
  have o4 : (0 : Int) ≤ ((6 * m + 4 : Nat) : Int) ∧ ((6 * m + 4 : Nat) : Int) < (L : Int) := by omega
  have i5 : nI (6 * m) + 5 = nI (6 * m + 5) := nI_add _ 5
  have j5 : (nI (6 * m + 5)).toInt = ((6 * m + 5 : Nat) : Int) := nI_toInt (by omega)
  have k5 : (nI (6 * m + 5)).toNatClampNeg = 6 * m + 5 := nI_clamp (by omega)
  have o5 : (0 : Int) ≤ ((6 * m + 5 : Nat) : Int) ∧ ((6 * m + 5 : Nat) : Int) < (L : Int) := by omega
  simp +decide only [e218_451, e218_452, e218_453, e218_454, e218_455, e218_456, e218_457, e218_458, e218_459, e218_460, e218_461, e218_462, true_and, and_true, or_true, true_or, if_true, if_false, not_true_eq_false, not_false_eq_true, ne_eq, and_self, Option.toList_some, Option.toList_none, List.cons_append, List.nil_append, catS_0, catS_I, catS_L, catS_R, Option.map_some, Option.map_none, Option.some.injEq, Sum.inl.injEq, exists_eq_left', exists_eq', s1, s2, s3, n11, i1, j1, k1, o1, i2, j2, k2, o2, i3, j3, k3, o3, i4, j4, k4, o4, i5, j5, k5, o5]
  refine Rn_mono (fun r σ1 hz => ?_) hT
  obtain ⟨⟨v, rfl, hm2⟩, hs1⟩ := hz
  have hT2 := SC_keep (L := L) (xs := xs) (c := (156, 0, _, [], σ1)) hs1 hm2
  obtain ⟨x1, x2, x3, n12b⟩ := hs1
  simp +decide only [e218_465, e218_466, e218_467, e218_468, e218_469, e218_470, e218_471, e218_472, e218_473, e218_474, e218_475, e218_476, true_and, and_true, or_true, true_or, if_true, if_false, not_true_eq_false, not_false_eq_true, ne_eq, and_self, Option.toList_some, Option.toList_none, List.cons_append, List.nil_append, catS_0, catS_I, catS_L, catS_R, Option.map_some, Option.map_none, Option.some.injEq, Sum.inl.injEq, exists_eq_left', exists_eq', x1, x2, x3, n12b, i1, j1, k1, o1, i2, j2, k2, o2, i3, j3, k3, o3, i4, j4, k4, o4, i5, j5, k5, o5]
  refine Rn_mono (fun r' σ2 hz2 => ?_) hT2
  obtain ⟨⟨rfl, hI2⟩, hs2⟩ := hz2
  simp +decide only [e218_479, e218_1812, e218_1815, true_and, and_true, or_true, true_or, if_true, if_false, not_true_eq_false, not_false_eq_true, ne_eq, and_self, Option.toList_some, Option.toList_none, List.cons_append, List.nil_append, catS_0, catS_I, catS_L, catS_R, Option.map_some, Option.map_none, Option.some.injEq, Sum.inl.injEq, exists_eq_left', exists_eq', eq_self, lw6]
  exact ih σ2 hI2 hs2
theorem law_habit {h0 m L : Nat} {xs : Nat → Int32} {σ : St} {Q : Option AV → St → Prop} (h : Inv h0 m σ) (hs : SC L xs σ) (hm : 6 * m + 6 ≤ L) (hL : L ≤ 3072) (ih : ∀ σ', Inv h0 (m + 1) σ' → SC L xs σ' → Rn 100 Q (218, 18, [some (vR (some (13, 1, 0))), some (vR (some (11, 0, 0))), some (vR (some (12, 0, 0))), some (vI (nI (6 * (m + 1))))], [], σ')) : Rn 100 Q (218, 484, [some (vR (some (13, 1, 0))), some (vR (some (11, 0, 0))), some (vR (some (12, 0, 0))), some (vI (nI (6 * m)))], [], σ) := by
  have hT := SC_keep (L := L) (xs := xs) (c := (72, 0, _, [], σ)) hs (T_habit (h0 := h0) (n := m) (d := 97) (σ := σ) (a := xs (6 * m + 1)) (b := xs (6 * m + 2)) h)
  obtain ⟨s1, s2, s3, s4⟩ := hs
  have n11 := N11 h.1
  have n12 := N12 h.1
  have lw6 : nI (6 * m) + 6 = nI (6 * (m + 1)) := by rw [lN6, nI_add]; congr 1
  have i1 : nI (6 * m) + 1 = nI (6 * m + 1) := nI_add _ 1
  have j1 : (nI (6 * m + 1)).toInt = ((6 * m + 1 : Nat) : Int) := nI_toInt (by omega)
  have k1 : (nI (6 * m + 1)).toNatClampNeg = 6 * m + 1 := nI_clamp (by omega)
  have o1 : (0 : Int) ≤ ((6 * m + 1 : Nat) : Int) ∧ ((6 * m + 1 : Nat) : Int) < (L : Int) := by omega
  have i2 : nI (6 * m) + 2 = nI (6 * m + 2) := nI_add _ 2
  have j2 : (nI (6 * m + 2)).toInt = ((6 * m + 2 : Nat) : Int) := nI_toInt (by omega)
  have k2 : (nI (6 * m + 2)).toNatClampNeg = 6 * m + 2 := nI_clamp (by omega)
  have o2 : (0 : Int) ≤ ((6 * m + 2 : Nat) : Int) ∧ ((6 * m + 2 : Nat) : Int) < (L : Int) := by omega
  have i3 : nI (6 * m) + 3 = nI (6 * m + 3) := nI_add _ 3
  have j3 : (nI (6 * m + 3)).toInt = ((6 * m + 3 : Nat) : Int) := nI_toInt (by omega)
  have k3 : (nI (6 * m + 3)).toNatClampNeg = 6 * m + 3 := nI_clamp (by omega)
  have o3 : (0 : Int) ≤ ((6 * m + 3 : Nat) : Int) ∧ ((6 * m + 3 : Nat) : Int) < (L : Int) := by omega
  have i4 : nI (6 * m) + 4 = nI (6 * m + 4) := nI_add _ 4
  have j4 : (nI (6 * m + 4)).toInt = ((6 * m + 4 : Nat) : Int) := nI_toInt (by omega)
  have k4 : (nI (6 * m + 4)).toNatClampNeg = 6 * m + 4 := nI_clamp (by omega)
  have o4 : (0 : Int) ≤ ((6 * m + 4 : Nat) : Int) ∧ ((6 * m + 4 : Nat) : Int) < (L : Int) := by omega
  have i5 : nI (6 * m) + 5 = nI (6 * m + 5) := nI_add _ 5
  have j5 : (nI (6 * m + 5)).toInt = ((6 * m + 5 : Nat) : Int) := nI_toInt (by omega)
  have k5 : (nI (6 * m + 5)).toNatClampNeg = 6 * m + 5 := nI_clamp (by omega)
  have o5 : (0 : Int) ≤ ((6 * m + 5 : Nat) : Int) ∧ ((6 * m + 5 : Nat) : Int) < (L : Int) := by omega
  simp +decide only [e218_484, e218_485, e218_486, e218_487, e218_488, e218_489, e218_490, e218_491, e218_492, e218_493, e218_494, e218_495, true_and, and_true, or_true, true_or, if_true, if_false, not_true_eq_false, not_false_eq_true, ne_eq, and_self, Option.toList_some, Option.toList_none, List.cons_append, List.nil_append, catS_0, catS_I, catS_L, catS_R, Option.map_some, Option.map_none, Option.some.injEq, Sum.inl.injEq, exists_eq_left', exists_eq', s1, s2, s3, n11, i1, j1, k1, o1, i2, j2, k2, o2, i3, j3, k3, o3, i4, j4, k4, o4, i5, j5, k5, o5]
  refine Rn_mono (fun r σ1 hz => ?_) hT
  obtain ⟨⟨v, rfl, hm2⟩, hs1⟩ := hz
  have hT2 := SC_keep (L := L) (xs := xs) (c := (157, 0, _, [], σ1)) hs1 hm2
  obtain ⟨x1, x2, x3, n12b⟩ := hs1
  simp +decide only [e218_498, e218_499, e218_500, e218_501, e218_502, e218_503, e218_504, e218_505, e218_506, e218_507, e218_508, e218_509, true_and, and_true, or_true, true_or, if_true, if_false, not_true_eq_false, not_false_eq_true, ne_eq, and_self, Option.toList_some, Option.toList_none, List.cons_append, List.nil_append, catS_0, catS_I, catS_L, catS_R, Option.map_some, Option.map_none, Option.some.injEq, Sum.inl.injEq, exists_eq_left', exists_eq', x1, x2, x3, n12b, i1, j1, k1, o1, i2, j2, k2, o2, i3, j3, k3, o3, i4, j4, k4, o4, i5, j5, k5, o5]
  refine Rn_mono (fun r' σ2 hz2 => ?_) hT2
  obtain ⟨⟨rfl, hI2⟩, hs2⟩ := hz2
  simp +decide only [e218_512, e218_1812, e218_1815, true_and, and_true, or_true, true_or, if_true, if_false, not_true_eq_false, not_false_eq_true, ne_eq, and_self, Option.toList_some, Option.toList_none, List.cons_append, List.nil_append, catS_0, catS_I, catS_L, catS_R, Option.map_some, Option.map_none, Option.some.injEq, Sum.inl.injEq, exists_eq_left', exists_eq', eq_self, lw6]
  exact ih σ2 hI2 hs2
theorem law_best {h0 m L : Nat} {xs : Nat → Int32} {σ : St} {Q : Option AV → St → Prop} (h : Inv h0 m σ) (hs : SC L xs σ) (hm : 6 * m + 6 ≤ L) (hL : L ≤ 3072) (ih : ∀ σ', Inv h0 (m + 1) σ' → SC L xs σ' → Rn 100 Q (218, 18, [some (vR (some (13, 1, 0))), some (vR (some (11, 0, 0))), some (vR (some (12, 0, 0))), some (vI (nI (6 * (m + 1))))], [], σ')) : Rn 100 Q (218, 517, [some (vR (some (13, 1, 0))), some (vR (some (11, 0, 0))), some (vR (some (12, 0, 0))), some (vI (nI (6 * m)))], [], σ) := by
  have hT := SC_keep (L := L) (xs := xs) (c := (73, 0, _, [], σ)) hs (T_best (h0 := h0) (n := m) (d := 96) (σ := σ) (a := xs (6 * m + 1)) (b := xs (6 * m + 2)) (c := xs (6 * m + 3)) h)
  obtain ⟨s1, s2, s3, s4⟩ := hs
  have n11 := N11 h.1
  have n12 := N12 h.1
  have lw6 : nI (6 * m) + 6 = nI (6 * (m + 1)) := by rw [lN6, nI_add]; congr 1
  have i1 : nI (6 * m) + 1 = nI (6 * m + 1) := nI_add _ 1
  have j1 : (nI (6 * m + 1)).toInt = ((6 * m + 1 : Nat) : Int) := nI_toInt (by omega)
  have k1 : (nI (6 * m + 1)).toNatClampNeg = 6 * m + 1 := nI_clamp (by omega)
  have o1 : (0 : Int) ≤ ((6 * m + 1 : Nat) : Int) ∧ ((6 * m + 1 : Nat) : Int) < (L : Int) := by omega
  have i2 : nI (6 * m) + 2 = nI (6 * m + 2) := nI_add _ 2
  have j2 : (nI (6 * m + 2)).toInt = ((6 * m + 2 : Nat) : Int) := nI_toInt (by omega)
  have k2 : (nI (6 * m + 2)).toNatClampNeg = 6 * m + 2 := nI_clamp (by omega)
  have o2 : (0 : Int) ≤ ((6 * m + 2 : Nat) : Int) ∧ ((6 * m + 2 : Nat) : Int) < (L : Int) := by omega
  have i3 : nI (6 * m) + 3 = nI (6 * m + 3) := nI_add _ 3
  have j3 : (nI (6 * m + 3)).toInt = ((6 * m + 3 : Nat) : Int) := nI_toInt (by omega)
  have k3 : (nI (6 * m + 3)).toNatClampNeg = 6 * m + 3 := nI_clamp (by omega)
  have o3 : (0 : Int) ≤ ((6 * m + 3 : Nat) : Int) ∧ ((6 * m + 3 : Nat) : Int) < (L : Int) := by omega
  have i4 : nI (6 * m) + 4 = nI (6 * m + 4) := nI_add _ 4
  have j4 : (nI (6 * m + 4)).toInt = ((6 * m + 4 : Nat) : Int) := nI_toInt (by omega)
  have k4 : (nI (6 * m + 4)).toNatClampNeg = 6 * m + 4 := nI_clamp (by omega)
  have o4 : (0 : Int) ≤ ((6 * m + 4 : Nat) : Int) ∧ ((6 * m + 4 : Nat) : Int) < (L : Int) := by omega
  have i5 : nI (6 * m) + 5 = nI (6 * m + 5) := nI_add _ 5
  have j5 : (nI (6 * m + 5)).toInt = ((6 * m + 5 : Nat) : Int) := nI_toInt (by omega)
  have k5 : (nI (6 * m + 5)).toNatClampNeg = 6 * m + 5 := nI_clamp (by omega)
  have o5 : (0 : Int) ≤ ((6 * m + 5 : Nat) : Int) ∧ ((6 * m + 5 : Nat) : Int) < (L : Int) := by omega
  simp +decide only [e218_517, e218_518, e218_519, e218_520, e218_521, e218_522, e218_523, e218_524, e218_525, e218_526, e218_527, e218_528, e218_529, e218_530, e218_531, e218_532, e218_533, true_and, and_true, or_true, true_or, if_true, if_false, not_true_eq_false, not_false_eq_true, ne_eq, and_self, Option.toList_some, Option.toList_none, List.cons_append, List.nil_append, catS_0, catS_I, catS_L, catS_R, Option.map_some, Option.map_none, Option.some.injEq, Sum.inl.injEq, exists_eq_left', exists_eq', s1, s2, s3, n11, i1, j1, k1, o1, i2, j2, k2, o2, i3, j3, k3, o3, i4, j4, k4, o4, i5, j5, k5, o5]
  refine Rn_mono (fun r σ1 hz => ?_) hT
  obtain ⟨⟨v, rfl, hm2⟩, hs1⟩ := hz
  have hT2 := SC_keep (L := L) (xs := xs) (c := (163, 0, _, [], σ1)) hs1 hm2
  obtain ⟨x1, x2, x3, n12b⟩ := hs1
  simp +decide only [e218_536, e218_537, e218_538, e218_539, e218_540, e218_541, e218_542, e218_543, e218_544, e218_545, e218_546, e218_547, e218_548, e218_549, e218_550, e218_551, e218_552, true_and, and_true, or_true, true_or, if_true, if_false, not_true_eq_false, not_false_eq_true, ne_eq, and_self, Option.toList_some, Option.toList_none, List.cons_append, List.nil_append, catS_0, catS_I, catS_L, catS_R, Option.map_some, Option.map_none, Option.some.injEq, Sum.inl.injEq, exists_eq_left', exists_eq', x1, x2, x3, n12b, i1, j1, k1, o1, i2, j2, k2, o2, i3, j3, k3, o3, i4, j4, k4, o4, i5, j5, k5, o5]
  refine Rn_mono (fun r' σ2 hz2 => ?_) hT2
  obtain ⟨⟨rfl, hI2⟩, hs2⟩ := hz2
  simp +decide only [e218_555, e218_1812, e218_1815, true_and, and_true, or_true, true_or, if_true, if_false, not_true_eq_false, not_false_eq_true, ne_eq, and_self, Option.toList_some, Option.toList_none, List.cons_append, List.nil_append, catS_0, catS_I, catS_L, catS_R, Option.map_some, Option.map_none, Option.some.injEq, Sum.inl.injEq, exists_eq_left', exists_eq', eq_self, lw6]
  exact ih σ2 hI2 hs2
theorem law_may {h0 m L : Nat} {xs : Nat → Int32} {σ : St} {Q : Option AV → St → Prop} (h : Inv h0 m σ) (hs : SC L xs σ) (hm : 6 * m + 6 ≤ L) (hL : L ≤ 3072) (ih : ∀ σ', Inv h0 (m + 1) σ' → SC L xs σ' → Rn 100 Q (218, 18, [some (vR (some (13, 1, 0))), some (vR (some (11, 0, 0))), some (vR (some (12, 0, 0))), some (vI (nI (6 * (m + 1))))], [], σ')) : Rn 100 Q (218, 560, [some (vR (some (13, 1, 0))), some (vR (some (11, 0, 0))), some (vR (some (12, 0, 0))), some (vI (nI (6 * m)))], [], σ) := by
  have hT := SC_keep (L := L) (xs := xs) (c := (74, 0, _, [], σ)) hs (T_may (h0 := h0) (n := m) (d := 95) (σ := σ) (a := xs (6 * m + 1)) (c := xs (6 * m + 2)) h)
  obtain ⟨s1, s2, s3, s4⟩ := hs
  have n11 := N11 h.1
  have n12 := N12 h.1
  have lw6 : nI (6 * m) + 6 = nI (6 * (m + 1)) := by rw [lN6, nI_add]; congr 1
  have i1 : nI (6 * m) + 1 = nI (6 * m + 1) := nI_add _ 1
  have j1 : (nI (6 * m + 1)).toInt = ((6 * m + 1 : Nat) : Int) := nI_toInt (by omega)
  have k1 : (nI (6 * m + 1)).toNatClampNeg = 6 * m + 1 := nI_clamp (by omega)
  have o1 : (0 : Int) ≤ ((6 * m + 1 : Nat) : Int) ∧ ((6 * m + 1 : Nat) : Int) < (L : Int) := by omega
  have i2 : nI (6 * m) + 2 = nI (6 * m + 2) := nI_add _ 2
  have j2 : (nI (6 * m + 2)).toInt = ((6 * m + 2 : Nat) : Int) := nI_toInt (by omega)
  have k2 : (nI (6 * m + 2)).toNatClampNeg = 6 * m + 2 := nI_clamp (by omega)
  have o2 : (0 : Int) ≤ ((6 * m + 2 : Nat) : Int) ∧ ((6 * m + 2 : Nat) : Int) < (L : Int) := by omega
  have i3 : nI (6 * m) + 3 = nI (6 * m + 3) := nI_add _ 3
  have j3 : (nI (6 * m + 3)).toInt = ((6 * m + 3 : Nat) : Int) := nI_toInt (by omega)
  have k3 : (nI (6 * m + 3)).toNatClampNeg = 6 * m + 3 := nI_clamp (by omega)
  have o3 : (0 : Int) ≤ ((6 * m + 3 : Nat) : Int) ∧ ((6 * m + 3 : Nat) : Int) < (L : Int) := by omega
  have i4 : nI (6 * m) + 4 = nI (6 * m + 4) := nI_add _ 4
  have j4 : (nI (6 * m + 4)).toInt = ((6 * m + 4 : Nat) : Int) := nI_toInt (by omega)
  have k4 : (nI (6 * m + 4)).toNatClampNeg = 6 * m + 4 := nI_clamp (by omega)
  have o4 : (0 : Int) ≤ ((6 * m + 4 : Nat) : Int) ∧ ((6 * m + 4 : Nat) : Int) < (L : Int) := by omega
  have i5 : nI (6 * m) + 5 = nI (6 * m + 5) := nI_add _ 5
  have j5 : (nI (6 * m + 5)).toInt = ((6 * m + 5 : Nat) : Int) := nI_toInt (by omega)
  have k5 : (nI (6 * m + 5)).toNatClampNeg = 6 * m + 5 := nI_clamp (by omega)
  have o5 : (0 : Int) ≤ ((6 * m + 5 : Nat) : Int) ∧ ((6 * m + 5 : Nat) : Int) < (L : Int) := by omega
  simp +decide only [e218_560, e218_561, e218_562, e218_563, e218_564, e218_565, e218_566, e218_567, e218_568, e218_569, e218_570, e218_571, true_and, and_true, or_true, true_or, if_true, if_false, not_true_eq_false, not_false_eq_true, ne_eq, and_self, Option.toList_some, Option.toList_none, List.cons_append, List.nil_append, catS_0, catS_I, catS_L, catS_R, Option.map_some, Option.map_none, Option.some.injEq, Sum.inl.injEq, exists_eq_left', exists_eq', s1, s2, s3, n11, i1, j1, k1, o1, i2, j2, k2, o2, i3, j3, k3, o3, i4, j4, k4, o4, i5, j5, k5, o5]
  refine Rn_mono (fun r σ1 hz => ?_) hT
  obtain ⟨⟨v, rfl, hm2⟩, hs1⟩ := hz
  have hT2 := SC_keep (L := L) (xs := xs) (c := (164, 0, _, [], σ1)) hs1 hm2
  obtain ⟨x1, x2, x3, n12b⟩ := hs1
  simp +decide only [e218_574, e218_575, e218_576, e218_577, e218_578, e218_579, e218_580, e218_581, e218_582, e218_583, e218_584, e218_585, true_and, and_true, or_true, true_or, if_true, if_false, not_true_eq_false, not_false_eq_true, ne_eq, and_self, Option.toList_some, Option.toList_none, List.cons_append, List.nil_append, catS_0, catS_I, catS_L, catS_R, Option.map_some, Option.map_none, Option.some.injEq, Sum.inl.injEq, exists_eq_left', exists_eq', x1, x2, x3, n12b, i1, j1, k1, o1, i2, j2, k2, o2, i3, j3, k3, o3, i4, j4, k4, o4, i5, j5, k5, o5]
  refine Rn_mono (fun r' σ2 hz2 => ?_) hT2
  obtain ⟨⟨rfl, hI2⟩, hs2⟩ := hz2
  simp +decide only [e218_588, e218_1812, e218_1815, true_and, and_true, or_true, true_or, if_true, if_false, not_true_eq_false, not_false_eq_true, ne_eq, and_self, Option.toList_some, Option.toList_none, List.cons_append, List.nil_append, catS_0, catS_I, catS_L, catS_R, Option.map_some, Option.map_none, Option.some.injEq, Sum.inl.injEq, exists_eq_left', exists_eq', eq_self, lw6]
  exact ih σ2 hI2 hs2
theorem law_lean {h0 m L : Nat} {xs : Nat → Int32} {σ : St} {Q : Option AV → St → Prop} (h : Inv h0 m σ) (hs : SC L xs σ) (hm : 6 * m + 6 ≤ L) (hL : L ≤ 3072) (ih : ∀ σ', Inv h0 (m + 1) σ' → SC L xs σ' → Rn 100 Q (218, 18, [some (vR (some (13, 1, 0))), some (vR (some (11, 0, 0))), some (vR (some (12, 0, 0))), some (vI (nI (6 * (m + 1))))], [], σ')) : Rn 100 Q (218, 593, [some (vR (some (13, 1, 0))), some (vR (some (11, 0, 0))), some (vR (some (12, 0, 0))), some (vI (nI (6 * m)))], [], σ) := by
  have hT := SC_keep (L := L) (xs := xs) (c := (75, 0, _, [], σ)) hs (T_lean (h0 := h0) (n := m) (d := 59) (σ := σ) (a := xs (6 * m + 1)) (b := xs (6 * m + 2)) h)
  obtain ⟨s1, s2, s3, s4⟩ := hs
  have n11 := N11 h.1
  have n12 := N12 h.1
  have lw6 : nI (6 * m) + 6 = nI (6 * (m + 1)) := by rw [lN6, nI_add]; congr 1
  have i1 : nI (6 * m) + 1 = nI (6 * m + 1) := nI_add _ 1
  have j1 : (nI (6 * m + 1)).toInt = ((6 * m + 1 : Nat) : Int) := nI_toInt (by omega)
  have k1 : (nI (6 * m + 1)).toNatClampNeg = 6 * m + 1 := nI_clamp (by omega)
  have o1 : (0 : Int) ≤ ((6 * m + 1 : Nat) : Int) ∧ ((6 * m + 1 : Nat) : Int) < (L : Int) := by omega
  have i2 : nI (6 * m) + 2 = nI (6 * m + 2) := nI_add _ 2
  have j2 : (nI (6 * m + 2)).toInt = ((6 * m + 2 : Nat) : Int) := nI_toInt (by omega)
  have k2 : (nI (6 * m + 2)).toNatClampNeg = 6 * m + 2 := nI_clamp (by omega)
  have o2 : (0 : Int) ≤ ((6 * m + 2 : Nat) : Int) ∧ ((6 * m + 2 : Nat) : Int) < (L : Int) := by omega
  have i3 : nI (6 * m) + 3 = nI (6 * m + 3) := nI_add _ 3
  have j3 : (nI (6 * m + 3)).toInt = ((6 * m + 3 : Nat) : Int) := nI_toInt (by omega)
  have k3 : (nI (6 * m + 3)).toNatClampNeg = 6 * m + 3 := nI_clamp (by omega)
  have o3 : (0 : Int) ≤ ((6 * m + 3 : Nat) : Int) ∧ ((6 * m + 3 : Nat) : Int) < (L : Int) := by omega
  have i4 : nI (6 * m) + 4 = nI (6 * m + 4) := nI_add _ 4
  have j4 : (nI (6 * m + 4)).toInt = ((6 * m + 4 : Nat) : Int) := nI_toInt (by omega)
  have k4 : (nI (6 * m + 4)).toNatClampNeg = 6 * m + 4 := nI_clamp (by omega)
  have o4 : (0 : Int) ≤ ((6 * m + 4 : Nat) : Int) ∧ ((6 * m + 4 : Nat) : Int) < (L : Int) := by omega
  have i5 : nI (6 * m) + 5 = nI (6 * m + 5) := nI_add _ 5
  have j5 : (nI (6 * m + 5)).toInt = ((6 * m + 5 : Nat) : Int) := nI_toInt (by omega)
  have k5 : (nI (6 * m + 5)).toNatClampNeg = 6 * m + 5 := nI_clamp (by omega)
  have o5 : (0 : Int) ≤ ((6 * m + 5 : Nat) : Int) ∧ ((6 * m + 5 : Nat) : Int) < (L : Int) := by omega
  simp +decide only [e218_593, e218_594, e218_595, e218_596, e218_597, e218_598, e218_599, e218_600, e218_601, e218_602, e218_603, e218_604, true_and, and_true, or_true, true_or, if_true, if_false, not_true_eq_false, not_false_eq_true, ne_eq, and_self, Option.toList_some, Option.toList_none, List.cons_append, List.nil_append, catS_0, catS_I, catS_L, catS_R, Option.map_some, Option.map_none, Option.some.injEq, Sum.inl.injEq, exists_eq_left', exists_eq', s1, s2, s3, n11, i1, j1, k1, o1, i2, j2, k2, o2, i3, j3, k3, o3, i4, j4, k4, o4, i5, j5, k5, o5]
  refine Rn_mono (fun r σ1 hz => ?_) hT
  obtain ⟨⟨v, rfl, hm2⟩, hs1⟩ := hz
  have hT2 := SC_keep (L := L) (xs := xs) (c := (166, 0, _, [], σ1)) hs1 hm2
  obtain ⟨x1, x2, x3, n12b⟩ := hs1
  simp +decide only [e218_607, e218_608, e218_609, e218_610, e218_611, e218_612, e218_613, e218_614, e218_615, e218_616, e218_617, e218_618, true_and, and_true, or_true, true_or, if_true, if_false, not_true_eq_false, not_false_eq_true, ne_eq, and_self, Option.toList_some, Option.toList_none, List.cons_append, List.nil_append, catS_0, catS_I, catS_L, catS_R, Option.map_some, Option.map_none, Option.some.injEq, Sum.inl.injEq, exists_eq_left', exists_eq', x1, x2, x3, n12b, i1, j1, k1, o1, i2, j2, k2, o2, i3, j3, k3, o3, i4, j4, k4, o4, i5, j5, k5, o5]
  refine Rn_mono (fun r' σ2 hz2 => ?_) hT2
  obtain ⟨⟨rfl, hI2⟩, hs2⟩ := hz2
  simp +decide only [e218_621, e218_1812, e218_1815, true_and, and_true, or_true, true_or, if_true, if_false, not_true_eq_false, not_false_eq_true, ne_eq, and_self, Option.toList_some, Option.toList_none, List.cons_append, List.nil_append, catS_0, catS_I, catS_L, catS_R, Option.map_some, Option.map_none, Option.some.injEq, Sum.inl.injEq, exists_eq_left', exists_eq', eq_self, lw6]
  exact ih σ2 hI2 hs2
theorem law_post {h0 m L : Nat} {xs : Nat → Int32} {σ : St} {Q : Option AV → St → Prop} (h : Inv h0 m σ) (hs : SC L xs σ) (hm : 6 * m + 6 ≤ L) (hL : L ≤ 3072) (ih : ∀ σ', Inv h0 (m + 1) σ' → SC L xs σ' → Rn 100 Q (218, 18, [some (vR (some (13, 1, 0))), some (vR (some (11, 0, 0))), some (vR (some (12, 0, 0))), some (vI (nI (6 * (m + 1))))], [], σ')) : Rn 100 Q (218, 626, [some (vR (some (13, 1, 0))), some (vR (some (11, 0, 0))), some (vR (some (12, 0, 0))), some (vI (nI (6 * m)))], [], σ) := by
  have hT := SC_keep (L := L) (xs := xs) (c := (76, 0, _, [], σ)) hs (T_post (h0 := h0) (n := m) (d := 98) (σ := σ) (a := xs (6 * m + 1)) (b := xs (6 * m + 2)) (c := xs (6 * m + 3)) h)
  obtain ⟨s1, s2, s3, s4⟩ := hs
  have n11 := N11 h.1
  have n12 := N12 h.1
  have lw6 : nI (6 * m) + 6 = nI (6 * (m + 1)) := by rw [lN6, nI_add]; congr 1
  have i1 : nI (6 * m) + 1 = nI (6 * m + 1) := nI_add _ 1
  have j1 : (nI (6 * m + 1)).toInt = ((6 * m + 1 : Nat) : Int) := nI_toInt (by omega)
  have k1 : (nI (6 * m + 1)).toNatClampNeg = 6 * m + 1 := nI_clamp (by omega)
  have o1 : (0 : Int) ≤ ((6 * m + 1 : Nat) : Int) ∧ ((6 * m + 1 : Nat) : Int) < (L : Int) := by omega
  have i2 : nI (6 * m) + 2 = nI (6 * m + 2) := nI_add _ 2
  have j2 : (nI (6 * m + 2)).toInt = ((6 * m + 2 : Nat) : Int) := nI_toInt (by omega)
  have k2 : (nI (6 * m + 2)).toNatClampNeg = 6 * m + 2 := nI_clamp (by omega)
  have o2 : (0 : Int) ≤ ((6 * m + 2 : Nat) : Int) ∧ ((6 * m + 2 : Nat) : Int) < (L : Int) := by omega
  have i3 : nI (6 * m) + 3 = nI (6 * m + 3) := nI_add _ 3
  have j3 : (nI (6 * m + 3)).toInt = ((6 * m + 3 : Nat) : Int) := nI_toInt (by omega)
  have k3 : (nI (6 * m + 3)).toNatClampNeg = 6 * m + 3 := nI_clamp (by omega)
  have o3 : (0 : Int) ≤ ((6 * m + 3 : Nat) : Int) ∧ ((6 * m + 3 : Nat) : Int) < (L : Int) := by omega
  have i4 : nI (6 * m) + 4 = nI (6 * m + 4) := nI_add _ 4
  have j4 : (nI (6 * m + 4)).toInt = ((6 * m + 4 : Nat) : Int) := nI_toInt (by omega)
  have k4 : (nI (6 * m + 4)).toNatClampNeg = 6 * m + 4 := nI_clamp (by omega)
  have o4 : (0 : Int) ≤ ((6 * m + 4 : Nat) : Int) ∧ ((6 * m + 4 : Nat) : Int) < (L : Int) := by omega
  have i5 : nI (6 * m) + 5 = nI (6 * m + 5) := nI_add _ 5
  have j5 : (nI (6 * m + 5)).toInt = ((6 * m + 5 : Nat) : Int) := nI_toInt (by omega)
  have k5 : (nI (6 * m + 5)).toNatClampNeg = 6 * m + 5 := nI_clamp (by omega)
  have o5 : (0 : Int) ≤ ((6 * m + 5 : Nat) : Int) ∧ ((6 * m + 5 : Nat) : Int) < (L : Int) := by omega
  simp +decide only [e218_626, e218_627, e218_628, e218_629, e218_630, e218_631, e218_632, e218_633, e218_634, e218_635, e218_636, e218_637, e218_638, e218_639, e218_640, e218_641, e218_642, true_and, and_true, or_true, true_or, if_true, if_false, not_true_eq_false, not_false_eq_true, ne_eq, and_self, Option.toList_some, Option.toList_none, List.cons_append, List.nil_append, catS_0, catS_I, catS_L, catS_R, Option.map_some, Option.map_none, Option.some.injEq, Sum.inl.injEq, exists_eq_left', exists_eq', s1, s2, s3, n11, i1, j1, k1, o1, i2, j2, k2, o2, i3, j3, k3, o3, i4, j4, k4, o4, i5, j5, k5, o5]
  refine Rn_mono (fun r σ1 hz => ?_) hT
  obtain ⟨⟨v, rfl, hm2⟩, hs1⟩ := hz
  have hT2 := SC_keep (L := L) (xs := xs) (c := (167, 0, _, [], σ1)) hs1 hm2
  obtain ⟨x1, x2, x3, n12b⟩ := hs1
  simp +decide only [e218_645, e218_646, e218_647, e218_648, e218_649, e218_650, e218_651, e218_652, e218_653, e218_654, e218_655, e218_656, e218_657, e218_658, e218_659, e218_660, e218_661, true_and, and_true, or_true, true_or, if_true, if_false, not_true_eq_false, not_false_eq_true, ne_eq, and_self, Option.toList_some, Option.toList_none, List.cons_append, List.nil_append, catS_0, catS_I, catS_L, catS_R, Option.map_some, Option.map_none, Option.some.injEq, Sum.inl.injEq, exists_eq_left', exists_eq', x1, x2, x3, n12b, i1, j1, k1, o1, i2, j2, k2, o2, i3, j3, k3, o3, i4, j4, k4, o4, i5, j5, k5, o5]
  refine Rn_mono (fun r' σ2 hz2 => ?_) hT2
  obtain ⟨⟨rfl, hI2⟩, hs2⟩ := hz2
  simp +decide only [e218_664, e218_1812, e218_1815, true_and, and_true, or_true, true_or, if_true, if_false, not_true_eq_false, not_false_eq_true, ne_eq, and_self, Option.toList_some, Option.toList_none, List.cons_append, List.nil_append, catS_0, catS_I, catS_L, catS_R, Option.map_some, Option.map_none, Option.some.injEq, Sum.inl.injEq, exists_eq_left', exists_eq', eq_self, lw6]
  exact ih σ2 hI2 hs2
theorem law_send {h0 m L : Nat} {xs : Nat → Int32} {σ : St} {Q : Option AV → St → Prop} (h : Inv h0 m σ) (hs : SC L xs σ) (hm : 6 * m + 6 ≤ L) (hL : L ≤ 3072) (ih : ∀ σ', Inv h0 (m + 1) σ' → SC L xs σ' → Rn 100 Q (218, 18, [some (vR (some (13, 1, 0))), some (vR (some (11, 0, 0))), some (vR (some (12, 0, 0))), some (vI (nI (6 * (m + 1))))], [], σ')) : Rn 100 Q (218, 669, [some (vR (some (13, 1, 0))), some (vR (some (11, 0, 0))), some (vR (some (12, 0, 0))), some (vI (nI (6 * m)))], [], σ) := by
  have hT := SC_keep (L := L) (xs := xs) (c := (77, 0, _, [], σ)) hs (T_send (h0 := h0) (n := m) (d := 95) (σ := σ) (a := xs (6 * m + 1)) (b := xs (6 * m + 2)) (c := xs (6 * m + 3)) h (by omega))
  obtain ⟨s1, s2, s3, s4⟩ := hs
  have n11 := N11 h.1
  have n12 := N12 h.1
  have lw6 : nI (6 * m) + 6 = nI (6 * (m + 1)) := by rw [lN6, nI_add]; congr 1
  have i1 : nI (6 * m) + 1 = nI (6 * m + 1) := nI_add _ 1
  have j1 : (nI (6 * m + 1)).toInt = ((6 * m + 1 : Nat) : Int) := nI_toInt (by omega)
  have k1 : (nI (6 * m + 1)).toNatClampNeg = 6 * m + 1 := nI_clamp (by omega)
  have o1 : (0 : Int) ≤ ((6 * m + 1 : Nat) : Int) ∧ ((6 * m + 1 : Nat) : Int) < (L : Int) := by omega
  have i2 : nI (6 * m) + 2 = nI (6 * m + 2) := nI_add _ 2
  have j2 : (nI (6 * m + 2)).toInt = ((6 * m + 2 : Nat) : Int) := nI_toInt (by omega)
  have k2 : (nI (6 * m + 2)).toNatClampNeg = 6 * m + 2 := nI_clamp (by omega)
  have o2 : (0 : Int) ≤ ((6 * m + 2 : Nat) : Int) ∧ ((6 * m + 2 : Nat) : Int) < (L : Int) := by omega
  have i3 : nI (6 * m) + 3 = nI (6 * m + 3) := nI_add _ 3
  have j3 : (nI (6 * m + 3)).toInt = ((6 * m + 3 : Nat) : Int) := nI_toInt (by omega)
  have k3 : (nI (6 * m + 3)).toNatClampNeg = 6 * m + 3 := nI_clamp (by omega)
  have o3 : (0 : Int) ≤ ((6 * m + 3 : Nat) : Int) ∧ ((6 * m + 3 : Nat) : Int) < (L : Int) := by omega
  have i4 : nI (6 * m) + 4 = nI (6 * m + 4) := nI_add _ 4
  have j4 : (nI (6 * m + 4)).toInt = ((6 * m + 4 : Nat) : Int) := nI_toInt (by omega)
  have k4 : (nI (6 * m + 4)).toNatClampNeg = 6 * m + 4 := nI_clamp (by omega)
  have o4 : (0 : Int) ≤ ((6 * m + 4 : Nat) : Int) ∧ ((6 * m + 4 : Nat) : Int) < (L : Int) := by omega
  have i5 : nI (6 * m) + 5 = nI (6 * m + 5) := nI_add _ 5
  have j5 : (nI (6 * m + 5)).toInt = ((6 * m + 5 : Nat) : Int) := nI_toInt (by omega)
  have k5 : (nI (6 * m + 5)).toNatClampNeg = 6 * m + 5 := nI_clamp (by omega)
  have o5 : (0 : Int) ≤ ((6 * m + 5 : Nat) : Int) ∧ ((6 * m + 5 : Nat) : Int) < (L : Int) := by omega
  simp +decide only [e218_669, e218_670, e218_671, e218_672, e218_673, e218_674, e218_675, e218_676, e218_677, e218_678, e218_679, e218_680, e218_681, e218_682, e218_683, e218_684, e218_685, true_and, and_true, or_true, true_or, if_true, if_false, not_true_eq_false, not_false_eq_true, ne_eq, and_self, Option.toList_some, Option.toList_none, List.cons_append, List.nil_append, catS_0, catS_I, catS_L, catS_R, Option.map_some, Option.map_none, Option.some.injEq, Sum.inl.injEq, exists_eq_left', exists_eq', s1, s2, s3, n11, i1, j1, k1, o1, i2, j2, k2, o2, i3, j3, k3, o3, i4, j4, k4, o4, i5, j5, k5, o5]
  refine Rn_mono (fun r σ1 hz => ?_) hT
  obtain ⟨⟨v, rfl, hm2⟩, hs1⟩ := hz
  have hT2 := SC_keep (L := L) (xs := xs) (c := (169, 0, _, [], σ1)) hs1 hm2
  obtain ⟨x1, x2, x3, n12b⟩ := hs1
  simp +decide only [e218_688, e218_689, e218_690, e218_691, e218_692, e218_693, e218_694, e218_695, e218_696, e218_697, e218_698, e218_699, e218_700, e218_701, e218_702, e218_703, e218_704, true_and, and_true, or_true, true_or, if_true, if_false, not_true_eq_false, not_false_eq_true, ne_eq, and_self, Option.toList_some, Option.toList_none, List.cons_append, List.nil_append, catS_0, catS_I, catS_L, catS_R, Option.map_some, Option.map_none, Option.some.injEq, Sum.inl.injEq, exists_eq_left', exists_eq', x1, x2, x3, n12b, i1, j1, k1, o1, i2, j2, k2, o2, i3, j3, k3, o3, i4, j4, k4, o4, i5, j5, k5, o5]
  refine Rn_mono (fun r' σ2 hz2 => ?_) hT2
  obtain ⟨⟨rfl, hI2⟩, hs2⟩ := hz2
  simp +decide only [e218_707, e218_1812, e218_1815, true_and, and_true, or_true, true_or, if_true, if_false, not_true_eq_false, not_false_eq_true, ne_eq, and_self, Option.toList_some, Option.toList_none, List.cons_append, List.nil_append, catS_0, catS_I, catS_L, catS_R, Option.map_some, Option.map_none, Option.some.injEq, Sum.inl.injEq, exists_eq_left', exists_eq', eq_self, lw6]
  exact ih σ2 hI2 hs2
theorem law_answer {h0 m L : Nat} {xs : Nat → Int32} {σ : St} {Q : Option AV → St → Prop} (h : Inv h0 m σ) (hs : SC L xs σ) (hm : 6 * m + 6 ≤ L) (hL : L ≤ 3072) (ih : ∀ σ', Inv h0 (m + 1) σ' → SC L xs σ' → Rn 100 Q (218, 18, [some (vR (some (13, 1, 0))), some (vR (some (11, 0, 0))), some (vR (some (12, 0, 0))), some (vI (nI (6 * (m + 1))))], [], σ')) : Rn 100 Q (218, 712, [some (vR (some (13, 1, 0))), some (vR (some (11, 0, 0))), some (vR (some (12, 0, 0))), some (vI (nI (6 * m)))], [], σ) := by
  have hT := SC_keep (L := L) (xs := xs) (c := (78, 0, _, [], σ)) hs (T_answer (h0 := h0) (n := m) (d := 96) (σ := σ) (a := xs (6 * m + 1)) (b := xs (6 * m + 2)) h (by omega))
  obtain ⟨s1, s2, s3, s4⟩ := hs
  have n11 := N11 h.1
  have n12 := N12 h.1
  have lw6 : nI (6 * m) + 6 = nI (6 * (m + 1)) := by rw [lN6, nI_add]; congr 1
  have i1 : nI (6 * m) + 1 = nI (6 * m + 1) := nI_add _ 1
  have j1 : (nI (6 * m + 1)).toInt = ((6 * m + 1 : Nat) : Int) := nI_toInt (by omega)
  have k1 : (nI (6 * m + 1)).toNatClampNeg = 6 * m + 1 := nI_clamp (by omega)
  have o1 : (0 : Int) ≤ ((6 * m + 1 : Nat) : Int) ∧ ((6 * m + 1 : Nat) : Int) < (L : Int) := by omega
  have i2 : nI (6 * m) + 2 = nI (6 * m + 2) := nI_add _ 2
  have j2 : (nI (6 * m + 2)).toInt = ((6 * m + 2 : Nat) : Int) := nI_toInt (by omega)
  have k2 : (nI (6 * m + 2)).toNatClampNeg = 6 * m + 2 := nI_clamp (by omega)
  have o2 : (0 : Int) ≤ ((6 * m + 2 : Nat) : Int) ∧ ((6 * m + 2 : Nat) : Int) < (L : Int) := by omega
  have i3 : nI (6 * m) + 3 = nI (6 * m + 3) := nI_add _ 3
  have j3 : (nI (6 * m + 3)).toInt = ((6 * m + 3 : Nat) : Int) := nI_toInt (by omega)
  have k3 : (nI (6 * m + 3)).toNatClampNeg = 6 * m + 3 := nI_clamp (by omega)
  have o3 : (0 : Int) ≤ ((6 * m + 3 : Nat) : Int) ∧ ((6 * m + 3 : Nat) : Int) < (L : Int) := by omega
  have i4 : nI (6 * m) + 4 = nI (6 * m + 4) := nI_add _ 4
  have j4 : (nI (6 * m + 4)).toInt = ((6 * m + 4 : Nat) : Int) := nI_toInt (by omega)
  have k4 : (nI (6 * m + 4)).toNatClampNeg = 6 * m + 4 := nI_clamp (by omega)
  have o4 : (0 : Int) ≤ ((6 * m + 4 : Nat) : Int) ∧ ((6 * m + 4 : Nat) : Int) < (L : Int) := by omega
  have i5 : nI (6 * m) + 5 = nI (6 * m + 5) := nI_add _ 5
  have j5 : (nI (6 * m + 5)).toInt = ((6 * m + 5 : Nat) : Int) := nI_toInt (by omega)
  have k5 : (nI (6 * m + 5)).toNatClampNeg = 6 * m + 5 := nI_clamp (by omega)
  have o5 : (0 : Int) ≤ ((6 * m + 5 : Nat) : Int) ∧ ((6 * m + 5 : Nat) : Int) < (L : Int) := by omega
  simp +decide only [e218_712, e218_713, e218_714, e218_715, e218_716, e218_717, e218_718, e218_719, e218_720, e218_721, e218_722, e218_723, true_and, and_true, or_true, true_or, if_true, if_false, not_true_eq_false, not_false_eq_true, ne_eq, and_self, Option.toList_some, Option.toList_none, List.cons_append, List.nil_append, catS_0, catS_I, catS_L, catS_R, Option.map_some, Option.map_none, Option.some.injEq, Sum.inl.injEq, exists_eq_left', exists_eq', s1, s2, s3, n11, i1, j1, k1, o1, i2, j2, k2, o2, i3, j3, k3, o3, i4, j4, k4, o4, i5, j5, k5, o5]
  refine Rn_mono (fun r σ1 hz => ?_) hT
  obtain ⟨⟨v, rfl, hm2⟩, hs1⟩ := hz
  have hT2 := SC_keep (L := L) (xs := xs) (c := (171, 0, _, [], σ1)) hs1 hm2
  obtain ⟨x1, x2, x3, n12b⟩ := hs1
  simp +decide only [e218_726, e218_727, e218_728, e218_729, e218_730, e218_731, e218_732, e218_733, e218_734, e218_735, e218_736, e218_737, true_and, and_true, or_true, true_or, if_true, if_false, not_true_eq_false, not_false_eq_true, ne_eq, and_self, Option.toList_some, Option.toList_none, List.cons_append, List.nil_append, catS_0, catS_I, catS_L, catS_R, Option.map_some, Option.map_none, Option.some.injEq, Sum.inl.injEq, exists_eq_left', exists_eq', x1, x2, x3, n12b, i1, j1, k1, o1, i2, j2, k2, o2, i3, j3, k3, o3, i4, j4, k4, o4, i5, j5, k5, o5]
  refine Rn_mono (fun r' σ2 hz2 => ?_) hT2
  obtain ⟨⟨rfl, hI2⟩, hs2⟩ := hz2
  simp +decide only [e218_740, e218_1812, e218_1815, true_and, and_true, or_true, true_or, if_true, if_false, not_true_eq_false, not_false_eq_true, ne_eq, and_self, Option.toList_some, Option.toList_none, List.cons_append, List.nil_append, catS_0, catS_I, catS_L, catS_R, Option.map_some, Option.map_none, Option.some.injEq, Sum.inl.injEq, exists_eq_left', exists_eq', eq_self, lw6]
  exact ih σ2 hI2 hs2
theorem law_give {h0 m L : Nat} {xs : Nat → Int32} {σ : St} {Q : Option AV → St → Prop} (h : Inv h0 m σ) (hs : SC L xs σ) (hm : 6 * m + 6 ≤ L) (hL : L ≤ 3072) (ih : ∀ σ', Inv h0 (m + 1) σ' → SC L xs σ' → Rn 100 Q (218, 18, [some (vR (some (13, 1, 0))), some (vR (some (11, 0, 0))), some (vR (some (12, 0, 0))), some (vI (nI (6 * (m + 1))))], [], σ')) : Rn 100 Q (218, 745, [some (vR (some (13, 1, 0))), some (vR (some (11, 0, 0))), some (vR (some (12, 0, 0))), some (vI (nI (6 * m)))], [], σ) := by
  have hT := SC_keep (L := L) (xs := xs) (c := (79, 0, _, [], σ)) hs (T_give (h0 := h0) (n := m) (d := 97) (σ := σ) (a := xs (6 * m + 1)) (b := xs (6 * m + 2)) (c := xs (6 * m + 3)) h)
  obtain ⟨s1, s2, s3, s4⟩ := hs
  have n11 := N11 h.1
  have n12 := N12 h.1
  have lw6 : nI (6 * m) + 6 = nI (6 * (m + 1)) := by rw [lN6, nI_add]; congr 1
  have i1 : nI (6 * m) + 1 = nI (6 * m + 1) := nI_add _ 1
  have j1 : (nI (6 * m + 1)).toInt = ((6 * m + 1 : Nat) : Int) := nI_toInt (by omega)
  have k1 : (nI (6 * m + 1)).toNatClampNeg = 6 * m + 1 := nI_clamp (by omega)
  have o1 : (0 : Int) ≤ ((6 * m + 1 : Nat) : Int) ∧ ((6 * m + 1 : Nat) : Int) < (L : Int) := by omega
  have i2 : nI (6 * m) + 2 = nI (6 * m + 2) := nI_add _ 2
  have j2 : (nI (6 * m + 2)).toInt = ((6 * m + 2 : Nat) : Int) := nI_toInt (by omega)
  have k2 : (nI (6 * m + 2)).toNatClampNeg = 6 * m + 2 := nI_clamp (by omega)
  have o2 : (0 : Int) ≤ ((6 * m + 2 : Nat) : Int) ∧ ((6 * m + 2 : Nat) : Int) < (L : Int) := by omega
  have i3 : nI (6 * m) + 3 = nI (6 * m + 3) := nI_add _ 3
  have j3 : (nI (6 * m + 3)).toInt = ((6 * m + 3 : Nat) : Int) := nI_toInt (by omega)
  have k3 : (nI (6 * m + 3)).toNatClampNeg = 6 * m + 3 := nI_clamp (by omega)
  have o3 : (0 : Int) ≤ ((6 * m + 3 : Nat) : Int) ∧ ((6 * m + 3 : Nat) : Int) < (L : Int) := by omega
  have i4 : nI (6 * m) + 4 = nI (6 * m + 4) := nI_add _ 4
  have j4 : (nI (6 * m + 4)).toInt = ((6 * m + 4 : Nat) : Int) := nI_toInt (by omega)
  have k4 : (nI (6 * m + 4)).toNatClampNeg = 6 * m + 4 := nI_clamp (by omega)
  have o4 : (0 : Int) ≤ ((6 * m + 4 : Nat) : Int) ∧ ((6 * m + 4 : Nat) : Int) < (L : Int) := by omega
  have i5 : nI (6 * m) + 5 = nI (6 * m + 5) := nI_add _ 5
  have j5 : (nI (6 * m + 5)).toInt = ((6 * m + 5 : Nat) : Int) := nI_toInt (by omega)
  have k5 : (nI (6 * m + 5)).toNatClampNeg = 6 * m + 5 := nI_clamp (by omega)
  have o5 : (0 : Int) ≤ ((6 * m + 5 : Nat) : Int) ∧ ((6 * m + 5 : Nat) : Int) < (L : Int) := by omega
  simp +decide only [e218_745, e218_746, e218_747, e218_748, e218_749, e218_750, e218_751, e218_752, e218_753, e218_754, e218_755, e218_756, e218_757, e218_758, e218_759, e218_760, e218_761, true_and, and_true, or_true, true_or, if_true, if_false, not_true_eq_false, not_false_eq_true, ne_eq, and_self, Option.toList_some, Option.toList_none, List.cons_append, List.nil_append, catS_0, catS_I, catS_L, catS_R, Option.map_some, Option.map_none, Option.some.injEq, Sum.inl.injEq, exists_eq_left', exists_eq', s1, s2, s3, n11, i1, j1, k1, o1, i2, j2, k2, o2, i3, j3, k3, o3, i4, j4, k4, o4, i5, j5, k5, o5]
  refine Rn_mono (fun r σ1 hz => ?_) hT
  obtain ⟨⟨v, rfl, hm2⟩, hs1⟩ := hz
  have hT2 := SC_keep (L := L) (xs := xs) (c := (174, 0, _, [], σ1)) hs1 hm2
  obtain ⟨x1, x2, x3, n12b⟩ := hs1
  simp +decide only [e218_764, e218_765, e218_766, e218_767, e218_768, e218_769, e218_770, e218_771, e218_772, e218_773, e218_774, e218_775, e218_776, e218_777, e218_778, e218_779, e218_780, true_and, and_true, or_true, true_or, if_true, if_false, not_true_eq_false, not_false_eq_true, ne_eq, and_self, Option.toList_some, Option.toList_none, List.cons_append, List.nil_append, catS_0, catS_I, catS_L, catS_R, Option.map_some, Option.map_none, Option.some.injEq, Sum.inl.injEq, exists_eq_left', exists_eq', x1, x2, x3, n12b, i1, j1, k1, o1, i2, j2, k2, o2, i3, j3, k3, o3, i4, j4, k4, o4, i5, j5, k5, o5]
  refine Rn_mono (fun r' σ2 hz2 => ?_) hT2
  obtain ⟨⟨rfl, hI2⟩, hs2⟩ := hz2
  simp +decide only [e218_783, e218_1812, e218_1815, true_and, and_true, or_true, true_or, if_true, if_false, not_true_eq_false, not_false_eq_true, ne_eq, and_self, Option.toList_some, Option.toList_none, List.cons_append, List.nil_append, catS_0, catS_I, catS_L, catS_R, Option.map_some, Option.map_none, Option.some.injEq, Sum.inl.injEq, exists_eq_left', exists_eq', eq_self, lw6]
  exact ih σ2 hI2 hs2
theorem law_mark {h0 m L : Nat} {xs : Nat → Int32} {σ : St} {Q : Option AV → St → Prop} (h : Inv h0 m σ) (hs : SC L xs σ) (hm : 6 * m + 6 ≤ L) (hL : L ≤ 3072) (ih : ∀ σ', Inv h0 (m + 1) σ' → SC L xs σ' → Rn 100 Q (218, 18, [some (vR (some (13, 1, 0))), some (vR (some (11, 0, 0))), some (vR (some (12, 0, 0))), some (vI (nI (6 * (m + 1))))], [], σ')) : Rn 100 Q (218, 788, [some (vR (some (13, 1, 0))), some (vR (some (11, 0, 0))), some (vR (some (12, 0, 0))), some (vI (nI (6 * m)))], [], σ) := by
  have hT := SC_keep (L := L) (xs := xs) (c := (80, 0, _, [], σ)) hs (T_mark (h0 := h0) (n := m) (d := 96) (σ := σ) (a := xs (6 * m + 1)) (b1 := xs (6 * m + 2)) (b2 := xs (6 * m + 3)) (b3 := xs (6 * m + 4)) (c := xs (6 * m + 5)) h)
  obtain ⟨s1, s2, s3, s4⟩ := hs
  have n11 := N11 h.1
  have n12 := N12 h.1
  have lw6 : nI (6 * m) + 6 = nI (6 * (m + 1)) := by rw [lN6, nI_add]; congr 1
  have i1 : nI (6 * m) + 1 = nI (6 * m + 1) := nI_add _ 1
  have j1 : (nI (6 * m + 1)).toInt = ((6 * m + 1 : Nat) : Int) := nI_toInt (by omega)
  have k1 : (nI (6 * m + 1)).toNatClampNeg = 6 * m + 1 := nI_clamp (by omega)
  have o1 : (0 : Int) ≤ ((6 * m + 1 : Nat) : Int) ∧ ((6 * m + 1 : Nat) : Int) < (L : Int) := by omega
  have i2 : nI (6 * m) + 2 = nI (6 * m + 2) := nI_add _ 2
  have j2 : (nI (6 * m + 2)).toInt = ((6 * m + 2 : Nat) : Int) := nI_toInt (by omega)
  have k2 : (nI (6 * m + 2)).toNatClampNeg = 6 * m + 2 := nI_clamp (by omega)
  have o2 : (0 : Int) ≤ ((6 * m + 2 : Nat) : Int) ∧ ((6 * m + 2 : Nat) : Int) < (L : Int) := by omega
  have i3 : nI (6 * m) + 3 = nI (6 * m + 3) := nI_add _ 3
  have j3 : (nI (6 * m + 3)).toInt = ((6 * m + 3 : Nat) : Int) := nI_toInt (by omega)
  have k3 : (nI (6 * m + 3)).toNatClampNeg = 6 * m + 3 := nI_clamp (by omega)
  have o3 : (0 : Int) ≤ ((6 * m + 3 : Nat) : Int) ∧ ((6 * m + 3 : Nat) : Int) < (L : Int) := by omega
  have i4 : nI (6 * m) + 4 = nI (6 * m + 4) := nI_add _ 4
  have j4 : (nI (6 * m + 4)).toInt = ((6 * m + 4 : Nat) : Int) := nI_toInt (by omega)
  have k4 : (nI (6 * m + 4)).toNatClampNeg = 6 * m + 4 := nI_clamp (by omega)
  have o4 : (0 : Int) ≤ ((6 * m + 4 : Nat) : Int) ∧ ((6 * m + 4 : Nat) : Int) < (L : Int) := by omega
  have i5 : nI (6 * m) + 5 = nI (6 * m + 5) := nI_add _ 5
  have j5 : (nI (6 * m + 5)).toInt = ((6 * m + 5 : Nat) : Int) := nI_toInt (by omega)
  have k5 : (nI (6 * m + 5)).toNatClampNeg = 6 * m + 5 := nI_clamp (by omega)
  have o5 : (0 : Int) ≤ ((6 * m + 5 : Nat) : Int) ∧ ((6 * m + 5 : Nat) : Int) < (L : Int) := by omega
  simp +decide only [e218_788, e218_789, e218_790, e218_791, e218_792, e218_793, e218_794, e218_795, e218_796, e218_797, e218_798, e218_799, e218_800, e218_801, e218_802, e218_803, e218_804, e218_805, e218_806, e218_807, e218_808, e218_809, e218_810, e218_811, e218_812, e218_813, e218_814, true_and, and_true, or_true, true_or, if_true, if_false, not_true_eq_false, not_false_eq_true, ne_eq, and_self, Option.toList_some, Option.toList_none, List.cons_append, List.nil_append, catS_0, catS_I, catS_L, catS_R, Option.map_some, Option.map_none, Option.some.injEq, Sum.inl.injEq, exists_eq_left', exists_eq', s1, s2, s3, n11, i1, j1, k1, o1, i2, j2, k2, o2, i3, j3, k3, o3, i4, j4, k4, o4, i5, j5, k5, o5]
  refine Rn_mono (fun r σ1 hz => ?_) hT
  obtain ⟨⟨v, rfl, hm2⟩, hs1⟩ := hz
  have hT2 := SC_keep (L := L) (xs := xs) (c := (177, 0, _, [], σ1)) hs1 hm2
  obtain ⟨x1, x2, x3, n12b⟩ := hs1
  simp +decide only [e218_817, e218_818, e218_819, e218_820, e218_821, e218_822, e218_823, e218_824, e218_825, e218_826, e218_827, e218_828, e218_829, e218_830, e218_831, e218_832, e218_833, e218_834, e218_835, e218_836, e218_837, e218_838, e218_839, e218_840, e218_841, e218_842, e218_843, true_and, and_true, or_true, true_or, if_true, if_false, not_true_eq_false, not_false_eq_true, ne_eq, and_self, Option.toList_some, Option.toList_none, List.cons_append, List.nil_append, catS_0, catS_I, catS_L, catS_R, Option.map_some, Option.map_none, Option.some.injEq, Sum.inl.injEq, exists_eq_left', exists_eq', x1, x2, x3, n12b, i1, j1, k1, o1, i2, j2, k2, o2, i3, j3, k3, o3, i4, j4, k4, o4, i5, j5, k5, o5]
  refine Rn_mono (fun r' σ2 hz2 => ?_) hT2
  obtain ⟨⟨rfl, hI2⟩, hs2⟩ := hz2
  simp +decide only [e218_846, e218_1812, e218_1815, true_and, and_true, or_true, true_or, if_true, if_false, not_true_eq_false, not_false_eq_true, ne_eq, and_self, Option.toList_some, Option.toList_none, List.cons_append, List.nil_append, catS_0, catS_I, catS_L, catS_R, Option.map_some, Option.map_none, Option.some.injEq, Sum.inl.injEq, exists_eq_left', exists_eq', eq_self, lw6]
  exact ih σ2 hI2 hs2
theorem law_again {h0 m L : Nat} {xs : Nat → Int32} {σ : St} {Q : Option AV → St → Prop} (h : Inv h0 m σ) (hs : SC L xs σ) (hm : 6 * m + 6 ≤ L) (hL : L ≤ 3072) (ih : ∀ σ', Inv h0 (m + 1) σ' → SC L xs σ' → Rn 100 Q (218, 18, [some (vR (some (13, 1, 0))), some (vR (some (11, 0, 0))), some (vR (some (12, 0, 0))), some (vI (nI (6 * (m + 1))))], [], σ')) : Rn 100 Q (218, 851, [some (vR (some (13, 1, 0))), some (vR (some (11, 0, 0))), some (vR (some (12, 0, 0))), some (vI (nI (6 * m)))], [], σ) := by
  have hT := SC_keep (L := L) (xs := xs) (c := (81, 0, _, [], σ)) hs (T_again (h0 := h0) (n := m) (d := 96) (σ := σ) (a := xs (6 * m + 1)) (b := xs (6 * m + 2)) h (by omega))
  obtain ⟨s1, s2, s3, s4⟩ := hs
  have n11 := N11 h.1
  have n12 := N12 h.1
  have lw6 : nI (6 * m) + 6 = nI (6 * (m + 1)) := by rw [lN6, nI_add]; congr 1
  have i1 : nI (6 * m) + 1 = nI (6 * m + 1) := nI_add _ 1
  have j1 : (nI (6 * m + 1)).toInt = ((6 * m + 1 : Nat) : Int) := nI_toInt (by omega)
  have k1 : (nI (6 * m + 1)).toNatClampNeg = 6 * m + 1 := nI_clamp (by omega)
  have o1 : (0 : Int) ≤ ((6 * m + 1 : Nat) : Int) ∧ ((6 * m + 1 : Nat) : Int) < (L : Int) := by omega
  have i2 : nI (6 * m) + 2 = nI (6 * m + 2) := nI_add _ 2
  have j2 : (nI (6 * m + 2)).toInt = ((6 * m + 2 : Nat) : Int) := nI_toInt (by omega)
  have k2 : (nI (6 * m + 2)).toNatClampNeg = 6 * m + 2 := nI_clamp (by omega)
  have o2 : (0 : Int) ≤ ((6 * m + 2 : Nat) : Int) ∧ ((6 * m + 2 : Nat) : Int) < (L : Int) := by omega
  have i3 : nI (6 * m) + 3 = nI (6 * m + 3) := nI_add _ 3
  have j3 : (nI (6 * m + 3)).toInt = ((6 * m + 3 : Nat) : Int) := nI_toInt (by omega)
  have k3 : (nI (6 * m + 3)).toNatClampNeg = 6 * m + 3 := nI_clamp (by omega)
  have o3 : (0 : Int) ≤ ((6 * m + 3 : Nat) : Int) ∧ ((6 * m + 3 : Nat) : Int) < (L : Int) := by omega
  have i4 : nI (6 * m) + 4 = nI (6 * m + 4) := nI_add _ 4
  have j4 : (nI (6 * m + 4)).toInt = ((6 * m + 4 : Nat) : Int) := nI_toInt (by omega)
  have k4 : (nI (6 * m + 4)).toNatClampNeg = 6 * m + 4 := nI_clamp (by omega)
  have o4 : (0 : Int) ≤ ((6 * m + 4 : Nat) : Int) ∧ ((6 * m + 4 : Nat) : Int) < (L : Int) := by omega
  have i5 : nI (6 * m) + 5 = nI (6 * m + 5) := nI_add _ 5
  have j5 : (nI (6 * m + 5)).toInt = ((6 * m + 5 : Nat) : Int) := nI_toInt (by omega)
  have k5 : (nI (6 * m + 5)).toNatClampNeg = 6 * m + 5 := nI_clamp (by omega)
  have o5 : (0 : Int) ≤ ((6 * m + 5 : Nat) : Int) ∧ ((6 * m + 5 : Nat) : Int) < (L : Int) := by omega
  simp +decide only [e218_851, e218_852, e218_853, e218_854, e218_855, e218_856, e218_857, e218_858, e218_859, e218_860, e218_861, e218_862, true_and, and_true, or_true, true_or, if_true, if_false, not_true_eq_false, not_false_eq_true, ne_eq, and_self, Option.toList_some, Option.toList_none, List.cons_append, List.nil_append, catS_0, catS_I, catS_L, catS_R, Option.map_some, Option.map_none, Option.some.injEq, Sum.inl.injEq, exists_eq_left', exists_eq', s1, s2, s3, n11, i1, j1, k1, o1, i2, j2, k2, o2, i3, j3, k3, o3, i4, j4, k4, o4, i5, j5, k5, o5]
  refine Rn_mono (fun r σ1 hz => ?_) hT
  obtain ⟨⟨v, rfl, hm2⟩, hs1⟩ := hz
  have hT2 := SC_keep (L := L) (xs := xs) (c := (178, 0, _, [], σ1)) hs1 hm2
  obtain ⟨x1, x2, x3, n12b⟩ := hs1
  simp +decide only [e218_865, e218_866, e218_867, e218_868, e218_869, e218_870, e218_871, e218_872, e218_873, e218_874, e218_875, e218_876, true_and, and_true, or_true, true_or, if_true, if_false, not_true_eq_false, not_false_eq_true, ne_eq, and_self, Option.toList_some, Option.toList_none, List.cons_append, List.nil_append, catS_0, catS_I, catS_L, catS_R, Option.map_some, Option.map_none, Option.some.injEq, Sum.inl.injEq, exists_eq_left', exists_eq', x1, x2, x3, n12b, i1, j1, k1, o1, i2, j2, k2, o2, i3, j3, k3, o3, i4, j4, k4, o4, i5, j5, k5, o5]
  refine Rn_mono (fun r' σ2 hz2 => ?_) hT2
  obtain ⟨⟨rfl, hI2⟩, hs2⟩ := hz2
  simp +decide only [e218_879, e218_1812, e218_1815, true_and, and_true, or_true, true_or, if_true, if_false, not_true_eq_false, not_false_eq_true, ne_eq, and_self, Option.toList_some, Option.toList_none, List.cons_append, List.nil_append, catS_0, catS_I, catS_L, catS_R, Option.map_some, Option.map_none, Option.some.injEq, Sum.inl.injEq, exists_eq_left', exists_eq', eq_self, lw6]
  exact ih σ2 hI2 hs2
theorem law_second {h0 m L : Nat} {xs : Nat → Int32} {σ : St} {Q : Option AV → St → Prop} (h : Inv h0 m σ) (hs : SC L xs σ) (hm : 6 * m + 6 ≤ L) (hL : L ≤ 3072) (ih : ∀ σ', Inv h0 (m + 1) σ' → SC L xs σ' → Rn 100 Q (218, 18, [some (vR (some (13, 1, 0))), some (vR (some (11, 0, 0))), some (vR (some (12, 0, 0))), some (vI (nI (6 * (m + 1))))], [], σ')) : Rn 100 Q (218, 884, [some (vR (some (13, 1, 0))), some (vR (some (11, 0, 0))), some (vR (some (12, 0, 0))), some (vI (nI (6 * m)))], [], σ) := by
  have hT := SC_keep (L := L) (xs := xs) (c := (82, 0, _, [], σ)) hs (T_second (h0 := h0) (n := m) (d := 97) (σ := σ) (a := xs (6 * m + 1)) (b := xs (6 * m + 2)) (c1 := xs (6 * m + 3)) (c2 := xs (6 * m + 4)) (c3 := xs (6 * m + 5)) h)
  obtain ⟨s1, s2, s3, s4⟩ := hs
  have n11 := N11 h.1
  have n12 := N12 h.1
  have lw6 : nI (6 * m) + 6 = nI (6 * (m + 1)) := by rw [lN6, nI_add]; congr 1
  have i1 : nI (6 * m) + 1 = nI (6 * m + 1) := nI_add _ 1
  have j1 : (nI (6 * m + 1)).toInt = ((6 * m + 1 : Nat) : Int) := nI_toInt (by omega)
  have k1 : (nI (6 * m + 1)).toNatClampNeg = 6 * m + 1 := nI_clamp (by omega)
  have o1 : (0 : Int) ≤ ((6 * m + 1 : Nat) : Int) ∧ ((6 * m + 1 : Nat) : Int) < (L : Int) := by omega
  have i2 : nI (6 * m) + 2 = nI (6 * m + 2) := nI_add _ 2
  have j2 : (nI (6 * m + 2)).toInt = ((6 * m + 2 : Nat) : Int) := nI_toInt (by omega)
  have k2 : (nI (6 * m + 2)).toNatClampNeg = 6 * m + 2 := nI_clamp (by omega)
  have o2 : (0 : Int) ≤ ((6 * m + 2 : Nat) : Int) ∧ ((6 * m + 2 : Nat) : Int) < (L : Int) := by omega
  have i3 : nI (6 * m) + 3 = nI (6 * m + 3) := nI_add _ 3
  have j3 : (nI (6 * m + 3)).toInt = ((6 * m + 3 : Nat) : Int) := nI_toInt (by omega)
  have k3 : (nI (6 * m + 3)).toNatClampNeg = 6 * m + 3 := nI_clamp (by omega)
  have o3 : (0 : Int) ≤ ((6 * m + 3 : Nat) : Int) ∧ ((6 * m + 3 : Nat) : Int) < (L : Int) := by omega
  have i4 : nI (6 * m) + 4 = nI (6 * m + 4) := nI_add _ 4
  have j4 : (nI (6 * m + 4)).toInt = ((6 * m + 4 : Nat) : Int) := nI_toInt (by omega)
  have k4 : (nI (6 * m + 4)).toNatClampNeg = 6 * m + 4 := nI_clamp (by omega)
  have o4 : (0 : Int) ≤ ((6 * m + 4 : Nat) : Int) ∧ ((6 * m + 4 : Nat) : Int) < (L : Int) := by omega
  have i5 : nI (6 * m) + 5 = nI (6 * m + 5) := nI_add _ 5
  have j5 : (nI (6 * m + 5)).toInt = ((6 * m + 5 : Nat) : Int) := nI_toInt (by omega)
  have k5 : (nI (6 * m + 5)).toNatClampNeg = 6 * m + 5 := nI_clamp (by omega)
  have o5 : (0 : Int) ≤ ((6 * m + 5 : Nat) : Int) ∧ ((6 * m + 5 : Nat) : Int) < (L : Int) := by omega
  simp +decide only [e218_884, e218_885, e218_886, e218_887, e218_888, e218_889, e218_890, e218_891, e218_892, e218_893, e218_894, e218_895, e218_896, e218_897, e218_898, e218_899, e218_900, e218_901, e218_902, e218_903, e218_904, e218_905, e218_906, e218_907, e218_908, e218_909, e218_910, true_and, and_true, or_true, true_or, if_true, if_false, not_true_eq_false, not_false_eq_true, ne_eq, and_self, Option.toList_some, Option.toList_none, List.cons_append, List.nil_append, catS_0, catS_I, catS_L, catS_R, Option.map_some, Option.map_none, Option.some.injEq, Sum.inl.injEq, exists_eq_left', exists_eq', s1, s2, s3, n11, i1, j1, k1, o1, i2, j2, k2, o2, i3, j3, k3, o3, i4, j4, k4, o4, i5, j5, k5, o5]
  refine Rn_mono (fun r σ1 hz => ?_) hT
  obtain ⟨⟨v, rfl, hm2⟩, hs1⟩ := hz
  have hT2 := SC_keep (L := L) (xs := xs) (c := (179, 0, _, [], σ1)) hs1 hm2
  obtain ⟨x1, x2, x3, n12b⟩ := hs1
  simp +decide only [e218_913, e218_914, e218_915, e218_916, e218_917, e218_918, e218_919, e218_920, e218_921, e218_922, e218_923, e218_924, e218_925, e218_926, e218_927, e218_928, e218_929, e218_930, e218_931, e218_932, e218_933, e218_934, e218_935, e218_936, e218_937, e218_938, e218_939, true_and, and_true, or_true, true_or, if_true, if_false, not_true_eq_false, not_false_eq_true, ne_eq, and_self, Option.toList_some, Option.toList_none, List.cons_append, List.nil_append, catS_0, catS_I, catS_L, catS_R, Option.map_some, Option.map_none, Option.some.injEq, Sum.inl.injEq, exists_eq_left', exists_eq', x1, x2, x3, n12b, i1, j1, k1, o1, i2, j2, k2, o2, i3, j3, k3, o3, i4, j4, k4, o4, i5, j5, k5, o5]
  refine Rn_mono (fun r' σ2 hz2 => ?_) hT2
  obtain ⟨⟨rfl, hI2⟩, hs2⟩ := hz2
  simp +decide only [e218_942, e218_1812, e218_1815, true_and, and_true, or_true, true_or, if_true, if_false, not_true_eq_false, not_false_eq_true, ne_eq, and_self, Option.toList_some, Option.toList_none, List.cons_append, List.nil_append, catS_0, catS_I, catS_L, catS_R, Option.map_some, Option.map_none, Option.some.injEq, Sum.inl.injEq, exists_eq_left', exists_eq', eq_self, lw6]
  exact ih σ2 hI2 hs2
theorem law_thing {h0 m L : Nat} {xs : Nat → Int32} {σ : St} {Q : Option AV → St → Prop} (h : Inv h0 m σ) (hs : SC L xs σ) (hm : 6 * m + 6 ≤ L) (hL : L ≤ 3072) (ih : ∀ σ', Inv h0 (m + 1) σ' → SC L xs σ' → Rn 100 Q (218, 18, [some (vR (some (13, 1, 0))), some (vR (some (11, 0, 0))), some (vR (some (12, 0, 0))), some (vI (nI (6 * (m + 1))))], [], σ')) : Rn 100 Q (218, 947, [some (vR (some (13, 1, 0))), some (vR (some (11, 0, 0))), some (vR (some (12, 0, 0))), some (vI (nI (6 * m)))], [], σ) := by
  have hT := SC_keep (L := L) (xs := xs) (c := (83, 0, _, [], σ)) hs (T_thing (h0 := h0) (n := m) (d := 97) (σ := σ) (a := xs (6 * m + 1)) (b := xs (6 * m + 2)) h)
  obtain ⟨s1, s2, s3, s4⟩ := hs
  have n11 := N11 h.1
  have n12 := N12 h.1
  have lw6 : nI (6 * m) + 6 = nI (6 * (m + 1)) := by rw [lN6, nI_add]; congr 1
  have i1 : nI (6 * m) + 1 = nI (6 * m + 1) := nI_add _ 1
  have j1 : (nI (6 * m + 1)).toInt = ((6 * m + 1 : Nat) : Int) := nI_toInt (by omega)
  have k1 : (nI (6 * m + 1)).toNatClampNeg = 6 * m + 1 := nI_clamp (by omega)
  have o1 : (0 : Int) ≤ ((6 * m + 1 : Nat) : Int) ∧ ((6 * m + 1 : Nat) : Int) < (L : Int) := by omega
  have i2 : nI (6 * m) + 2 = nI (6 * m + 2) := nI_add _ 2
  have j2 : (nI (6 * m + 2)).toInt = ((6 * m + 2 : Nat) : Int) := nI_toInt (by omega)
  have k2 : (nI (6 * m + 2)).toNatClampNeg = 6 * m + 2 := nI_clamp (by omega)
  have o2 : (0 : Int) ≤ ((6 * m + 2 : Nat) : Int) ∧ ((6 * m + 2 : Nat) : Int) < (L : Int) := by omega
  have i3 : nI (6 * m) + 3 = nI (6 * m + 3) := nI_add _ 3
  have j3 : (nI (6 * m + 3)).toInt = ((6 * m + 3 : Nat) : Int) := nI_toInt (by omega)
  have k3 : (nI (6 * m + 3)).toNatClampNeg = 6 * m + 3 := nI_clamp (by omega)
  have o3 : (0 : Int) ≤ ((6 * m + 3 : Nat) : Int) ∧ ((6 * m + 3 : Nat) : Int) < (L : Int) := by omega
  have i4 : nI (6 * m) + 4 = nI (6 * m + 4) := nI_add _ 4
  have j4 : (nI (6 * m + 4)).toInt = ((6 * m + 4 : Nat) : Int) := nI_toInt (by omega)
  have k4 : (nI (6 * m + 4)).toNatClampNeg = 6 * m + 4 := nI_clamp (by omega)
  have o4 : (0 : Int) ≤ ((6 * m + 4 : Nat) : Int) ∧ ((6 * m + 4 : Nat) : Int) < (L : Int) := by omega
  have i5 : nI (6 * m) + 5 = nI (6 * m + 5) := nI_add _ 5
  have j5 : (nI (6 * m + 5)).toInt = ((6 * m + 5 : Nat) : Int) := nI_toInt (by omega)
  have k5 : (nI (6 * m + 5)).toNatClampNeg = 6 * m + 5 := nI_clamp (by omega)
  have o5 : (0 : Int) ≤ ((6 * m + 5 : Nat) : Int) ∧ ((6 * m + 5 : Nat) : Int) < (L : Int) := by omega
  simp +decide only [e218_947, e218_948, e218_949, e218_950, e218_951, e218_952, e218_953, e218_954, e218_955, e218_956, e218_957, e218_958, true_and, and_true, or_true, true_or, if_true, if_false, not_true_eq_false, not_false_eq_true, ne_eq, and_self, Option.toList_some, Option.toList_none, List.cons_append, List.nil_append, catS_0, catS_I, catS_L, catS_R, Option.map_some, Option.map_none, Option.some.injEq, Sum.inl.injEq, exists_eq_left', exists_eq', s1, s2, s3, n11, i1, j1, k1, o1, i2, j2, k2, o2, i3, j3, k3, o3, i4, j4, k4, o4, i5, j5, k5, o5]
  refine Rn_mono (fun r σ1 hz => ?_) hT
  obtain ⟨⟨v, rfl, hm2⟩, hs1⟩ := hz
  have hT2 := SC_keep (L := L) (xs := xs) (c := (180, 0, _, [], σ1)) hs1 hm2
  obtain ⟨x1, x2, x3, n12b⟩ := hs1
  simp +decide only [e218_961, e218_962, e218_963, e218_964, e218_965, e218_966, e218_967, e218_968, e218_969, e218_970, e218_971, e218_972, true_and, and_true, or_true, true_or, if_true, if_false, not_true_eq_false, not_false_eq_true, ne_eq, and_self, Option.toList_some, Option.toList_none, List.cons_append, List.nil_append, catS_0, catS_I, catS_L, catS_R, Option.map_some, Option.map_none, Option.some.injEq, Sum.inl.injEq, exists_eq_left', exists_eq', x1, x2, x3, n12b, i1, j1, k1, o1, i2, j2, k2, o2, i3, j3, k3, o3, i4, j4, k4, o4, i5, j5, k5, o5]
  refine Rn_mono (fun r' σ2 hz2 => ?_) hT2
  obtain ⟨⟨rfl, hI2⟩, hs2⟩ := hz2
  simp +decide only [e218_975, e218_1812, e218_1815, true_and, and_true, or_true, true_or, if_true, if_false, not_true_eq_false, not_false_eq_true, ne_eq, and_self, Option.toList_some, Option.toList_none, List.cons_append, List.nil_append, catS_0, catS_I, catS_L, catS_R, Option.map_some, Option.map_none, Option.some.injEq, Sum.inl.injEq, exists_eq_left', exists_eq', eq_self, lw6]
  exact ih σ2 hI2 hs2
theorem law_marks {h0 m L : Nat} {xs : Nat → Int32} {σ : St} {Q : Option AV → St → Prop} (h : Inv h0 m σ) (hs : SC L xs σ) (hm : 6 * m + 6 ≤ L) (hL : L ≤ 3072) (ih : ∀ σ', Inv h0 (m + 1) σ' → SC L xs σ' → Rn 100 Q (218, 18, [some (vR (some (13, 1, 0))), some (vR (some (11, 0, 0))), some (vR (some (12, 0, 0))), some (vI (nI (6 * (m + 1))))], [], σ')) : Rn 100 Q (218, 980, [some (vR (some (13, 1, 0))), some (vR (some (11, 0, 0))), some (vR (some (12, 0, 0))), some (vI (nI (6 * m)))], [], σ) := by
  have hT := SC_keep (L := L) (xs := xs) (c := (84, 0, _, [], σ)) hs (T_marks (h0 := h0) (n := m) (d := 96) (σ := σ) (a := xs (6 * m + 1)) (b := xs (6 * m + 2)) h)
  obtain ⟨s1, s2, s3, s4⟩ := hs
  have n11 := N11 h.1
  have n12 := N12 h.1
  have lw6 : nI (6 * m) + 6 = nI (6 * (m + 1)) := by rw [lN6, nI_add]; congr 1
  have i1 : nI (6 * m) + 1 = nI (6 * m + 1) := nI_add _ 1
  have j1 : (nI (6 * m + 1)).toInt = ((6 * m + 1 : Nat) : Int) := nI_toInt (by omega)
  have k1 : (nI (6 * m + 1)).toNatClampNeg = 6 * m + 1 := nI_clamp (by omega)
  have o1 : (0 : Int) ≤ ((6 * m + 1 : Nat) : Int) ∧ ((6 * m + 1 : Nat) : Int) < (L : Int) := by omega
  have i2 : nI (6 * m) + 2 = nI (6 * m + 2) := nI_add _ 2
  have j2 : (nI (6 * m + 2)).toInt = ((6 * m + 2 : Nat) : Int) := nI_toInt (by omega)
  have k2 : (nI (6 * m + 2)).toNatClampNeg = 6 * m + 2 := nI_clamp (by omega)
  have o2 : (0 : Int) ≤ ((6 * m + 2 : Nat) : Int) ∧ ((6 * m + 2 : Nat) : Int) < (L : Int) := by omega
  have i3 : nI (6 * m) + 3 = nI (6 * m + 3) := nI_add _ 3
  have j3 : (nI (6 * m + 3)).toInt = ((6 * m + 3 : Nat) : Int) := nI_toInt (by omega)
  have k3 : (nI (6 * m + 3)).toNatClampNeg = 6 * m + 3 := nI_clamp (by omega)
  have o3 : (0 : Int) ≤ ((6 * m + 3 : Nat) : Int) ∧ ((6 * m + 3 : Nat) : Int) < (L : Int) := by omega
  have i4 : nI (6 * m) + 4 = nI (6 * m + 4) := nI_add _ 4
  have j4 : (nI (6 * m + 4)).toInt = ((6 * m + 4 : Nat) : Int) := nI_toInt (by omega)
  have k4 : (nI (6 * m + 4)).toNatClampNeg = 6 * m + 4 := nI_clamp (by omega)
  have o4 : (0 : Int) ≤ ((6 * m + 4 : Nat) : Int) ∧ ((6 * m + 4 : Nat) : Int) < (L : Int) := by omega
  have i5 : nI (6 * m) + 5 = nI (6 * m + 5) := nI_add _ 5
  have j5 : (nI (6 * m + 5)).toInt = ((6 * m + 5 : Nat) : Int) := nI_toInt (by omega)
  have k5 : (nI (6 * m + 5)).toNatClampNeg = 6 * m + 5 := nI_clamp (by omega)
  have o5 : (0 : Int) ≤ ((6 * m + 5 : Nat) : Int) ∧ ((6 * m + 5 : Nat) : Int) < (L : Int) := by omega
  simp +decide only [e218_980, e218_981, e218_982, e218_983, e218_984, e218_985, e218_986, e218_987, e218_988, e218_989, e218_990, e218_991, true_and, and_true, or_true, true_or, if_true, if_false, not_true_eq_false, not_false_eq_true, ne_eq, and_self, Option.toList_some, Option.toList_none, List.cons_append, List.nil_append, catS_0, catS_I, catS_L, catS_R, Option.map_some, Option.map_none, Option.some.injEq, Sum.inl.injEq, exists_eq_left', exists_eq', s1, s2, s3, n11, i1, j1, k1, o1, i2, j2, k2, o2, i3, j3, k3, o3, i4, j4, k4, o4, i5, j5, k5, o5]
  refine Rn_mono (fun r σ1 hz => ?_) hT
  obtain ⟨⟨v, rfl, hm2⟩, hs1⟩ := hz
  have hT2 := SC_keep (L := L) (xs := xs) (c := (182, 0, _, [], σ1)) hs1 hm2
  obtain ⟨x1, x2, x3, n12b⟩ := hs1
  simp +decide only [e218_994, e218_995, e218_996, e218_997, e218_998, e218_999, e218_1000, e218_1001, e218_1002, e218_1003, e218_1004, e218_1005, true_and, and_true, or_true, true_or, if_true, if_false, not_true_eq_false, not_false_eq_true, ne_eq, and_self, Option.toList_some, Option.toList_none, List.cons_append, List.nil_append, catS_0, catS_I, catS_L, catS_R, Option.map_some, Option.map_none, Option.some.injEq, Sum.inl.injEq, exists_eq_left', exists_eq', x1, x2, x3, n12b, i1, j1, k1, o1, i2, j2, k2, o2, i3, j3, k3, o3, i4, j4, k4, o4, i5, j5, k5, o5]
  refine Rn_mono (fun r' σ2 hz2 => ?_) hT2
  obtain ⟨⟨rfl, hI2⟩, hs2⟩ := hz2
  simp +decide only [e218_1008, e218_1812, e218_1815, true_and, and_true, or_true, true_or, if_true, if_false, not_true_eq_false, not_false_eq_true, ne_eq, and_self, Option.toList_some, Option.toList_none, List.cons_append, List.nil_append, catS_0, catS_I, catS_L, catS_R, Option.map_some, Option.map_none, Option.some.injEq, Sum.inl.injEq, exists_eq_left', exists_eq', eq_self, lw6]
  exact ih σ2 hI2 hs2
theorem law_count {h0 m L : Nat} {xs : Nat → Int32} {σ : St} {Q : Option AV → St → Prop} (h : Inv h0 m σ) (hs : SC L xs σ) (hm : 6 * m + 6 ≤ L) (hL : L ≤ 3072) (ih : ∀ σ', Inv h0 (m + 1) σ' → SC L xs σ' → Rn 100 Q (218, 18, [some (vR (some (13, 1, 0))), some (vR (some (11, 0, 0))), some (vR (some (12, 0, 0))), some (vI (nI (6 * (m + 1))))], [], σ')) : Rn 100 Q (218, 1013, [some (vR (some (13, 1, 0))), some (vR (some (11, 0, 0))), some (vR (some (12, 0, 0))), some (vI (nI (6 * m)))], [], σ) := by
  have hT := SC_keep (L := L) (xs := xs) (c := (85, 0, _, [], σ)) hs (T_count (h0 := h0) (n := m) (d := 97) (σ := σ) (a := xs (6 * m + 1)) h)
  obtain ⟨s1, s2, s3, s4⟩ := hs
  have n11 := N11 h.1
  have n12 := N12 h.1
  have lw6 : nI (6 * m) + 6 = nI (6 * (m + 1)) := by rw [lN6, nI_add]; congr 1
  have i1 : nI (6 * m) + 1 = nI (6 * m + 1) := nI_add _ 1
  have j1 : (nI (6 * m + 1)).toInt = ((6 * m + 1 : Nat) : Int) := nI_toInt (by omega)
  have k1 : (nI (6 * m + 1)).toNatClampNeg = 6 * m + 1 := nI_clamp (by omega)
  have o1 : (0 : Int) ≤ ((6 * m + 1 : Nat) : Int) ∧ ((6 * m + 1 : Nat) : Int) < (L : Int) := by omega
  have i2 : nI (6 * m) + 2 = nI (6 * m + 2) := nI_add _ 2
  have j2 : (nI (6 * m + 2)).toInt = ((6 * m + 2 : Nat) : Int) := nI_toInt (by omega)
  have k2 : (nI (6 * m + 2)).toNatClampNeg = 6 * m + 2 := nI_clamp (by omega)
  have o2 : (0 : Int) ≤ ((6 * m + 2 : Nat) : Int) ∧ ((6 * m + 2 : Nat) : Int) < (L : Int) := by omega
  have i3 : nI (6 * m) + 3 = nI (6 * m + 3) := nI_add _ 3
  have j3 : (nI (6 * m + 3)).toInt = ((6 * m + 3 : Nat) : Int) := nI_toInt (by omega)
  have k3 : (nI (6 * m + 3)).toNatClampNeg = 6 * m + 3 := nI_clamp (by omega)
  have o3 : (0 : Int) ≤ ((6 * m + 3 : Nat) : Int) ∧ ((6 * m + 3 : Nat) : Int) < (L : Int) := by omega
  have i4 : nI (6 * m) + 4 = nI (6 * m + 4) := nI_add _ 4
  have j4 : (nI (6 * m + 4)).toInt = ((6 * m + 4 : Nat) : Int) := nI_toInt (by omega)
  have k4 : (nI (6 * m + 4)).toNatClampNeg = 6 * m + 4 := nI_clamp (by omega)
  have o4 : (0 : Int) ≤ ((6 * m + 4 : Nat) : Int) ∧ ((6 * m + 4 : Nat) : Int) < (L : Int) := by omega
  have i5 : nI (6 * m) + 5 = nI (6 * m + 5) := nI_add _ 5
  have j5 : (nI (6 * m + 5)).toInt = ((6 * m + 5 : Nat) : Int) := nI_toInt (by omega)
  have k5 : (nI (6 * m + 5)).toNatClampNeg = 6 * m + 5 := nI_clamp (by omega)
  have o5 : (0 : Int) ≤ ((6 * m + 5 : Nat) : Int) ∧ ((6 * m + 5 : Nat) : Int) < (L : Int) := by omega
  simp +decide only [e218_1013, e218_1014, e218_1015, e218_1016, e218_1017, e218_1018, e218_1019, true_and, and_true, or_true, true_or, if_true, if_false, not_true_eq_false, not_false_eq_true, ne_eq, and_self, Option.toList_some, Option.toList_none, List.cons_append, List.nil_append, catS_0, catS_I, catS_L, catS_R, Option.map_some, Option.map_none, Option.some.injEq, Sum.inl.injEq, exists_eq_left', exists_eq', s1, s2, s3, n11, i1, j1, k1, o1, i2, j2, k2, o2, i3, j3, k3, o3, i4, j4, k4, o4, i5, j5, k5, o5]
  refine Rn_mono (fun r σ1 hz => ?_) hT
  obtain ⟨⟨v, rfl, hm2⟩, hs1⟩ := hz
  have hT2 := SC_keep (L := L) (xs := xs) (c := (183, 0, _, [], σ1)) hs1 hm2
  obtain ⟨x1, x2, x3, n12b⟩ := hs1
  simp +decide only [e218_1022, e218_1023, e218_1024, e218_1025, e218_1026, e218_1027, e218_1028, true_and, and_true, or_true, true_or, if_true, if_false, not_true_eq_false, not_false_eq_true, ne_eq, and_self, Option.toList_some, Option.toList_none, List.cons_append, List.nil_append, catS_0, catS_I, catS_L, catS_R, Option.map_some, Option.map_none, Option.some.injEq, Sum.inl.injEq, exists_eq_left', exists_eq', x1, x2, x3, n12b, i1, j1, k1, o1, i2, j2, k2, o2, i3, j3, k3, o3, i4, j4, k4, o4, i5, j5, k5, o5]
  refine Rn_mono (fun r' σ2 hz2 => ?_) hT2
  obtain ⟨⟨rfl, hI2⟩, hs2⟩ := hz2
  simp +decide only [e218_1031, e218_1812, e218_1815, true_and, and_true, or_true, true_or, if_true, if_false, not_true_eq_false, not_false_eq_true, ne_eq, and_self, Option.toList_some, Option.toList_none, List.cons_append, List.nil_append, catS_0, catS_I, catS_L, catS_R, Option.map_some, Option.map_none, Option.some.injEq, Sum.inl.injEq, exists_eq_left', exists_eq', eq_self, lw6]
  exact ih σ2 hI2 hs2
theorem law_tutor {h0 m L : Nat} {xs : Nat → Int32} {σ : St} {Q : Option AV → St → Prop} (h : Inv h0 m σ) (hs : SC L xs σ) (hm : 6 * m + 6 ≤ L) (hL : L ≤ 3072) (ih : ∀ σ', Inv h0 (m + 1) σ' → SC L xs σ' → Rn 100 Q (218, 18, [some (vR (some (13, 1, 0))), some (vR (some (11, 0, 0))), some (vR (some (12, 0, 0))), some (vI (nI (6 * (m + 1))))], [], σ')) : Rn 100 Q (218, 1036, [some (vR (some (13, 1, 0))), some (vR (some (11, 0, 0))), some (vR (some (12, 0, 0))), some (vI (nI (6 * m)))], [], σ) := by
  have hT := SC_keep (L := L) (xs := xs) (c := (86, 0, _, [], σ)) hs (T_tutor (h0 := h0) (n := m) (d := 97) (σ := σ) (a := xs (6 * m + 1)) (b := xs (6 * m + 2)) h)
  obtain ⟨s1, s2, s3, s4⟩ := hs
  have n11 := N11 h.1
  have n12 := N12 h.1
  have lw6 : nI (6 * m) + 6 = nI (6 * (m + 1)) := by rw [lN6, nI_add]; congr 1
  have i1 : nI (6 * m) + 1 = nI (6 * m + 1) := nI_add _ 1
  have j1 : (nI (6 * m + 1)).toInt = ((6 * m + 1 : Nat) : Int) := nI_toInt (by omega)
  have k1 : (nI (6 * m + 1)).toNatClampNeg = 6 * m + 1 := nI_clamp (by omega)
  have o1 : (0 : Int) ≤ ((6 * m + 1 : Nat) : Int) ∧ ((6 * m + 1 : Nat) : Int) < (L : Int) := by omega
  have i2 : nI (6 * m) + 2 = nI (6 * m + 2) := nI_add _ 2
  have j2 : (nI (6 * m + 2)).toInt = ((6 * m + 2 : Nat) : Int) := nI_toInt (by omega)
  have k2 : (nI (6 * m + 2)).toNatClampNeg = 6 * m + 2 := nI_clamp (by omega)
  have o2 : (0 : Int) ≤ ((6 * m + 2 : Nat) : Int) ∧ ((6 * m + 2 : Nat) : Int) < (L : Int) := by omega
  have i3 : nI (6 * m) + 3 = nI (6 * m + 3) := nI_add _ 3
  have j3 : (nI (6 * m + 3)).toInt = ((6 * m + 3 : Nat) : Int) := nI_toInt (by omega)
  have k3 : (nI (6 * m + 3)).toNatClampNeg = 6 * m + 3 := nI_clamp (by omega)
  have o3 : (0 : Int) ≤ ((6 * m + 3 : Nat) : Int) ∧ ((6 * m + 3 : Nat) : Int) < (L : Int) := by omega
  have i4 : nI (6 * m) + 4 = nI (6 * m + 4) := nI_add _ 4
  have j4 : (nI (6 * m + 4)).toInt = ((6 * m + 4 : Nat) : Int) := nI_toInt (by omega)
  have k4 : (nI (6 * m + 4)).toNatClampNeg = 6 * m + 4 := nI_clamp (by omega)
  have o4 : (0 : Int) ≤ ((6 * m + 4 : Nat) : Int) ∧ ((6 * m + 4 : Nat) : Int) < (L : Int) := by omega
  have i5 : nI (6 * m) + 5 = nI (6 * m + 5) := nI_add _ 5
  have j5 : (nI (6 * m + 5)).toInt = ((6 * m + 5 : Nat) : Int) := nI_toInt (by omega)
  have k5 : (nI (6 * m + 5)).toNatClampNeg = 6 * m + 5 := nI_clamp (by omega)
  have o5 : (0 : Int) ≤ ((6 * m + 5 : Nat) : Int) ∧ ((6 * m + 5 : Nat) : Int) < (L : Int) := by omega
  simp +decide only [e218_1036, e218_1037, e218_1038, e218_1039, e218_1040, e218_1041, e218_1042, e218_1043, e218_1044, e218_1045, e218_1046, e218_1047, true_and, and_true, or_true, true_or, if_true, if_false, not_true_eq_false, not_false_eq_true, ne_eq, and_self, Option.toList_some, Option.toList_none, List.cons_append, List.nil_append, catS_0, catS_I, catS_L, catS_R, Option.map_some, Option.map_none, Option.some.injEq, Sum.inl.injEq, exists_eq_left', exists_eq', s1, s2, s3, n11, i1, j1, k1, o1, i2, j2, k2, o2, i3, j3, k3, o3, i4, j4, k4, o4, i5, j5, k5, o5]
  refine Rn_mono (fun r σ1 hz => ?_) hT
  obtain ⟨⟨v, rfl, hm2⟩, hs1⟩ := hz
  have hT2 := SC_keep (L := L) (xs := xs) (c := (184, 0, _, [], σ1)) hs1 hm2
  obtain ⟨x1, x2, x3, n12b⟩ := hs1
  simp +decide only [e218_1050, e218_1051, e218_1052, e218_1053, e218_1054, e218_1055, e218_1056, e218_1057, e218_1058, e218_1059, e218_1060, e218_1061, true_and, and_true, or_true, true_or, if_true, if_false, not_true_eq_false, not_false_eq_true, ne_eq, and_self, Option.toList_some, Option.toList_none, List.cons_append, List.nil_append, catS_0, catS_I, catS_L, catS_R, Option.map_some, Option.map_none, Option.some.injEq, Sum.inl.injEq, exists_eq_left', exists_eq', x1, x2, x3, n12b, i1, j1, k1, o1, i2, j2, k2, o2, i3, j3, k3, o3, i4, j4, k4, o4, i5, j5, k5, o5]
  refine Rn_mono (fun r' σ2 hz2 => ?_) hT2
  obtain ⟨⟨rfl, hI2⟩, hs2⟩ := hz2
  simp +decide only [e218_1064, e218_1812, e218_1815, true_and, and_true, or_true, true_or, if_true, if_false, not_true_eq_false, not_false_eq_true, ne_eq, and_self, Option.toList_some, Option.toList_none, List.cons_append, List.nil_append, catS_0, catS_I, catS_L, catS_R, Option.map_some, Option.map_none, Option.some.injEq, Sum.inl.injEq, exists_eq_left', exists_eq', eq_self, lw6]
  exact ih σ2 hI2 hs2
theorem law_kin {h0 m L : Nat} {xs : Nat → Int32} {σ : St} {Q : Option AV → St → Prop} (h : Inv h0 m σ) (hs : SC L xs σ) (hm : 6 * m + 6 ≤ L) (hL : L ≤ 3072) (ih : ∀ σ', Inv h0 (m + 1) σ' → SC L xs σ' → Rn 100 Q (218, 18, [some (vR (some (13, 1, 0))), some (vR (some (11, 0, 0))), some (vR (some (12, 0, 0))), some (vI (nI (6 * (m + 1))))], [], σ')) : Rn 100 Q (218, 1069, [some (vR (some (13, 1, 0))), some (vR (some (11, 0, 0))), some (vR (some (12, 0, 0))), some (vI (nI (6 * m)))], [], σ) := by
  have hT := SC_keep (L := L) (xs := xs) (c := (87, 0, _, [], σ)) hs (T_kin (h0 := h0) (n := m) (d := 97) (σ := σ) (a := xs (6 * m + 1)) (b := xs (6 * m + 2)) h)
  obtain ⟨s1, s2, s3, s4⟩ := hs
  have n11 := N11 h.1
  have n12 := N12 h.1
  have lw6 : nI (6 * m) + 6 = nI (6 * (m + 1)) := by rw [lN6, nI_add]; congr 1
  have i1 : nI (6 * m) + 1 = nI (6 * m + 1) := nI_add _ 1
  have j1 : (nI (6 * m + 1)).toInt = ((6 * m + 1 : Nat) : Int) := nI_toInt (by omega)
  have k1 : (nI (6 * m + 1)).toNatClampNeg = 6 * m + 1 := nI_clamp (by omega)
  have o1 : (0 : Int) ≤ ((6 * m + 1 : Nat) : Int) ∧ ((6 * m + 1 : Nat) : Int) < (L : Int) := by omega
  have i2 : nI (6 * m) + 2 = nI (6 * m + 2) := nI_add _ 2
  have j2 : (nI (6 * m + 2)).toInt = ((6 * m + 2 : Nat) : Int) := nI_toInt (by omega)
  have k2 : (nI (6 * m + 2)).toNatClampNeg = 6 * m + 2 := nI_clamp (by omega)
  have o2 : (0 : Int) ≤ ((6 * m + 2 : Nat) : Int) ∧ ((6 * m + 2 : Nat) : Int) < (L : Int) := by omega
  have i3 : nI (6 * m) + 3 = nI (6 * m + 3) := nI_add _ 3
  have j3 : (nI (6 * m + 3)).toInt = ((6 * m + 3 : Nat) : Int) := nI_toInt (by omega)
  have k3 : (nI (6 * m + 3)).toNatClampNeg = 6 * m + 3 := nI_clamp (by omega)
  have o3 : (0 : Int) ≤ ((6 * m + 3 : Nat) : Int) ∧ ((6 * m + 3 : Nat) : Int) < (L : Int) := by omega
  have i4 : nI (6 * m) + 4 = nI (6 * m + 4) := nI_add _ 4
  have j4 : (nI (6 * m + 4)).toInt = ((6 * m + 4 : Nat) : Int) := nI_toInt (by omega)
  have k4 : (nI (6 * m + 4)).toNatClampNeg = 6 * m + 4 := nI_clamp (by omega)
  have o4 : (0 : Int) ≤ ((6 * m + 4 : Nat) : Int) ∧ ((6 * m + 4 : Nat) : Int) < (L : Int) := by omega
  have i5 : nI (6 * m) + 5 = nI (6 * m + 5) := nI_add _ 5
  have j5 : (nI (6 * m + 5)).toInt = ((6 * m + 5 : Nat) : Int) := nI_toInt (by omega)
  have k5 : (nI (6 * m + 5)).toNatClampNeg = 6 * m + 5 := nI_clamp (by omega)
  have o5 : (0 : Int) ≤ ((6 * m + 5 : Nat) : Int) ∧ ((6 * m + 5 : Nat) : Int) < (L : Int) := by omega
  simp +decide only [e218_1069, e218_1070, e218_1071, e218_1072, e218_1073, e218_1074, e218_1075, e218_1076, e218_1077, e218_1078, e218_1079, e218_1080, true_and, and_true, or_true, true_or, if_true, if_false, not_true_eq_false, not_false_eq_true, ne_eq, and_self, Option.toList_some, Option.toList_none, List.cons_append, List.nil_append, catS_0, catS_I, catS_L, catS_R, Option.map_some, Option.map_none, Option.some.injEq, Sum.inl.injEq, exists_eq_left', exists_eq', s1, s2, s3, n11, i1, j1, k1, o1, i2, j2, k2, o2, i3, j3, k3, o3, i4, j4, k4, o4, i5, j5, k5, o5]
  refine Rn_mono (fun r σ1 hz => ?_) hT
  obtain ⟨⟨v, rfl, hm2⟩, hs1⟩ := hz
  have hT2 := SC_keep (L := L) (xs := xs) (c := (186, 0, _, [], σ1)) hs1 hm2
  obtain ⟨x1, x2, x3, n12b⟩ := hs1
  simp +decide only [e218_1083, e218_1084, e218_1085, e218_1086, e218_1087, e218_1088, e218_1089, e218_1090, e218_1091, e218_1092, e218_1093, e218_1094, true_and, and_true, or_true, true_or, if_true, if_false, not_true_eq_false, not_false_eq_true, ne_eq, and_self, Option.toList_some, Option.toList_none, List.cons_append, List.nil_append, catS_0, catS_I, catS_L, catS_R, Option.map_some, Option.map_none, Option.some.injEq, Sum.inl.injEq, exists_eq_left', exists_eq', x1, x2, x3, n12b, i1, j1, k1, o1, i2, j2, k2, o2, i3, j3, k3, o3, i4, j4, k4, o4, i5, j5, k5, o5]
  refine Rn_mono (fun r' σ2 hz2 => ?_) hT2
  obtain ⟨⟨rfl, hI2⟩, hs2⟩ := hz2
  simp +decide only [e218_1097, e218_1812, e218_1815, true_and, and_true, or_true, true_or, if_true, if_false, not_true_eq_false, not_false_eq_true, ne_eq, and_self, Option.toList_some, Option.toList_none, List.cons_append, List.nil_append, catS_0, catS_I, catS_L, catS_R, Option.map_some, Option.map_none, Option.some.injEq, Sum.inl.injEq, exists_eq_left', exists_eq', eq_self, lw6]
  exact ih σ2 hI2 hs2
theorem law_load {h0 m L : Nat} {xs : Nat → Int32} {σ : St} {Q : Option AV → St → Prop} (h : Inv h0 m σ) (hs : SC L xs σ) (hm : 6 * m + 6 ≤ L) (hL : L ≤ 3072) (ih : ∀ σ', Inv h0 (m + 1) σ' → SC L xs σ' → Rn 100 Q (218, 18, [some (vR (some (13, 1, 0))), some (vR (some (11, 0, 0))), some (vR (some (12, 0, 0))), some (vI (nI (6 * (m + 1))))], [], σ')) : Rn 100 Q (218, 1102, [some (vR (some (13, 1, 0))), some (vR (some (11, 0, 0))), some (vR (some (12, 0, 0))), some (vI (nI (6 * m)))], [], σ) := by
  have hT := SC_keep (L := L) (xs := xs) (c := (88, 0, _, [], σ)) hs (T_load (h0 := h0) (n := m) (d := 97) (σ := σ) (a := xs (6 * m + 1)) h)
  obtain ⟨s1, s2, s3, s4⟩ := hs
  have n11 := N11 h.1
  have n12 := N12 h.1
  have lw6 : nI (6 * m) + 6 = nI (6 * (m + 1)) := by rw [lN6, nI_add]; congr 1
  have i1 : nI (6 * m) + 1 = nI (6 * m + 1) := nI_add _ 1
  have j1 : (nI (6 * m + 1)).toInt = ((6 * m + 1 : Nat) : Int) := nI_toInt (by omega)
  have k1 : (nI (6 * m + 1)).toNatClampNeg = 6 * m + 1 := nI_clamp (by omega)
  have o1 : (0 : Int) ≤ ((6 * m + 1 : Nat) : Int) ∧ ((6 * m + 1 : Nat) : Int) < (L : Int) := by omega
  have i2 : nI (6 * m) + 2 = nI (6 * m + 2) := nI_add _ 2
  have j2 : (nI (6 * m + 2)).toInt = ((6 * m + 2 : Nat) : Int) := nI_toInt (by omega)
  have k2 : (nI (6 * m + 2)).toNatClampNeg = 6 * m + 2 := nI_clamp (by omega)
  have o2 : (0 : Int) ≤ ((6 * m + 2 : Nat) : Int) ∧ ((6 * m + 2 : Nat) : Int) < (L : Int) := by omega
  have i3 : nI (6 * m) + 3 = nI (6 * m + 3) := nI_add _ 3
  have j3 : (nI (6 * m + 3)).toInt = ((6 * m + 3 : Nat) : Int) := nI_toInt (by omega)
  have k3 : (nI (6 * m + 3)).toNatClampNeg = 6 * m + 3 := nI_clamp (by omega)
  have o3 : (0 : Int) ≤ ((6 * m + 3 : Nat) : Int) ∧ ((6 * m + 3 : Nat) : Int) < (L : Int) := by omega
  have i4 : nI (6 * m) + 4 = nI (6 * m + 4) := nI_add _ 4
  have j4 : (nI (6 * m + 4)).toInt = ((6 * m + 4 : Nat) : Int) := nI_toInt (by omega)
  have k4 : (nI (6 * m + 4)).toNatClampNeg = 6 * m + 4 := nI_clamp (by omega)
  have o4 : (0 : Int) ≤ ((6 * m + 4 : Nat) : Int) ∧ ((6 * m + 4 : Nat) : Int) < (L : Int) := by omega
  have i5 : nI (6 * m) + 5 = nI (6 * m + 5) := nI_add _ 5
  have j5 : (nI (6 * m + 5)).toInt = ((6 * m + 5 : Nat) : Int) := nI_toInt (by omega)
  have k5 : (nI (6 * m + 5)).toNatClampNeg = 6 * m + 5 := nI_clamp (by omega)
  have o5 : (0 : Int) ≤ ((6 * m + 5 : Nat) : Int) ∧ ((6 * m + 5 : Nat) : Int) < (L : Int) := by omega
  simp +decide only [e218_1102, e218_1103, e218_1104, e218_1105, e218_1106, e218_1107, e218_1108, true_and, and_true, or_true, true_or, if_true, if_false, not_true_eq_false, not_false_eq_true, ne_eq, and_self, Option.toList_some, Option.toList_none, List.cons_append, List.nil_append, catS_0, catS_I, catS_L, catS_R, Option.map_some, Option.map_none, Option.some.injEq, Sum.inl.injEq, exists_eq_left', exists_eq', s1, s2, s3, n11, i1, j1, k1, o1, i2, j2, k2, o2, i3, j3, k3, o3, i4, j4, k4, o4, i5, j5, k5, o5]
  refine Rn_mono (fun r σ1 hz => ?_) hT
  obtain ⟨⟨v, rfl, hm2⟩, hs1⟩ := hz
  have hT2 := SC_keep (L := L) (xs := xs) (c := (187, 0, _, [], σ1)) hs1 hm2
  obtain ⟨x1, x2, x3, n12b⟩ := hs1
  simp +decide only [e218_1111, e218_1112, e218_1113, e218_1114, e218_1115, e218_1116, e218_1117, true_and, and_true, or_true, true_or, if_true, if_false, not_true_eq_false, not_false_eq_true, ne_eq, and_self, Option.toList_some, Option.toList_none, List.cons_append, List.nil_append, catS_0, catS_I, catS_L, catS_R, Option.map_some, Option.map_none, Option.some.injEq, Sum.inl.injEq, exists_eq_left', exists_eq', x1, x2, x3, n12b, i1, j1, k1, o1, i2, j2, k2, o2, i3, j3, k3, o3, i4, j4, k4, o4, i5, j5, k5, o5]
  refine Rn_mono (fun r' σ2 hz2 => ?_) hT2
  obtain ⟨⟨rfl, hI2⟩, hs2⟩ := hz2
  simp +decide only [e218_1120, e218_1812, e218_1815, true_and, and_true, or_true, true_or, if_true, if_false, not_true_eq_false, not_false_eq_true, ne_eq, and_self, Option.toList_some, Option.toList_none, List.cons_append, List.nil_append, catS_0, catS_I, catS_L, catS_R, Option.map_some, Option.map_none, Option.some.injEq, Sum.inl.injEq, exists_eq_left', exists_eq', eq_self, lw6]
  exact ih σ2 hI2 hs2
theorem law_wait {h0 m L : Nat} {xs : Nat → Int32} {σ : St} {Q : Option AV → St → Prop} (h : Inv h0 m σ) (hs : SC L xs σ) (hm : 6 * m + 6 ≤ L) (hL : L ≤ 3072) (ih : ∀ σ', Inv h0 (m + 1) σ' → SC L xs σ' → Rn 100 Q (218, 18, [some (vR (some (13, 1, 0))), some (vR (some (11, 0, 0))), some (vR (some (12, 0, 0))), some (vI (nI (6 * (m + 1))))], [], σ')) : Rn 100 Q (218, 1125, [some (vR (some (13, 1, 0))), some (vR (some (11, 0, 0))), some (vR (some (12, 0, 0))), some (vI (nI (6 * m)))], [], σ) := by
  have hT := SC_keep (L := L) (xs := xs) (c := (89, 0, _, [], σ)) hs (T_wait (h0 := h0) (n := m) (d := 96) (σ := σ) (a := xs (6 * m + 1)) (b := xs (6 * m + 2)) h)
  obtain ⟨s1, s2, s3, s4⟩ := hs
  have n11 := N11 h.1
  have n12 := N12 h.1
  have lw6 : nI (6 * m) + 6 = nI (6 * (m + 1)) := by rw [lN6, nI_add]; congr 1
  have i1 : nI (6 * m) + 1 = nI (6 * m + 1) := nI_add _ 1
  have j1 : (nI (6 * m + 1)).toInt = ((6 * m + 1 : Nat) : Int) := nI_toInt (by omega)
  have k1 : (nI (6 * m + 1)).toNatClampNeg = 6 * m + 1 := nI_clamp (by omega)
  have o1 : (0 : Int) ≤ ((6 * m + 1 : Nat) : Int) ∧ ((6 * m + 1 : Nat) : Int) < (L : Int) := by omega
  have i2 : nI (6 * m) + 2 = nI (6 * m + 2) := nI_add _ 2
  have j2 : (nI (6 * m + 2)).toInt = ((6 * m + 2 : Nat) : Int) := nI_toInt (by omega)
  have k2 : (nI (6 * m + 2)).toNatClampNeg = 6 * m + 2 := nI_clamp (by omega)
  have o2 : (0 : Int) ≤ ((6 * m + 2 : Nat) : Int) ∧ ((6 * m + 2 : Nat) : Int) < (L : Int) := by omega
  have i3 : nI (6 * m) + 3 = nI (6 * m + 3) := nI_add _ 3
  have j3 : (nI (6 * m + 3)).toInt = ((6 * m + 3 : Nat) : Int) := nI_toInt (by omega)
  have k3 : (nI (6 * m + 3)).toNatClampNeg = 6 * m + 3 := nI_clamp (by omega)
  have o3 : (0 : Int) ≤ ((6 * m + 3 : Nat) : Int) ∧ ((6 * m + 3 : Nat) : Int) < (L : Int) := by omega
  have i4 : nI (6 * m) + 4 = nI (6 * m + 4) := nI_add _ 4
  have j4 : (nI (6 * m + 4)).toInt = ((6 * m + 4 : Nat) : Int) := nI_toInt (by omega)
  have k4 : (nI (6 * m + 4)).toNatClampNeg = 6 * m + 4 := nI_clamp (by omega)
  have o4 : (0 : Int) ≤ ((6 * m + 4 : Nat) : Int) ∧ ((6 * m + 4 : Nat) : Int) < (L : Int) := by omega
  have i5 : nI (6 * m) + 5 = nI (6 * m + 5) := nI_add _ 5
  have j5 : (nI (6 * m + 5)).toInt = ((6 * m + 5 : Nat) : Int) := nI_toInt (by omega)
  have k5 : (nI (6 * m + 5)).toNatClampNeg = 6 * m + 5 := nI_clamp (by omega)
  have o5 : (0 : Int) ≤ ((6 * m + 5 : Nat) : Int) ∧ ((6 * m + 5 : Nat) : Int) < (L : Int) := by omega
  simp +decide only [e218_1125, e218_1126, e218_1127, e218_1128, e218_1129, e218_1130, e218_1131, e218_1132, e218_1133, e218_1134, e218_1135, e218_1136, true_and, and_true, or_true, true_or, if_true, if_false, not_true_eq_false, not_false_eq_true, ne_eq, and_self, Option.toList_some, Option.toList_none, List.cons_append, List.nil_append, catS_0, catS_I, catS_L, catS_R, Option.map_some, Option.map_none, Option.some.injEq, Sum.inl.injEq, exists_eq_left', exists_eq', s1, s2, s3, n11, i1, j1, k1, o1, i2, j2, k2, o2, i3, j3, k3, o3, i4, j4, k4, o4, i5, j5, k5, o5]
  refine Rn_mono (fun r σ1 hz => ?_) hT
  obtain ⟨⟨v, rfl, hm2⟩, hs1⟩ := hz
  have hT2 := SC_keep (L := L) (xs := xs) (c := (189, 0, _, [], σ1)) hs1 hm2
  obtain ⟨x1, x2, x3, n12b⟩ := hs1
  simp +decide only [e218_1139, e218_1140, e218_1141, e218_1142, e218_1143, e218_1144, e218_1145, e218_1146, e218_1147, e218_1148, e218_1149, e218_1150, true_and, and_true, or_true, true_or, if_true, if_false, not_true_eq_false, not_false_eq_true, ne_eq, and_self, Option.toList_some, Option.toList_none, List.cons_append, List.nil_append, catS_0, catS_I, catS_L, catS_R, Option.map_some, Option.map_none, Option.some.injEq, Sum.inl.injEq, exists_eq_left', exists_eq', x1, x2, x3, n12b, i1, j1, k1, o1, i2, j2, k2, o2, i3, j3, k3, o3, i4, j4, k4, o4, i5, j5, k5, o5]
  refine Rn_mono (fun r' σ2 hz2 => ?_) hT2
  obtain ⟨⟨rfl, hI2⟩, hs2⟩ := hz2
  simp +decide only [e218_1153, e218_1812, e218_1815, true_and, and_true, or_true, true_or, if_true, if_false, not_true_eq_false, not_false_eq_true, ne_eq, and_self, Option.toList_some, Option.toList_none, List.cons_append, List.nil_append, catS_0, catS_I, catS_L, catS_R, Option.map_some, Option.map_none, Option.some.injEq, Sum.inl.injEq, exists_eq_left', exists_eq', eq_self, lw6]
  exact ih σ2 hI2 hs2
theorem law_took {h0 m L : Nat} {xs : Nat → Int32} {σ : St} {Q : Option AV → St → Prop} (h : Inv h0 m σ) (hs : SC L xs σ) (hm : 6 * m + 6 ≤ L) (hL : L ≤ 3072) (ih : ∀ σ', Inv h0 (m + 1) σ' → SC L xs σ' → Rn 100 Q (218, 18, [some (vR (some (13, 1, 0))), some (vR (some (11, 0, 0))), some (vR (some (12, 0, 0))), some (vI (nI (6 * (m + 1))))], [], σ')) : Rn 100 Q (218, 1158, [some (vR (some (13, 1, 0))), some (vR (some (11, 0, 0))), some (vR (some (12, 0, 0))), some (vI (nI (6 * m)))], [], σ) := by
  have hT := SC_keep (L := L) (xs := xs) (c := (90, 0, _, [], σ)) hs (T_took (h0 := h0) (n := m) (d := 96) (σ := σ) (a := xs (6 * m + 1)) h)
  obtain ⟨s1, s2, s3, s4⟩ := hs
  have n11 := N11 h.1
  have n12 := N12 h.1
  have lw6 : nI (6 * m) + 6 = nI (6 * (m + 1)) := by rw [lN6, nI_add]; congr 1
  have i1 : nI (6 * m) + 1 = nI (6 * m + 1) := nI_add _ 1
  have j1 : (nI (6 * m + 1)).toInt = ((6 * m + 1 : Nat) : Int) := nI_toInt (by omega)
  have k1 : (nI (6 * m + 1)).toNatClampNeg = 6 * m + 1 := nI_clamp (by omega)
  have o1 : (0 : Int) ≤ ((6 * m + 1 : Nat) : Int) ∧ ((6 * m + 1 : Nat) : Int) < (L : Int) := by omega
  have i2 : nI (6 * m) + 2 = nI (6 * m + 2) := nI_add _ 2
  have j2 : (nI (6 * m + 2)).toInt = ((6 * m + 2 : Nat) : Int) := nI_toInt (by omega)
  have k2 : (nI (6 * m + 2)).toNatClampNeg = 6 * m + 2 := nI_clamp (by omega)
  have o2 : (0 : Int) ≤ ((6 * m + 2 : Nat) : Int) ∧ ((6 * m + 2 : Nat) : Int) < (L : Int) := by omega
  have i3 : nI (6 * m) + 3 = nI (6 * m + 3) := nI_add _ 3
  have j3 : (nI (6 * m + 3)).toInt = ((6 * m + 3 : Nat) : Int) := nI_toInt (by omega)
  have k3 : (nI (6 * m + 3)).toNatClampNeg = 6 * m + 3 := nI_clamp (by omega)
  have o3 : (0 : Int) ≤ ((6 * m + 3 : Nat) : Int) ∧ ((6 * m + 3 : Nat) : Int) < (L : Int) := by omega
  have i4 : nI (6 * m) + 4 = nI (6 * m + 4) := nI_add _ 4
  have j4 : (nI (6 * m + 4)).toInt = ((6 * m + 4 : Nat) : Int) := nI_toInt (by omega)
  have k4 : (nI (6 * m + 4)).toNatClampNeg = 6 * m + 4 := nI_clamp (by omega)
  have o4 : (0 : Int) ≤ ((6 * m + 4 : Nat) : Int) ∧ ((6 * m + 4 : Nat) : Int) < (L : Int) := by omega
  have i5 : nI (6 * m) + 5 = nI (6 * m + 5) := nI_add _ 5
  have j5 : (nI (6 * m + 5)).toInt = ((6 * m + 5 : Nat) : Int) := nI_toInt (by omega)
  have k5 : (nI (6 * m + 5)).toNatClampNeg = 6 * m + 5 := nI_clamp (by omega)
  have o5 : (0 : Int) ≤ ((6 * m + 5 : Nat) : Int) ∧ ((6 * m + 5 : Nat) : Int) < (L : Int) := by omega
  simp +decide only [e218_1158, e218_1159, e218_1160, e218_1161, e218_1162, e218_1163, e218_1164, true_and, and_true, or_true, true_or, if_true, if_false, not_true_eq_false, not_false_eq_true, ne_eq, and_self, Option.toList_some, Option.toList_none, List.cons_append, List.nil_append, catS_0, catS_I, catS_L, catS_R, Option.map_some, Option.map_none, Option.some.injEq, Sum.inl.injEq, exists_eq_left', exists_eq', s1, s2, s3, n11, i1, j1, k1, o1, i2, j2, k2, o2, i3, j3, k3, o3, i4, j4, k4, o4, i5, j5, k5, o5]
  refine Rn_mono (fun r σ1 hz => ?_) hT
  obtain ⟨⟨v, rfl, hm2⟩, hs1⟩ := hz
  have hT2 := SC_keep (L := L) (xs := xs) (c := (190, 0, _, [], σ1)) hs1 hm2
  obtain ⟨x1, x2, x3, n12b⟩ := hs1
  simp +decide only [e218_1167, e218_1168, e218_1169, e218_1170, e218_1171, e218_1172, e218_1173, true_and, and_true, or_true, true_or, if_true, if_false, not_true_eq_false, not_false_eq_true, ne_eq, and_self, Option.toList_some, Option.toList_none, List.cons_append, List.nil_append, catS_0, catS_I, catS_L, catS_R, Option.map_some, Option.map_none, Option.some.injEq, Sum.inl.injEq, exists_eq_left', exists_eq', x1, x2, x3, n12b, i1, j1, k1, o1, i2, j2, k2, o2, i3, j3, k3, o3, i4, j4, k4, o4, i5, j5, k5, o5]
  refine Rn_mono (fun r' σ2 hz2 => ?_) hT2
  obtain ⟨⟨rfl, hI2⟩, hs2⟩ := hz2
  simp +decide only [e218_1176, e218_1812, e218_1815, true_and, and_true, or_true, true_or, if_true, if_false, not_true_eq_false, not_false_eq_true, ne_eq, and_self, Option.toList_some, Option.toList_none, List.cons_append, List.nil_append, catS_0, catS_I, catS_L, catS_R, Option.map_some, Option.map_none, Option.some.injEq, Sum.inl.injEq, exists_eq_left', exists_eq', eq_self, lw6]
  exact ih σ2 hI2 hs2
theorem law_share {h0 m L : Nat} {xs : Nat → Int32} {σ : St} {Q : Option AV → St → Prop} (h : Inv h0 m σ) (hs : SC L xs σ) (hm : 6 * m + 6 ≤ L) (hL : L ≤ 3072) (ih : ∀ σ', Inv h0 (m + 1) σ' → SC L xs σ' → Rn 100 Q (218, 18, [some (vR (some (13, 1, 0))), some (vR (some (11, 0, 0))), some (vR (some (12, 0, 0))), some (vI (nI (6 * (m + 1))))], [], σ')) : Rn 100 Q (218, 1181, [some (vR (some (13, 1, 0))), some (vR (some (11, 0, 0))), some (vR (some (12, 0, 0))), some (vI (nI (6 * m)))], [], σ) := by
  have hT := SC_keep (L := L) (xs := xs) (c := (91, 0, _, [], σ)) hs (T_share (h0 := h0) (n := m) (d := 59) (σ := σ) (a := xs (6 * m + 1)) (b := xs (6 * m + 2)) h)
  obtain ⟨s1, s2, s3, s4⟩ := hs
  have n11 := N11 h.1
  have n12 := N12 h.1
  have lw6 : nI (6 * m) + 6 = nI (6 * (m + 1)) := by rw [lN6, nI_add]; congr 1
  have i1 : nI (6 * m) + 1 = nI (6 * m + 1) := nI_add _ 1
  have j1 : (nI (6 * m + 1)).toInt = ((6 * m + 1 : Nat) : Int) := nI_toInt (by omega)
  have k1 : (nI (6 * m + 1)).toNatClampNeg = 6 * m + 1 := nI_clamp (by omega)
  have o1 : (0 : Int) ≤ ((6 * m + 1 : Nat) : Int) ∧ ((6 * m + 1 : Nat) : Int) < (L : Int) := by omega
  have i2 : nI (6 * m) + 2 = nI (6 * m + 2) := nI_add _ 2
  have j2 : (nI (6 * m + 2)).toInt = ((6 * m + 2 : Nat) : Int) := nI_toInt (by omega)
  have k2 : (nI (6 * m + 2)).toNatClampNeg = 6 * m + 2 := nI_clamp (by omega)
  have o2 : (0 : Int) ≤ ((6 * m + 2 : Nat) : Int) ∧ ((6 * m + 2 : Nat) : Int) < (L : Int) := by omega
  have i3 : nI (6 * m) + 3 = nI (6 * m + 3) := nI_add _ 3
  have j3 : (nI (6 * m + 3)).toInt = ((6 * m + 3 : Nat) : Int) := nI_toInt (by omega)
  have k3 : (nI (6 * m + 3)).toNatClampNeg = 6 * m + 3 := nI_clamp (by omega)
  have o3 : (0 : Int) ≤ ((6 * m + 3 : Nat) : Int) ∧ ((6 * m + 3 : Nat) : Int) < (L : Int) := by omega
  have i4 : nI (6 * m) + 4 = nI (6 * m + 4) := nI_add _ 4
  have j4 : (nI (6 * m + 4)).toInt = ((6 * m + 4 : Nat) : Int) := nI_toInt (by omega)
  have k4 : (nI (6 * m + 4)).toNatClampNeg = 6 * m + 4 := nI_clamp (by omega)
  have o4 : (0 : Int) ≤ ((6 * m + 4 : Nat) : Int) ∧ ((6 * m + 4 : Nat) : Int) < (L : Int) := by omega
  have i5 : nI (6 * m) + 5 = nI (6 * m + 5) := nI_add _ 5
  have j5 : (nI (6 * m + 5)).toInt = ((6 * m + 5 : Nat) : Int) := nI_toInt (by omega)
  have k5 : (nI (6 * m + 5)).toNatClampNeg = 6 * m + 5 := nI_clamp (by omega)
  have o5 : (0 : Int) ≤ ((6 * m + 5 : Nat) : Int) ∧ ((6 * m + 5 : Nat) : Int) < (L : Int) := by omega
  simp +decide only [e218_1181, e218_1182, e218_1183, e218_1184, e218_1185, e218_1186, e218_1187, e218_1188, e218_1189, e218_1190, e218_1191, e218_1192, true_and, and_true, or_true, true_or, if_true, if_false, not_true_eq_false, not_false_eq_true, ne_eq, and_self, Option.toList_some, Option.toList_none, List.cons_append, List.nil_append, catS_0, catS_I, catS_L, catS_R, Option.map_some, Option.map_none, Option.some.injEq, Sum.inl.injEq, exists_eq_left', exists_eq', s1, s2, s3, n11, i1, j1, k1, o1, i2, j2, k2, o2, i3, j3, k3, o3, i4, j4, k4, o4, i5, j5, k5, o5]
  refine Rn_mono (fun r σ1 hz => ?_) hT
  obtain ⟨⟨v, rfl, hm2⟩, hs1⟩ := hz
  have hT2 := SC_keep (L := L) (xs := xs) (c := (194, 0, _, [], σ1)) hs1 hm2
  obtain ⟨x1, x2, x3, n12b⟩ := hs1
  simp +decide only [e218_1195, e218_1196, e218_1197, e218_1198, e218_1199, e218_1200, e218_1201, e218_1202, e218_1203, e218_1204, e218_1205, e218_1206, true_and, and_true, or_true, true_or, if_true, if_false, not_true_eq_false, not_false_eq_true, ne_eq, and_self, Option.toList_some, Option.toList_none, List.cons_append, List.nil_append, catS_0, catS_I, catS_L, catS_R, Option.map_some, Option.map_none, Option.some.injEq, Sum.inl.injEq, exists_eq_left', exists_eq', x1, x2, x3, n12b, i1, j1, k1, o1, i2, j2, k2, o2, i3, j3, k3, o3, i4, j4, k4, o4, i5, j5, k5, o5]
  refine Rn_mono (fun r' σ2 hz2 => ?_) hT2
  obtain ⟨⟨rfl, hI2⟩, hs2⟩ := hz2
  simp +decide only [e218_1209, e218_1812, e218_1815, true_and, and_true, or_true, true_or, if_true, if_false, not_true_eq_false, not_false_eq_true, ne_eq, and_self, Option.toList_some, Option.toList_none, List.cons_append, List.nil_append, catS_0, catS_I, catS_L, catS_R, Option.map_some, Option.map_none, Option.some.injEq, Sum.inl.injEq, exists_eq_left', exists_eq', eq_self, lw6]
  exact ih σ2 hI2 hs2
theorem law_shareOf {h0 m L : Nat} {xs : Nat → Int32} {σ : St} {Q : Option AV → St → Prop} (h : Inv h0 m σ) (hs : SC L xs σ) (hm : 6 * m + 6 ≤ L) (hL : L ≤ 3072) (ih : ∀ σ', Inv h0 (m + 1) σ' → SC L xs σ' → Rn 100 Q (218, 18, [some (vR (some (13, 1, 0))), some (vR (some (11, 0, 0))), some (vR (some (12, 0, 0))), some (vI (nI (6 * (m + 1))))], [], σ')) : Rn 100 Q (218, 1214, [some (vR (some (13, 1, 0))), some (vR (some (11, 0, 0))), some (vR (some (12, 0, 0))), some (vI (nI (6 * m)))], [], σ) := by
  have hT := SC_keep (L := L) (xs := xs) (c := (92, 0, _, [], σ)) hs (T_shareOf (h0 := h0) (n := m) (d := 59) (σ := σ) (a := xs (6 * m + 1)) (b := xs (6 * m + 2)) h)
  obtain ⟨s1, s2, s3, s4⟩ := hs
  have n11 := N11 h.1
  have n12 := N12 h.1
  have lw6 : nI (6 * m) + 6 = nI (6 * (m + 1)) := by rw [lN6, nI_add]; congr 1
  have i1 : nI (6 * m) + 1 = nI (6 * m + 1) := nI_add _ 1
  have j1 : (nI (6 * m + 1)).toInt = ((6 * m + 1 : Nat) : Int) := nI_toInt (by omega)
  have k1 : (nI (6 * m + 1)).toNatClampNeg = 6 * m + 1 := nI_clamp (by omega)
  have o1 : (0 : Int) ≤ ((6 * m + 1 : Nat) : Int) ∧ ((6 * m + 1 : Nat) : Int) < (L : Int) := by omega
  have i2 : nI (6 * m) + 2 = nI (6 * m + 2) := nI_add _ 2
  have j2 : (nI (6 * m + 2)).toInt = ((6 * m + 2 : Nat) : Int) := nI_toInt (by omega)
  have k2 : (nI (6 * m + 2)).toNatClampNeg = 6 * m + 2 := nI_clamp (by omega)
  have o2 : (0 : Int) ≤ ((6 * m + 2 : Nat) : Int) ∧ ((6 * m + 2 : Nat) : Int) < (L : Int) := by omega
  have i3 : nI (6 * m) + 3 = nI (6 * m + 3) := nI_add _ 3
  have j3 : (nI (6 * m + 3)).toInt = ((6 * m + 3 : Nat) : Int) := nI_toInt (by omega)
  have k3 : (nI (6 * m + 3)).toNatClampNeg = 6 * m + 3 := nI_clamp (by omega)
  have o3 : (0 : Int) ≤ ((6 * m + 3 : Nat) : Int) ∧ ((6 * m + 3 : Nat) : Int) < (L : Int) := by omega
  have i4 : nI (6 * m) + 4 = nI (6 * m + 4) := nI_add _ 4
  have j4 : (nI (6 * m + 4)).toInt = ((6 * m + 4 : Nat) : Int) := nI_toInt (by omega)
  have k4 : (nI (6 * m + 4)).toNatClampNeg = 6 * m + 4 := nI_clamp (by omega)
  have o4 : (0 : Int) ≤ ((6 * m + 4 : Nat) : Int) ∧ ((6 * m + 4 : Nat) : Int) < (L : Int) := by omega
  have i5 : nI (6 * m) + 5 = nI (6 * m + 5) := nI_add _ 5
  have j5 : (nI (6 * m + 5)).toInt = ((6 * m + 5 : Nat) : Int) := nI_toInt (by omega)
  have k5 : (nI (6 * m + 5)).toNatClampNeg = 6 * m + 5 := nI_clamp (by omega)
  have o5 : (0 : Int) ≤ ((6 * m + 5 : Nat) : Int) ∧ ((6 * m + 5 : Nat) : Int) < (L : Int) := by omega
  simp +decide only [e218_1214, e218_1215, e218_1216, e218_1217, e218_1218, e218_1219, e218_1220, e218_1221, e218_1222, e218_1223, e218_1224, e218_1225, true_and, and_true, or_true, true_or, if_true, if_false, not_true_eq_false, not_false_eq_true, ne_eq, and_self, Option.toList_some, Option.toList_none, List.cons_append, List.nil_append, catS_0, catS_I, catS_L, catS_R, Option.map_some, Option.map_none, Option.some.injEq, Sum.inl.injEq, exists_eq_left', exists_eq', s1, s2, s3, n11, i1, j1, k1, o1, i2, j2, k2, o2, i3, j3, k3, o3, i4, j4, k4, o4, i5, j5, k5, o5]
  refine Rn_mono (fun r σ1 hz => ?_) hT
  obtain ⟨⟨v, rfl, hm2⟩, hs1⟩ := hz
  have hT2 := SC_keep (L := L) (xs := xs) (c := (195, 0, _, [], σ1)) hs1 hm2
  obtain ⟨x1, x2, x3, n12b⟩ := hs1
  simp +decide only [e218_1228, e218_1229, e218_1230, e218_1231, e218_1232, e218_1233, e218_1234, e218_1235, e218_1236, e218_1237, e218_1238, e218_1239, true_and, and_true, or_true, true_or, if_true, if_false, not_true_eq_false, not_false_eq_true, ne_eq, and_self, Option.toList_some, Option.toList_none, List.cons_append, List.nil_append, catS_0, catS_I, catS_L, catS_R, Option.map_some, Option.map_none, Option.some.injEq, Sum.inl.injEq, exists_eq_left', exists_eq', x1, x2, x3, n12b, i1, j1, k1, o1, i2, j2, k2, o2, i3, j3, k3, o3, i4, j4, k4, o4, i5, j5, k5, o5]
  refine Rn_mono (fun r' σ2 hz2 => ?_) hT2
  obtain ⟨⟨rfl, hI2⟩, hs2⟩ := hz2
  simp +decide only [e218_1242, e218_1812, e218_1815, true_and, and_true, or_true, true_or, if_true, if_false, not_true_eq_false, not_false_eq_true, ne_eq, and_self, Option.toList_some, Option.toList_none, List.cons_append, List.nil_append, catS_0, catS_I, catS_L, catS_R, Option.map_some, Option.map_none, Option.some.injEq, Sum.inl.injEq, exists_eq_left', exists_eq', eq_self, lw6]
  exact ih σ2 hI2 hs2
theorem law_offset {h0 m L : Nat} {xs : Nat → Int32} {σ : St} {Q : Option AV → St → Prop} (h : Inv h0 m σ) (hs : SC L xs σ) (hm : 6 * m + 6 ≤ L) (hL : L ≤ 3072) (ih : ∀ σ', Inv h0 (m + 1) σ' → SC L xs σ' → Rn 100 Q (218, 18, [some (vR (some (13, 1, 0))), some (vR (some (11, 0, 0))), some (vR (some (12, 0, 0))), some (vI (nI (6 * (m + 1))))], [], σ')) : Rn 100 Q (218, 1247, [some (vR (some (13, 1, 0))), some (vR (some (11, 0, 0))), some (vR (some (12, 0, 0))), some (vI (nI (6 * m)))], [], σ) := by
  have hT := SC_keep (L := L) (xs := xs) (c := (93, 0, _, [], σ)) hs (T_offset (h0 := h0) (n := m) (d := 97) (σ := σ) (a := xs (6 * m + 1)) (b := xs (6 * m + 2)) (w := xs (6 * m + 3)) h)
  obtain ⟨s1, s2, s3, s4⟩ := hs
  have n11 := N11 h.1
  have n12 := N12 h.1
  have lw6 : nI (6 * m) + 6 = nI (6 * (m + 1)) := by rw [lN6, nI_add]; congr 1
  have i1 : nI (6 * m) + 1 = nI (6 * m + 1) := nI_add _ 1
  have j1 : (nI (6 * m + 1)).toInt = ((6 * m + 1 : Nat) : Int) := nI_toInt (by omega)
  have k1 : (nI (6 * m + 1)).toNatClampNeg = 6 * m + 1 := nI_clamp (by omega)
  have o1 : (0 : Int) ≤ ((6 * m + 1 : Nat) : Int) ∧ ((6 * m + 1 : Nat) : Int) < (L : Int) := by omega
  have i2 : nI (6 * m) + 2 = nI (6 * m + 2) := nI_add _ 2
  have j2 : (nI (6 * m + 2)).toInt = ((6 * m + 2 : Nat) : Int) := nI_toInt (by omega)
  have k2 : (nI (6 * m + 2)).toNatClampNeg = 6 * m + 2 := nI_clamp (by omega)
  have o2 : (0 : Int) ≤ ((6 * m + 2 : Nat) : Int) ∧ ((6 * m + 2 : Nat) : Int) < (L : Int) := by omega
  have i3 : nI (6 * m) + 3 = nI (6 * m + 3) := nI_add _ 3
  have j3 : (nI (6 * m + 3)).toInt = ((6 * m + 3 : Nat) : Int) := nI_toInt (by omega)
  have k3 : (nI (6 * m + 3)).toNatClampNeg = 6 * m + 3 := nI_clamp (by omega)
  have o3 : (0 : Int) ≤ ((6 * m + 3 : Nat) : Int) ∧ ((6 * m + 3 : Nat) : Int) < (L : Int) := by omega
  have i4 : nI (6 * m) + 4 = nI (6 * m + 4) := nI_add _ 4
  have j4 : (nI (6 * m + 4)).toInt = ((6 * m + 4 : Nat) : Int) := nI_toInt (by omega)
  have k4 : (nI (6 * m + 4)).toNatClampNeg = 6 * m + 4 := nI_clamp (by omega)
  have o4 : (0 : Int) ≤ ((6 * m + 4 : Nat) : Int) ∧ ((6 * m + 4 : Nat) : Int) < (L : Int) := by omega
  have i5 : nI (6 * m) + 5 = nI (6 * m + 5) := nI_add _ 5
  have j5 : (nI (6 * m + 5)).toInt = ((6 * m + 5 : Nat) : Int) := nI_toInt (by omega)
  have k5 : (nI (6 * m + 5)).toNatClampNeg = 6 * m + 5 := nI_clamp (by omega)
  have o5 : (0 : Int) ≤ ((6 * m + 5 : Nat) : Int) ∧ ((6 * m + 5 : Nat) : Int) < (L : Int) := by omega
  simp +decide only [e218_1247, e218_1248, e218_1249, e218_1250, e218_1251, e218_1252, e218_1253, e218_1254, e218_1255, e218_1256, e218_1257, e218_1258, e218_1259, e218_1260, e218_1261, e218_1262, e218_1263, true_and, and_true, or_true, true_or, if_true, if_false, not_true_eq_false, not_false_eq_true, ne_eq, and_self, Option.toList_some, Option.toList_none, List.cons_append, List.nil_append, catS_0, catS_I, catS_L, catS_R, Option.map_some, Option.map_none, Option.some.injEq, Sum.inl.injEq, exists_eq_left', exists_eq', s1, s2, s3, n11, i1, j1, k1, o1, i2, j2, k2, o2, i3, j3, k3, o3, i4, j4, k4, o4, i5, j5, k5, o5]
  refine Rn_mono (fun r σ1 hz => ?_) hT
  obtain ⟨⟨v, rfl, hm2⟩, hs1⟩ := hz
  have hT2 := SC_keep (L := L) (xs := xs) (c := (196, 0, _, [], σ1)) hs1 hm2
  obtain ⟨x1, x2, x3, n12b⟩ := hs1
  simp +decide only [e218_1266, e218_1267, e218_1268, e218_1269, e218_1270, e218_1271, e218_1272, e218_1273, e218_1274, e218_1275, e218_1276, e218_1277, e218_1278, e218_1279, e218_1280, e218_1281, e218_1282, true_and, and_true, or_true, true_or, if_true, if_false, not_true_eq_false, not_false_eq_true, ne_eq, and_self, Option.toList_some, Option.toList_none, List.cons_append, List.nil_append, catS_0, catS_I, catS_L, catS_R, Option.map_some, Option.map_none, Option.some.injEq, Sum.inl.injEq, exists_eq_left', exists_eq', x1, x2, x3, n12b, i1, j1, k1, o1, i2, j2, k2, o2, i3, j3, k3, o3, i4, j4, k4, o4, i5, j5, k5, o5]
  refine Rn_mono (fun r' σ2 hz2 => ?_) hT2
  obtain ⟨⟨rfl, hI2⟩, hs2⟩ := hz2
  simp +decide only [e218_1285, e218_1812, e218_1815, true_and, and_true, or_true, true_or, if_true, if_false, not_true_eq_false, not_false_eq_true, ne_eq, and_self, Option.toList_some, Option.toList_none, List.cons_append, List.nil_append, catS_0, catS_I, catS_L, catS_R, Option.map_some, Option.map_none, Option.some.injEq, Sum.inl.injEq, exists_eq_left', exists_eq', eq_self, lw6]
  exact ih σ2 hI2 hs2
theorem law_key {h0 m L : Nat} {xs : Nat → Int32} {σ : St} {Q : Option AV → St → Prop} (h : Inv h0 m σ) (hs : SC L xs σ) (hm : 6 * m + 6 ≤ L) (hL : L ≤ 3072) (ih : ∀ σ', Inv h0 (m + 1) σ' → SC L xs σ' → Rn 100 Q (218, 18, [some (vR (some (13, 1, 0))), some (vR (some (11, 0, 0))), some (vR (some (12, 0, 0))), some (vI (nI (6 * (m + 1))))], [], σ')) : Rn 100 Q (218, 1290, [some (vR (some (13, 1, 0))), some (vR (some (11, 0, 0))), some (vR (some (12, 0, 0))), some (vI (nI (6 * m)))], [], σ) := by
  have hT := SC_keep (L := L) (xs := xs) (c := (94, 0, _, [], σ)) hs (T_key (h0 := h0) (n := m) (d := 98) (σ := σ) (a := xs (6 * m + 1)) (b := xs (6 * m + 2)) (c := xs (6 * m + 3)) h)
  obtain ⟨s1, s2, s3, s4⟩ := hs
  have n11 := N11 h.1
  have n12 := N12 h.1
  have lw6 : nI (6 * m) + 6 = nI (6 * (m + 1)) := by rw [lN6, nI_add]; congr 1
  have i1 : nI (6 * m) + 1 = nI (6 * m + 1) := nI_add _ 1
  have j1 : (nI (6 * m + 1)).toInt = ((6 * m + 1 : Nat) : Int) := nI_toInt (by omega)
  have k1 : (nI (6 * m + 1)).toNatClampNeg = 6 * m + 1 := nI_clamp (by omega)
  have o1 : (0 : Int) ≤ ((6 * m + 1 : Nat) : Int) ∧ ((6 * m + 1 : Nat) : Int) < (L : Int) := by omega
  have i2 : nI (6 * m) + 2 = nI (6 * m + 2) := nI_add _ 2
  have j2 : (nI (6 * m + 2)).toInt = ((6 * m + 2 : Nat) : Int) := nI_toInt (by omega)
  have k2 : (nI (6 * m + 2)).toNatClampNeg = 6 * m + 2 := nI_clamp (by omega)
  have o2 : (0 : Int) ≤ ((6 * m + 2 : Nat) : Int) ∧ ((6 * m + 2 : Nat) : Int) < (L : Int) := by omega
  have i3 : nI (6 * m) + 3 = nI (6 * m + 3) := nI_add _ 3
  have j3 : (nI (6 * m + 3)).toInt = ((6 * m + 3 : Nat) : Int) := nI_toInt (by omega)
  have k3 : (nI (6 * m + 3)).toNatClampNeg = 6 * m + 3 := nI_clamp (by omega)
  have o3 : (0 : Int) ≤ ((6 * m + 3 : Nat) : Int) ∧ ((6 * m + 3 : Nat) : Int) < (L : Int) := by omega
  have i4 : nI (6 * m) + 4 = nI (6 * m + 4) := nI_add _ 4
  have j4 : (nI (6 * m + 4)).toInt = ((6 * m + 4 : Nat) : Int) := nI_toInt (by omega)
  have k4 : (nI (6 * m + 4)).toNatClampNeg = 6 * m + 4 := nI_clamp (by omega)
  have o4 : (0 : Int) ≤ ((6 * m + 4 : Nat) : Int) ∧ ((6 * m + 4 : Nat) : Int) < (L : Int) := by omega
  have i5 : nI (6 * m) + 5 = nI (6 * m + 5) := nI_add _ 5
  have j5 : (nI (6 * m + 5)).toInt = ((6 * m + 5 : Nat) : Int) := nI_toInt (by omega)
  have k5 : (nI (6 * m + 5)).toNatClampNeg = 6 * m + 5 := nI_clamp (by omega)
  have o5 : (0 : Int) ≤ ((6 * m + 5 : Nat) : Int) ∧ ((6 * m + 5 : Nat) : Int) < (L : Int) := by omega
  simp +decide only [e218_1290, e218_1291, e218_1292, e218_1293, e218_1294, e218_1295, e218_1296, e218_1297, e218_1298, e218_1299, e218_1300, e218_1301, e218_1302, e218_1303, e218_1304, e218_1305, e218_1306, true_and, and_true, or_true, true_or, if_true, if_false, not_true_eq_false, not_false_eq_true, ne_eq, and_self, Option.toList_some, Option.toList_none, List.cons_append, List.nil_append, catS_0, catS_I, catS_L, catS_R, Option.map_some, Option.map_none, Option.some.injEq, Sum.inl.injEq, exists_eq_left', exists_eq', s1, s2, s3, n11, i1, j1, k1, o1, i2, j2, k2, o2, i3, j3, k3, o3, i4, j4, k4, o4, i5, j5, k5, o5]
  refine Rn_mono (fun r σ1 hz => ?_) hT
  obtain ⟨⟨v, rfl, hm2⟩, hs1⟩ := hz
  have hT2 := SC_keep (L := L) (xs := xs) (c := (197, 0, _, [], σ1)) hs1 hm2
  obtain ⟨x1, x2, x3, n12b⟩ := hs1
  simp +decide only [e218_1309, e218_1310, e218_1311, e218_1312, e218_1313, e218_1314, e218_1315, e218_1316, e218_1317, e218_1318, e218_1319, e218_1320, e218_1321, e218_1322, e218_1323, e218_1324, e218_1325, true_and, and_true, or_true, true_or, if_true, if_false, not_true_eq_false, not_false_eq_true, ne_eq, and_self, Option.toList_some, Option.toList_none, List.cons_append, List.nil_append, catS_0, catS_I, catS_L, catS_R, Option.map_some, Option.map_none, Option.some.injEq, Sum.inl.injEq, exists_eq_left', exists_eq', x1, x2, x3, n12b, i1, j1, k1, o1, i2, j2, k2, o2, i3, j3, k3, o3, i4, j4, k4, o4, i5, j5, k5, o5]
  refine Rn_mono (fun r' σ2 hz2 => ?_) hT2
  obtain ⟨⟨rfl, hI2⟩, hs2⟩ := hz2
  simp +decide only [e218_1328, e218_1812, e218_1815, true_and, and_true, or_true, true_or, if_true, if_false, not_true_eq_false, not_false_eq_true, ne_eq, and_self, Option.toList_some, Option.toList_none, List.cons_append, List.nil_append, catS_0, catS_I, catS_L, catS_R, Option.map_some, Option.map_none, Option.some.injEq, Sum.inl.injEq, exists_eq_left', exists_eq', eq_self, lw6]
  exact ih σ2 hI2 hs2
theorem law_choose {h0 m L : Nat} {xs : Nat → Int32} {σ : St} {Q : Option AV → St → Prop} (h : Inv h0 m σ) (hs : SC L xs σ) (hm : 6 * m + 6 ≤ L) (hL : L ≤ 3072) (ih : ∀ σ', Inv h0 (m + 1) σ' → SC L xs σ' → Rn 100 Q (218, 18, [some (vR (some (13, 1, 0))), some (vR (some (11, 0, 0))), some (vR (some (12, 0, 0))), some (vI (nI (6 * (m + 1))))], [], σ')) : Rn 100 Q (218, 1333, [some (vR (some (13, 1, 0))), some (vR (some (11, 0, 0))), some (vR (some (12, 0, 0))), some (vI (nI (6 * m)))], [], σ) := by
  have hT := SC_keep (L := L) (xs := xs) (c := (95, 0, _, [], σ)) hs (T_choose (h0 := h0) (n := m) (d := 97) (σ := σ) (a := xs (6 * m + 1)) (b := xs (6 * m + 2)) (c := xs (6 * m + 3)) h)
  obtain ⟨s1, s2, s3, s4⟩ := hs
  have n11 := N11 h.1
  have n12 := N12 h.1
  have lw6 : nI (6 * m) + 6 = nI (6 * (m + 1)) := by rw [lN6, nI_add]; congr 1
  have i1 : nI (6 * m) + 1 = nI (6 * m + 1) := nI_add _ 1
  have j1 : (nI (6 * m + 1)).toInt = ((6 * m + 1 : Nat) : Int) := nI_toInt (by omega)
  have k1 : (nI (6 * m + 1)).toNatClampNeg = 6 * m + 1 := nI_clamp (by omega)
  have o1 : (0 : Int) ≤ ((6 * m + 1 : Nat) : Int) ∧ ((6 * m + 1 : Nat) : Int) < (L : Int) := by omega
  have i2 : nI (6 * m) + 2 = nI (6 * m + 2) := nI_add _ 2
  have j2 : (nI (6 * m + 2)).toInt = ((6 * m + 2 : Nat) : Int) := nI_toInt (by omega)
  have k2 : (nI (6 * m + 2)).toNatClampNeg = 6 * m + 2 := nI_clamp (by omega)
  have o2 : (0 : Int) ≤ ((6 * m + 2 : Nat) : Int) ∧ ((6 * m + 2 : Nat) : Int) < (L : Int) := by omega
  have i3 : nI (6 * m) + 3 = nI (6 * m + 3) := nI_add _ 3
  have j3 : (nI (6 * m + 3)).toInt = ((6 * m + 3 : Nat) : Int) := nI_toInt (by omega)
  have k3 : (nI (6 * m + 3)).toNatClampNeg = 6 * m + 3 := nI_clamp (by omega)
  have o3 : (0 : Int) ≤ ((6 * m + 3 : Nat) : Int) ∧ ((6 * m + 3 : Nat) : Int) < (L : Int) := by omega
  have i4 : nI (6 * m) + 4 = nI (6 * m + 4) := nI_add _ 4
  have j4 : (nI (6 * m + 4)).toInt = ((6 * m + 4 : Nat) : Int) := nI_toInt (by omega)
  have k4 : (nI (6 * m + 4)).toNatClampNeg = 6 * m + 4 := nI_clamp (by omega)
  have o4 : (0 : Int) ≤ ((6 * m + 4 : Nat) : Int) ∧ ((6 * m + 4 : Nat) : Int) < (L : Int) := by omega
  have i5 : nI (6 * m) + 5 = nI (6 * m + 5) := nI_add _ 5
  have j5 : (nI (6 * m + 5)).toInt = ((6 * m + 5 : Nat) : Int) := nI_toInt (by omega)
  have k5 : (nI (6 * m + 5)).toNatClampNeg = 6 * m + 5 := nI_clamp (by omega)
  have o5 : (0 : Int) ≤ ((6 * m + 5 : Nat) : Int) ∧ ((6 * m + 5 : Nat) : Int) < (L : Int) := by omega
  simp +decide only [e218_1333, e218_1334, e218_1335, e218_1336, e218_1337, e218_1338, e218_1339, e218_1340, e218_1341, e218_1342, e218_1343, e218_1344, e218_1345, e218_1346, e218_1347, e218_1348, e218_1349, true_and, and_true, or_true, true_or, if_true, if_false, not_true_eq_false, not_false_eq_true, ne_eq, and_self, Option.toList_some, Option.toList_none, List.cons_append, List.nil_append, catS_0, catS_I, catS_L, catS_R, Option.map_some, Option.map_none, Option.some.injEq, Sum.inl.injEq, exists_eq_left', exists_eq', s1, s2, s3, n11, i1, j1, k1, o1, i2, j2, k2, o2, i3, j3, k3, o3, i4, j4, k4, o4, i5, j5, k5, o5]
  refine Rn_mono (fun r σ1 hz => ?_) hT
  obtain ⟨⟨v, rfl, hm2⟩, hs1⟩ := hz
  have hT2 := SC_keep (L := L) (xs := xs) (c := (198, 0, _, [], σ1)) hs1 hm2
  obtain ⟨x1, x2, x3, n12b⟩ := hs1
  simp +decide only [e218_1352, e218_1353, e218_1354, e218_1355, e218_1356, e218_1357, e218_1358, e218_1359, e218_1360, e218_1361, e218_1362, e218_1363, e218_1364, e218_1365, e218_1366, e218_1367, e218_1368, true_and, and_true, or_true, true_or, if_true, if_false, not_true_eq_false, not_false_eq_true, ne_eq, and_self, Option.toList_some, Option.toList_none, List.cons_append, List.nil_append, catS_0, catS_I, catS_L, catS_R, Option.map_some, Option.map_none, Option.some.injEq, Sum.inl.injEq, exists_eq_left', exists_eq', x1, x2, x3, n12b, i1, j1, k1, o1, i2, j2, k2, o2, i3, j3, k3, o3, i4, j4, k4, o4, i5, j5, k5, o5]
  refine Rn_mono (fun r' σ2 hz2 => ?_) hT2
  obtain ⟨⟨rfl, hI2⟩, hs2⟩ := hz2
  simp +decide only [e218_1371, e218_1812, e218_1815, true_and, and_true, or_true, true_or, if_true, if_false, not_true_eq_false, not_false_eq_true, ne_eq, and_self, Option.toList_some, Option.toList_none, List.cons_append, List.nil_append, catS_0, catS_I, catS_L, catS_R, Option.map_some, Option.map_none, Option.some.injEq, Sum.inl.injEq, exists_eq_left', exists_eq', eq_self, lw6]
  exact ih σ2 hI2 hs2
theorem law_like {h0 m L : Nat} {xs : Nat → Int32} {σ : St} {Q : Option AV → St → Prop} (h : Inv h0 m σ) (hs : SC L xs σ) (hm : 6 * m + 6 ≤ L) (hL : L ≤ 3072) (ih : ∀ σ', Inv h0 (m + 1) σ' → SC L xs σ' → Rn 100 Q (218, 18, [some (vR (some (13, 1, 0))), some (vR (some (11, 0, 0))), some (vR (some (12, 0, 0))), some (vI (nI (6 * (m + 1))))], [], σ')) : Rn 100 Q (218, 1376, [some (vR (some (13, 1, 0))), some (vR (some (11, 0, 0))), some (vR (some (12, 0, 0))), some (vI (nI (6 * m)))], [], σ) := by
  have hT := SC_keep (L := L) (xs := xs) (c := (96, 0, _, [], σ)) hs (T_like (h0 := h0) (n := m) (d := 96) (σ := σ) (a := xs (6 * m + 1)) (b := xs (6 * m + 2)) h)
  obtain ⟨s1, s2, s3, s4⟩ := hs
  have n11 := N11 h.1
  have n12 := N12 h.1
  have lw6 : nI (6 * m) + 6 = nI (6 * (m + 1)) := by rw [lN6, nI_add]; congr 1
  have i1 : nI (6 * m) + 1 = nI (6 * m + 1) := nI_add _ 1
  have j1 : (nI (6 * m + 1)).toInt = ((6 * m + 1 : Nat) : Int) := nI_toInt (by omega)
  have k1 : (nI (6 * m + 1)).toNatClampNeg = 6 * m + 1 := nI_clamp (by omega)
  have o1 : (0 : Int) ≤ ((6 * m + 1 : Nat) : Int) ∧ ((6 * m + 1 : Nat) : Int) < (L : Int) := by omega
  have i2 : nI (6 * m) + 2 = nI (6 * m + 2) := nI_add _ 2
  have j2 : (nI (6 * m + 2)).toInt = ((6 * m + 2 : Nat) : Int) := nI_toInt (by omega)
  have k2 : (nI (6 * m + 2)).toNatClampNeg = 6 * m + 2 := nI_clamp (by omega)
  have o2 : (0 : Int) ≤ ((6 * m + 2 : Nat) : Int) ∧ ((6 * m + 2 : Nat) : Int) < (L : Int) := by omega
  have i3 : nI (6 * m) + 3 = nI (6 * m + 3) := nI_add _ 3
  have j3 : (nI (6 * m + 3)).toInt = ((6 * m + 3 : Nat) : Int) := nI_toInt (by omega)
  have k3 : (nI (6 * m + 3)).toNatClampNeg = 6 * m + 3 := nI_clamp (by omega)
  have o3 : (0 : Int) ≤ ((6 * m + 3 : Nat) : Int) ∧ ((6 * m + 3 : Nat) : Int) < (L : Int) := by omega
  have i4 : nI (6 * m) + 4 = nI (6 * m + 4) := nI_add _ 4
  have j4 : (nI (6 * m + 4)).toInt = ((6 * m + 4 : Nat) : Int) := nI_toInt (by omega)
  have k4 : (nI (6 * m + 4)).toNatClampNeg = 6 * m + 4 := nI_clamp (by omega)
  have o4 : (0 : Int) ≤ ((6 * m + 4 : Nat) : Int) ∧ ((6 * m + 4 : Nat) : Int) < (L : Int) := by omega
  have i5 : nI (6 * m) + 5 = nI (6 * m + 5) := nI_add _ 5
  have j5 : (nI (6 * m + 5)).toInt = ((6 * m + 5 : Nat) : Int) := nI_toInt (by omega)
  have k5 : (nI (6 * m + 5)).toNatClampNeg = 6 * m + 5 := nI_clamp (by omega)
  have o5 : (0 : Int) ≤ ((6 * m + 5 : Nat) : Int) ∧ ((6 * m + 5 : Nat) : Int) < (L : Int) := by omega
  simp +decide only [e218_1376, e218_1377, e218_1378, e218_1379, e218_1380, e218_1381, e218_1382, e218_1383, e218_1384, e218_1385, e218_1386, e218_1387, true_and, and_true, or_true, true_or, if_true, if_false, not_true_eq_false, not_false_eq_true, ne_eq, and_self, Option.toList_some, Option.toList_none, List.cons_append, List.nil_append, catS_0, catS_I, catS_L, catS_R, Option.map_some, Option.map_none, Option.some.injEq, Sum.inl.injEq, exists_eq_left', exists_eq', s1, s2, s3, n11, i1, j1, k1, o1, i2, j2, k2, o2, i3, j3, k3, o3, i4, j4, k4, o4, i5, j5, k5, o5]
  refine Rn_mono (fun r σ1 hz => ?_) hT
  obtain ⟨⟨v, rfl, hm2⟩, hs1⟩ := hz
  have hT2 := SC_keep (L := L) (xs := xs) (c := (200, 0, _, [], σ1)) hs1 hm2
  obtain ⟨x1, x2, x3, n12b⟩ := hs1
  simp +decide only [e218_1390, e218_1391, e218_1392, e218_1393, e218_1394, e218_1395, e218_1396, e218_1397, e218_1398, e218_1399, e218_1400, e218_1401, true_and, and_true, or_true, true_or, if_true, if_false, not_true_eq_false, not_false_eq_true, ne_eq, and_self, Option.toList_some, Option.toList_none, List.cons_append, List.nil_append, catS_0, catS_I, catS_L, catS_R, Option.map_some, Option.map_none, Option.some.injEq, Sum.inl.injEq, exists_eq_left', exists_eq', x1, x2, x3, n12b, i1, j1, k1, o1, i2, j2, k2, o2, i3, j3, k3, o3, i4, j4, k4, o4, i5, j5, k5, o5]
  refine Rn_mono (fun r' σ2 hz2 => ?_) hT2
  obtain ⟨⟨rfl, hI2⟩, hs2⟩ := hz2
  simp +decide only [e218_1404, e218_1812, e218_1815, true_and, and_true, or_true, true_or, if_true, if_false, not_true_eq_false, not_false_eq_true, ne_eq, and_self, Option.toList_some, Option.toList_none, List.cons_append, List.nil_append, catS_0, catS_I, catS_L, catS_R, Option.map_some, Option.map_none, Option.some.injEq, Sum.inl.injEq, exists_eq_left', exists_eq', eq_self, lw6]
  exact ih σ2 hI2 hs2
theorem law_limit {h0 m L : Nat} {xs : Nat → Int32} {σ : St} {Q : Option AV → St → Prop} (h : Inv h0 m σ) (hs : SC L xs σ) (hm : 6 * m + 6 ≤ L) (hL : L ≤ 3072) (ih : ∀ σ', Inv h0 (m + 1) σ' → SC L xs σ' → Rn 100 Q (218, 18, [some (vR (some (13, 1, 0))), some (vR (some (11, 0, 0))), some (vR (some (12, 0, 0))), some (vI (nI (6 * (m + 1))))], [], σ')) : Rn 100 Q (218, 1409, [some (vR (some (13, 1, 0))), some (vR (some (11, 0, 0))), some (vR (some (12, 0, 0))), some (vI (nI (6 * m)))], [], σ) := by
  have hT := SC_keep (L := L) (xs := xs) (c := (97, 0, _, [], σ)) hs (T_limit (h0 := h0) (n := m) (d := 98) (σ := σ) (a := xs (6 * m + 1)) h)
  obtain ⟨s1, s2, s3, s4⟩ := hs
  have n11 := N11 h.1
  have n12 := N12 h.1
  have lw6 : nI (6 * m) + 6 = nI (6 * (m + 1)) := by rw [lN6, nI_add]; congr 1
  have i1 : nI (6 * m) + 1 = nI (6 * m + 1) := nI_add _ 1
  have j1 : (nI (6 * m + 1)).toInt = ((6 * m + 1 : Nat) : Int) := nI_toInt (by omega)
  have k1 : (nI (6 * m + 1)).toNatClampNeg = 6 * m + 1 := nI_clamp (by omega)
  have o1 : (0 : Int) ≤ ((6 * m + 1 : Nat) : Int) ∧ ((6 * m + 1 : Nat) : Int) < (L : Int) := by omega
  have i2 : nI (6 * m) + 2 = nI (6 * m + 2) := nI_add _ 2
  have j2 : (nI (6 * m + 2)).toInt = ((6 * m + 2 : Nat) : Int) := nI_toInt (by omega)
  have k2 : (nI (6 * m + 2)).toNatClampNeg = 6 * m + 2 := nI_clamp (by omega)
  have o2 : (0 : Int) ≤ ((6 * m + 2 : Nat) : Int) ∧ ((6 * m + 2 : Nat) : Int) < (L : Int) := by omega
  have i3 : nI (6 * m) + 3 = nI (6 * m + 3) := nI_add _ 3
  have j3 : (nI (6 * m + 3)).toInt = ((6 * m + 3 : Nat) : Int) := nI_toInt (by omega)
  have k3 : (nI (6 * m + 3)).toNatClampNeg = 6 * m + 3 := nI_clamp (by omega)
  have o3 : (0 : Int) ≤ ((6 * m + 3 : Nat) : Int) ∧ ((6 * m + 3 : Nat) : Int) < (L : Int) := by omega
  have i4 : nI (6 * m) + 4 = nI (6 * m + 4) := nI_add _ 4
  have j4 : (nI (6 * m + 4)).toInt = ((6 * m + 4 : Nat) : Int) := nI_toInt (by omega)
  have k4 : (nI (6 * m + 4)).toNatClampNeg = 6 * m + 4 := nI_clamp (by omega)
  have o4 : (0 : Int) ≤ ((6 * m + 4 : Nat) : Int) ∧ ((6 * m + 4 : Nat) : Int) < (L : Int) := by omega
  have i5 : nI (6 * m) + 5 = nI (6 * m + 5) := nI_add _ 5
  have j5 : (nI (6 * m + 5)).toInt = ((6 * m + 5 : Nat) : Int) := nI_toInt (by omega)
  have k5 : (nI (6 * m + 5)).toNatClampNeg = 6 * m + 5 := nI_clamp (by omega)
  have o5 : (0 : Int) ≤ ((6 * m + 5 : Nat) : Int) ∧ ((6 * m + 5 : Nat) : Int) < (L : Int) := by omega
  simp +decide only [e218_1409, e218_1410, e218_1411, e218_1412, e218_1413, e218_1414, e218_1415, true_and, and_true, or_true, true_or, if_true, if_false, not_true_eq_false, not_false_eq_true, ne_eq, and_self, Option.toList_some, Option.toList_none, List.cons_append, List.nil_append, catS_0, catS_I, catS_L, catS_R, Option.map_some, Option.map_none, Option.some.injEq, Sum.inl.injEq, exists_eq_left', exists_eq', s1, s2, s3, n11, i1, j1, k1, o1, i2, j2, k2, o2, i3, j3, k3, o3, i4, j4, k4, o4, i5, j5, k5, o5]
  refine Rn_mono (fun r σ1 hz => ?_) hT
  obtain ⟨⟨v, rfl, hm2⟩, hs1⟩ := hz
  have hT2 := SC_keep (L := L) (xs := xs) (c := (201, 0, _, [], σ1)) hs1 hm2
  obtain ⟨x1, x2, x3, n12b⟩ := hs1
  simp +decide only [e218_1418, e218_1419, e218_1420, e218_1421, e218_1422, e218_1423, e218_1424, true_and, and_true, or_true, true_or, if_true, if_false, not_true_eq_false, not_false_eq_true, ne_eq, and_self, Option.toList_some, Option.toList_none, List.cons_append, List.nil_append, catS_0, catS_I, catS_L, catS_R, Option.map_some, Option.map_none, Option.some.injEq, Sum.inl.injEq, exists_eq_left', exists_eq', x1, x2, x3, n12b, i1, j1, k1, o1, i2, j2, k2, o2, i3, j3, k3, o3, i4, j4, k4, o4, i5, j5, k5, o5]
  refine Rn_mono (fun r' σ2 hz2 => ?_) hT2
  obtain ⟨⟨rfl, hI2⟩, hs2⟩ := hz2
  simp +decide only [e218_1427, e218_1812, e218_1815, true_and, and_true, or_true, true_or, if_true, if_false, not_true_eq_false, not_false_eq_true, ne_eq, and_self, Option.toList_some, Option.toList_none, List.cons_append, List.nil_append, catS_0, catS_I, catS_L, catS_R, Option.map_some, Option.map_none, Option.some.injEq, Sum.inl.injEq, exists_eq_left', exists_eq', eq_self, lw6]
  exact ih σ2 hI2 hs2
theorem law_doubted {h0 m L : Nat} {xs : Nat → Int32} {σ : St} {Q : Option AV → St → Prop} (h : Inv h0 m σ) (hs : SC L xs σ) (hm : 6 * m + 6 ≤ L) (hL : L ≤ 3072) (ih : ∀ σ', Inv h0 (m + 1) σ' → SC L xs σ' → Rn 100 Q (218, 18, [some (vR (some (13, 1, 0))), some (vR (some (11, 0, 0))), some (vR (some (12, 0, 0))), some (vI (nI (6 * (m + 1))))], [], σ')) : Rn 100 Q (218, 1432, [some (vR (some (13, 1, 0))), some (vR (some (11, 0, 0))), some (vR (some (12, 0, 0))), some (vI (nI (6 * m)))], [], σ) := by
  have hT := SC_keep (L := L) (xs := xs) (c := (98, 0, _, [], σ)) hs (T_doubted (h0 := h0) (n := m) (d := 97) (σ := σ) (a := xs (6 * m + 1)) h)
  obtain ⟨s1, s2, s3, s4⟩ := hs
  have n11 := N11 h.1
  have n12 := N12 h.1
  have lw6 : nI (6 * m) + 6 = nI (6 * (m + 1)) := by rw [lN6, nI_add]; congr 1
  have i1 : nI (6 * m) + 1 = nI (6 * m + 1) := nI_add _ 1
  have j1 : (nI (6 * m + 1)).toInt = ((6 * m + 1 : Nat) : Int) := nI_toInt (by omega)
  have k1 : (nI (6 * m + 1)).toNatClampNeg = 6 * m + 1 := nI_clamp (by omega)
  have o1 : (0 : Int) ≤ ((6 * m + 1 : Nat) : Int) ∧ ((6 * m + 1 : Nat) : Int) < (L : Int) := by omega
  have i2 : nI (6 * m) + 2 = nI (6 * m + 2) := nI_add _ 2
  have j2 : (nI (6 * m + 2)).toInt = ((6 * m + 2 : Nat) : Int) := nI_toInt (by omega)
  have k2 : (nI (6 * m + 2)).toNatClampNeg = 6 * m + 2 := nI_clamp (by omega)
  have o2 : (0 : Int) ≤ ((6 * m + 2 : Nat) : Int) ∧ ((6 * m + 2 : Nat) : Int) < (L : Int) := by omega
  have i3 : nI (6 * m) + 3 = nI (6 * m + 3) := nI_add _ 3
  have j3 : (nI (6 * m + 3)).toInt = ((6 * m + 3 : Nat) : Int) := nI_toInt (by omega)
  have k3 : (nI (6 * m + 3)).toNatClampNeg = 6 * m + 3 := nI_clamp (by omega)
  have o3 : (0 : Int) ≤ ((6 * m + 3 : Nat) : Int) ∧ ((6 * m + 3 : Nat) : Int) < (L : Int) := by omega
  have i4 : nI (6 * m) + 4 = nI (6 * m + 4) := nI_add _ 4
  have j4 : (nI (6 * m + 4)).toInt = ((6 * m + 4 : Nat) : Int) := nI_toInt (by omega)
  have k4 : (nI (6 * m + 4)).toNatClampNeg = 6 * m + 4 := nI_clamp (by omega)
  have o4 : (0 : Int) ≤ ((6 * m + 4 : Nat) : Int) ∧ ((6 * m + 4 : Nat) : Int) < (L : Int) := by omega
  have i5 : nI (6 * m) + 5 = nI (6 * m + 5) := nI_add _ 5
  have j5 : (nI (6 * m + 5)).toInt = ((6 * m + 5 : Nat) : Int) := nI_toInt (by omega)
  have k5 : (nI (6 * m + 5)).toNatClampNeg = 6 * m + 5 := nI_clamp (by omega)
  have o5 : (0 : Int) ≤ ((6 * m + 5 : Nat) : Int) ∧ ((6 * m + 5 : Nat) : Int) < (L : Int) := by omega
  simp +decide only [e218_1432, e218_1433, e218_1434, e218_1435, e218_1436, e218_1437, e218_1438, true_and, and_true, or_true, true_or, if_true, if_false, not_true_eq_false, not_false_eq_true, ne_eq, and_self, Option.toList_some, Option.toList_none, List.cons_append, List.nil_append, catS_0, catS_I, catS_L, catS_R, Option.map_some, Option.map_none, Option.some.injEq, Sum.inl.injEq, exists_eq_left', exists_eq', s1, s2, s3, n11, i1, j1, k1, o1, i2, j2, k2, o2, i3, j3, k3, o3, i4, j4, k4, o4, i5, j5, k5, o5]
  refine Rn_mono (fun r σ1 hz => ?_) hT
  obtain ⟨⟨v, rfl, hm2⟩, hs1⟩ := hz
  have hT2 := SC_keep (L := L) (xs := xs) (c := (202, 0, _, [], σ1)) hs1 hm2
  obtain ⟨x1, x2, x3, n12b⟩ := hs1
  simp +decide only [e218_1441, e218_1442, e218_1443, e218_1444, e218_1445, e218_1446, e218_1447, true_and, and_true, or_true, true_or, if_true, if_false, not_true_eq_false, not_false_eq_true, ne_eq, and_self, Option.toList_some, Option.toList_none, List.cons_append, List.nil_append, catS_0, catS_I, catS_L, catS_R, Option.map_some, Option.map_none, Option.some.injEq, Sum.inl.injEq, exists_eq_left', exists_eq', x1, x2, x3, n12b, i1, j1, k1, o1, i2, j2, k2, o2, i3, j3, k3, o3, i4, j4, k4, o4, i5, j5, k5, o5]
  refine Rn_mono (fun r' σ2 hz2 => ?_) hT2
  obtain ⟨⟨rfl, hI2⟩, hs2⟩ := hz2
  simp +decide only [e218_1450, e218_1812, e218_1815, true_and, and_true, or_true, true_or, if_true, if_false, not_true_eq_false, not_false_eq_true, ne_eq, and_self, Option.toList_some, Option.toList_none, List.cons_append, List.nil_append, catS_0, catS_I, catS_L, catS_R, Option.map_some, Option.map_none, Option.some.injEq, Sum.inl.injEq, exists_eq_left', exists_eq', eq_self, lw6]
  exact ih σ2 hI2 hs2
theorem law_fees {h0 m L : Nat} {xs : Nat → Int32} {σ : St} {Q : Option AV → St → Prop} (h : Inv h0 m σ) (hs : SC L xs σ) (hm : 6 * m + 6 ≤ L) (hL : L ≤ 3072) (ih : ∀ σ', Inv h0 (m + 1) σ' → SC L xs σ' → Rn 100 Q (218, 18, [some (vR (some (13, 1, 0))), some (vR (some (11, 0, 0))), some (vR (some (12, 0, 0))), some (vI (nI (6 * (m + 1))))], [], σ')) : Rn 100 Q (218, 1455, [some (vR (some (13, 1, 0))), some (vR (some (11, 0, 0))), some (vR (some (12, 0, 0))), some (vI (nI (6 * m)))], [], σ) := by
  have hT := SC_keep (L := L) (xs := xs) (c := (99, 0, _, [], σ)) hs (T_fees (h0 := h0) (n := m) (d := 93) (σ := σ) (a := xs (6 * m + 1)) h)
  obtain ⟨s1, s2, s3, s4⟩ := hs
  have n11 := N11 h.1
  have n12 := N12 h.1
  have lw6 : nI (6 * m) + 6 = nI (6 * (m + 1)) := by rw [lN6, nI_add]; congr 1
  have i1 : nI (6 * m) + 1 = nI (6 * m + 1) := nI_add _ 1
  have j1 : (nI (6 * m + 1)).toInt = ((6 * m + 1 : Nat) : Int) := nI_toInt (by omega)
  have k1 : (nI (6 * m + 1)).toNatClampNeg = 6 * m + 1 := nI_clamp (by omega)
  have o1 : (0 : Int) ≤ ((6 * m + 1 : Nat) : Int) ∧ ((6 * m + 1 : Nat) : Int) < (L : Int) := by omega
  have i2 : nI (6 * m) + 2 = nI (6 * m + 2) := nI_add _ 2
  have j2 : (nI (6 * m + 2)).toInt = ((6 * m + 2 : Nat) : Int) := nI_toInt (by omega)
  have k2 : (nI (6 * m + 2)).toNatClampNeg = 6 * m + 2 := nI_clamp (by omega)
  have o2 : (0 : Int) ≤ ((6 * m + 2 : Nat) : Int) ∧ ((6 * m + 2 : Nat) : Int) < (L : Int) := by omega
  have i3 : nI (6 * m) + 3 = nI (6 * m + 3) := nI_add _ 3
  have j3 : (nI (6 * m + 3)).toInt = ((6 * m + 3 : Nat) : Int) := nI_toInt (by omega)
  have k3 : (nI (6 * m + 3)).toNatClampNeg = 6 * m + 3 := nI_clamp (by omega)
  have o3 : (0 : Int) ≤ ((6 * m + 3 : Nat) : Int) ∧ ((6 * m + 3 : Nat) : Int) < (L : Int) := by omega
  have i4 : nI (6 * m) + 4 = nI (6 * m + 4) := nI_add _ 4
  have j4 : (nI (6 * m + 4)).toInt = ((6 * m + 4 : Nat) : Int) := nI_toInt (by omega)
  have k4 : (nI (6 * m + 4)).toNatClampNeg = 6 * m + 4 := nI_clamp (by omega)
  have o4 : (0 : Int) ≤ ((6 * m + 4 : Nat) : Int) ∧ ((6 * m + 4 : Nat) : Int) < (L : Int) := by omega
  have i5 : nI (6 * m) + 5 = nI (6 * m + 5) := nI_add _ 5
  have j5 : (nI (6 * m + 5)).toInt = ((6 * m + 5 : Nat) : Int) := nI_toInt (by omega)
  have k5 : (nI (6 * m + 5)).toNatClampNeg = 6 * m + 5 := nI_clamp (by omega)
  have o5 : (0 : Int) ≤ ((6 * m + 5 : Nat) : Int) ∧ ((6 * m + 5 : Nat) : Int) < (L : Int) := by omega
  simp +decide only [e218_1455, e218_1456, e218_1457, e218_1458, e218_1459, e218_1460, e218_1461, true_and, and_true, or_true, true_or, if_true, if_false, not_true_eq_false, not_false_eq_true, ne_eq, and_self, Option.toList_some, Option.toList_none, List.cons_append, List.nil_append, catS_0, catS_I, catS_L, catS_R, Option.map_some, Option.map_none, Option.some.injEq, Sum.inl.injEq, exists_eq_left', exists_eq', s1, s2, s3, n11, i1, j1, k1, o1, i2, j2, k2, o2, i3, j3, k3, o3, i4, j4, k4, o4, i5, j5, k5, o5]
  refine Rn_mono (fun r σ1 hz => ?_) hT
  obtain ⟨⟨v, rfl, hm2⟩, hs1⟩ := hz
  have hT2 := SC_keep (L := L) (xs := xs) (c := (204, 0, _, [], σ1)) hs1 hm2
  obtain ⟨x1, x2, x3, n12b⟩ := hs1
  simp +decide only [e218_1464, e218_1465, e218_1466, e218_1467, e218_1468, e218_1469, e218_1470, true_and, and_true, or_true, true_or, if_true, if_false, not_true_eq_false, not_false_eq_true, ne_eq, and_self, Option.toList_some, Option.toList_none, List.cons_append, List.nil_append, catS_0, catS_I, catS_L, catS_R, Option.map_some, Option.map_none, Option.some.injEq, Sum.inl.injEq, exists_eq_left', exists_eq', x1, x2, x3, n12b, i1, j1, k1, o1, i2, j2, k2, o2, i3, j3, k3, o3, i4, j4, k4, o4, i5, j5, k5, o5]
  refine Rn_mono (fun r' σ2 hz2 => ?_) hT2
  obtain ⟨⟨rfl, hI2⟩, hs2⟩ := hz2
  simp +decide only [e218_1473, e218_1812, e218_1815, true_and, and_true, or_true, true_or, if_true, if_false, not_true_eq_false, not_false_eq_true, ne_eq, and_self, Option.toList_some, Option.toList_none, List.cons_append, List.nil_append, catS_0, catS_I, catS_L, catS_R, Option.map_some, Option.map_none, Option.some.injEq, Sum.inl.injEq, exists_eq_left', exists_eq', eq_self, lw6]
  exact ih σ2 hI2 hs2
theorem law_pay {h0 m L : Nat} {xs : Nat → Int32} {σ : St} {Q : Option AV → St → Prop} (h : Inv h0 m σ) (hs : SC L xs σ) (hm : 6 * m + 6 ≤ L) (hL : L ≤ 3072) (ih : ∀ σ', Inv h0 (m + 1) σ' → SC L xs σ' → Rn 100 Q (218, 18, [some (vR (some (13, 1, 0))), some (vR (some (11, 0, 0))), some (vR (some (12, 0, 0))), some (vI (nI (6 * (m + 1))))], [], σ')) : Rn 100 Q (218, 1478, [some (vR (some (13, 1, 0))), some (vR (some (11, 0, 0))), some (vR (some (12, 0, 0))), some (vI (nI (6 * m)))], [], σ) := by
  have hT := SC_keep (L := L) (xs := xs) (c := (100, 0, _, [], σ)) hs (T_pay (h0 := h0) (n := m) (d := 97) (σ := σ) (a := xs (6 * m + 1)) (b := xs (6 * m + 2)) (c := xs (6 * m + 3)) (by omega) h)
  obtain ⟨s1, s2, s3, s4⟩ := hs
  have n11 := N11 h.1
  have n12 := N12 h.1
  have lw6 : nI (6 * m) + 6 = nI (6 * (m + 1)) := by rw [lN6, nI_add]; congr 1
  have i1 : nI (6 * m) + 1 = nI (6 * m + 1) := nI_add _ 1
  have j1 : (nI (6 * m + 1)).toInt = ((6 * m + 1 : Nat) : Int) := nI_toInt (by omega)
  have k1 : (nI (6 * m + 1)).toNatClampNeg = 6 * m + 1 := nI_clamp (by omega)
  have o1 : (0 : Int) ≤ ((6 * m + 1 : Nat) : Int) ∧ ((6 * m + 1 : Nat) : Int) < (L : Int) := by omega
  have i2 : nI (6 * m) + 2 = nI (6 * m + 2) := nI_add _ 2
  have j2 : (nI (6 * m + 2)).toInt = ((6 * m + 2 : Nat) : Int) := nI_toInt (by omega)
  have k2 : (nI (6 * m + 2)).toNatClampNeg = 6 * m + 2 := nI_clamp (by omega)
  have o2 : (0 : Int) ≤ ((6 * m + 2 : Nat) : Int) ∧ ((6 * m + 2 : Nat) : Int) < (L : Int) := by omega
  have i3 : nI (6 * m) + 3 = nI (6 * m + 3) := nI_add _ 3
  have j3 : (nI (6 * m + 3)).toInt = ((6 * m + 3 : Nat) : Int) := nI_toInt (by omega)
  have k3 : (nI (6 * m + 3)).toNatClampNeg = 6 * m + 3 := nI_clamp (by omega)
  have o3 : (0 : Int) ≤ ((6 * m + 3 : Nat) : Int) ∧ ((6 * m + 3 : Nat) : Int) < (L : Int) := by omega
  have i4 : nI (6 * m) + 4 = nI (6 * m + 4) := nI_add _ 4
  have j4 : (nI (6 * m + 4)).toInt = ((6 * m + 4 : Nat) : Int) := nI_toInt (by omega)
  have k4 : (nI (6 * m + 4)).toNatClampNeg = 6 * m + 4 := nI_clamp (by omega)
  have o4 : (0 : Int) ≤ ((6 * m + 4 : Nat) : Int) ∧ ((6 * m + 4 : Nat) : Int) < (L : Int) := by omega
  have i5 : nI (6 * m) + 5 = nI (6 * m + 5) := nI_add _ 5
  have j5 : (nI (6 * m + 5)).toInt = ((6 * m + 5 : Nat) : Int) := nI_toInt (by omega)
  have k5 : (nI (6 * m + 5)).toNatClampNeg = 6 * m + 5 := nI_clamp (by omega)
  have o5 : (0 : Int) ≤ ((6 * m + 5 : Nat) : Int) ∧ ((6 * m + 5 : Nat) : Int) < (L : Int) := by omega
  simp +decide only [e218_1478, e218_1479, e218_1480, e218_1481, e218_1482, e218_1483, e218_1484, e218_1485, e218_1486, e218_1487, e218_1488, e218_1489, e218_1490, e218_1491, e218_1492, e218_1493, e218_1494, true_and, and_true, or_true, true_or, if_true, if_false, not_true_eq_false, not_false_eq_true, ne_eq, and_self, Option.toList_some, Option.toList_none, List.cons_append, List.nil_append, catS_0, catS_I, catS_L, catS_R, Option.map_some, Option.map_none, Option.some.injEq, Sum.inl.injEq, exists_eq_left', exists_eq', s1, s2, s3, n11, i1, j1, k1, o1, i2, j2, k2, o2, i3, j3, k3, o3, i4, j4, k4, o4, i5, j5, k5, o5]
  refine Rn_mono (fun r σ1 hz => ?_) hT
  obtain ⟨⟨v, rfl, hm2⟩, hs1⟩ := hz
  have hT2 := SC_keep (L := L) (xs := xs) (c := (205, 0, _, [], σ1)) hs1 hm2
  obtain ⟨x1, x2, x3, n12b⟩ := hs1
  simp +decide only [e218_1497, e218_1498, e218_1499, e218_1500, e218_1501, e218_1502, e218_1503, e218_1504, e218_1505, e218_1506, e218_1507, e218_1508, e218_1509, e218_1510, e218_1511, e218_1512, e218_1513, true_and, and_true, or_true, true_or, if_true, if_false, not_true_eq_false, not_false_eq_true, ne_eq, and_self, Option.toList_some, Option.toList_none, List.cons_append, List.nil_append, catS_0, catS_I, catS_L, catS_R, Option.map_some, Option.map_none, Option.some.injEq, Sum.inl.injEq, exists_eq_left', exists_eq', x1, x2, x3, n12b, i1, j1, k1, o1, i2, j2, k2, o2, i3, j3, k3, o3, i4, j4, k4, o4, i5, j5, k5, o5]
  refine Rn_mono (fun r' σ2 hz2 => ?_) hT2
  obtain ⟨⟨rfl, hI2⟩, hs2⟩ := hz2
  simp +decide only [e218_1516, e218_1812, e218_1815, true_and, and_true, or_true, true_or, if_true, if_false, not_true_eq_false, not_false_eq_true, ne_eq, and_self, Option.toList_some, Option.toList_none, List.cons_append, List.nil_append, catS_0, catS_I, catS_L, catS_R, Option.map_some, Option.map_none, Option.some.injEq, Sum.inl.injEq, exists_eq_left', exists_eq', eq_self, lw6]
  exact ih σ2 hI2 hs2
theorem law_due {h0 m L : Nat} {xs : Nat → Int32} {σ : St} {Q : Option AV → St → Prop} (h : Inv h0 m σ) (hs : SC L xs σ) (hm : 6 * m + 6 ≤ L) (hL : L ≤ 3072) (ih : ∀ σ', Inv h0 (m + 1) σ' → SC L xs σ' → Rn 100 Q (218, 18, [some (vR (some (13, 1, 0))), some (vR (some (11, 0, 0))), some (vR (some (12, 0, 0))), some (vI (nI (6 * (m + 1))))], [], σ')) : Rn 100 Q (218, 1521, [some (vR (some (13, 1, 0))), some (vR (some (11, 0, 0))), some (vR (some (12, 0, 0))), some (vI (nI (6 * m)))], [], σ) := by
  have hT := SC_keep (L := L) (xs := xs) (c := (101, 0, _, [], σ)) hs (T_due (h0 := h0) (n := m) (d := 97) (σ := σ) (a := xs (6 * m + 1)) (b := xs (6 * m + 2)) (by omega) h)
  obtain ⟨s1, s2, s3, s4⟩ := hs
  have n11 := N11 h.1
  have n12 := N12 h.1
  have lw6 : nI (6 * m) + 6 = nI (6 * (m + 1)) := by rw [lN6, nI_add]; congr 1
  have i1 : nI (6 * m) + 1 = nI (6 * m + 1) := nI_add _ 1
  have j1 : (nI (6 * m + 1)).toInt = ((6 * m + 1 : Nat) : Int) := nI_toInt (by omega)
  have k1 : (nI (6 * m + 1)).toNatClampNeg = 6 * m + 1 := nI_clamp (by omega)
  have o1 : (0 : Int) ≤ ((6 * m + 1 : Nat) : Int) ∧ ((6 * m + 1 : Nat) : Int) < (L : Int) := by omega
  have i2 : nI (6 * m) + 2 = nI (6 * m + 2) := nI_add _ 2
  have j2 : (nI (6 * m + 2)).toInt = ((6 * m + 2 : Nat) : Int) := nI_toInt (by omega)
  have k2 : (nI (6 * m + 2)).toNatClampNeg = 6 * m + 2 := nI_clamp (by omega)
  have o2 : (0 : Int) ≤ ((6 * m + 2 : Nat) : Int) ∧ ((6 * m + 2 : Nat) : Int) < (L : Int) := by omega
  have i3 : nI (6 * m) + 3 = nI (6 * m + 3) := nI_add _ 3
  have j3 : (nI (6 * m + 3)).toInt = ((6 * m + 3 : Nat) : Int) := nI_toInt (by omega)
  have k3 : (nI (6 * m + 3)).toNatClampNeg = 6 * m + 3 := nI_clamp (by omega)
  have o3 : (0 : Int) ≤ ((6 * m + 3 : Nat) : Int) ∧ ((6 * m + 3 : Nat) : Int) < (L : Int) := by omega
  have i4 : nI (6 * m) + 4 = nI (6 * m + 4) := nI_add _ 4
  have j4 : (nI (6 * m + 4)).toInt = ((6 * m + 4 : Nat) : Int) := nI_toInt (by omega)
  have k4 : (nI (6 * m + 4)).toNatClampNeg = 6 * m + 4 := nI_clamp (by omega)
  have o4 : (0 : Int) ≤ ((6 * m + 4 : Nat) : Int) ∧ ((6 * m + 4 : Nat) : Int) < (L : Int) := by omega
  have i5 : nI (6 * m) + 5 = nI (6 * m + 5) := nI_add _ 5
  have j5 : (nI (6 * m + 5)).toInt = ((6 * m + 5 : Nat) : Int) := nI_toInt (by omega)
  have k5 : (nI (6 * m + 5)).toNatClampNeg = 6 * m + 5 := nI_clamp (by omega)
  have o5 : (0 : Int) ≤ ((6 * m + 5 : Nat) : Int) ∧ ((6 * m + 5 : Nat) : Int) < (L : Int) := by omega
  simp +decide only [e218_1521, e218_1522, e218_1523, e218_1524, e218_1525, e218_1526, e218_1527, e218_1528, e218_1529, e218_1530, e218_1531, e218_1532, true_and, and_true, or_true, true_or, if_true, if_false, not_true_eq_false, not_false_eq_true, ne_eq, and_self, Option.toList_some, Option.toList_none, List.cons_append, List.nil_append, catS_0, catS_I, catS_L, catS_R, Option.map_some, Option.map_none, Option.some.injEq, Sum.inl.injEq, exists_eq_left', exists_eq', s1, s2, s3, n11, i1, j1, k1, o1, i2, j2, k2, o2, i3, j3, k3, o3, i4, j4, k4, o4, i5, j5, k5, o5]
  refine Rn_mono (fun r σ1 hz => ?_) hT
  obtain ⟨⟨v, rfl, hm2⟩, hs1⟩ := hz
  have hT2 := SC_keep (L := L) (xs := xs) (c := (207, 0, _, [], σ1)) hs1 hm2
  obtain ⟨x1, x2, x3, n12b⟩ := hs1
  simp +decide only [e218_1535, e218_1536, e218_1537, e218_1538, e218_1539, e218_1540, e218_1541, e218_1542, e218_1543, e218_1544, e218_1545, e218_1546, true_and, and_true, or_true, true_or, if_true, if_false, not_true_eq_false, not_false_eq_true, ne_eq, and_self, Option.toList_some, Option.toList_none, List.cons_append, List.nil_append, catS_0, catS_I, catS_L, catS_R, Option.map_some, Option.map_none, Option.some.injEq, Sum.inl.injEq, exists_eq_left', exists_eq', x1, x2, x3, n12b, i1, j1, k1, o1, i2, j2, k2, o2, i3, j3, k3, o3, i4, j4, k4, o4, i5, j5, k5, o5]
  refine Rn_mono (fun r' σ2 hz2 => ?_) hT2
  obtain ⟨⟨rfl, hI2⟩, hs2⟩ := hz2
  simp +decide only [e218_1549, e218_1812, e218_1815, true_and, and_true, or_true, true_or, if_true, if_false, not_true_eq_false, not_false_eq_true, ne_eq, and_self, Option.toList_some, Option.toList_none, List.cons_append, List.nil_append, catS_0, catS_I, catS_L, catS_R, Option.map_some, Option.map_none, Option.some.injEq, Sum.inl.injEq, exists_eq_left', exists_eq', eq_self, lw6]
  exact ih σ2 hI2 hs2
theorem law_leave {h0 m L : Nat} {xs : Nat → Int32} {σ : St} {Q : Option AV → St → Prop} (h : Inv h0 m σ) (hs : SC L xs σ) (hm : 6 * m + 6 ≤ L) (hL : L ≤ 3072) (ih : ∀ σ', Inv h0 (m + 1) σ' → SC L xs σ' → Rn 100 Q (218, 18, [some (vR (some (13, 1, 0))), some (vR (some (11, 0, 0))), some (vR (some (12, 0, 0))), some (vI (nI (6 * (m + 1))))], [], σ')) : Rn 100 Q (218, 1554, [some (vR (some (13, 1, 0))), some (vR (some (11, 0, 0))), some (vR (some (12, 0, 0))), some (vI (nI (6 * m)))], [], σ) := by
  have hT := SC_keep (L := L) (xs := xs) (c := (102, 0, _, [], σ)) hs (T_leave (h0 := h0) (n := m) (d := 97) (σ := σ) (a := xs (6 * m + 1)) (b := xs (6 * m + 2)) (by omega) h)
  obtain ⟨s1, s2, s3, s4⟩ := hs
  have n11 := N11 h.1
  have n12 := N12 h.1
  have lw6 : nI (6 * m) + 6 = nI (6 * (m + 1)) := by rw [lN6, nI_add]; congr 1
  have i1 : nI (6 * m) + 1 = nI (6 * m + 1) := nI_add _ 1
  have j1 : (nI (6 * m + 1)).toInt = ((6 * m + 1 : Nat) : Int) := nI_toInt (by omega)
  have k1 : (nI (6 * m + 1)).toNatClampNeg = 6 * m + 1 := nI_clamp (by omega)
  have o1 : (0 : Int) ≤ ((6 * m + 1 : Nat) : Int) ∧ ((6 * m + 1 : Nat) : Int) < (L : Int) := by omega
  have i2 : nI (6 * m) + 2 = nI (6 * m + 2) := nI_add _ 2
  have j2 : (nI (6 * m + 2)).toInt = ((6 * m + 2 : Nat) : Int) := nI_toInt (by omega)
  have k2 : (nI (6 * m + 2)).toNatClampNeg = 6 * m + 2 := nI_clamp (by omega)
  have o2 : (0 : Int) ≤ ((6 * m + 2 : Nat) : Int) ∧ ((6 * m + 2 : Nat) : Int) < (L : Int) := by omega
  have i3 : nI (6 * m) + 3 = nI (6 * m + 3) := nI_add _ 3
  have j3 : (nI (6 * m + 3)).toInt = ((6 * m + 3 : Nat) : Int) := nI_toInt (by omega)
  have k3 : (nI (6 * m + 3)).toNatClampNeg = 6 * m + 3 := nI_clamp (by omega)
  have o3 : (0 : Int) ≤ ((6 * m + 3 : Nat) : Int) ∧ ((6 * m + 3 : Nat) : Int) < (L : Int) := by omega
  have i4 : nI (6 * m) + 4 = nI (6 * m + 4) := nI_add _ 4
  have j4 : (nI (6 * m + 4)).toInt = ((6 * m + 4 : Nat) : Int) := nI_toInt (by omega)
  have k4 : (nI (6 * m + 4)).toNatClampNeg = 6 * m + 4 := nI_clamp (by omega)
  have o4 : (0 : Int) ≤ ((6 * m + 4 : Nat) : Int) ∧ ((6 * m + 4 : Nat) : Int) < (L : Int) := by omega
  have i5 : nI (6 * m) + 5 = nI (6 * m + 5) := nI_add _ 5
  have j5 : (nI (6 * m + 5)).toInt = ((6 * m + 5 : Nat) : Int) := nI_toInt (by omega)
  have k5 : (nI (6 * m + 5)).toNatClampNeg = 6 * m + 5 := nI_clamp (by omega)
  have o5 : (0 : Int) ≤ ((6 * m + 5 : Nat) : Int) ∧ ((6 * m + 5 : Nat) : Int) < (L : Int) := by omega
  simp +decide only [e218_1554, e218_1555, e218_1556, e218_1557, e218_1558, e218_1559, e218_1560, e218_1561, e218_1562, e218_1563, e218_1564, e218_1565, true_and, and_true, or_true, true_or, if_true, if_false, not_true_eq_false, not_false_eq_true, ne_eq, and_self, Option.toList_some, Option.toList_none, List.cons_append, List.nil_append, catS_0, catS_I, catS_L, catS_R, Option.map_some, Option.map_none, Option.some.injEq, Sum.inl.injEq, exists_eq_left', exists_eq', s1, s2, s3, n11, i1, j1, k1, o1, i2, j2, k2, o2, i3, j3, k3, o3, i4, j4, k4, o4, i5, j5, k5, o5]
  refine Rn_mono (fun r σ1 hz => ?_) hT
  obtain ⟨⟨v, rfl, hm2⟩, hs1⟩ := hz
  have hT2 := SC_keep (L := L) (xs := xs) (c := (208, 0, _, [], σ1)) hs1 hm2
  obtain ⟨x1, x2, x3, n12b⟩ := hs1
  simp +decide only [e218_1568, e218_1569, e218_1570, e218_1571, e218_1572, e218_1573, e218_1574, e218_1575, e218_1576, e218_1577, e218_1578, e218_1579, true_and, and_true, or_true, true_or, if_true, if_false, not_true_eq_false, not_false_eq_true, ne_eq, and_self, Option.toList_some, Option.toList_none, List.cons_append, List.nil_append, catS_0, catS_I, catS_L, catS_R, Option.map_some, Option.map_none, Option.some.injEq, Sum.inl.injEq, exists_eq_left', exists_eq', x1, x2, x3, n12b, i1, j1, k1, o1, i2, j2, k2, o2, i3, j3, k3, o3, i4, j4, k4, o4, i5, j5, k5, o5]
  refine Rn_mono (fun r' σ2 hz2 => ?_) hT2
  obtain ⟨⟨rfl, hI2⟩, hs2⟩ := hz2
  simp +decide only [e218_1582, e218_1812, e218_1815, true_and, and_true, or_true, true_or, if_true, if_false, not_true_eq_false, not_false_eq_true, ne_eq, and_self, Option.toList_some, Option.toList_none, List.cons_append, List.nil_append, catS_0, catS_I, catS_L, catS_R, Option.map_some, Option.map_none, Option.some.injEq, Sum.inl.injEq, exists_eq_left', exists_eq', eq_self, lw6]
  exact ih σ2 hI2 hs2
theorem law_move {h0 m L : Nat} {xs : Nat → Int32} {σ : St} {Q : Option AV → St → Prop} (h : Inv h0 m σ) (hs : SC L xs σ) (hm : 6 * m + 6 ≤ L) (hL : L ≤ 3072) (ih : ∀ σ', Inv h0 (m + 1) σ' → SC L xs σ' → Rn 100 Q (218, 18, [some (vR (some (13, 1, 0))), some (vR (some (11, 0, 0))), some (vR (some (12, 0, 0))), some (vI (nI (6 * (m + 1))))], [], σ')) : Rn 100 Q (218, 1587, [some (vR (some (13, 1, 0))), some (vR (some (11, 0, 0))), some (vR (some (12, 0, 0))), some (vI (nI (6 * m)))], [], σ) := by
  have hT := SC_keep (L := L) (xs := xs) (c := (103, 0, _, [], σ)) hs (T_move (h0 := h0) (n := m) (d := 95) (σ := σ) (a := xs (6 * m + 1)) (b := xs (6 * m + 2)) (c := xs (6 * m + 3)) h)
  obtain ⟨s1, s2, s3, s4⟩ := hs
  have n11 := N11 h.1
  have n12 := N12 h.1
  have lw6 : nI (6 * m) + 6 = nI (6 * (m + 1)) := by rw [lN6, nI_add]; congr 1
  have i1 : nI (6 * m) + 1 = nI (6 * m + 1) := nI_add _ 1
  have j1 : (nI (6 * m + 1)).toInt = ((6 * m + 1 : Nat) : Int) := nI_toInt (by omega)
  have k1 : (nI (6 * m + 1)).toNatClampNeg = 6 * m + 1 := nI_clamp (by omega)
  have o1 : (0 : Int) ≤ ((6 * m + 1 : Nat) : Int) ∧ ((6 * m + 1 : Nat) : Int) < (L : Int) := by omega
  have i2 : nI (6 * m) + 2 = nI (6 * m + 2) := nI_add _ 2
  have j2 : (nI (6 * m + 2)).toInt = ((6 * m + 2 : Nat) : Int) := nI_toInt (by omega)
  have k2 : (nI (6 * m + 2)).toNatClampNeg = 6 * m + 2 := nI_clamp (by omega)
  have o2 : (0 : Int) ≤ ((6 * m + 2 : Nat) : Int) ∧ ((6 * m + 2 : Nat) : Int) < (L : Int) := by omega
  have i3 : nI (6 * m) + 3 = nI (6 * m + 3) := nI_add _ 3
  have j3 : (nI (6 * m + 3)).toInt = ((6 * m + 3 : Nat) : Int) := nI_toInt (by omega)
  have k3 : (nI (6 * m + 3)).toNatClampNeg = 6 * m + 3 := nI_clamp (by omega)
  have o3 : (0 : Int) ≤ ((6 * m + 3 : Nat) : Int) ∧ ((6 * m + 3 : Nat) : Int) < (L : Int) := by omega
  have i4 : nI (6 * m) + 4 = nI (6 * m + 4) := nI_add _ 4
  have j4 : (nI (6 * m + 4)).toInt = ((6 * m + 4 : Nat) : Int) := nI_toInt (by omega)
  have k4 : (nI (6 * m + 4)).toNatClampNeg = 6 * m + 4 := nI_clamp (by omega)
  have o4 : (0 : Int) ≤ ((6 * m + 4 : Nat) : Int) ∧ ((6 * m + 4 : Nat) : Int) < (L : Int) := by omega
  have i5 : nI (6 * m) + 5 = nI (6 * m + 5) := nI_add _ 5
  have j5 : (nI (6 * m + 5)).toInt = ((6 * m + 5 : Nat) : Int) := nI_toInt (by omega)
  have k5 : (nI (6 * m + 5)).toNatClampNeg = 6 * m + 5 := nI_clamp (by omega)
  have o5 : (0 : Int) ≤ ((6 * m + 5 : Nat) : Int) ∧ ((6 * m + 5 : Nat) : Int) < (L : Int) := by omega
  simp +decide only [e218_1587, e218_1588, e218_1589, e218_1590, e218_1591, e218_1592, e218_1593, e218_1594, e218_1595, e218_1596, e218_1597, e218_1598, e218_1599, e218_1600, e218_1601, e218_1602, e218_1603, true_and, and_true, or_true, true_or, if_true, if_false, not_true_eq_false, not_false_eq_true, ne_eq, and_self, Option.toList_some, Option.toList_none, List.cons_append, List.nil_append, catS_0, catS_I, catS_L, catS_R, Option.map_some, Option.map_none, Option.some.injEq, Sum.inl.injEq, exists_eq_left', exists_eq', s1, s2, s3, n11, i1, j1, k1, o1, i2, j2, k2, o2, i3, j3, k3, o3, i4, j4, k4, o4, i5, j5, k5, o5]
  refine Rn_mono (fun r σ1 hz => ?_) hT
  obtain ⟨⟨v, rfl, hm2⟩, hs1⟩ := hz
  have hT2 := SC_keep (L := L) (xs := xs) (c := (209, 0, _, [], σ1)) hs1 hm2
  obtain ⟨x1, x2, x3, n12b⟩ := hs1
  simp +decide only [e218_1606, e218_1607, e218_1608, e218_1609, e218_1610, e218_1611, e218_1612, e218_1613, e218_1614, e218_1615, e218_1616, e218_1617, e218_1618, e218_1619, e218_1620, e218_1621, e218_1622, true_and, and_true, or_true, true_or, if_true, if_false, not_true_eq_false, not_false_eq_true, ne_eq, and_self, Option.toList_some, Option.toList_none, List.cons_append, List.nil_append, catS_0, catS_I, catS_L, catS_R, Option.map_some, Option.map_none, Option.some.injEq, Sum.inl.injEq, exists_eq_left', exists_eq', x1, x2, x3, n12b, i1, j1, k1, o1, i2, j2, k2, o2, i3, j3, k3, o3, i4, j4, k4, o4, i5, j5, k5, o5]
  refine Rn_mono (fun r' σ2 hz2 => ?_) hT2
  obtain ⟨⟨rfl, hI2⟩, hs2⟩ := hz2
  simp +decide only [e218_1625, e218_1812, e218_1815, true_and, and_true, or_true, true_or, if_true, if_false, not_true_eq_false, not_false_eq_true, ne_eq, and_self, Option.toList_some, Option.toList_none, List.cons_append, List.nil_append, catS_0, catS_I, catS_L, catS_R, Option.map_some, Option.map_none, Option.some.injEq, Sum.inl.injEq, exists_eq_left', exists_eq', eq_self, lw6]
  exact ih σ2 hI2 hs2
theorem law_sheet {h0 m L : Nat} {xs : Nat → Int32} {σ : St} {Q : Option AV → St → Prop} (h : Inv h0 m σ) (hs : SC L xs σ) (hm : 6 * m + 6 ≤ L) (hL : L ≤ 3072) (ih : ∀ σ', Inv h0 (m + 1) σ' → SC L xs σ' → Rn 100 Q (218, 18, [some (vR (some (13, 1, 0))), some (vR (some (11, 0, 0))), some (vR (some (12, 0, 0))), some (vI (nI (6 * (m + 1))))], [], σ')) : Rn 100 Q (218, 1630, [some (vR (some (13, 1, 0))), some (vR (some (11, 0, 0))), some (vR (some (12, 0, 0))), some (vI (nI (6 * m)))], [], σ) := by
  have hT := SC_keep (L := L) (xs := xs) (c := (104, 0, _, [], σ)) hs (T_sheet (h0 := h0) (n := m) (d := 96) (σ := σ) (a := xs (6 * m + 1)) (b := xs (6 * m + 2)) (c := xs (6 * m + 3)) h)
  obtain ⟨s1, s2, s3, s4⟩ := hs
  have n11 := N11 h.1
  have n12 := N12 h.1
  have lw6 : nI (6 * m) + 6 = nI (6 * (m + 1)) := by rw [lN6, nI_add]; congr 1
  have i1 : nI (6 * m) + 1 = nI (6 * m + 1) := nI_add _ 1
  have j1 : (nI (6 * m + 1)).toInt = ((6 * m + 1 : Nat) : Int) := nI_toInt (by omega)
  have k1 : (nI (6 * m + 1)).toNatClampNeg = 6 * m + 1 := nI_clamp (by omega)
  have o1 : (0 : Int) ≤ ((6 * m + 1 : Nat) : Int) ∧ ((6 * m + 1 : Nat) : Int) < (L : Int) := by omega
  have i2 : nI (6 * m) + 2 = nI (6 * m + 2) := nI_add _ 2
  have j2 : (nI (6 * m + 2)).toInt = ((6 * m + 2 : Nat) : Int) := nI_toInt (by omega)
  have k2 : (nI (6 * m + 2)).toNatClampNeg = 6 * m + 2 := nI_clamp (by omega)
  have o2 : (0 : Int) ≤ ((6 * m + 2 : Nat) : Int) ∧ ((6 * m + 2 : Nat) : Int) < (L : Int) := by omega
  have i3 : nI (6 * m) + 3 = nI (6 * m + 3) := nI_add _ 3
  have j3 : (nI (6 * m + 3)).toInt = ((6 * m + 3 : Nat) : Int) := nI_toInt (by omega)
  have k3 : (nI (6 * m + 3)).toNatClampNeg = 6 * m + 3 := nI_clamp (by omega)
  have o3 : (0 : Int) ≤ ((6 * m + 3 : Nat) : Int) ∧ ((6 * m + 3 : Nat) : Int) < (L : Int) := by omega
  have i4 : nI (6 * m) + 4 = nI (6 * m + 4) := nI_add _ 4
  have j4 : (nI (6 * m + 4)).toInt = ((6 * m + 4 : Nat) : Int) := nI_toInt (by omega)
  have k4 : (nI (6 * m + 4)).toNatClampNeg = 6 * m + 4 := nI_clamp (by omega)
  have o4 : (0 : Int) ≤ ((6 * m + 4 : Nat) : Int) ∧ ((6 * m + 4 : Nat) : Int) < (L : Int) := by omega
  have i5 : nI (6 * m) + 5 = nI (6 * m + 5) := nI_add _ 5
  have j5 : (nI (6 * m + 5)).toInt = ((6 * m + 5 : Nat) : Int) := nI_toInt (by omega)
  have k5 : (nI (6 * m + 5)).toNatClampNeg = 6 * m + 5 := nI_clamp (by omega)
  have o5 : (0 : Int) ≤ ((6 * m + 5 : Nat) : Int) ∧ ((6 * m + 5 : Nat) : Int) < (L : Int) := by omega
  simp +decide only [e218_1630, e218_1631, e218_1632, e218_1633, e218_1634, e218_1635, e218_1636, e218_1637, e218_1638, e218_1639, e218_1640, e218_1641, e218_1642, e218_1643, e218_1644, e218_1645, e218_1646, true_and, and_true, or_true, true_or, if_true, if_false, not_true_eq_false, not_false_eq_true, ne_eq, and_self, Option.toList_some, Option.toList_none, List.cons_append, List.nil_append, catS_0, catS_I, catS_L, catS_R, Option.map_some, Option.map_none, Option.some.injEq, Sum.inl.injEq, exists_eq_left', exists_eq', s1, s2, s3, n11, i1, j1, k1, o1, i2, j2, k2, o2, i3, j3, k3, o3, i4, j4, k4, o4, i5, j5, k5, o5]
  refine Rn_mono (fun r σ1 hz => ?_) hT
  obtain ⟨⟨v, rfl, hm2⟩, hs1⟩ := hz
  have hT2 := SC_keep (L := L) (xs := xs) (c := (211, 0, _, [], σ1)) hs1 hm2
  obtain ⟨x1, x2, x3, n12b⟩ := hs1
  simp +decide only [e218_1649, e218_1650, e218_1651, e218_1652, e218_1653, e218_1654, e218_1655, e218_1656, e218_1657, e218_1658, e218_1659, e218_1660, e218_1661, e218_1662, e218_1663, e218_1664, e218_1665, true_and, and_true, or_true, true_or, if_true, if_false, not_true_eq_false, not_false_eq_true, ne_eq, and_self, Option.toList_some, Option.toList_none, List.cons_append, List.nil_append, catS_0, catS_I, catS_L, catS_R, Option.map_some, Option.map_none, Option.some.injEq, Sum.inl.injEq, exists_eq_left', exists_eq', x1, x2, x3, n12b, i1, j1, k1, o1, i2, j2, k2, o2, i3, j3, k3, o3, i4, j4, k4, o4, i5, j5, k5, o5]
  refine Rn_mono (fun r' σ2 hz2 => ?_) hT2
  obtain ⟨⟨rfl, hI2⟩, hs2⟩ := hz2
  simp +decide only [e218_1668, e218_1812, e218_1815, true_and, and_true, or_true, true_or, if_true, if_false, not_true_eq_false, not_false_eq_true, ne_eq, and_self, Option.toList_some, Option.toList_none, List.cons_append, List.nil_append, catS_0, catS_I, catS_L, catS_R, Option.map_some, Option.map_none, Option.some.injEq, Sum.inl.injEq, exists_eq_left', exists_eq', eq_self, lw6]
  exact ih σ2 hI2 hs2
theorem law_drop {h0 m L : Nat} {xs : Nat → Int32} {σ : St} {Q : Option AV → St → Prop} (h : Inv h0 m σ) (hs : SC L xs σ) (hm : 6 * m + 6 ≤ L) (hL : L ≤ 3072) (ih : ∀ σ', Inv h0 (m + 1) σ' → SC L xs σ' → Rn 100 Q (218, 18, [some (vR (some (13, 1, 0))), some (vR (some (11, 0, 0))), some (vR (some (12, 0, 0))), some (vI (nI (6 * (m + 1))))], [], σ')) : Rn 100 Q (218, 1673, [some (vR (some (13, 1, 0))), some (vR (some (11, 0, 0))), some (vR (some (12, 0, 0))), some (vI (nI (6 * m)))], [], σ) := by
  have hT := SC_keep (L := L) (xs := xs) (c := (105, 0, _, [], σ)) hs (T_drop (h0 := h0) (n := m) (d := 98) (σ := σ) (a := xs (6 * m + 1)) h)
  obtain ⟨s1, s2, s3, s4⟩ := hs
  have n11 := N11 h.1
  have n12 := N12 h.1
  have lw6 : nI (6 * m) + 6 = nI (6 * (m + 1)) := by rw [lN6, nI_add]; congr 1
  have i1 : nI (6 * m) + 1 = nI (6 * m + 1) := nI_add _ 1
  have j1 : (nI (6 * m + 1)).toInt = ((6 * m + 1 : Nat) : Int) := nI_toInt (by omega)
  have k1 : (nI (6 * m + 1)).toNatClampNeg = 6 * m + 1 := nI_clamp (by omega)
  have o1 : (0 : Int) ≤ ((6 * m + 1 : Nat) : Int) ∧ ((6 * m + 1 : Nat) : Int) < (L : Int) := by omega
  have i2 : nI (6 * m) + 2 = nI (6 * m + 2) := nI_add _ 2
  have j2 : (nI (6 * m + 2)).toInt = ((6 * m + 2 : Nat) : Int) := nI_toInt (by omega)
  have k2 : (nI (6 * m + 2)).toNatClampNeg = 6 * m + 2 := nI_clamp (by omega)
  have o2 : (0 : Int) ≤ ((6 * m + 2 : Nat) : Int) ∧ ((6 * m + 2 : Nat) : Int) < (L : Int) := by omega
  have i3 : nI (6 * m) + 3 = nI (6 * m + 3) := nI_add _ 3
  have j3 : (nI (6 * m + 3)).toInt = ((6 * m + 3 : Nat) : Int) := nI_toInt (by omega)
  have k3 : (nI (6 * m + 3)).toNatClampNeg = 6 * m + 3 := nI_clamp (by omega)
  have o3 : (0 : Int) ≤ ((6 * m + 3 : Nat) : Int) ∧ ((6 * m + 3 : Nat) : Int) < (L : Int) := by omega
  have i4 : nI (6 * m) + 4 = nI (6 * m + 4) := nI_add _ 4
  have j4 : (nI (6 * m + 4)).toInt = ((6 * m + 4 : Nat) : Int) := nI_toInt (by omega)
  have k4 : (nI (6 * m + 4)).toNatClampNeg = 6 * m + 4 := nI_clamp (by omega)
  have o4 : (0 : Int) ≤ ((6 * m + 4 : Nat) : Int) ∧ ((6 * m + 4 : Nat) : Int) < (L : Int) := by omega
  have i5 : nI (6 * m) + 5 = nI (6 * m + 5) := nI_add _ 5
  have j5 : (nI (6 * m + 5)).toInt = ((6 * m + 5 : Nat) : Int) := nI_toInt (by omega)
  have k5 : (nI (6 * m + 5)).toNatClampNeg = 6 * m + 5 := nI_clamp (by omega)
  have o5 : (0 : Int) ≤ ((6 * m + 5 : Nat) : Int) ∧ ((6 * m + 5 : Nat) : Int) < (L : Int) := by omega
  simp +decide only [e218_1673, e218_1674, e218_1675, e218_1676, e218_1677, e218_1678, e218_1679, true_and, and_true, or_true, true_or, if_true, if_false, not_true_eq_false, not_false_eq_true, ne_eq, and_self, Option.toList_some, Option.toList_none, List.cons_append, List.nil_append, catS_0, catS_I, catS_L, catS_R, Option.map_some, Option.map_none, Option.some.injEq, Sum.inl.injEq, exists_eq_left', exists_eq', s1, s2, s3, n11, i1, j1, k1, o1, i2, j2, k2, o2, i3, j3, k3, o3, i4, j4, k4, o4, i5, j5, k5, o5]
  refine Rn_mono (fun r σ1 hz => ?_) hT
  obtain ⟨⟨v, rfl, hm2⟩, hs1⟩ := hz
  have hT2 := SC_keep (L := L) (xs := xs) (c := (212, 0, _, [], σ1)) hs1 hm2
  obtain ⟨x1, x2, x3, n12b⟩ := hs1
  simp +decide only [e218_1682, e218_1683, e218_1684, e218_1685, e218_1686, e218_1687, e218_1688, true_and, and_true, or_true, true_or, if_true, if_false, not_true_eq_false, not_false_eq_true, ne_eq, and_self, Option.toList_some, Option.toList_none, List.cons_append, List.nil_append, catS_0, catS_I, catS_L, catS_R, Option.map_some, Option.map_none, Option.some.injEq, Sum.inl.injEq, exists_eq_left', exists_eq', x1, x2, x3, n12b, i1, j1, k1, o1, i2, j2, k2, o2, i3, j3, k3, o3, i4, j4, k4, o4, i5, j5, k5, o5]
  refine Rn_mono (fun r' σ2 hz2 => ?_) hT2
  obtain ⟨⟨rfl, hI2⟩, hs2⟩ := hz2
  simp +decide only [e218_1691, e218_1812, e218_1815, true_and, and_true, or_true, true_or, if_true, if_false, not_true_eq_false, not_false_eq_true, ne_eq, and_self, Option.toList_some, Option.toList_none, List.cons_append, List.nil_append, catS_0, catS_I, catS_L, catS_R, Option.map_some, Option.map_none, Option.some.injEq, Sum.inl.injEq, exists_eq_left', exists_eq', eq_self, lw6]
  exact ih σ2 hI2 hs2
theorem law_item {h0 m L : Nat} {xs : Nat → Int32} {σ : St} {Q : Option AV → St → Prop} (h : Inv h0 m σ) (hs : SC L xs σ) (hm : 6 * m + 6 ≤ L) (hL : L ≤ 3072) (ih : ∀ σ', Inv h0 (m + 1) σ' → SC L xs σ' → Rn 100 Q (218, 18, [some (vR (some (13, 1, 0))), some (vR (some (11, 0, 0))), some (vR (some (12, 0, 0))), some (vI (nI (6 * (m + 1))))], [], σ')) : Rn 100 Q (218, 1696, [some (vR (some (13, 1, 0))), some (vR (some (11, 0, 0))), some (vR (some (12, 0, 0))), some (vI (nI (6 * m)))], [], σ) := by
  have hT := SC_keep (L := L) (xs := xs) (c := (106, 0, _, [], σ)) hs (T_item (h0 := h0) (n := m) (d := 97) (σ := σ) (a := xs (6 * m + 1)) (b := xs (6 * m + 2)) (c := xs (6 * m + 3)) (v := xs (6 * m + 4)) h)
  obtain ⟨s1, s2, s3, s4⟩ := hs
  have n11 := N11 h.1
  have n12 := N12 h.1
  have lw6 : nI (6 * m) + 6 = nI (6 * (m + 1)) := by rw [lN6, nI_add]; congr 1
  have i1 : nI (6 * m) + 1 = nI (6 * m + 1) := nI_add _ 1
  have j1 : (nI (6 * m + 1)).toInt = ((6 * m + 1 : Nat) : Int) := nI_toInt (by omega)
  have k1 : (nI (6 * m + 1)).toNatClampNeg = 6 * m + 1 := nI_clamp (by omega)
  have o1 : (0 : Int) ≤ ((6 * m + 1 : Nat) : Int) ∧ ((6 * m + 1 : Nat) : Int) < (L : Int) := by omega
  have i2 : nI (6 * m) + 2 = nI (6 * m + 2) := nI_add _ 2
  have j2 : (nI (6 * m + 2)).toInt = ((6 * m + 2 : Nat) : Int) := nI_toInt (by omega)
  have k2 : (nI (6 * m + 2)).toNatClampNeg = 6 * m + 2 := nI_clamp (by omega)
  have o2 : (0 : Int) ≤ ((6 * m + 2 : Nat) : Int) ∧ ((6 * m + 2 : Nat) : Int) < (L : Int) := by omega
  have i3 : nI (6 * m) + 3 = nI (6 * m + 3) := nI_add _ 3
  have j3 : (nI (6 * m + 3)).toInt = ((6 * m + 3 : Nat) : Int) := nI_toInt (by omega)
  have k3 : (nI (6 * m + 3)).toNatClampNeg = 6 * m + 3 := nI_clamp (by omega)
  have o3 : (0 : Int) ≤ ((6 * m + 3 : Nat) : Int) ∧ ((6 * m + 3 : Nat) : Int) < (L : Int) := by omega
  have i4 : nI (6 * m) + 4 = nI (6 * m + 4) := nI_add _ 4
  have j4 : (nI (6 * m + 4)).toInt = ((6 * m + 4 : Nat) : Int) := nI_toInt (by omega)
  have k4 : (nI (6 * m + 4)).toNatClampNeg = 6 * m + 4 := nI_clamp (by omega)
  have o4 : (0 : Int) ≤ ((6 * m + 4 : Nat) : Int) ∧ ((6 * m + 4 : Nat) : Int) < (L : Int) := by omega
  have i5 : nI (6 * m) + 5 = nI (6 * m + 5) := nI_add _ 5
  have j5 : (nI (6 * m + 5)).toInt = ((6 * m + 5 : Nat) : Int) := nI_toInt (by omega)
  have k5 : (nI (6 * m + 5)).toNatClampNeg = 6 * m + 5 := nI_clamp (by omega)
  have o5 : (0 : Int) ≤ ((6 * m + 5 : Nat) : Int) ∧ ((6 * m + 5 : Nat) : Int) < (L : Int) := by omega
  simp +decide only [e218_1696, e218_1697, e218_1698, e218_1699, e218_1700, e218_1701, e218_1702, e218_1703, e218_1704, e218_1705, e218_1706, e218_1707, e218_1708, e218_1709, e218_1710, e218_1711, e218_1712, e218_1713, e218_1714, e218_1715, e218_1716, e218_1717, true_and, and_true, or_true, true_or, if_true, if_false, not_true_eq_false, not_false_eq_true, ne_eq, and_self, Option.toList_some, Option.toList_none, List.cons_append, List.nil_append, catS_0, catS_I, catS_L, catS_R, Option.map_some, Option.map_none, Option.some.injEq, Sum.inl.injEq, exists_eq_left', exists_eq', s1, s2, s3, n11, i1, j1, k1, o1, i2, j2, k2, o2, i3, j3, k3, o3, i4, j4, k4, o4, i5, j5, k5, o5]
  refine Rn_mono (fun r σ1 hz => ?_) hT
  obtain ⟨⟨v, rfl, hm2⟩, hs1⟩ := hz
  have hT2 := SC_keep (L := L) (xs := xs) (c := (214, 0, _, [], σ1)) hs1 hm2
  obtain ⟨x1, x2, x3, n12b⟩ := hs1
  simp +decide only [e218_1720, e218_1721, e218_1722, e218_1723, e218_1724, e218_1725, e218_1726, e218_1727, e218_1728, e218_1729, e218_1730, e218_1731, e218_1732, e218_1733, e218_1734, e218_1735, e218_1736, e218_1737, e218_1738, e218_1739, e218_1740, e218_1741, true_and, and_true, or_true, true_or, if_true, if_false, not_true_eq_false, not_false_eq_true, ne_eq, and_self, Option.toList_some, Option.toList_none, List.cons_append, List.nil_append, catS_0, catS_I, catS_L, catS_R, Option.map_some, Option.map_none, Option.some.injEq, Sum.inl.injEq, exists_eq_left', exists_eq', x1, x2, x3, n12b, i1, j1, k1, o1, i2, j2, k2, o2, i3, j3, k3, o3, i4, j4, k4, o4, i5, j5, k5, o5]
  refine Rn_mono (fun r' σ2 hz2 => ?_) hT2
  obtain ⟨⟨rfl, hI2⟩, hs2⟩ := hz2
  simp +decide only [e218_1744, e218_1812, e218_1815, true_and, and_true, or_true, true_or, if_true, if_false, not_true_eq_false, not_false_eq_true, ne_eq, and_self, Option.toList_some, Option.toList_none, List.cons_append, List.nil_append, catS_0, catS_I, catS_L, catS_R, Option.map_some, Option.map_none, Option.some.injEq, Sum.inl.injEq, exists_eq_left', exists_eq', eq_self, lw6]
  exact ih σ2 hI2 hs2
theorem law_choices {h0 m L : Nat} {xs : Nat → Int32} {σ : St} {Q : Option AV → St → Prop} (h : Inv h0 m σ) (hs : SC L xs σ) (hm : 6 * m + 6 ≤ L) (hL : L ≤ 3072) (ih : ∀ σ', Inv h0 (m + 1) σ' → SC L xs σ' → Rn 100 Q (218, 18, [some (vR (some (13, 1, 0))), some (vR (some (11, 0, 0))), some (vR (some (12, 0, 0))), some (vI (nI (6 * (m + 1))))], [], σ')) : Rn 100 Q (218, 1749, [some (vR (some (13, 1, 0))), some (vR (some (11, 0, 0))), some (vR (some (12, 0, 0))), some (vI (nI (6 * m)))], [], σ) := by
  have hT := SC_keep (L := L) (xs := xs) (c := (107, 0, _, [], σ)) hs (T_choices (h0 := h0) (n := m) (d := 97) (σ := σ) (a := xs (6 * m + 1)) (b := xs (6 * m + 2)) (c := xs (6 * m + 3)) (v := xs (6 * m + 4)) (w := xs (6 * m + 5)) h)
  obtain ⟨s1, s2, s3, s4⟩ := hs
  have n11 := N11 h.1
  have n12 := N12 h.1
  have lw6 : nI (6 * m) + 6 = nI (6 * (m + 1)) := by rw [lN6, nI_add]; congr 1
  have i1 : nI (6 * m) + 1 = nI (6 * m + 1) := nI_add _ 1
  have j1 : (nI (6 * m + 1)).toInt = ((6 * m + 1 : Nat) : Int) := nI_toInt (by omega)
  have k1 : (nI (6 * m + 1)).toNatClampNeg = 6 * m + 1 := nI_clamp (by omega)
  have o1 : (0 : Int) ≤ ((6 * m + 1 : Nat) : Int) ∧ ((6 * m + 1 : Nat) : Int) < (L : Int) := by omega
  have i2 : nI (6 * m) + 2 = nI (6 * m + 2) := nI_add _ 2
  have j2 : (nI (6 * m + 2)).toInt = ((6 * m + 2 : Nat) : Int) := nI_toInt (by omega)
  have k2 : (nI (6 * m + 2)).toNatClampNeg = 6 * m + 2 := nI_clamp (by omega)
  have o2 : (0 : Int) ≤ ((6 * m + 2 : Nat) : Int) ∧ ((6 * m + 2 : Nat) : Int) < (L : Int) := by omega
  have i3 : nI (6 * m) + 3 = nI (6 * m + 3) := nI_add _ 3
  have j3 : (nI (6 * m + 3)).toInt = ((6 * m + 3 : Nat) : Int) := nI_toInt (by omega)
  have k3 : (nI (6 * m + 3)).toNatClampNeg = 6 * m + 3 := nI_clamp (by omega)
  have o3 : (0 : Int) ≤ ((6 * m + 3 : Nat) : Int) ∧ ((6 * m + 3 : Nat) : Int) < (L : Int) := by omega
  have i4 : nI (6 * m) + 4 = nI (6 * m + 4) := nI_add _ 4
  have j4 : (nI (6 * m + 4)).toInt = ((6 * m + 4 : Nat) : Int) := nI_toInt (by omega)
  have k4 : (nI (6 * m + 4)).toNatClampNeg = 6 * m + 4 := nI_clamp (by omega)
  have o4 : (0 : Int) ≤ ((6 * m + 4 : Nat) : Int) ∧ ((6 * m + 4 : Nat) : Int) < (L : Int) := by omega
  have i5 : nI (6 * m) + 5 = nI (6 * m + 5) := nI_add _ 5
  have j5 : (nI (6 * m + 5)).toInt = ((6 * m + 5 : Nat) : Int) := nI_toInt (by omega)
  have k5 : (nI (6 * m + 5)).toNatClampNeg = 6 * m + 5 := nI_clamp (by omega)
  have o5 : (0 : Int) ≤ ((6 * m + 5 : Nat) : Int) ∧ ((6 * m + 5 : Nat) : Int) < (L : Int) := by omega
  simp +decide only [e218_1749, e218_1750, e218_1751, e218_1752, e218_1753, e218_1754, e218_1755, e218_1756, e218_1757, e218_1758, e218_1759, e218_1760, e218_1761, e218_1762, e218_1763, e218_1764, e218_1765, e218_1766, e218_1767, e218_1768, e218_1769, e218_1770, e218_1771, e218_1772, e218_1773, e218_1774, e218_1775, true_and, and_true, or_true, true_or, if_true, if_false, not_true_eq_false, not_false_eq_true, ne_eq, and_self, Option.toList_some, Option.toList_none, List.cons_append, List.nil_append, catS_0, catS_I, catS_L, catS_R, Option.map_some, Option.map_none, Option.some.injEq, Sum.inl.injEq, exists_eq_left', exists_eq', s1, s2, s3, n11, i1, j1, k1, o1, i2, j2, k2, o2, i3, j3, k3, o3, i4, j4, k4, o4, i5, j5, k5, o5]
  refine Rn_mono (fun r σ1 hz => ?_) hT
  obtain ⟨⟨v, rfl, hm2⟩, hs1⟩ := hz
  have hT2 := SC_keep (L := L) (xs := xs) (c := (215, 0, _, [], σ1)) hs1 hm2
  obtain ⟨x1, x2, x3, n12b⟩ := hs1
  simp +decide only [e218_1778, e218_1779, e218_1780, e218_1781, e218_1782, e218_1783, e218_1784, e218_1785, e218_1786, e218_1787, e218_1788, e218_1789, e218_1790, e218_1791, e218_1792, e218_1793, e218_1794, e218_1795, e218_1796, e218_1797, e218_1798, e218_1799, e218_1800, e218_1801, e218_1802, e218_1803, e218_1804, true_and, and_true, or_true, true_or, if_true, if_false, not_true_eq_false, not_false_eq_true, ne_eq, and_self, Option.toList_some, Option.toList_none, List.cons_append, List.nil_append, catS_0, catS_I, catS_L, catS_R, Option.map_some, Option.map_none, Option.some.injEq, Sum.inl.injEq, exists_eq_left', exists_eq', x1, x2, x3, n12b, i1, j1, k1, o1, i2, j2, k2, o2, i3, j3, k3, o3, i4, j4, k4, o4, i5, j5, k5, o5]
  refine Rn_mono (fun r' σ2 hz2 => ?_) hT2
  obtain ⟨⟨rfl, hI2⟩, hs2⟩ := hz2
  simp +decide only [e218_1807, e218_1812, e218_1815, true_and, and_true, or_true, true_or, if_true, if_false, not_true_eq_false, not_false_eq_true, ne_eq, and_self, Option.toList_some, Option.toList_none, List.cons_append, List.nil_append, catS_0, catS_I, catS_L, catS_R, Option.map_some, Option.map_none, Option.some.injEq, Sum.inl.injEq, exists_eq_left', exists_eq', eq_self, lw6]
  exact ih σ2 hI2 hs2
