theorem updS0 {f : Nat → Int32} {i : Nat} {v : Int32} : upd f i v i = v := by unfold upd; exact if_pos rfl
section NEWC
variable {σ : St} {a b c k i n : Nat}
theorem IO' : gI (newO σ c) a b = if a = c then upd (gI σ a b) (gN σ c) 0 else gI σ a b := by
  funext d
  show (if a = c ∧ d = gN σ c then 0 else gI σ a b d) = _
  by_cases h : a = c
  · rw [if_pos h]
    unfold upd
    by_cases hd : d = gN σ c
    · rw [if_pos ⟨h, hd⟩, if_pos hd]
    · rw [if_neg (fun z => hd z.2), if_neg hd]
  · rw [if_neg h, if_neg (fun z => h z.1)]
theorem RO' : gR (newO σ c) a b = if a = c then va_up (gR σ a b) (gN σ c) none else gR σ a b := by
  funext d
  show (if a = c ∧ d = gN σ c then none else gR σ a b d) = _
  by_cases h : a = c
  · rw [if_pos h]
    unfold va_up
    by_cases hd : d = gN σ c
    · rw [if_pos ⟨h, hd⟩, if_pos hd]
    · rw [if_neg (fun z => hd z.2), if_neg hd]
  · rw [if_neg h, if_neg (fun z => h z.1)]
theorem LO' : gL (newO σ c) a b = if a = c then va_up (gL σ a b) (gN σ c) none else gL σ a b := by
  funext d
  show (if a = c ∧ d = gN σ c then none else gL σ a b d) = _
  by_cases h : a = c
  · rw [if_pos h]
    unfold va_up
    by_cases hd : d = gN σ c
    · rw [if_pos ⟨h, hd⟩, if_pos hd]
    · rw [if_neg (fun z => hd z.2), if_neg hd]
  · rw [if_neg h, if_neg (fun z => h z.1)]
theorem NO' : gN (newO σ c) a = if a = c then gN σ c + 1 else gN σ a := rfl
theorem AO' : gA (newO σ c) = gA σ := rfl
theorem QO' : gQ (newO σ c) = gQ σ := rfl
theorem HO' : gH (newO σ c) = gH σ + 1 := rfl
theorem SO' : gS (newO σ c) = gS σ + nfd c := rfl
theorem IW' : gI (newA σ c k i n) = gI σ := rfl
theorem RW' : gR (newA σ c k i n) = gR σ := rfl
theorem NW' : gN (newA σ c k i n) = gN σ := rfl
theorem HW' : gH (newA σ c k i n) = gH σ + 1 := rfl
theorem SW' : gS (newA σ c k i n) = gS σ + n := rfl
theorem AW' : gA (newA σ c k i n) a b = if a = c ∧ b = k then (fun d => if d = i then (fun _ => 0) else gA σ c k d) else gA σ a b := by
  funext d
  show (if a = c ∧ b = k ∧ d = i then (fun _ => 0) else gA σ a b d) = _
  by_cases h : a = c ∧ b = k
  · rw [if_pos h]
    obtain ⟨rfl, rfl⟩ := h
    by_cases hd : d = i
    · simp [hd]
    · simp [hd]
  · rw [if_neg h, if_neg (fun z => h ⟨z.1, z.2.1⟩)]
theorem QW' : gQ (newA σ c k i n) a b = if a = c ∧ b = k then (fun d => if d = i then (fun _ => none) else gQ σ c k d) else gQ σ a b := by
  funext d
  show (if a = c ∧ b = k ∧ d = i then (fun _ => none) else gQ σ a b d) = _
  by_cases h : a = c ∧ b = k
  · rw [if_pos h]
    obtain ⟨rfl, rfl⟩ := h
    by_cases hd : d = i
    · simp [hd]
    · simp [hd]
  · rw [if_neg h, if_neg (fun z => h ⟨z.1, z.2.1⟩)]
theorem LW' : gL (newA σ c k i n) a b = if a = c ∧ b = k then va_up (gL σ c k) i (some n) else gL σ a b := by
  funext d
  show (if a = c ∧ b = k ∧ d = i then some n else gL σ a b d) = _
  by_cases h : a = c ∧ b = k
  · rw [if_pos h]
    obtain ⟨rfl, rfl⟩ := h
    unfold va_up
    by_cases hd : d = i
    · rw [if_pos ⟨rfl, rfl, hd⟩, if_pos hd]
    · rw [if_neg (fun z => hd z.2.2), if_neg hd]
  · rw [if_neg h, if_neg (fun z => h ⟨z.1, z.2.1⟩)]
end NEWC
theorem noA9 {k : Nat} (h : isA 9 k) : False := by
  rcases h with h | h
  · have h2 := fk_k (by decide) h
    have : k < 4 := h2
    match k, this, h with
    | 0, _, h => cases h
    | 1, _, h => cases h
    | 2, _, h => cases h
    | 3, _, h => cases h
  · have h2 := fk_k (by decide) h
    have : k < 4 := h2
    match k, this, h with
    | 0, _, h => cases h
    | 1, _, h => cases h
    | 2, _, h => cases h
    | 3, _, h => cases h
theorem SH_tutor {σ : St} {f : Nat → Option Nat} (h : SH σ) : SH (setQ (newO σ 9) 11 8 0 f) := by
  obtain ⟨h1, h2, h3, h4, h5⟩ := h
  refine ⟨h1, fun c k i hc hi ha => ?_, h3, h4, h5⟩
  by_cases h9 : c = 9
  · subst h9; exact (noA9 ha).elim
  · have hi2 : i < if c = 9 then gN σ 9 + 1 else gN σ c := hi
    rw [if_neg h9] at hi2
    have := h2 c k i hc hi2 ha
    rw [LQ, LO', if_neg h9]
    exact this
theorem T_tutor_no {h0 n d : Nat} {σ : St} {a b : Int32} (hI : Inv h0 (n + 1) σ) (hA : ¬ ((0 ≤ a.toInt ∧ a.toInt < 16) ∧ (1 ≤ b.toInt ∧ b.toInt ≤ 9))) : PR h0 n (d + 2) 86 [some (vR (some (11, 0, 0))), some (vI a), some (vI b)] 184 [some (vR (some (12, 0, 0))), some (vI a), some (vI b)] σ := by
  unfold PR
  by_cases h1 : 0 ≤ a.toInt ∧ a.toInt < 16
  · have h1' : a.toInt ≤ 15 := by omega
    have h2 : ¬ (1 ≤ b.toInt ∧ b.toInt ≤ 9) := by omega
    by_cases h3 : b.toInt < 1
    · have h3' : ¬ 1 ≤ b.toInt := by omega
      simp +decide only [e86_0, e86_1, e86_3, e86_6, e86_9, e86_10, e86_11, e86_14, e86_15, e86_17, e86_20, e86_21, e86_22, e86_23, e86_26, e86_28, e86_31, e86_33, e86_34, e86_35, e86_38, e86_39, e86_42, e86_45, e86_46, e86_47, e86_48, e86_51, e86_52, e86_53, e86_54, e86_57, e86_58, e86_59, e86_62, e86_63, e86_66, e86_67, e86_68, true_and, and_true, or_true, true_or, if_true, if_false, not_true_eq_false, not_false_eq_true, ne_eq, and_self, Option.toList_some, Option.toList_none, List.cons_append, List.nil_append, catS_0, catS_I, catS_L, catS_R, Option.map_some, Option.map_none, c_isIn, m_in, wide_toInt, c_isDay, m_isDay, m_isCourse, c_areParts, tI_m1000, tI_m20, tI_m14, tI_m13, tI_m12, tI_m11, tI_m4, tI_m3, tI_m2, tI_m1, tI_0, tI_1, tI_2, tI_3, tI_4, tI_5, tI_6, tI_7, tI_8, tI_9, tI_10, tI_11, tI_12, tI_14, tI_15, tI_16, tI_19, tI_20, tI_21, tI_30, tI_31, tI_32, tI_40, tI_60, tI_61, tI_80, tI_90, tI_97, tI_100, tI_101, tI_119, tI_120, tI_121, tI_126, tI_128, tI_255, tI_256, tI_500, tI_512, tI_600, tI_999, tI_1000, tI_3999, tI_4000, tI_4095, tI_4096, tI_99999, tI_100000, tL_0, tL_1, tL_2, tL_3, tL_4, tL_5, tL_7, tL_8, tL_9, tL_15, tL_19, tL_20, tL_32, tL_39, tL_48, tL_57, tL_60, tL_97, tL_100, tL_104, tL_126, tL_255, tL_3999, tL_4095, tL_99999, Option.some.injEq, Sum.inl.injEq, exists_eq_left', exists_eq', ltI, leI, h1, h3, h3']
      simp +decide only [e184_0, e184_1, e184_2, e184_3, e184_6, e184_9, e184_12, e184_13, e184_14, e184_15, e184_18, e184_21, e184_24, e184_25, e184_26, e184_27, e184_30, e184_32, e184_35, e184_37, e184_38, e184_39, e184_42, e184_43, e184_46, e184_47, e184_48, e184_49, e184_52, e184_53, e184_56, e184_57, e184_58, e184_59, e184_60, e184_63, e184_64, e184_65, e184_68, e184_69, e184_72, e184_73, e184_74, true_and, and_true, or_true, true_or, if_true, if_false, not_true_eq_false, not_false_eq_true, ne_eq, and_self, Option.toList_some, Option.toList_none, List.cons_append, List.nil_append, catS_0, catS_I, catS_L, catS_R, Option.map_some, Option.map_none, c_isIn, m_in, wide_toInt, c_isDay, m_isDay, m_isCourse, c_areParts, tI_m1000, tI_m20, tI_m14, tI_m13, tI_m12, tI_m11, tI_m4, tI_m3, tI_m2, tI_m1, tI_0, tI_1, tI_2, tI_3, tI_4, tI_5, tI_6, tI_7, tI_8, tI_9, tI_10, tI_11, tI_12, tI_14, tI_15, tI_16, tI_19, tI_20, tI_21, tI_30, tI_31, tI_32, tI_40, tI_60, tI_61, tI_80, tI_90, tI_97, tI_100, tI_101, tI_119, tI_120, tI_121, tI_126, tI_128, tI_255, tI_256, tI_500, tI_512, tI_600, tI_999, tI_1000, tI_3999, tI_4000, tI_4095, tI_4096, tI_99999, tI_100000, tL_0, tL_1, tL_2, tL_3, tL_4, tL_5, tL_7, tL_8, tL_9, tL_15, tL_19, tL_20, tL_32, tL_39, tL_48, tL_57, tL_60, tL_97, tL_100, tL_104, tL_126, tL_255, tL_3999, tL_4095, tL_99999, Option.some.injEq, Sum.inl.injEq, exists_eq_left', exists_eq', ltI, leI, h1, h1', h2, hI]
    · have h3' : 1 ≤ b.toInt := by omega
      have h4 : ¬ b.toInt ≤ 9 := by omega
      have h4' : 9 < b.toInt := by omega
      simp +decide only [e86_0, e86_1, e86_3, e86_6, e86_9, e86_10, e86_11, e86_14, e86_15, e86_17, e86_20, e86_21, e86_22, e86_23, e86_26, e86_28, e86_31, e86_33, e86_34, e86_35, e86_38, e86_39, e86_42, e86_45, e86_46, e86_47, e86_48, e86_51, e86_52, e86_53, e86_54, e86_57, e86_58, e86_59, e86_62, e86_63, e86_66, e86_67, e86_68, true_and, and_true, or_true, true_or, if_true, if_false, not_true_eq_false, not_false_eq_true, ne_eq, and_self, Option.toList_some, Option.toList_none, List.cons_append, List.nil_append, catS_0, catS_I, catS_L, catS_R, Option.map_some, Option.map_none, c_isIn, m_in, wide_toInt, c_isDay, m_isDay, m_isCourse, c_areParts, tI_m1000, tI_m20, tI_m14, tI_m13, tI_m12, tI_m11, tI_m4, tI_m3, tI_m2, tI_m1, tI_0, tI_1, tI_2, tI_3, tI_4, tI_5, tI_6, tI_7, tI_8, tI_9, tI_10, tI_11, tI_12, tI_14, tI_15, tI_16, tI_19, tI_20, tI_21, tI_30, tI_31, tI_32, tI_40, tI_60, tI_61, tI_80, tI_90, tI_97, tI_100, tI_101, tI_119, tI_120, tI_121, tI_126, tI_128, tI_255, tI_256, tI_500, tI_512, tI_600, tI_999, tI_1000, tI_3999, tI_4000, tI_4095, tI_4096, tI_99999, tI_100000, tL_0, tL_1, tL_2, tL_3, tL_4, tL_5, tL_7, tL_8, tL_9, tL_15, tL_19, tL_20, tL_32, tL_39, tL_48, tL_57, tL_60, tL_97, tL_100, tL_104, tL_126, tL_255, tL_3999, tL_4095, tL_99999, Option.some.injEq, Sum.inl.injEq, exists_eq_left', exists_eq', ltI, leI, h1, h3, h3', h4, h4']
      simp +decide only [e184_0, e184_1, e184_2, e184_3, e184_6, e184_9, e184_12, e184_13, e184_14, e184_15, e184_18, e184_21, e184_24, e184_25, e184_26, e184_27, e184_30, e184_32, e184_35, e184_37, e184_38, e184_39, e184_42, e184_43, e184_46, e184_47, e184_48, e184_49, e184_52, e184_53, e184_56, e184_57, e184_58, e184_59, e184_60, e184_63, e184_64, e184_65, e184_68, e184_69, e184_72, e184_73, e184_74, true_and, and_true, or_true, true_or, if_true, if_false, not_true_eq_false, not_false_eq_true, ne_eq, and_self, Option.toList_some, Option.toList_none, List.cons_append, List.nil_append, catS_0, catS_I, catS_L, catS_R, Option.map_some, Option.map_none, c_isIn, m_in, wide_toInt, c_isDay, m_isDay, m_isCourse, c_areParts, tI_m1000, tI_m20, tI_m14, tI_m13, tI_m12, tI_m11, tI_m4, tI_m3, tI_m2, tI_m1, tI_0, tI_1, tI_2, tI_3, tI_4, tI_5, tI_6, tI_7, tI_8, tI_9, tI_10, tI_11, tI_12, tI_14, tI_15, tI_16, tI_19, tI_20, tI_21, tI_30, tI_31, tI_32, tI_40, tI_60, tI_61, tI_80, tI_90, tI_97, tI_100, tI_101, tI_119, tI_120, tI_121, tI_126, tI_128, tI_255, tI_256, tI_500, tI_512, tI_600, tI_999, tI_1000, tI_3999, tI_4000, tI_4095, tI_4096, tI_99999, tI_100000, tL_0, tL_1, tL_2, tL_3, tL_4, tL_5, tL_7, tL_8, tL_9, tL_15, tL_19, tL_20, tL_32, tL_39, tL_48, tL_57, tL_60, tL_97, tL_100, tL_104, tL_126, tL_255, tL_3999, tL_4095, tL_99999, Option.some.injEq, Sum.inl.injEq, exists_eq_left', exists_eq', ltI, leI, h1, h1', h2, hI]
  · have h1' : ¬ (0 ≤ a.toInt ∧ a.toInt ≤ 15) := by omega
    simp +decide only [e86_0, e86_1, e86_3, e86_6, e86_9, e86_10, e86_11, e86_14, e86_15, e86_17, e86_20, e86_21, e86_22, e86_23, e86_26, e86_28, e86_31, e86_33, e86_34, e86_35, e86_38, e86_39, e86_42, e86_45, e86_46, e86_47, e86_48, e86_51, e86_52, e86_53, e86_54, e86_57, e86_58, e86_59, e86_62, e86_63, e86_66, e86_67, e86_68, true_and, and_true, or_true, true_or, if_true, if_false, not_true_eq_false, not_false_eq_true, ne_eq, and_self, Option.toList_some, Option.toList_none, List.cons_append, List.nil_append, catS_0, catS_I, catS_L, catS_R, Option.map_some, Option.map_none, c_isIn, m_in, wide_toInt, c_isDay, m_isDay, m_isCourse, c_areParts, tI_m1000, tI_m20, tI_m14, tI_m13, tI_m12, tI_m11, tI_m4, tI_m3, tI_m2, tI_m1, tI_0, tI_1, tI_2, tI_3, tI_4, tI_5, tI_6, tI_7, tI_8, tI_9, tI_10, tI_11, tI_12, tI_14, tI_15, tI_16, tI_19, tI_20, tI_21, tI_30, tI_31, tI_32, tI_40, tI_60, tI_61, tI_80, tI_90, tI_97, tI_100, tI_101, tI_119, tI_120, tI_121, tI_126, tI_128, tI_255, tI_256, tI_500, tI_512, tI_600, tI_999, tI_1000, tI_3999, tI_4000, tI_4095, tI_4096, tI_99999, tI_100000, tL_0, tL_1, tL_2, tL_3, tL_4, tL_5, tL_7, tL_8, tL_9, tL_15, tL_19, tL_20, tL_32, tL_39, tL_48, tL_57, tL_60, tL_97, tL_100, tL_104, tL_126, tL_255, tL_3999, tL_4095, tL_99999, Option.some.injEq, Sum.inl.injEq, exists_eq_left', exists_eq', ltI, leI, h1]
    simp +decide only [e184_0, e184_1, e184_2, e184_3, e184_6, e184_9, e184_12, e184_13, e184_14, e184_15, e184_18, e184_21, e184_24, e184_25, e184_26, e184_27, e184_30, e184_32, e184_35, e184_37, e184_38, e184_39, e184_42, e184_43, e184_46, e184_47, e184_48, e184_49, e184_52, e184_53, e184_56, e184_57, e184_58, e184_59, e184_60, e184_63, e184_64, e184_65, e184_68, e184_69, e184_72, e184_73, e184_74, true_and, and_true, or_true, true_or, if_true, if_false, not_true_eq_false, not_false_eq_true, ne_eq, and_self, Option.toList_some, Option.toList_none, List.cons_append, List.nil_append, catS_0, catS_I, catS_L, catS_R, Option.map_some, Option.map_none, c_isIn, m_in, wide_toInt, c_isDay, m_isDay, m_isCourse, c_areParts, tI_m1000, tI_m20, tI_m14, tI_m13, tI_m12, tI_m11, tI_m4, tI_m3, tI_m2, tI_m1, tI_0, tI_1, tI_2, tI_3, tI_4, tI_5, tI_6, tI_7, tI_8, tI_9, tI_10, tI_11, tI_12, tI_14, tI_15, tI_16, tI_19, tI_20, tI_21, tI_30, tI_31, tI_32, tI_40, tI_60, tI_61, tI_80, tI_90, tI_97, tI_100, tI_101, tI_119, tI_120, tI_121, tI_126, tI_128, tI_255, tI_256, tI_500, tI_512, tI_600, tI_999, tI_1000, tI_3999, tI_4000, tI_4095, tI_4096, tI_99999, tI_100000, tL_0, tL_1, tL_2, tL_3, tL_4, tL_5, tL_7, tL_8, tL_9, tL_15, tL_19, tL_20, tL_32, tL_39, tL_48, tL_57, tL_60, tL_97, tL_100, tL_104, tL_126, tL_255, tL_3999, tL_4095, tL_99999, Option.some.injEq, Sum.inl.injEq, exists_eq_left', exists_eq', ltI, leI, h1', hI]
theorem nI_s {m : Nat} : nI m + 1 = nI (m + 1) := by unfold nI; rw [Int32.ofNat_add]; rfl
theorem cntT0 {kd tt : Nat → Int32} {u : Nat} : ∀ {m : Nat}, (∀ t, t < m → tt t = nI u → False) → cntT kd tt u m = 0
  | 0, _ => rfl
  | m + 1, h => by
    show cntT kd tt u m + (if kd m = 1 ∧ tt m = nI u then 1 else 0) = 0
    rw [cntT0 (m := m) (fun t ht => h t (by omega)), if_neg (fun z => h m (by omega) z.2)]
theorem T_tutor {h0 n d : Nat} {σ : St} {a b : Int32} (h : Inv h0 n σ) : PR h0 n (d + 2) 86 [some (vR (some (11, 0, 0))), some (vI a), some (vI b)] 184 [some (vR (some (12, 0, 0))), some (vI a), some (vI b)] σ := by
  have hI := h.up
  by_cases hA : (0 ≤ a.toInt ∧ a.toInt < 16) ∧ (1 ≤ b.toInt ∧ b.toInt ≤ 9)
  · obtain ⟨a1, a2, a3, a4, a5, a6, a7, a8, a9, a10, a11, a12, a13⟩ := h
    obtain ⟨u1, u2, u3, u4, u5⟩ := a6
    obtain ⟨h1, h2⟩ := hA
    have h1' : a.toInt ≤ 15 := by omega
    have h3 : ¬ b.toInt < 1 := by omega
    have h4 : ¬ 9 < b.toInt := by omega
    have e3 : (nI (gN σ 9)).toInt = (gN σ 9 : Int) := nI_toInt (by omega)
    have e4 : (nI (gN σ 9)).toNatClampNeg = gN σ 9 := nI_clamp (by omega)
    unfold PR
    by_cases h6 : gN σ 9 = 6
    · have f1 : (6 : Int) ≤ (gN σ 9 : Int) := by omega
      have f2 : ¬ (gN σ 9 : Int) < 6 := by omega
      have f3 : nI (gN σ 9) = 6 := by rw [h6]; rfl
      simp +decide only [e86_0, e86_1, e86_3, e86_6, e86_9, e86_10, e86_11, e86_14, e86_15, e86_17, e86_20, e86_21, e86_22, e86_23, e86_26, e86_28, e86_31, e86_33, e86_34, e86_35, e86_38, e86_39, e86_42, e86_45, e86_46, e86_47, e86_48, e86_51, e86_52, e86_53, e86_54, e86_57, e86_58, e86_59, e86_62, e86_63, e86_66, e86_67, e86_68, true_and, and_true, or_true, true_or, if_true, if_false, not_true_eq_false, not_false_eq_true, ne_eq, and_self, Option.toList_some, Option.toList_none, List.cons_append, List.nil_append, catS_0, catS_I, catS_L, catS_R, Option.map_some, Option.map_none, c_isIn, m_in, wide_toInt, c_isDay, m_isDay, m_isCourse, c_areParts, tI_m1000, tI_m20, tI_m14, tI_m13, tI_m12, tI_m11, tI_m4, tI_m3, tI_m2, tI_m1, tI_0, tI_1, tI_2, tI_3, tI_4, tI_5, tI_6, tI_7, tI_8, tI_9, tI_10, tI_11, tI_12, tI_14, tI_15, tI_16, tI_19, tI_20, tI_21, tI_30, tI_31, tI_32, tI_40, tI_60, tI_61, tI_80, tI_90, tI_97, tI_100, tI_101, tI_119, tI_120, tI_121, tI_126, tI_128, tI_255, tI_256, tI_500, tI_512, tI_600, tI_999, tI_1000, tI_3999, tI_4000, tI_4095, tI_4096, tI_99999, tI_100000, tL_0, tL_1, tL_2, tL_3, tL_4, tL_5, tL_7, tL_8, tL_9, tL_15, tL_19, tL_20, tL_32, tL_39, tL_48, tL_57, tL_60, tL_97, tL_100, tL_104, tL_126, tL_255, tL_3999, tL_4095, tL_99999, Option.some.injEq, Sum.inl.injEq, exists_eq_left', exists_eq', ltI, leI, h1, h2, h3, h4, N11 a1, u2, e3, f1, f2]
      simp +decide only [e184_0, e184_1, e184_2, e184_3, e184_6, e184_9, e184_12, e184_13, e184_14, e184_15, e184_18, e184_21, e184_24, e184_25, e184_26, e184_27, e184_30, e184_32, e184_35, e184_37, e184_38, e184_39, e184_42, e184_43, e184_46, e184_47, e184_48, e184_49, e184_52, e184_53, e184_56, e184_57, e184_58, e184_59, e184_60, e184_63, e184_64, e184_65, e184_68, e184_69, e184_72, e184_73, e184_74, true_and, and_true, or_true, true_or, if_true, if_false, not_true_eq_false, not_false_eq_true, ne_eq, and_self, Option.toList_some, Option.toList_none, List.cons_append, List.nil_append, catS_0, catS_I, catS_L, catS_R, Option.map_some, Option.map_none, c_isIn, m_in, wide_toInt, c_isDay, m_isDay, m_isCourse, c_areParts, tI_m1000, tI_m20, tI_m14, tI_m13, tI_m12, tI_m11, tI_m4, tI_m3, tI_m2, tI_m1, tI_0, tI_1, tI_2, tI_3, tI_4, tI_5, tI_6, tI_7, tI_8, tI_9, tI_10, tI_11, tI_12, tI_14, tI_15, tI_16, tI_19, tI_20, tI_21, tI_30, tI_31, tI_32, tI_40, tI_60, tI_61, tI_80, tI_90, tI_97, tI_100, tI_101, tI_119, tI_120, tI_121, tI_126, tI_128, tI_255, tI_256, tI_500, tI_512, tI_600, tI_999, tI_1000, tI_3999, tI_4000, tI_4095, tI_4096, tI_99999, tI_100000, tL_0, tL_1, tL_2, tL_3, tL_4, tL_5, tL_7, tL_8, tL_9, tL_15, tL_19, tL_20, tL_32, tL_39, tL_48, tL_57, tL_60, tL_97, tL_100, tL_104, tL_126, tL_255, tL_3999, tL_4095, tL_99999, Option.some.injEq, Sum.inl.injEq, exists_eq_left', exists_eq', ltI, leI, h1, h1', h2, N12 a1, u3, f3, hI]
    · have f1 : ¬ (6 : Int) ≤ (gN σ 9 : Int) := by omega
      have f2 : (gN σ 9 : Int) < ((6 : Nat) : Int) := by omega
      have f2' : (gN σ 9 : Int) < 6 := by omega
      have f3 : ¬ nI (gN σ 9) = 6 := fun z => by rw [lN6, nI_eq (by omega) (by decide)] at z; exact h6 z
      have f4 : (0 : Int) ≤ (gN σ 9 : Int) := by omega
      have f5 : gN σ 9 < gN σ 9 + 1 := by omega
      have f6 : nI (gN σ 9) + 1 - 1 = nI (gN σ 9) := by rw [Int32.add_sub_cancel]
      have a1' : SH (setQ (newO σ 9) 11 8 0 (va_up (gQ σ 11 8 0) (gN σ 9) (some (gN σ 9)))) := SH_tutor a1
      simp +decide only [e86_0, e86_1, e86_3, e86_6, e86_9, e86_10, e86_11, e86_14, e86_15, e86_17, e86_20, e86_21, e86_22, e86_23, e86_26, e86_28, e86_31, e86_33, e86_34, e86_35, e86_38, e86_39, e86_42, e86_45, e86_46, e86_47, e86_48, e86_51, e86_52, e86_53, e86_54, e86_57, e86_58, e86_59, e86_62, e86_63, e86_66, e86_67, e86_68, e59_0, e59_1, e59_4, e59_5, e59_6, e59_9, e59_10, e59_11, e59_14, e59_15, e59_16, e59_19, e59_20, e59_21, e59_24, true_and, and_true, or_true, true_or, if_true, if_false, not_true_eq_false, not_false_eq_true, ne_eq, and_self, Option.toList_some, Option.toList_none, List.cons_append, List.nil_append, catS_0, catS_I, catS_L, catS_R, Option.map_some, Option.map_none, c_isIn, m_in, wide_toInt, c_isDay, m_isDay, m_isCourse, c_areParts, tI_m1000, tI_m20, tI_m14, tI_m13, tI_m12, tI_m11, tI_m4, tI_m3, tI_m2, tI_m1, tI_0, tI_1, tI_2, tI_3, tI_4, tI_5, tI_6, tI_7, tI_8, tI_9, tI_10, tI_11, tI_12, tI_14, tI_15, tI_16, tI_19, tI_20, tI_21, tI_30, tI_31, tI_32, tI_40, tI_60, tI_61, tI_80, tI_90, tI_97, tI_100, tI_101, tI_119, tI_120, tI_121, tI_126, tI_128, tI_255, tI_256, tI_500, tI_512, tI_600, tI_999, tI_1000, tI_3999, tI_4000, tI_4095, tI_4096, tI_99999, tI_100000, tL_0, tL_1, tL_2, tL_3, tL_4, tL_5, tL_7, tL_8, tL_9, tL_15, tL_19, tL_20, tL_32, tL_39, tL_48, tL_57, tL_60, tL_97, tL_100, tL_104, tL_126, tL_255, tL_3999, tL_4095, tL_99999, Option.some.injEq, Sum.inl.injEq, exists_eq_left', exists_eq', ltI, leI, h1, h2, h3, h4, N11 a1, u2, e3, e4, f1, f2, f2', f4, f5, II, AA, RR, QQ, IA, IR, IQ, AI, AR, AQ, RI, RA, RQ, QI, QA, QR, LI, LA, LR, LQ, NI, NA, NR, NQ, HI, HA, HR, HQ, SI, SA, SR, SQ, IO', RO', LO', NO', AO', QO', L11_8 a1, updS0, f6]
      simp +decide only [e184_0, e184_1, e184_2, e184_3, e184_6, e184_9, e184_12, e184_13, e184_14, e184_15, e184_18, e184_21, e184_24, e184_25, e184_26, e184_27, e184_30, e184_32, e184_35, e184_37, e184_38, e184_39, e184_42, e184_43, e184_46, e184_47, e184_48, e184_49, e184_52, e184_53, e184_56, e184_57, e184_58, e184_59, e184_60, e184_63, e184_64, e184_65, e184_68, e184_69, e184_72, e184_73, e184_74, true_and, and_true, or_true, true_or, if_true, if_false, not_true_eq_false, not_false_eq_true, ne_eq, and_self, Option.toList_some, Option.toList_none, List.cons_append, List.nil_append, catS_0, catS_I, catS_L, catS_R, Option.map_some, Option.map_none, c_isIn, m_in, wide_toInt, c_isDay, m_isDay, m_isCourse, c_areParts, tI_m1000, tI_m20, tI_m14, tI_m13, tI_m12, tI_m11, tI_m4, tI_m3, tI_m2, tI_m1, tI_0, tI_1, tI_2, tI_3, tI_4, tI_5, tI_6, tI_7, tI_8, tI_9, tI_10, tI_11, tI_12, tI_14, tI_15, tI_16, tI_19, tI_20, tI_21, tI_30, tI_31, tI_32, tI_40, tI_60, tI_61, tI_80, tI_90, tI_97, tI_100, tI_101, tI_119, tI_120, tI_121, tI_126, tI_128, tI_255, tI_256, tI_500, tI_512, tI_600, tI_999, tI_1000, tI_3999, tI_4000, tI_4095, tI_4096, tI_99999, tI_100000, tL_0, tL_1, tL_2, tL_3, tL_4, tL_5, tL_7, tL_8, tL_9, tL_15, tL_19, tL_20, tL_32, tL_39, tL_48, tL_57, tL_60, tL_97, tL_100, tL_104, tL_126, tL_255, tL_3999, tL_4095, tL_99999, Option.some.injEq, Sum.inl.injEq, exists_eq_left', exists_eq', ltI, leI, h1, h1', h2, h2.1, N12 a1', N12 a1, u3, f3, e3, e4, f2, f2', f4, II, AA, RR, QQ, IA, IR, IQ, AI, AR, AQ, RI, RA, RQ, QI, QA, QR, LI, LA, LR, LQ, NI, NA, NR, NQ, HI, HA, HR, HQ, SI, SA, SR, SQ, IO', RO', LO', NO', AO', QO', L12_55 a1, L12_56 a1, L12_57 a1, L12_58 a1]
      simp +decide only [updS0, f6, true_and, and_true, or_true, true_or, if_true, if_false, not_true_eq_false, not_false_eq_true, ne_eq, and_self]
      refine ⟨a1', ?_⟩
      simp +decide only [II, AA, RR, QQ, IA, IR, IQ, AI, AR, AQ, RI, RA, RQ, QI, QA, QR, LI, LA, LR, LQ, NI, NA, NR, NQ, HI, HA, HR, HQ, SI, SA, SR, SQ, IO', RO', LO', NO', AO', QO', HO', SO', true_and, and_true, or_true, true_or, if_true, if_false, not_true_eq_false, not_false_eq_true, ne_eq, and_self]
      obtain ⟨y1, y2, y3, y4, y5⟩ := a9
      refine ⟨a2, a3, a4.up, a5, ⟨by omega, ?_, ?_, fun j hj => ?_, fun j h1 h2 => ?_⟩, ⟨fun j hj => ?_, a7.2⟩, a8, ⟨y1, y2, y3, fun t ht => ?_, y5⟩, a10.up, a11, a12, ?_⟩
      · rw [updS0]; exact nI_s
      · rw [updS0]; exact nI_s
      · unfold upd va_up
        by_cases hjx : j = gN σ 9
        · simp only [if_pos hjx]
          have w := u5 j (by omega) (by omega)
          exact ⟨by rw [hjx], trivial, h1, trivial, h2, w.1.symm, by rw [w.1]; decide, w.2.symm⟩
        · simp only [if_neg hjx]
          exact u4 j (by omega)
      · exact u5 j (by omega) h2
      · by_cases hjx : j = gN σ 9
        · have w := u5 j (by omega) (by omega)
          have z : cntT (gA σ 12 39 0) (gA σ 12 46 0) j (gN σ 8) = 0 := cntT0 fun t ht he => by
            have w2 := (y4 t ht).2.2.2.2.2.2.2.2.2.2.2.2.1
            rw [he] at w2
            have w3 : (nI j).toInt = (j : Int) := nI_toInt (by omega)
            rcases w2 with w2 | w2
            · rw [w2] at w3; have : ((-4 : Int32)).toInt = -4 := by decide
              omega
            · omega
          rw [z, w.2]; exact ⟨rfl, by omega⟩
        · exact a7.1 j (by omega)
      · obtain ⟨z1, z2, z3, z4, z5, z6, z7, z8, z9, z10, z11, z12, z13, z14⟩ := y4 t ht
        refine ⟨z1, z2, z3, z4, z5, z6, z7, z8, z9, z10, z11, z12, ?_, z14⟩
        rcases z13 with z | z
        · exact Or.inl z
        · exact Or.inr ⟨z.1, by omega⟩
      · obtain ⟨r1, r2⟩ := a13
        have r3 : nfd 9 = 4 := by decide
        exact ⟨by omega, by omega⟩
  · exact T_tutor_no hI hA
