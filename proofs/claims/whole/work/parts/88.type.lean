theorem am_u : ∀ k, k < 64 → (((nI k).toInt64.toUInt64 &&& Int64.toUInt64 63).toBitVec % 64).toNat = k := by decide +kernel
theorem am_s : ∀ k, k < 64 → (((nI k).toInt64 &&& 63).toBitVec.smod 64).toNat = k := by decide +kernel
theorem b255_32 : ∀ i, i < 32 → (255 : Int32).toBitVec.getLsbD i = decide (i < 8) := by decide +kernel
theorem b255_64 : ∀ i, i < 64 → (255 : Int64).toBitVec.getLsbD i = decide (i < 8) := by decide +kernel
/-- a sign of the word -/
def byt (x : Int64) (k : Nat) : Nat := x.toBitVec.toNat / 2 ^ k % 256
theorem byt_lt (x : Int64) (k : Nat) : byt x k < 256 := Nat.mod_lt _ (by omega)
theorem byt_tb (x : Int64) (k i : Nat) : (byt x k).testBit i = (decide (i < 8) && x.toBitVec.getLsbD (k + i)) := by
  unfold byt
  rw [show (256 : Nat) = 2 ^ 8 from rfl, Nat.testBit_mod_two_pow, Nat.testBit_div_two_pow, Nat.add_comm i k]
  rfl
theorem byt_c (x : Int64) {k : Nat} (hk : k < 64) : (x.toUInt64 >>> ((nI k).toInt64.toUInt64 &&& Int64.toUInt64 63)).toInt64.toInt32 &&& 255 = nI (byt x k) := by
  apply Int32.toBitVec_inj.1
  apply BitVec.eq_of_getLsbD_eq
  intro i hi
  rw [Int32.toBitVec_and, BitVec.getLsbD_and, b255_32 i hi, nI_bit hi, byt_tb]
  show (((x.toUInt64 >>> ((nI k).toInt64.toUInt64 &&& Int64.toUInt64 63)).toBitVec.signExtend 32).getLsbD i && decide (i < 8)) = _
  rw [BitVec.getLsbD_signExtend, decide_eq_true hi, if_pos (by omega), Bool.true_and, UInt64.toBitVec_shiftRight]
  show ((x.toBitVec >>> (((nI k).toInt64.toUInt64 &&& Int64.toUInt64 63).toBitVec % 64).toNat).getLsbD i && decide (i < 8)) = _
  rw [am_u k hk, BitVec.getLsbD_ushiftRight, Bool.and_comm]
theorem byt_m (x : Int64) {k : Nat} (hk : k ≤ 56) : x >>> ((nI k).toInt64 &&& 63) &&& 255 = lN (byt x k) := by
  apply Int64.toBitVec_inj.1
  apply BitVec.eq_of_getLsbD_eq
  intro i hi
  rw [Int64.toBitVec_and, BitVec.getLsbD_and, b255_64 i hi, Int64.toBitVec_shiftRight]
  show ((x.toBitVec.sshiftRight (((nI k).toInt64 &&& 63).toBitVec.smod 64).toNat).getLsbD i && decide (i < 8)) = (BitVec.ofNat 64 (byt x k)).getLsbD i
  rw [am_s k (by omega), BitVec.getLsbD_sshiftRight, BitVec.getLsbD_ofNat, byt_tb, decide_eq_true hi, Bool.true_and]
  by_cases h8 : i < 8
  · rw [decide_eq_true h8, if_pos (by omega), decide_eq_false (show ¬ 64 ≤ i by omega)]
    simp
  · rw [decide_eq_false h8, Bool.and_false, Bool.false_and]
theorem setI_I {σ : St} {c k i : Nat} {v w : Int32} : setI (setI σ c k i v) c k i w = setI σ c k i w := by
  unfold setI
  have : up3 (up3 σ.1 c k i v) c k i w = up3 σ.1 c k i w := by
    funext a b d
    unfold up3
    by_cases h : a = c ∧ b = k ∧ d = i
    · rw [if_pos h, if_pos h]
    · rw [if_neg h, if_neg h, if_neg h]
  show (up3 (up3 σ.1 c k i v) c k i w, _) = _
  rw [this]
theorem setA_I {σ : St} {c k i c' k' i' : Nat} {v : Int32} {f : Nat → Int32} : setA (setI σ c k i v) c' k' i' f = setI (setA σ c' k' i' f) c k i v := rfl
theorem gI_I {σ : St} {c k i : Nat} {v : Int32} : gI (setI σ c k i v) c k i = v := if_pos ⟨rfl, rfl, rfl⟩
section TYP
variable {d : Nat} {Q : Option AV → St → Prop} {σ : St} {w : Int64} {N : Nat}
theorem c_typ_1 (hN : N ≤ 8) : ∀ n m l5, m + n = N → ((∀ j, m ≤ j → j < N → 32 ≤ byt w (8 * j) ∧ byt w (8 * j) ≤ 126) → ∃ l5', Rn d Q (66, 16, [some (vR (some (11, 0, 0))), some (vL w), none, some (vI (nI N)), some (vI (nI m)), l5], [], σ) = Rn d Q (66, 58, [some (vR (some (11, 0, 0))), some (vL w), none, some (vI (nI N)), some (vI (nI N)), l5'], [], σ)) ∧ (¬ (∀ j, m ≤ j → j < N → 32 ≤ byt w (8 * j) ∧ byt w (8 * j) ≤ 126) → Rn d Q (66, 16, [some (vR (some (11, 0, 0))), some (vL w), none, some (vI (nI N)), some (vI (nI m)), l5], [], σ) = Q (some (vI (-1))) σ) := by
  intro n
  induction n with
  | zero =>
    intro m l5 hm
    have e1 : nI N ≤ nI m := nI_le (by omega) (by omega)
    refine ⟨fun _ => ⟨l5, ?_⟩, fun h => absurd (fun j h1 h2 => absurd h2 (by omega)) h⟩
    rw [e66_16]
    simp +decide only [e66_18, e66_19, true_and, and_true, or_true, true_or, if_true, if_false, not_true_eq_false, not_false_eq_true, ne_eq, and_self, e1]
    rw [show m = N by omega]
  | succ n ih =>
    intro m l5 hm
    have e1 : ¬ nI N ≤ nI m := nI_ge (by omega) (by omega)
    have g1 : 8 * nI m = nI (8 * m) := by rw [lN8, pk_mul]
    have g2 := byt_c w (k := 8 * m) (by omega)
    have g3 : (nI (byt w (8 * m))).toInt = (byt w (8 * m) : Int) := nI_toInt (by have := byt_lt w (8 * m); omega)
    obtain ⟨t1, t2⟩ := ih (m + 1) (some (vI (nI (byt w (8 * m))))) (by omega)
    rw [← nI_1] at t1 t2
    by_cases hk : 32 ≤ byt w (8 * m) ∧ byt w (8 * m) ≤ 126
    · have k1 : ¬ (byt w (8 * m) : Int) < 32 := by omega
      have k2 : (byt w (8 * m) : Int) ≤ 126 := by omega
      have hiff : (∀ j, m ≤ j → j < N → 32 ≤ byt w (8 * j) ∧ byt w (8 * j) ≤ 126) ↔ (∀ j, m + 1 ≤ j → j < N → 32 ≤ byt w (8 * j) ∧ byt w (8 * j) ≤ 126) := by
        constructor
        · intro h j h1 h2; exact h j (by omega) h2
        · intro h j h1 h2
          by_cases hj : j = m
          · rw [hj]; exact hk
          · exact h j (by omega) h2
      refine ⟨fun h => ?_, fun h => ?_⟩
      · obtain ⟨l5', q⟩ := t1 (hiff.mp h)
        refine ⟨l5', ?_⟩
        rw [← q, e66_16]
        simp +decide only [e66_0, e66_1, e66_2, e66_5, e66_6, e66_8, e66_11, e66_12, e66_13, e66_14, e66_18, e66_19, e66_22, e66_23, e66_25, e66_27, e66_28, e66_29, e66_30, e66_33, e66_34, e66_36, e66_38, e66_40, e66_43, e66_45, e66_47, e66_50, e66_51, e66_52, e66_55, e66_59, e66_62, e66_65, e66_66, e66_67, e66_69, e66_72, e66_74, e66_75, e66_76, e66_77, e66_78, e66_82, e66_85, e66_86, e66_89, e66_90, e66_92, e66_94, e66_95, e66_96, e66_97, e66_100, e66_101, e66_104, e66_107, e66_110, e66_111, e66_114, e66_117, true_and, and_true, or_true, true_or, if_true, if_false, not_true_eq_false, not_false_eq_true, ne_eq, and_self, Option.toList_some, Option.toList_none, List.cons_append, List.nil_append, catS_0, catS_I, catS_L, catS_R, Option.map_some, Option.map_none, tI_m1000, tI_m20, tI_m14, tI_m13, tI_m12, tI_m11, tI_m4, tI_m3, tI_m2, tI_m1, tI_0, tI_1, tI_2, tI_3, tI_4, tI_5, tI_6, tI_7, tI_8, tI_9, tI_10, tI_11, tI_12, tI_14, tI_15, tI_16, tI_19, tI_20, tI_21, tI_30, tI_31, tI_32, tI_40, tI_60, tI_61, tI_80, tI_90, tI_97, tI_100, tI_101, tI_119, tI_120, tI_121, tI_126, tI_128, tI_255, tI_256, tI_500, tI_512, tI_600, tI_999, tI_1000, tI_3999, tI_4000, tI_4095, tI_4096, tI_99999, tI_100000, tL_0, tL_1, tL_2, tL_3, tL_4, tL_5, tL_7, tL_8, tL_9, tL_15, tL_19, tL_20, tL_32, tL_39, tL_48, tL_57, tL_60, tL_97, tL_100, tL_104, tL_126, tL_255, tL_3999, tL_4095, tL_99999, ltI, leI, e1, g1, g2, g3, k1, k2]
      · rw [← t2 (fun z => h (hiff.mpr z)), e66_16]
        simp +decide only [e66_0, e66_1, e66_2, e66_5, e66_6, e66_8, e66_11, e66_12, e66_13, e66_14, e66_18, e66_19, e66_22, e66_23, e66_25, e66_27, e66_28, e66_29, e66_30, e66_33, e66_34, e66_36, e66_38, e66_40, e66_43, e66_45, e66_47, e66_50, e66_51, e66_52, e66_55, e66_59, e66_62, e66_65, e66_66, e66_67, e66_69, e66_72, e66_74, e66_75, e66_76, e66_77, e66_78, e66_82, e66_85, e66_86, e66_89, e66_90, e66_92, e66_94, e66_95, e66_96, e66_97, e66_100, e66_101, e66_104, e66_107, e66_110, e66_111, e66_114, e66_117, true_and, and_true, or_true, true_or, if_true, if_false, not_true_eq_false, not_false_eq_true, ne_eq, and_self, Option.toList_some, Option.toList_none, List.cons_append, List.nil_append, catS_0, catS_I, catS_L, catS_R, Option.map_some, Option.map_none, tI_m1000, tI_m20, tI_m14, tI_m13, tI_m12, tI_m11, tI_m4, tI_m3, tI_m2, tI_m1, tI_0, tI_1, tI_2, tI_3, tI_4, tI_5, tI_6, tI_7, tI_8, tI_9, tI_10, tI_11, tI_12, tI_14, tI_15, tI_16, tI_19, tI_20, tI_21, tI_30, tI_31, tI_32, tI_40, tI_60, tI_61, tI_80, tI_90, tI_97, tI_100, tI_101, tI_119, tI_120, tI_121, tI_126, tI_128, tI_255, tI_256, tI_500, tI_512, tI_600, tI_999, tI_1000, tI_3999, tI_4000, tI_4095, tI_4096, tI_99999, tI_100000, tL_0, tL_1, tL_2, tL_3, tL_4, tL_5, tL_7, tL_8, tL_9, tL_15, tL_19, tL_20, tL_32, tL_39, tL_48, tL_57, tL_60, tL_97, tL_100, tL_104, tL_126, tL_255, tL_3999, tL_4095, tL_99999, ltI, leI, e1, g1, g2, g3, k1, k2]
    · refine ⟨fun h => absurd (h m (Nat.le_refl _) (by omega)) hk, fun _ => ?_⟩
      rw [e66_16]
      by_cases k1 : (byt w (8 * m) : Int) < 32
      · simp +decide only [e66_0, e66_1, e66_2, e66_5, e66_6, e66_8, e66_11, e66_12, e66_13, e66_14, e66_18, e66_19, e66_22, e66_23, e66_25, e66_27, e66_28, e66_29, e66_30, e66_33, e66_34, e66_36, e66_38, e66_40, e66_43, e66_45, e66_47, e66_50, e66_51, e66_52, e66_55, e66_59, e66_62, e66_65, e66_66, e66_67, e66_69, e66_72, e66_74, e66_75, e66_76, e66_77, e66_78, e66_82, e66_85, e66_86, e66_89, e66_90, e66_92, e66_94, e66_95, e66_96, e66_97, e66_100, e66_101, e66_104, e66_107, e66_110, e66_111, e66_114, e66_117, true_and, and_true, or_true, true_or, if_true, if_false, not_true_eq_false, not_false_eq_true, ne_eq, and_self, Option.toList_some, Option.toList_none, List.cons_append, List.nil_append, catS_0, catS_I, catS_L, catS_R, Option.map_some, Option.map_none, tI_m1000, tI_m20, tI_m14, tI_m13, tI_m12, tI_m11, tI_m4, tI_m3, tI_m2, tI_m1, tI_0, tI_1, tI_2, tI_3, tI_4, tI_5, tI_6, tI_7, tI_8, tI_9, tI_10, tI_11, tI_12, tI_14, tI_15, tI_16, tI_19, tI_20, tI_21, tI_30, tI_31, tI_32, tI_40, tI_60, tI_61, tI_80, tI_90, tI_97, tI_100, tI_101, tI_119, tI_120, tI_121, tI_126, tI_128, tI_255, tI_256, tI_500, tI_512, tI_600, tI_999, tI_1000, tI_3999, tI_4000, tI_4095, tI_4096, tI_99999, tI_100000, tL_0, tL_1, tL_2, tL_3, tL_4, tL_5, tL_7, tL_8, tL_9, tL_15, tL_19, tL_20, tL_32, tL_39, tL_48, tL_57, tL_60, tL_97, tL_100, tL_104, tL_126, tL_255, tL_3999, tL_4095, tL_99999, ltI, leI, e1, g1, g2, g3, k1]
      · have k2 : ¬ (byt w (8 * m) : Int) ≤ 126 := by omega
        simp +decide only [e66_0, e66_1, e66_2, e66_5, e66_6, e66_8, e66_11, e66_12, e66_13, e66_14, e66_18, e66_19, e66_22, e66_23, e66_25, e66_27, e66_28, e66_29, e66_30, e66_33, e66_34, e66_36, e66_38, e66_40, e66_43, e66_45, e66_47, e66_50, e66_51, e66_52, e66_55, e66_59, e66_62, e66_65, e66_66, e66_67, e66_69, e66_72, e66_74, e66_75, e66_76, e66_77, e66_78, e66_82, e66_85, e66_86, e66_89, e66_90, e66_92, e66_94, e66_95, e66_96, e66_97, e66_100, e66_101, e66_104, e66_107, e66_110, e66_111, e66_114, e66_117, true_and, and_true, or_true, true_or, if_true, if_false, not_true_eq_false, not_false_eq_true, ne_eq, and_self, Option.toList_some, Option.toList_none, List.cons_append, List.nil_append, catS_0, catS_I, catS_L, catS_R, Option.map_some, Option.map_none, tI_m1000, tI_m20, tI_m14, tI_m13, tI_m12, tI_m11, tI_m4, tI_m3, tI_m2, tI_m1, tI_0, tI_1, tI_2, tI_3, tI_4, tI_5, tI_6, tI_7, tI_8, tI_9, tI_10, tI_11, tI_12, tI_14, tI_15, tI_16, tI_19, tI_20, tI_21, tI_30, tI_31, tI_32, tI_40, tI_60, tI_61, tI_80, tI_90, tI_97, tI_100, tI_101, tI_119, tI_120, tI_121, tI_126, tI_128, tI_255, tI_256, tI_500, tI_512, tI_600, tI_999, tI_1000, tI_3999, tI_4000, tI_4095, tI_4096, tI_99999, tI_100000, tL_0, tL_1, tL_2, tL_3, tL_4, tL_5, tL_7, tL_8, tL_9, tL_15, tL_19, tL_20, tL_32, tL_39, tL_48, tL_57, tL_60, tL_97, tL_100, tL_104, tL_126, tL_255, tL_3999, tL_4095, tL_99999, ltI, leI, e1, g1, g2, g3, k1, k2]
theorem m_typ_1 (hN : N ≤ 8) : ∀ (m : Nat) (v : Int32), v.toInt = (m : Int) - 1 → m ≤ N → ((∀ j, j < m → 32 ≤ byt w (8 * j) ∧ byt w (8 * j) ≤ 126) → ∃ v', Rn (d + 1) Q (132, 19, [some (vR (some (12, 0, 0))), some (vL w), none, some (vI (nI N)), some (vI v)], [], σ) = Rn (d + 1) Q (132, 55, [some (vR (some (12, 0, 0))), some (vL w), none, some (vI (nI N)), some (vI v')], [], σ)) ∧ (¬ (∀ j, j < m → 32 ≤ byt w (8 * j) ∧ byt w (8 * j) ≤ 126) → Rn (d + 1) Q (132, 19, [some (vR (some (12, 0, 0))), some (vL w), none, some (vI (nI N)), some (vI v)], [], σ) = Q (some (vI (-1))) σ) := by
  intro m
  induction m with
  | zero =>
    intro v hv _
    have e1 : v.toInt < 0 := by omega
    refine ⟨fun _ => ⟨v, ?_⟩, fun h => absurd (fun j h1 => absurd h1 (by omega)) h⟩
    rw [e132_19]
    simp +decide only [e132_21, true_and, and_true, or_true, true_or, if_true, if_false, not_true_eq_false, not_false_eq_true, ne_eq, and_self, ltI, tI_m1000, tI_m20, tI_m14, tI_m13, tI_m12, tI_m11, tI_m4, tI_m3, tI_m2, tI_m1, tI_0, tI_1, tI_2, tI_3, tI_4, tI_5, tI_6, tI_7, tI_8, tI_9, tI_10, tI_11, tI_12, tI_14, tI_15, tI_16, tI_19, tI_20, tI_21, tI_30, tI_31, tI_32, tI_40, tI_60, tI_61, tI_80, tI_90, tI_97, tI_100, tI_101, tI_119, tI_120, tI_121, tI_126, tI_128, tI_255, tI_256, tI_500, tI_512, tI_600, tI_999, tI_1000, tI_3999, tI_4000, tI_4095, tI_4096, tI_99999, tI_100000, tL_0, tL_1, tL_2, tL_3, tL_4, tL_5, tL_7, tL_8, tL_9, tL_15, tL_19, tL_20, tL_32, tL_39, tL_48, tL_57, tL_60, tL_97, tL_100, tL_104, tL_126, tL_255, tL_3999, tL_4095, tL_99999, e1]
  | succ m ih =>
    intro v hv hm
    have hvn : v = nI m := by
      apply Int32.toInt_inj.mp
      rw [nI_toInt (by omega)]
      omega
    subst hvn
    have m2 : (nI m).toInt = (m : Int) := nI_toInt (by omega)
    have m3 : ¬ (m : Int) < 0 := by omega
    have g1 : 8 * nI m = nI (8 * m) := by rw [lN8, pk_mul]
    have g2 := byt_m w (k := 8 * m) (by omega)
    have g3 : (lN (byt w (8 * m))).toInt = (byt w (8 * m) : Int) := lN_toInt (by have := byt_lt w (8 * m); omega)
    obtain ⟨t1, t2⟩ := ih (nI m + (-1)) (by
      cases m with
      | zero => decide
      | succ m => rw [pk_m1, nI_toInt (by omega)]; omega) (by omega)
    by_cases hk : 32 ≤ byt w (8 * m) ∧ byt w (8 * m) ≤ 126
    · have k1 : (32 : Int) ≤ (byt w (8 * m) : Int) := by omega
      have k2 : (byt w (8 * m) : Int) ≤ 126 := by omega
      have hiff : (∀ j, j < m + 1 → 32 ≤ byt w (8 * j) ∧ byt w (8 * j) ≤ 126) ↔ (∀ j, j < m → 32 ≤ byt w (8 * j) ∧ byt w (8 * j) ≤ 126) := by
        constructor
        · intro h j h1; exact h j (by omega)
        · intro h j h1
          by_cases hj : j = m
          · rw [hj]; exact hk
          · exact h j (by omega)
      refine ⟨fun h => ?_, fun h => ?_⟩
      · obtain ⟨v', q⟩ := t1 (hiff.mp h)
        refine ⟨v', ?_⟩
        rw [← q, e132_19]
        simp +decide only [e132_0, e132_1, e132_2, e132_3, e132_6, e132_9, e132_12, e132_13, e132_14, e132_15, e132_16, e132_17, e132_21, e132_24, e132_25, e132_27, e132_29, e132_30, e132_31, e132_34, e132_35, e132_38, e132_41, e132_44, e132_47, e132_48, e132_49, e132_52, e132_56, e132_59, e132_60, e132_61, e132_63, e132_66, e132_68, e132_69, e132_70, e132_71, e132_72, e132_76, e132_79, e132_80, e132_83, e132_84, e132_87, e132_88, e132_90, e132_92, e132_93, e132_94, e132_97, e132_98, e132_99, e132_100, e132_101, e132_102, e132_105, e132_106, e132_107, e132_110, e132_113, e132_116, e132_117, e132_120, true_and, and_true, or_true, true_or, if_true, if_false, not_true_eq_false, not_false_eq_true, ne_eq, and_self, Option.toList_some, Option.toList_none, List.cons_append, List.nil_append, catS_0, catS_I, catS_L, catS_R, Option.map_some, Option.map_none, c_isIn, m_in, wide_toInt, c_isDay, m_isDay, m_isCourse, c_areParts, tI_m1000, tI_m20, tI_m14, tI_m13, tI_m12, tI_m11, tI_m4, tI_m3, tI_m2, tI_m1, tI_0, tI_1, tI_2, tI_3, tI_4, tI_5, tI_6, tI_7, tI_8, tI_9, tI_10, tI_11, tI_12, tI_14, tI_15, tI_16, tI_19, tI_20, tI_21, tI_30, tI_31, tI_32, tI_40, tI_60, tI_61, tI_80, tI_90, tI_97, tI_100, tI_101, tI_119, tI_120, tI_121, tI_126, tI_128, tI_255, tI_256, tI_500, tI_512, tI_600, tI_999, tI_1000, tI_3999, tI_4000, tI_4095, tI_4096, tI_99999, tI_100000, tL_0, tL_1, tL_2, tL_3, tL_4, tL_5, tL_7, tL_8, tL_9, tL_15, tL_19, tL_20, tL_32, tL_39, tL_48, tL_57, tL_60, tL_97, tL_100, tL_104, tL_126, tL_255, tL_3999, tL_4095, tL_99999, ltI, m2, m3, g1, g2, g3, k1, k2]
      · rw [← t2 (fun z => h (hiff.mpr z)), e132_19]
        simp +decide only [e132_0, e132_1, e132_2, e132_3, e132_6, e132_9, e132_12, e132_13, e132_14, e132_15, e132_16, e132_17, e132_21, e132_24, e132_25, e132_27, e132_29, e132_30, e132_31, e132_34, e132_35, e132_38, e132_41, e132_44, e132_47, e132_48, e132_49, e132_52, e132_56, e132_59, e132_60, e132_61, e132_63, e132_66, e132_68, e132_69, e132_70, e132_71, e132_72, e132_76, e132_79, e132_80, e132_83, e132_84, e132_87, e132_88, e132_90, e132_92, e132_93, e132_94, e132_97, e132_98, e132_99, e132_100, e132_101, e132_102, e132_105, e132_106, e132_107, e132_110, e132_113, e132_116, e132_117, e132_120, true_and, and_true, or_true, true_or, if_true, if_false, not_true_eq_false, not_false_eq_true, ne_eq, and_self, Option.toList_some, Option.toList_none, List.cons_append, List.nil_append, catS_0, catS_I, catS_L, catS_R, Option.map_some, Option.map_none, c_isIn, m_in, wide_toInt, c_isDay, m_isDay, m_isCourse, c_areParts, tI_m1000, tI_m20, tI_m14, tI_m13, tI_m12, tI_m11, tI_m4, tI_m3, tI_m2, tI_m1, tI_0, tI_1, tI_2, tI_3, tI_4, tI_5, tI_6, tI_7, tI_8, tI_9, tI_10, tI_11, tI_12, tI_14, tI_15, tI_16, tI_19, tI_20, tI_21, tI_30, tI_31, tI_32, tI_40, tI_60, tI_61, tI_80, tI_90, tI_97, tI_100, tI_101, tI_119, tI_120, tI_121, tI_126, tI_128, tI_255, tI_256, tI_500, tI_512, tI_600, tI_999, tI_1000, tI_3999, tI_4000, tI_4095, tI_4096, tI_99999, tI_100000, tL_0, tL_1, tL_2, tL_3, tL_4, tL_5, tL_7, tL_8, tL_9, tL_15, tL_19, tL_20, tL_32, tL_39, tL_48, tL_57, tL_60, tL_97, tL_100, tL_104, tL_126, tL_255, tL_3999, tL_4095, tL_99999, ltI, m2, m3, g1, g2, g3, k1, k2]
    · have hk' : ¬ ((32 : Int) ≤ (byt w (8 * m) : Int) ∧ (byt w (8 * m) : Int) ≤ 126) := by omega
      refine ⟨fun h => absurd (h m (by omega)) hk, fun _ => ?_⟩
      rw [e132_19]
      simp +decide only [e132_0, e132_1, e132_2, e132_3, e132_6, e132_9, e132_12, e132_13, e132_14, e132_15, e132_16, e132_17, e132_21, e132_24, e132_25, e132_27, e132_29, e132_30, e132_31, e132_34, e132_35, e132_38, e132_41, e132_44, e132_47, e132_48, e132_49, e132_52, e132_56, e132_59, e132_60, e132_61, e132_63, e132_66, e132_68, e132_69, e132_70, e132_71, e132_72, e132_76, e132_79, e132_80, e132_83, e132_84, e132_87, e132_88, e132_90, e132_92, e132_93, e132_94, e132_97, e132_98, e132_99, e132_100, e132_101, e132_102, e132_105, e132_106, e132_107, e132_110, e132_113, e132_116, e132_117, e132_120, true_and, and_true, or_true, true_or, if_true, if_false, not_true_eq_false, not_false_eq_true, ne_eq, and_self, Option.toList_some, Option.toList_none, List.cons_append, List.nil_append, catS_0, catS_I, catS_L, catS_R, Option.map_some, Option.map_none, c_isIn, m_in, wide_toInt, c_isDay, m_isDay, m_isCourse, c_areParts, tI_m1000, tI_m20, tI_m14, tI_m13, tI_m12, tI_m11, tI_m4, tI_m3, tI_m2, tI_m1, tI_0, tI_1, tI_2, tI_3, tI_4, tI_5, tI_6, tI_7, tI_8, tI_9, tI_10, tI_11, tI_12, tI_14, tI_15, tI_16, tI_19, tI_20, tI_21, tI_30, tI_31, tI_32, tI_40, tI_60, tI_61, tI_80, tI_90, tI_97, tI_100, tI_101, tI_119, tI_120, tI_121, tI_126, tI_128, tI_255, tI_256, tI_500, tI_512, tI_600, tI_999, tI_1000, tI_3999, tI_4000, tI_4095, tI_4096, tI_99999, tI_100000, tL_0, tL_1, tL_2, tL_3, tL_4, tL_5, tL_7, tL_8, tL_9, tL_15, tL_19, tL_20, tL_32, tL_39, tL_48, tL_57, tL_60, tL_97, tL_100, tL_104, tL_126, tL_255, tL_3999, tL_4095, tL_99999, ltI, m2, m3, g1, g2, g3, hk']
theorem c_typ_2 {L : Nat} {old : Nat → Int32} {l5 : Option AV} (a1 : SH σ) (hN : N ≤ 8) (hL : L + N ≤ 120) (hok : ∀ j, j < N → 32 ≤ byt w (8 * j) ∧ byt w (8 * j) ≤ 126) : ∀ n m, m + n = N → ∀ v : Int32, v.toInt = (n : Int) - 1 → Rn (d + 1) Q (66, 80, [some (vR (some (11, 0, 0))), some (vL w), none, some (vI (nI N)), some (vI v), l5], [], setI (setA σ 7 0 0 (cpF (fun j => nI (byt w (8 * (N - 1 - j)))) old L m)) 7 1 0 (nI (L + m))) = Q (some (vI (nI (L + N)))) (setI (setA σ 7 0 0 (cpF (fun j => nI (byt w (8 * (N - 1 - j)))) old L N)) 7 1 0 (nI (L + N))) := by
  intro n
  induction n with
  | zero =>
    intro m hm v hv
    have e1 : v.toInt < 0 := by omega
    rw [e66_80]
    simp +decide only [e66_0, e66_1, e66_2, e66_5, e66_6, e66_8, e66_11, e66_12, e66_13, e66_14, e66_18, e66_19, e66_22, e66_23, e66_25, e66_27, e66_28, e66_29, e66_30, e66_33, e66_34, e66_36, e66_38, e66_40, e66_43, e66_45, e66_47, e66_50, e66_51, e66_52, e66_55, e66_59, e66_62, e66_65, e66_66, e66_67, e66_69, e66_72, e66_74, e66_75, e66_76, e66_77, e66_78, e66_82, e66_85, e66_86, e66_89, e66_90, e66_92, e66_94, e66_95, e66_96, e66_97, e66_100, e66_101, e66_104, e66_107, e66_110, e66_111, e66_114, e66_117, true_and, and_true, or_true, true_or, if_true, if_false, not_true_eq_false, not_false_eq_true, ne_eq, and_self, Option.toList_some, Option.toList_none, List.cons_append, List.nil_append, catS_0, catS_I, catS_L, catS_R, Option.map_some, Option.map_none, Option.some.injEq, Sum.inl.injEq, exists_eq_left', exists_eq', ltI, tI_m1000, tI_m20, tI_m14, tI_m13, tI_m12, tI_m11, tI_m4, tI_m3, tI_m2, tI_m1, tI_0, tI_1, tI_2, tI_3, tI_4, tI_5, tI_6, tI_7, tI_8, tI_9, tI_10, tI_11, tI_12, tI_14, tI_15, tI_16, tI_19, tI_20, tI_21, tI_30, tI_31, tI_32, tI_40, tI_60, tI_61, tI_80, tI_90, tI_97, tI_100, tI_101, tI_119, tI_120, tI_121, tI_126, tI_128, tI_255, tI_256, tI_500, tI_512, tI_600, tI_999, tI_1000, tI_3999, tI_4000, tI_4095, tI_4096, tI_99999, tI_100000, tL_0, tL_1, tL_2, tL_3, tL_4, tL_5, tL_7, tL_8, tL_9, tL_15, tL_19, tL_20, tL_32, tL_39, tL_48, tL_57, tL_60, tL_97, tL_100, tL_104, tL_126, tL_255, tL_3999, tL_4095, tL_99999, e1, II, AA, RR, QQ, IA, IR, IQ, AI, AR, AQ, RI, RA, RQ, QI, QA, QR, LI, LA, LR, LQ, NI, NA, NR, NQ, HI, HA, HR, HQ, SI, SA, SR, SQ, N11 a1, N7 a1, R11_0 a1, updS0]
    rw [show m = N by omega]
  | succ n ih =>
    intro m hm v hv
    have hvn : v = nI n := by
      apply Int32.toInt_inj.mp
      rw [nI_toInt (by omega)]
      omega
    subst hvn
    have m2 : (nI n).toInt = (n : Int) := nI_toInt (by omega)
    have m3 : ¬ (n : Int) < 0 := by omega
    have g1 : 8 * nI n = nI (8 * n) := by rw [lN8, pk_mul]
    have g2 := byt_c w (k := 8 * n) (by omega)
    obtain ⟨o1, o2⟩ := hok n (by omega)
    have g3 : (nI (byt w (8 * n))).toInt8.toInt32 = nI (byt w (8 * n)) := byteId (by rw [nI_toInt (by omega)]; omega)
    have t := ih (m + 1) (by omega) (nI n + (-1)) (by
      cases n with
      | zero => decide
      | succ n => rw [pk_m1, nI_toInt (by omega)]; omega)
    rw [← cpF_s, show L + (m + 1) = L + m + 1 by omega, ← nI_1 (L + m)] at t
    rw [show N - 1 - m = n by omega] at t
    have p2 : (nI (L + m)).toInt = ((L + m : Nat) : Int) := nI_toInt (by omega)
    have p3 : (0 : Int) ≤ ((L + m : Nat) : Int) ∧ ((L + m : Nat) : Int) < ((120 : Nat) : Int) := by omega
    have p4 : ¬ (120 : Int) ≤ ((L + m : Nat) : Int) := by omega
    have p5 : (nI (L + m)).toNatClampNeg = L + m := nI_clamp (by omega)
    rw [← t, e66_80]
    simp +decide only [e66_0, e66_1, e66_2, e66_5, e66_6, e66_8, e66_11, e66_12, e66_13, e66_14, e66_18, e66_19, e66_22, e66_23, e66_25, e66_27, e66_28, e66_29, e66_30, e66_33, e66_34, e66_36, e66_38, e66_40, e66_43, e66_45, e66_47, e66_50, e66_51, e66_52, e66_55, e66_59, e66_62, e66_65, e66_66, e66_67, e66_69, e66_72, e66_74, e66_75, e66_76, e66_77, e66_78, e66_82, e66_85, e66_86, e66_89, e66_90, e66_92, e66_94, e66_95, e66_96, e66_97, e66_100, e66_101, e66_104, e66_107, e66_110, e66_111, e66_114, e66_117, e42_0, e42_1, e42_4, e42_6, e42_9, e42_10, e42_13, e42_14, e42_17, e42_18, e42_19, e42_20, e42_21, e42_22, e42_25, e42_26, e42_27, e42_30, true_and, and_true, or_true, true_or, if_true, if_false, not_true_eq_false, not_false_eq_true, ne_eq, and_self, Option.toList_some, Option.toList_none, List.cons_append, List.nil_append, catS_0, catS_I, catS_L, catS_R, Option.map_some, Option.map_none, Option.some.injEq, Sum.inl.injEq, exists_eq_left', exists_eq', ltI, leI, tI_m1000, tI_m20, tI_m14, tI_m13, tI_m12, tI_m11, tI_m4, tI_m3, tI_m2, tI_m1, tI_0, tI_1, tI_2, tI_3, tI_4, tI_5, tI_6, tI_7, tI_8, tI_9, tI_10, tI_11, tI_12, tI_14, tI_15, tI_16, tI_19, tI_20, tI_21, tI_30, tI_31, tI_32, tI_40, tI_60, tI_61, tI_80, tI_90, tI_97, tI_100, tI_101, tI_119, tI_120, tI_121, tI_126, tI_128, tI_255, tI_256, tI_500, tI_512, tI_600, tI_999, tI_1000, tI_3999, tI_4000, tI_4095, tI_4096, tI_99999, tI_100000, tL_0, tL_1, tL_2, tL_3, tL_4, tL_5, tL_7, tL_8, tL_9, tL_15, tL_19, tL_20, tL_32, tL_39, tL_48, tL_57, tL_60, tL_97, tL_100, tL_104, tL_126, tL_255, tL_3999, tL_4095, tL_99999, m2, m3, g1, g2, g3, p2, p3, p4, p5, II, AA, RR, QQ, IA, IR, IQ, AI, AR, AQ, RI, RA, RQ, QI, QA, QR, LI, LA, LR, LQ, NI, NA, NR, NQ, HI, HA, HR, HQ, SI, SA, SR, SQ, N11 a1, N7 a1, R11_0 a1, L7_0 a1, updS0, gA_A, setA_I, setA_A, setI_I]
theorem m_typ_2 {L : Nat} {old : Nat → Int32} (a1 : SH σ) (hN : N ≤ 8) (hL : L + N ≤ 120) : ∀ n m, m + n = N → ∀ v : Int32, v.toInt = (n : Int) - 1 → Rn d Q (132, 74, [some (vR (some (12, 0, 0))), some (vL w), none, some (vI (nI N)), some (vI v)], [], setI (setA σ 12 0 0 (cpF (fun j => nI (byt w (8 * (N - 1 - j)))) old L m)) 12 1 0 (nI (L + m))) = Q (some (vI (nI (L + N)))) (setI (setA σ 12 0 0 (cpF (fun j => nI (byt w (8 * (N - 1 - j)))) old L N)) 12 1 0 (nI (L + N))) := by
  intro n
  induction n with
  | zero =>
    intro m hm v hv
    have e1 : v.toInt < 0 := by omega
    rw [e132_74]
    simp +decide only [e132_0, e132_1, e132_2, e132_3, e132_6, e132_9, e132_12, e132_13, e132_14, e132_15, e132_16, e132_17, e132_21, e132_24, e132_25, e132_27, e132_29, e132_30, e132_31, e132_34, e132_35, e132_38, e132_41, e132_44, e132_47, e132_48, e132_49, e132_52, e132_56, e132_59, e132_60, e132_61, e132_63, e132_66, e132_68, e132_69, e132_70, e132_71, e132_72, e132_76, e132_79, e132_80, e132_83, e132_84, e132_87, e132_88, e132_90, e132_92, e132_93, e132_94, e132_97, e132_98, e132_99, e132_100, e132_101, e132_102, e132_105, e132_106, e132_107, e132_110, e132_113, e132_116, e132_117, e132_120, true_and, and_true, or_true, true_or, if_true, if_false, not_true_eq_false, not_false_eq_true, ne_eq, and_self, Option.toList_some, Option.toList_none, List.cons_append, List.nil_append, catS_0, catS_I, catS_L, catS_R, Option.map_some, Option.map_none, Option.some.injEq, Sum.inl.injEq, exists_eq_left', exists_eq', ltI, tI_m1000, tI_m20, tI_m14, tI_m13, tI_m12, tI_m11, tI_m4, tI_m3, tI_m2, tI_m1, tI_0, tI_1, tI_2, tI_3, tI_4, tI_5, tI_6, tI_7, tI_8, tI_9, tI_10, tI_11, tI_12, tI_14, tI_15, tI_16, tI_19, tI_20, tI_21, tI_30, tI_31, tI_32, tI_40, tI_60, tI_61, tI_80, tI_90, tI_97, tI_100, tI_101, tI_119, tI_120, tI_121, tI_126, tI_128, tI_255, tI_256, tI_500, tI_512, tI_600, tI_999, tI_1000, tI_3999, tI_4000, tI_4095, tI_4096, tI_99999, tI_100000, tL_0, tL_1, tL_2, tL_3, tL_4, tL_5, tL_7, tL_8, tL_9, tL_15, tL_19, tL_20, tL_32, tL_39, tL_48, tL_57, tL_60, tL_97, tL_100, tL_104, tL_126, tL_255, tL_3999, tL_4095, tL_99999, e1, II, AA, RR, QQ, IA, IR, IQ, AI, AR, AQ, RI, RA, RQ, QI, QA, QR, LI, LA, LR, LQ, NI, NA, NR, NQ, HI, HA, HR, HQ, SI, SA, SR, SQ, N12 a1, updS0]
    rw [show m = N by omega]
  | succ n ih =>
    intro m hm v hv
    have hvn : v = nI n := by
      apply Int32.toInt_inj.mp
      rw [nI_toInt (by omega)]
      omega
    subst hvn
    have m2 : (nI n).toInt = (n : Int) := nI_toInt (by omega)
    have m3 : ¬ (n : Int) < 0 := by omega
    have g1 : 8 * nI n = nI (8 * n) := by rw [lN8, pk_mul]
    have g2 := byt_m w (k := 8 * n) (by omega)
    have t := ih (m + 1) (by omega) (nI n + (-1)) (by
      cases n with
      | zero => decide
      | succ n => rw [pk_m1, nI_toInt (by omega)]; omega)
    rw [← cpF_s, show L + (m + 1) = L + m + 1 by omega, ← nI_1 (L + m)] at t
    rw [show N - 1 - m = n by omega] at t
    have p2 : (nI (L + m)).toInt = ((L + m : Nat) : Int) := nI_toInt (by omega)
    have p3 : (0 : Int) ≤ ((L + m : Nat) : Int) ∧ ((L + m : Nat) : Int) < ((120 : Nat) : Int) := by omega
    have p5 : (nI (L + m)).toNatClampNeg = L + m := nI_clamp (by omega)
    rw [← t, e132_74]
    simp +decide only [e132_0, e132_1, e132_2, e132_3, e132_6, e132_9, e132_12, e132_13, e132_14, e132_15, e132_16, e132_17, e132_21, e132_24, e132_25, e132_27, e132_29, e132_30, e132_31, e132_34, e132_35, e132_38, e132_41, e132_44, e132_47, e132_48, e132_49, e132_52, e132_56, e132_59, e132_60, e132_61, e132_63, e132_66, e132_68, e132_69, e132_70, e132_71, e132_72, e132_76, e132_79, e132_80, e132_83, e132_84, e132_87, e132_88, e132_90, e132_92, e132_93, e132_94, e132_97, e132_98, e132_99, e132_100, e132_101, e132_102, e132_105, e132_106, e132_107, e132_110, e132_113, e132_116, e132_117, e132_120, true_and, and_true, or_true, true_or, if_true, if_false, not_true_eq_false, not_false_eq_true, ne_eq, and_self, Option.toList_some, Option.toList_none, List.cons_append, List.nil_append, catS_0, catS_I, catS_L, catS_R, Option.map_some, Option.map_none, Option.some.injEq, Sum.inl.injEq, exists_eq_left', exists_eq', ltI, leI, tI_m1000, tI_m20, tI_m14, tI_m13, tI_m12, tI_m11, tI_m4, tI_m3, tI_m2, tI_m1, tI_0, tI_1, tI_2, tI_3, tI_4, tI_5, tI_6, tI_7, tI_8, tI_9, tI_10, tI_11, tI_12, tI_14, tI_15, tI_16, tI_19, tI_20, tI_21, tI_30, tI_31, tI_32, tI_40, tI_60, tI_61, tI_80, tI_90, tI_97, tI_100, tI_101, tI_119, tI_120, tI_121, tI_126, tI_128, tI_255, tI_256, tI_500, tI_512, tI_600, tI_999, tI_1000, tI_3999, tI_4000, tI_4095, tI_4096, tI_99999, tI_100000, tL_0, tL_1, tL_2, tL_3, tL_4, tL_5, tL_7, tL_8, tL_9, tL_15, tL_19, tL_20, tL_32, tL_39, tL_48, tL_57, tL_60, tL_97, tL_100, tL_104, tL_126, tL_255, tL_3999, tL_4095, tL_99999, m2, m3, g1, g2, lN_i, p2, p3, p5, II, AA, RR, QQ, IA, IR, IQ, AI, AR, AQ, RI, RA, RQ, QI, QA, QR, LI, LA, LR, LQ, NI, NA, NR, NQ, HI, HA, HR, HQ, SI, SA, SR, SQ, N12 a1, L12_0 a1, updS0, gA_A, setA_I, setA_A, setI_I]
end TYP
theorem setI_self (σ : St) (c k i : Nat) : setI σ c k i (gI σ c k i) = σ := by
  unfold setI
  have : up3 σ.1 c k i (gI σ c k i) = σ.1 := by
    funext a b d
    unfold up3
    by_cases h : a = c ∧ b = k ∧ d = i
    · rw [if_pos h]; obtain ⟨rfl, rfl, rfl⟩ := h; rfl
    · rw [if_neg h]
  rw [this]
theorem T_type {h0 n d : Nat} {σ : St} {w : Int64} {a : Int32} (h : Inv h0 n σ) : PR h0 n (d + 1) 66 [some (vR (some (11, 0, 0))), some (vL w), none, some (vI a), none, none] 132 [some (vR (some (12, 0, 0))), some (vL w), none, some (vI a), none] σ := by
  have hI := h.up
  obtain ⟨a1, a2, a3, a4, a5, a6, a7, a8, a9, a10, a11, a12, a13⟩ := h
  unfold PR
  by_cases hA : 1 ≤ a.toInt ∧ a.toInt ≤ 8
  · obtain ⟨N, hN, rfl, -⟩ := nI_ex (n := 9) (a := a) (by omega)
    have n2 : (nI N).toInt = (N : Int) := nI_toInt (by omega)
    rw [n2] at hA
    have hA1 : ¬ (N : Int) < 1 := by omega
    have hv := nI_m1 (n := N) (by omega)
    obtain ⟨L, L1, L2, L3, L4⟩ := a2
    by_cases hok : ∀ j, j < N → 32 ≤ byt w (8 * j) ∧ byt w (8 * j) ≤ 126
    · have c1 := fun {d : Nat} {Q : Option AV → St → Prop} => (c_typ_1 (d := d) (Q := Q) (σ := σ) (w := w) (N := N) (by omega) N 0 none (by omega)).1 (fun j _ hj => hok j hj)
      have m1 := fun {d : Nat} {Q : Option AV → St → Prop} {τ : St} => (m_typ_1 (d := d) (Q := Q) (σ := τ) (w := w) (N := N) (by omega) N (nI N - 1) hv (Nat.le_refl _)).1 hok
      have s1 : nI L + nI N = nI (L + N) := nI_add _ _
      have s2 : (nI (L + N)).toInt = ((L + N : Nat) : Int) := nI_toInt (by omega)
      rw [nI_0] at c1
      by_cases hF : L + N ≤ 120
      · have hF' : ((L + N : Nat) : Int) ≤ 120 := by omega
        have c2 := fun {d : Nat} {Q : Option AV → St → Prop} {l5 : Option AV} => c_typ_2 (d := d) (Q := Q) (σ := σ) (w := w) (N := N) (L := L) (old := gA σ 7 0 0) (l5 := l5) a1 (by omega) hF hok N 0 (by omega) (nI N - 1) hv
        rw [cpF_0, setA_self, Nat.add_zero, ← L2, setI_self] at c2
        have m2 := fun {d : Nat} {Q : Option AV → St → Prop} {τ : St} (s1 : SH τ) (s2 : gI τ 12 1 0 = nI L) => m_typ_2 (d := d) (Q := Q) (σ := τ) (w := w) (N := N) (L := L) (old := gA τ 12 0 0) s1 (by omega) hF N 0 (by omega) (nI N - 1) hv
        obtain ⟨l5', q⟩ := c1 (d := d + 1) (Q := fun r σ1 => ∃ v, r = some (vI v) ∧ Rn (d + 1) (fun r' σ2 => r' = some (vI v) ∧ Inv h0 (n + 1) σ2) (132, 0, [some (vR (some (12, 0, 0))), some (vL w), none, some (vI (nI N)), none], [], σ1))
        simp +decide only [e66_0, e66_1, e66_2, e66_5, e66_6, e66_8, e66_11, e66_12, e66_13, e66_14, e66_18, e66_19, e66_22, e66_23, e66_25, e66_27, e66_28, e66_29, e66_30, e66_33, e66_34, e66_36, e66_38, e66_40, e66_43, e66_45, e66_47, e66_50, e66_51, e66_52, e66_55, e66_59, e66_62, e66_65, e66_66, e66_67, e66_69, e66_72, e66_74, e66_75, e66_76, e66_77, e66_78, e66_82, e66_85, e66_86, e66_89, e66_90, e66_92, e66_94, e66_95, e66_96, e66_97, e66_100, e66_101, e66_104, e66_107, e66_110, e66_111, e66_114, e66_117, true_and, and_true, or_true, true_or, if_true, if_false, not_true_eq_false, not_false_eq_true, ne_eq, and_self, Option.toList_some, Option.toList_none, List.cons_append, List.nil_append, catS_0, catS_I, catS_L, catS_R, Option.map_some, Option.map_none, Option.some.injEq, Sum.inl.injEq, exists_eq_left', exists_eq', tI_m1000, tI_m20, tI_m14, tI_m13, tI_m12, tI_m11, tI_m4, tI_m3, tI_m2, tI_m1, tI_0, tI_1, tI_2, tI_3, tI_4, tI_5, tI_6, tI_7, tI_8, tI_9, tI_10, tI_11, tI_12, tI_14, tI_15, tI_16, tI_19, tI_20, tI_21, tI_30, tI_31, tI_32, tI_40, tI_60, tI_61, tI_80, tI_90, tI_97, tI_100, tI_101, tI_119, tI_120, tI_121, tI_126, tI_128, tI_255, tI_256, tI_500, tI_512, tI_600, tI_999, tI_1000, tI_3999, tI_4000, tI_4095, tI_4096, tI_99999, tI_100000, tL_0, tL_1, tL_2, tL_3, tL_4, tL_5, tL_7, tL_8, tL_9, tL_15, tL_19, tL_20, tL_32, tL_39, tL_48, tL_57, tL_60, tL_97, tL_100, tL_104, tL_126, tL_255, tL_3999, tL_4095, tL_99999, ltI, leI, n2, hA, hA1, q]
        rw [e66_58]
        simp +decide only [e66_0, e66_1, e66_2, e66_5, e66_6, e66_8, e66_11, e66_12, e66_13, e66_14, e66_18, e66_19, e66_22, e66_23, e66_25, e66_27, e66_28, e66_29, e66_30, e66_33, e66_34, e66_36, e66_38, e66_40, e66_43, e66_45, e66_47, e66_50, e66_51, e66_52, e66_55, e66_59, e66_62, e66_65, e66_66, e66_67, e66_69, e66_72, e66_74, e66_75, e66_76, e66_77, e66_78, e66_82, e66_85, e66_86, e66_89, e66_90, e66_92, e66_94, e66_95, e66_96, e66_97, e66_100, e66_101, e66_104, e66_107, e66_110, e66_111, e66_114, e66_117, true_and, and_true, or_true, true_or, if_true, if_false, not_true_eq_false, not_false_eq_true, ne_eq, and_self, Option.toList_some, Option.toList_none, List.cons_append, List.nil_append, catS_0, catS_I, catS_L, catS_R, Option.map_some, Option.map_none, Option.some.injEq, Sum.inl.injEq, exists_eq_left', exists_eq', tI_m1000, tI_m20, tI_m14, tI_m13, tI_m12, tI_m11, tI_m4, tI_m3, tI_m2, tI_m1, tI_0, tI_1, tI_2, tI_3, tI_4, tI_5, tI_6, tI_7, tI_8, tI_9, tI_10, tI_11, tI_12, tI_14, tI_15, tI_16, tI_19, tI_20, tI_21, tI_30, tI_31, tI_32, tI_40, tI_60, tI_61, tI_80, tI_90, tI_97, tI_100, tI_101, tI_119, tI_120, tI_121, tI_126, tI_128, tI_255, tI_256, tI_500, tI_512, tI_600, tI_999, tI_1000, tI_3999, tI_4000, tI_4095, tI_4096, tI_99999, tI_100000, tL_0, tL_1, tL_2, tL_3, tL_4, tL_5, tL_7, tL_8, tL_9, tL_15, tL_19, tL_20, tL_32, tL_39, tL_48, tL_57, tL_60, tL_97, tL_100, tL_104, tL_126, tL_255, tL_3999, tL_4095, tL_99999, ltI, leI, n2, L2, s1, s2, hF', N11 a1, N7 a1, R11_0 a1]
        rw [c2]
        refine ⟨nI (L + N), rfl, ?_⟩
        generalize hτ : setI (setA σ 7 0 0 (cpF (fun j => nI (byt w (8 * (N - 1 - j)))) (gA σ 7 0 0) L N)) 7 1 0 (nI (L + N)) = τ
        have q1 : SH τ := by rw [← hτ]; exact a1
        have qI : gI τ 12 1 0 = nI L := by rw [← hτ]; simp +decide only [II, AA, RR, QQ, IA, IR, IQ, AI, AR, AQ, RI, RA, RQ, QI, QA, QR, LI, LA, LR, LQ, NI, NA, NR, NQ, HI, HA, HR, HQ, SI, SA, SR, SQ, true_and, and_true, or_true, true_or, if_true, if_false, not_true_eq_false, not_false_eq_true, ne_eq, and_self]; exact L3
        have qA : gA τ 12 0 0 = gA σ 12 0 0 := by rw [← hτ]; simp +decide only [II, AA, RR, QQ, IA, IR, IQ, AI, AR, AQ, RI, RA, RQ, QI, QA, QR, LI, LA, LR, LQ, NI, NA, NR, NQ, HI, HA, HR, HQ, SI, SA, SR, SQ, true_and, and_true, or_true, true_or, if_true, if_false, not_true_eq_false, not_false_eq_true, ne_eq, and_self]
        have m2' := m2 (d := d + 1) (Q := fun r' σ2 => r' = some (vI (nI (L + N))) ∧ Inv h0 (n + 1) σ2) q1 qI
        rw [cpF_0, setA_self, Nat.add_zero L, ← qI, setI_self] at m2'
        obtain ⟨v', q'⟩ := m1 (d := d) (Q := fun r' σ2 => r' = some (vI (nI (L + N))) ∧ Inv h0 (n + 1) σ2) (τ := τ)
        simp +decide only [e132_0, e132_1, e132_2, e132_3, e132_6, e132_9, e132_12, e132_13, e132_14, e132_15, e132_16, e132_17, e132_21, e132_24, e132_25, e132_27, e132_29, e132_30, e132_31, e132_34, e132_35, e132_38, e132_41, e132_44, e132_47, e132_48, e132_49, e132_52, e132_56, e132_59, e132_60, e132_61, e132_63, e132_66, e132_68, e132_69, e132_70, e132_71, e132_72, e132_76, e132_79, e132_80, e132_83, e132_84, e132_87, e132_88, e132_90, e132_92, e132_93, e132_94, e132_97, e132_98, e132_99, e132_100, e132_101, e132_102, e132_105, e132_106, e132_107, e132_110, e132_113, e132_116, e132_117, e132_120, true_and, and_true, or_true, true_or, if_true, if_false, not_true_eq_false, not_false_eq_true, ne_eq, and_self, Option.toList_some, Option.toList_none, List.cons_append, List.nil_append, catS_0, catS_I, catS_L, catS_R, Option.map_some, Option.map_none, c_isIn, m_in, wide_toInt, c_isDay, m_isDay, m_isCourse, c_areParts, Option.some.injEq, Sum.inl.injEq, exists_eq_left', exists_eq', tI_m1000, tI_m20, tI_m14, tI_m13, tI_m12, tI_m11, tI_m4, tI_m3, tI_m2, tI_m1, tI_0, tI_1, tI_2, tI_3, tI_4, tI_5, tI_6, tI_7, tI_8, tI_9, tI_10, tI_11, tI_12, tI_14, tI_15, tI_16, tI_19, tI_20, tI_21, tI_30, tI_31, tI_32, tI_40, tI_60, tI_61, tI_80, tI_90, tI_97, tI_100, tI_101, tI_119, tI_120, tI_121, tI_126, tI_128, tI_255, tI_256, tI_500, tI_512, tI_600, tI_999, tI_1000, tI_3999, tI_4000, tI_4095, tI_4096, tI_99999, tI_100000, tL_0, tL_1, tL_2, tL_3, tL_4, tL_5, tL_7, tL_8, tL_9, tL_15, tL_19, tL_20, tL_32, tL_39, tL_48, tL_57, tL_60, tL_97, tL_100, tL_104, tL_126, tL_255, tL_3999, tL_4095, tL_99999, n2, hA, q']
        rw [e132_55]
        simp +decide only [e132_0, e132_1, e132_2, e132_3, e132_6, e132_9, e132_12, e132_13, e132_14, e132_15, e132_16, e132_17, e132_21, e132_24, e132_25, e132_27, e132_29, e132_30, e132_31, e132_34, e132_35, e132_38, e132_41, e132_44, e132_47, e132_48, e132_49, e132_52, e132_56, e132_59, e132_60, e132_61, e132_63, e132_66, e132_68, e132_69, e132_70, e132_71, e132_72, e132_76, e132_79, e132_80, e132_83, e132_84, e132_87, e132_88, e132_90, e132_92, e132_93, e132_94, e132_97, e132_98, e132_99, e132_100, e132_101, e132_102, e132_105, e132_106, e132_107, e132_110, e132_113, e132_116, e132_117, e132_120, true_and, and_true, or_true, true_or, if_true, if_false, not_true_eq_false, not_false_eq_true, ne_eq, and_self, Option.toList_some, Option.toList_none, List.cons_append, List.nil_append, catS_0, catS_I, catS_L, catS_R, Option.map_some, Option.map_none, Option.some.injEq, Sum.inl.injEq, exists_eq_left', exists_eq', tI_m1000, tI_m20, tI_m14, tI_m13, tI_m12, tI_m11, tI_m4, tI_m3, tI_m2, tI_m1, tI_0, tI_1, tI_2, tI_3, tI_4, tI_5, tI_6, tI_7, tI_8, tI_9, tI_10, tI_11, tI_12, tI_14, tI_15, tI_16, tI_19, tI_20, tI_21, tI_30, tI_31, tI_32, tI_40, tI_60, tI_61, tI_80, tI_90, tI_97, tI_100, tI_101, tI_119, tI_120, tI_121, tI_126, tI_128, tI_255, tI_256, tI_500, tI_512, tI_600, tI_999, tI_1000, tI_3999, tI_4000, tI_4095, tI_4096, tI_99999, tI_100000, tL_0, tL_1, tL_2, tL_3, tL_4, tL_5, tL_7, tL_8, tL_9, tL_15, tL_19, tL_20, tL_32, tL_39, tL_48, tL_57, tL_60, tL_97, tL_100, tL_104, tL_126, tL_255, tL_3999, tL_4095, tL_99999, leI, n2, qI, s1, s2, hF', N12 q1]
        rw [m2']
        refine ⟨rfl, ?_⟩
        rw [qA]
        subst hτ
        refine ⟨a1, ?_⟩
        simp +decide only [II, AA, RR, QQ, IA, IR, IQ, AI, AR, AQ, RI, RA, RQ, QI, QA, QR, LI, LA, LR, LQ, NI, NA, NR, NQ, HI, HA, HR, HQ, SI, SA, SR, SQ, true_and, and_true, or_true, true_or, if_true, if_false, not_true_eq_false, not_false_eq_true, ne_eq, and_self]
        refine ⟨⟨L + N, hF, updS0, updS0, fun j hj => ?_⟩, a3, a4.up, a5, a6, a7, a8, a9, a10.up, a11, a12, a13.up⟩
        unfold cpF
        by_cases hj2 : L ≤ j ∧ j < L + N
        · simp only [if_pos hj2]
          have o := hok (N - 1 - (j - L)) (by omega)
          rw [nI_toInt (by omega)]
          exact ⟨trivial, by omega, by omega⟩
        · simp only [if_neg hj2]
          exact L4 j (by omega)
      · have hF' : ¬ ((L + N : Nat) : Int) ≤ 120 := by omega
        obtain ⟨l5', q⟩ := c1 (d := d + 1) (Q := fun r σ1 => ∃ v, r = some (vI v) ∧ Rn (d + 1) (fun r' σ2 => r' = some (vI v) ∧ Inv h0 (n + 1) σ2) (132, 0, [some (vR (some (12, 0, 0))), some (vL w), none, some (vI (nI N)), none], [], σ1))
        simp +decide only [e66_0, e66_1, e66_2, e66_5, e66_6, e66_8, e66_11, e66_12, e66_13, e66_14, e66_18, e66_19, e66_22, e66_23, e66_25, e66_27, e66_28, e66_29, e66_30, e66_33, e66_34, e66_36, e66_38, e66_40, e66_43, e66_45, e66_47, e66_50, e66_51, e66_52, e66_55, e66_59, e66_62, e66_65, e66_66, e66_67, e66_69, e66_72, e66_74, e66_75, e66_76, e66_77, e66_78, e66_82, e66_85, e66_86, e66_89, e66_90, e66_92, e66_94, e66_95, e66_96, e66_97, e66_100, e66_101, e66_104, e66_107, e66_110, e66_111, e66_114, e66_117, true_and, and_true, or_true, true_or, if_true, if_false, not_true_eq_false, not_false_eq_true, ne_eq, and_self, Option.toList_some, Option.toList_none, List.cons_append, List.nil_append, catS_0, catS_I, catS_L, catS_R, Option.map_some, Option.map_none, Option.some.injEq, Sum.inl.injEq, exists_eq_left', exists_eq', tI_m1000, tI_m20, tI_m14, tI_m13, tI_m12, tI_m11, tI_m4, tI_m3, tI_m2, tI_m1, tI_0, tI_1, tI_2, tI_3, tI_4, tI_5, tI_6, tI_7, tI_8, tI_9, tI_10, tI_11, tI_12, tI_14, tI_15, tI_16, tI_19, tI_20, tI_21, tI_30, tI_31, tI_32, tI_40, tI_60, tI_61, tI_80, tI_90, tI_97, tI_100, tI_101, tI_119, tI_120, tI_121, tI_126, tI_128, tI_255, tI_256, tI_500, tI_512, tI_600, tI_999, tI_1000, tI_3999, tI_4000, tI_4095, tI_4096, tI_99999, tI_100000, tL_0, tL_1, tL_2, tL_3, tL_4, tL_5, tL_7, tL_8, tL_9, tL_15, tL_19, tL_20, tL_32, tL_39, tL_48, tL_57, tL_60, tL_97, tL_100, tL_104, tL_126, tL_255, tL_3999, tL_4095, tL_99999, ltI, leI, n2, hA, hA1, q]
        rw [e66_58]
        simp +decide only [e66_0, e66_1, e66_2, e66_5, e66_6, e66_8, e66_11, e66_12, e66_13, e66_14, e66_18, e66_19, e66_22, e66_23, e66_25, e66_27, e66_28, e66_29, e66_30, e66_33, e66_34, e66_36, e66_38, e66_40, e66_43, e66_45, e66_47, e66_50, e66_51, e66_52, e66_55, e66_59, e66_62, e66_65, e66_66, e66_67, e66_69, e66_72, e66_74, e66_75, e66_76, e66_77, e66_78, e66_82, e66_85, e66_86, e66_89, e66_90, e66_92, e66_94, e66_95, e66_96, e66_97, e66_100, e66_101, e66_104, e66_107, e66_110, e66_111, e66_114, e66_117, true_and, and_true, or_true, true_or, if_true, if_false, not_true_eq_false, not_false_eq_true, ne_eq, and_self, Option.toList_some, Option.toList_none, List.cons_append, List.nil_append, catS_0, catS_I, catS_L, catS_R, Option.map_some, Option.map_none, Option.some.injEq, Sum.inl.injEq, exists_eq_left', exists_eq', tI_m1000, tI_m20, tI_m14, tI_m13, tI_m12, tI_m11, tI_m4, tI_m3, tI_m2, tI_m1, tI_0, tI_1, tI_2, tI_3, tI_4, tI_5, tI_6, tI_7, tI_8, tI_9, tI_10, tI_11, tI_12, tI_14, tI_15, tI_16, tI_19, tI_20, tI_21, tI_30, tI_31, tI_32, tI_40, tI_60, tI_61, tI_80, tI_90, tI_97, tI_100, tI_101, tI_119, tI_120, tI_121, tI_126, tI_128, tI_255, tI_256, tI_500, tI_512, tI_600, tI_999, tI_1000, tI_3999, tI_4000, tI_4095, tI_4096, tI_99999, tI_100000, tL_0, tL_1, tL_2, tL_3, tL_4, tL_5, tL_7, tL_8, tL_9, tL_15, tL_19, tL_20, tL_32, tL_39, tL_48, tL_57, tL_60, tL_97, tL_100, tL_104, tL_126, tL_255, tL_3999, tL_4095, tL_99999, ltI, leI, n2, L2, s1, s2, hF', N11 a1, N7 a1, R11_0 a1]
        obtain ⟨v', q'⟩ := m1 (d := d) (Q := fun r' σ2 => r' = some (vI (-3)) ∧ Inv h0 (n + 1) σ2) (τ := σ)
        simp +decide only [e132_0, e132_1, e132_2, e132_3, e132_6, e132_9, e132_12, e132_13, e132_14, e132_15, e132_16, e132_17, e132_21, e132_24, e132_25, e132_27, e132_29, e132_30, e132_31, e132_34, e132_35, e132_38, e132_41, e132_44, e132_47, e132_48, e132_49, e132_52, e132_56, e132_59, e132_60, e132_61, e132_63, e132_66, e132_68, e132_69, e132_70, e132_71, e132_72, e132_76, e132_79, e132_80, e132_83, e132_84, e132_87, e132_88, e132_90, e132_92, e132_93, e132_94, e132_97, e132_98, e132_99, e132_100, e132_101, e132_102, e132_105, e132_106, e132_107, e132_110, e132_113, e132_116, e132_117, e132_120, true_and, and_true, or_true, true_or, if_true, if_false, not_true_eq_false, not_false_eq_true, ne_eq, and_self, Option.toList_some, Option.toList_none, List.cons_append, List.nil_append, catS_0, catS_I, catS_L, catS_R, Option.map_some, Option.map_none, c_isIn, m_in, wide_toInt, c_isDay, m_isDay, m_isCourse, c_areParts, Option.some.injEq, Sum.inl.injEq, exists_eq_left', exists_eq', tI_m1000, tI_m20, tI_m14, tI_m13, tI_m12, tI_m11, tI_m4, tI_m3, tI_m2, tI_m1, tI_0, tI_1, tI_2, tI_3, tI_4, tI_5, tI_6, tI_7, tI_8, tI_9, tI_10, tI_11, tI_12, tI_14, tI_15, tI_16, tI_19, tI_20, tI_21, tI_30, tI_31, tI_32, tI_40, tI_60, tI_61, tI_80, tI_90, tI_97, tI_100, tI_101, tI_119, tI_120, tI_121, tI_126, tI_128, tI_255, tI_256, tI_500, tI_512, tI_600, tI_999, tI_1000, tI_3999, tI_4000, tI_4095, tI_4096, tI_99999, tI_100000, tL_0, tL_1, tL_2, tL_3, tL_4, tL_5, tL_7, tL_8, tL_9, tL_15, tL_19, tL_20, tL_32, tL_39, tL_48, tL_57, tL_60, tL_97, tL_100, tL_104, tL_126, tL_255, tL_3999, tL_4095, tL_99999, n2, hA, q']
        rw [e132_55]
        simp +decide only [e132_0, e132_1, e132_2, e132_3, e132_6, e132_9, e132_12, e132_13, e132_14, e132_15, e132_16, e132_17, e132_21, e132_24, e132_25, e132_27, e132_29, e132_30, e132_31, e132_34, e132_35, e132_38, e132_41, e132_44, e132_47, e132_48, e132_49, e132_52, e132_56, e132_59, e132_60, e132_61, e132_63, e132_66, e132_68, e132_69, e132_70, e132_71, e132_72, e132_76, e132_79, e132_80, e132_83, e132_84, e132_87, e132_88, e132_90, e132_92, e132_93, e132_94, e132_97, e132_98, e132_99, e132_100, e132_101, e132_102, e132_105, e132_106, e132_107, e132_110, e132_113, e132_116, e132_117, e132_120, true_and, and_true, or_true, true_or, if_true, if_false, not_true_eq_false, not_false_eq_true, ne_eq, and_self, Option.toList_some, Option.toList_none, List.cons_append, List.nil_append, catS_0, catS_I, catS_L, catS_R, Option.map_some, Option.map_none, Option.some.injEq, Sum.inl.injEq, exists_eq_left', exists_eq', tI_m1000, tI_m20, tI_m14, tI_m13, tI_m12, tI_m11, tI_m4, tI_m3, tI_m2, tI_m1, tI_0, tI_1, tI_2, tI_3, tI_4, tI_5, tI_6, tI_7, tI_8, tI_9, tI_10, tI_11, tI_12, tI_14, tI_15, tI_16, tI_19, tI_20, tI_21, tI_30, tI_31, tI_32, tI_40, tI_60, tI_61, tI_80, tI_90, tI_97, tI_100, tI_101, tI_119, tI_120, tI_121, tI_126, tI_128, tI_255, tI_256, tI_500, tI_512, tI_600, tI_999, tI_1000, tI_3999, tI_4000, tI_4095, tI_4096, tI_99999, tI_100000, tL_0, tL_1, tL_2, tL_3, tL_4, tL_5, tL_7, tL_8, tL_9, tL_15, tL_19, tL_20, tL_32, tL_39, tL_48, tL_57, tL_60, tL_97, tL_100, tL_104, tL_126, tL_255, tL_3999, tL_4095, tL_99999, leI, n2, L3, s1, s2, hF', N12 a1, hI]
    · have c1 := fun {d : Nat} {Q : Option AV → St → Prop} => (c_typ_1 (d := d) (Q := Q) (σ := σ) (w := w) (N := N) (by omega) N 0 none (by omega)).2 (fun z => hok (fun j hj => z j (by omega) hj))
      have m1 := fun {d : Nat} {Q : Option AV → St → Prop} => (m_typ_1 (d := d) (Q := Q) (σ := σ) (w := w) (N := N) (by omega) N (nI N - 1) hv (Nat.le_refl _)).2 hok
      rw [nI_0] at c1
      simp +decide only [e66_0, e66_1, e66_2, e66_5, e66_6, e66_8, e66_11, e66_12, e66_13, e66_14, e66_18, e66_19, e66_22, e66_23, e66_25, e66_27, e66_28, e66_29, e66_30, e66_33, e66_34, e66_36, e66_38, e66_40, e66_43, e66_45, e66_47, e66_50, e66_51, e66_52, e66_55, e66_59, e66_62, e66_65, e66_66, e66_67, e66_69, e66_72, e66_74, e66_75, e66_76, e66_77, e66_78, e66_82, e66_85, e66_86, e66_89, e66_90, e66_92, e66_94, e66_95, e66_96, e66_97, e66_100, e66_101, e66_104, e66_107, e66_110, e66_111, e66_114, e66_117, true_and, and_true, or_true, true_or, if_true, if_false, not_true_eq_false, not_false_eq_true, ne_eq, and_self, Option.toList_some, Option.toList_none, List.cons_append, List.nil_append, catS_0, catS_I, catS_L, catS_R, Option.map_some, Option.map_none, Option.some.injEq, Sum.inl.injEq, exists_eq_left', exists_eq', tI_m1000, tI_m20, tI_m14, tI_m13, tI_m12, tI_m11, tI_m4, tI_m3, tI_m2, tI_m1, tI_0, tI_1, tI_2, tI_3, tI_4, tI_5, tI_6, tI_7, tI_8, tI_9, tI_10, tI_11, tI_12, tI_14, tI_15, tI_16, tI_19, tI_20, tI_21, tI_30, tI_31, tI_32, tI_40, tI_60, tI_61, tI_80, tI_90, tI_97, tI_100, tI_101, tI_119, tI_120, tI_121, tI_126, tI_128, tI_255, tI_256, tI_500, tI_512, tI_600, tI_999, tI_1000, tI_3999, tI_4000, tI_4095, tI_4096, tI_99999, tI_100000, tL_0, tL_1, tL_2, tL_3, tL_4, tL_5, tL_7, tL_8, tL_9, tL_15, tL_19, tL_20, tL_32, tL_39, tL_48, tL_57, tL_60, tL_97, tL_100, tL_104, tL_126, tL_255, tL_3999, tL_4095, tL_99999, ltI, leI, n2, hA, hA1, c1]
      simp +decide only [e132_0, e132_1, e132_2, e132_3, e132_6, e132_9, e132_12, e132_13, e132_14, e132_15, e132_16, e132_17, e132_21, e132_24, e132_25, e132_27, e132_29, e132_30, e132_31, e132_34, e132_35, e132_38, e132_41, e132_44, e132_47, e132_48, e132_49, e132_52, e132_56, e132_59, e132_60, e132_61, e132_63, e132_66, e132_68, e132_69, e132_70, e132_71, e132_72, e132_76, e132_79, e132_80, e132_83, e132_84, e132_87, e132_88, e132_90, e132_92, e132_93, e132_94, e132_97, e132_98, e132_99, e132_100, e132_101, e132_102, e132_105, e132_106, e132_107, e132_110, e132_113, e132_116, e132_117, e132_120, true_and, and_true, or_true, true_or, if_true, if_false, not_true_eq_false, not_false_eq_true, ne_eq, and_self, Option.toList_some, Option.toList_none, List.cons_append, List.nil_append, catS_0, catS_I, catS_L, catS_R, Option.map_some, Option.map_none, c_isIn, m_in, wide_toInt, c_isDay, m_isDay, m_isCourse, c_areParts, Option.some.injEq, Sum.inl.injEq, exists_eq_left', exists_eq', tI_m1000, tI_m20, tI_m14, tI_m13, tI_m12, tI_m11, tI_m4, tI_m3, tI_m2, tI_m1, tI_0, tI_1, tI_2, tI_3, tI_4, tI_5, tI_6, tI_7, tI_8, tI_9, tI_10, tI_11, tI_12, tI_14, tI_15, tI_16, tI_19, tI_20, tI_21, tI_30, tI_31, tI_32, tI_40, tI_60, tI_61, tI_80, tI_90, tI_97, tI_100, tI_101, tI_119, tI_120, tI_121, tI_126, tI_128, tI_255, tI_256, tI_500, tI_512, tI_600, tI_999, tI_1000, tI_3999, tI_4000, tI_4095, tI_4096, tI_99999, tI_100000, tL_0, tL_1, tL_2, tL_3, tL_4, tL_5, tL_7, tL_8, tL_9, tL_15, tL_19, tL_20, tL_32, tL_39, tL_48, tL_57, tL_60, tL_97, tL_100, tL_104, tL_126, tL_255, tL_3999, tL_4095, tL_99999, n2, hA, m1, hI]
  · by_cases hA1 : a.toInt < 1
    · simp +decide only [e66_0, e66_1, e66_2, e66_5, e66_6, e66_8, e66_11, e66_12, e66_13, e66_14, e66_18, e66_19, e66_22, e66_23, e66_25, e66_27, e66_28, e66_29, e66_30, e66_33, e66_34, e66_36, e66_38, e66_40, e66_43, e66_45, e66_47, e66_50, e66_51, e66_52, e66_55, e66_58, e66_59, e66_62, e66_65, e66_66, e66_67, e66_69, e66_72, e66_74, e66_75, e66_76, e66_77, e66_78, e66_82, e66_85, e66_86, e66_89, e66_90, e66_92, e66_94, e66_95, e66_96, e66_97, e66_100, e66_101, e66_104, e66_107, e66_110, e66_111, e66_114, e66_117, true_and, and_true, or_true, true_or, if_true, if_false, not_true_eq_false, not_false_eq_true, ne_eq, and_self, Option.toList_some, Option.toList_none, List.cons_append, List.nil_append, catS_0, catS_I, catS_L, catS_R, Option.map_some, Option.map_none, Option.some.injEq, Sum.inl.injEq, exists_eq_left', exists_eq', tI_m1000, tI_m20, tI_m14, tI_m13, tI_m12, tI_m11, tI_m4, tI_m3, tI_m2, tI_m1, tI_0, tI_1, tI_2, tI_3, tI_4, tI_5, tI_6, tI_7, tI_8, tI_9, tI_10, tI_11, tI_12, tI_14, tI_15, tI_16, tI_19, tI_20, tI_21, tI_30, tI_31, tI_32, tI_40, tI_60, tI_61, tI_80, tI_90, tI_97, tI_100, tI_101, tI_119, tI_120, tI_121, tI_126, tI_128, tI_255, tI_256, tI_500, tI_512, tI_600, tI_999, tI_1000, tI_3999, tI_4000, tI_4095, tI_4096, tI_99999, tI_100000, tL_0, tL_1, tL_2, tL_3, tL_4, tL_5, tL_7, tL_8, tL_9, tL_15, tL_19, tL_20, tL_32, tL_39, tL_48, tL_57, tL_60, tL_97, tL_100, tL_104, tL_126, tL_255, tL_3999, tL_4095, tL_99999, ltI, leI, hA1]
      simp +decide only [e132_0, e132_1, e132_2, e132_3, e132_6, e132_9, e132_12, e132_13, e132_14, e132_15, e132_16, e132_17, e132_21, e132_24, e132_25, e132_27, e132_29, e132_30, e132_31, e132_34, e132_35, e132_38, e132_41, e132_44, e132_47, e132_48, e132_49, e132_52, e132_55, e132_56, e132_59, e132_60, e132_61, e132_63, e132_66, e132_68, e132_69, e132_70, e132_71, e132_72, e132_76, e132_79, e132_80, e132_83, e132_84, e132_87, e132_88, e132_90, e132_92, e132_93, e132_94, e132_97, e132_98, e132_99, e132_100, e132_101, e132_102, e132_105, e132_106, e132_107, e132_110, e132_113, e132_116, e132_117, e132_120, true_and, and_true, or_true, true_or, if_true, if_false, not_true_eq_false, not_false_eq_true, ne_eq, and_self, Option.toList_some, Option.toList_none, List.cons_append, List.nil_append, catS_0, catS_I, catS_L, catS_R, Option.map_some, Option.map_none, c_isIn, m_in, wide_toInt, c_isDay, m_isDay, m_isCourse, c_areParts, Option.some.injEq, Sum.inl.injEq, exists_eq_left', exists_eq', tI_m1000, tI_m20, tI_m14, tI_m13, tI_m12, tI_m11, tI_m4, tI_m3, tI_m2, tI_m1, tI_0, tI_1, tI_2, tI_3, tI_4, tI_5, tI_6, tI_7, tI_8, tI_9, tI_10, tI_11, tI_12, tI_14, tI_15, tI_16, tI_19, tI_20, tI_21, tI_30, tI_31, tI_32, tI_40, tI_60, tI_61, tI_80, tI_90, tI_97, tI_100, tI_101, tI_119, tI_120, tI_121, tI_126, tI_128, tI_255, tI_256, tI_500, tI_512, tI_600, tI_999, tI_1000, tI_3999, tI_4000, tI_4095, tI_4096, tI_99999, tI_100000, tL_0, tL_1, tL_2, tL_3, tL_4, tL_5, tL_7, tL_8, tL_9, tL_15, tL_19, tL_20, tL_32, tL_39, tL_48, tL_57, tL_60, tL_97, tL_100, tL_104, tL_126, tL_255, tL_3999, tL_4095, tL_99999, hA, hI]
    · have hA2 : ¬ a.toInt ≤ 8 := by omega
      simp +decide only [e66_0, e66_1, e66_2, e66_5, e66_6, e66_8, e66_11, e66_12, e66_13, e66_14, e66_18, e66_19, e66_22, e66_23, e66_25, e66_27, e66_28, e66_29, e66_30, e66_33, e66_34, e66_36, e66_38, e66_40, e66_43, e66_45, e66_47, e66_50, e66_51, e66_52, e66_55, e66_58, e66_59, e66_62, e66_65, e66_66, e66_67, e66_69, e66_72, e66_74, e66_75, e66_76, e66_77, e66_78, e66_82, e66_85, e66_86, e66_89, e66_90, e66_92, e66_94, e66_95, e66_96, e66_97, e66_100, e66_101, e66_104, e66_107, e66_110, e66_111, e66_114, e66_117, true_and, and_true, or_true, true_or, if_true, if_false, not_true_eq_false, not_false_eq_true, ne_eq, and_self, Option.toList_some, Option.toList_none, List.cons_append, List.nil_append, catS_0, catS_I, catS_L, catS_R, Option.map_some, Option.map_none, Option.some.injEq, Sum.inl.injEq, exists_eq_left', exists_eq', tI_m1000, tI_m20, tI_m14, tI_m13, tI_m12, tI_m11, tI_m4, tI_m3, tI_m2, tI_m1, tI_0, tI_1, tI_2, tI_3, tI_4, tI_5, tI_6, tI_7, tI_8, tI_9, tI_10, tI_11, tI_12, tI_14, tI_15, tI_16, tI_19, tI_20, tI_21, tI_30, tI_31, tI_32, tI_40, tI_60, tI_61, tI_80, tI_90, tI_97, tI_100, tI_101, tI_119, tI_120, tI_121, tI_126, tI_128, tI_255, tI_256, tI_500, tI_512, tI_600, tI_999, tI_1000, tI_3999, tI_4000, tI_4095, tI_4096, tI_99999, tI_100000, tL_0, tL_1, tL_2, tL_3, tL_4, tL_5, tL_7, tL_8, tL_9, tL_15, tL_19, tL_20, tL_32, tL_39, tL_48, tL_57, tL_60, tL_97, tL_100, tL_104, tL_126, tL_255, tL_3999, tL_4095, tL_99999, ltI, leI, hA1, hA2]
      simp +decide only [e132_0, e132_1, e132_2, e132_3, e132_6, e132_9, e132_12, e132_13, e132_14, e132_15, e132_16, e132_17, e132_21, e132_24, e132_25, e132_27, e132_29, e132_30, e132_31, e132_34, e132_35, e132_38, e132_41, e132_44, e132_47, e132_48, e132_49, e132_52, e132_55, e132_56, e132_59, e132_60, e132_61, e132_63, e132_66, e132_68, e132_69, e132_70, e132_71, e132_72, e132_76, e132_79, e132_80, e132_83, e132_84, e132_87, e132_88, e132_90, e132_92, e132_93, e132_94, e132_97, e132_98, e132_99, e132_100, e132_101, e132_102, e132_105, e132_106, e132_107, e132_110, e132_113, e132_116, e132_117, e132_120, true_and, and_true, or_true, true_or, if_true, if_false, not_true_eq_false, not_false_eq_true, ne_eq, and_self, Option.toList_some, Option.toList_none, List.cons_append, List.nil_append, catS_0, catS_I, catS_L, catS_R, Option.map_some, Option.map_none, c_isIn, m_in, wide_toInt, c_isDay, m_isDay, m_isCourse, c_areParts, Option.some.injEq, Sum.inl.injEq, exists_eq_left', exists_eq', tI_m1000, tI_m20, tI_m14, tI_m13, tI_m12, tI_m11, tI_m4, tI_m3, tI_m2, tI_m1, tI_0, tI_1, tI_2, tI_3, tI_4, tI_5, tI_6, tI_7, tI_8, tI_9, tI_10, tI_11, tI_12, tI_14, tI_15, tI_16, tI_19, tI_20, tI_21, tI_30, tI_31, tI_32, tI_40, tI_60, tI_61, tI_80, tI_90, tI_97, tI_100, tI_101, tI_119, tI_120, tI_121, tI_126, tI_128, tI_255, tI_256, tI_500, tI_512, tI_600, tI_999, tI_1000, tI_3999, tI_4000, tI_4095, tI_4096, tI_99999, tI_100000, tL_0, tL_1, tL_2, tL_3, tL_4, tL_5, tL_7, tL_8, tL_9, tL_15, tL_19, tL_20, tL_32, tL_39, tL_48, tL_57, tL_60, tL_97, tL_100, tL_104, tL_126, tL_255, tL_3999, tL_4095, tL_99999, hA, hI]
