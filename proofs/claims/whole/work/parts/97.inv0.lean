theorem fkA_lt {c k : Nat} (hc : isA c k) : k < nfd c := by
  rcases hc with hz | hz
  · exact fk_k (by decide) hz
  · exact fk_k (by decide) hz
theorem nfd_82 : ∀ c, c < 13 → nfd c ≤ 82 := by decide +kernel
theorem fin_L : ∀ c, c < 13 → ∀ k, k < 82 → ∀ i, i < NN22 c → ((fk c k).1 = 1 ∨ (fk c k).1 = 3) → LV137 c k i = some (alen c k) := by decide +kernel
theorem fa11_14 {h w L : Nat} {xs : Nat → Int32} : gA (Z213 h w L xs) 11 14 0 = fun _ => 0 := (AZ213 11 14 0).trans rfl
theorem fa12_68 {h w L : Nat} {xs : Nat → Int32} : gA (Z213 h w L xs) 12 68 0 = fun _ => 0 := (AZ213 12 68 0).trans rfl
theorem fa12_36 {h w L : Nat} {xs : Nat → Int32} : gA (Z213 h w L xs) 12 36 0 = fun _ => 0 := (AZ213 12 36 0).trans rfl
theorem fa12_37 {h w L : Nat} {xs : Nat → Int32} : gA (Z213 h w L xs) 12 37 0 = fun _ => 0 := (AZ213 12 37 0).trans rfl
theorem fa12_80 {h w L : Nat} {xs : Nat → Int32} : gA (Z213 h w L xs) 12 80 0 = fun _ => 0 := (AZ213 12 80 0).trans rfl
theorem fa12_81 {h w L : Nat} {xs : Nat → Int32} : gA (Z213 h w L xs) 12 81 0 = fun _ => 0 := (AZ213 12 81 0).trans rfl
theorem fa12_57 {h w L : Nat} {xs : Nat → Int32} : gA (Z213 h w L xs) 12 57 0 = fun _ => 0 := (AZ213 12 57 0).trans rfl
theorem fa12_58 {h w L : Nat} {xs : Nat → Int32} : gA (Z213 h w L xs) 12 58 0 = fun _ => 0 := (AZ213 12 58 0).trans rfl
theorem fa12_48 {h w L : Nat} {xs : Nat → Int32} : gA (Z213 h w L xs) 12 48 0 = fun _ => 0 := (AZ213 12 48 0).trans rfl
theorem fa12_47 {h w L : Nat} {xs : Nat → Int32} : gA (Z213 h w L xs) 12 47 0 = fun _ => 0 := (AZ213 12 47 0).trans rfl
theorem fa12_49 {h w L : Nat} {xs : Nat → Int32} : gA (Z213 h w L xs) 12 49 0 = fun _ => 0 := (AZ213 12 49 0).trans rfl
theorem fa12_50 {h w L : Nat} {xs : Nat → Int32} : gA (Z213 h w L xs) 12 50 0 = fun _ => 0 := (AZ213 12 50 0).trans rfl
theorem fa12_53 {h w L : Nat} {xs : Nat → Int32} : gA (Z213 h w L xs) 12 53 0 = fun _ => 0 := (AZ213 12 53 0).trans rfl
theorem fa12_29 {h w L : Nat} {xs : Nat → Int32} : gA (Z213 h w L xs) 12 29 0 = fun _ => 0 := (AZ213 12 29 0).trans rfl
theorem fa12_30 {h w L : Nat} {xs : Nat → Int32} : gA (Z213 h w L xs) 12 30 0 = fun _ => 0 := (AZ213 12 30 0).trans rfl
theorem fa12_70 {h w L : Nat} {xs : Nat → Int32} : gA (Z213 h w L xs) 12 70 0 = fun _ => 0 := (AZ213 12 70 0).trans rfl
theorem fa12_73 {h w L : Nat} {xs : Nat → Int32} : gA (Z213 h w L xs) 12 73 0 = fun _ => 0 := (AZ213 12 73 0).trans rfl
theorem fa12_15 {h w L : Nat} {xs : Nat → Int32} : gA (Z213 h w L xs) 12 15 0 = fun _ => 0 := (AZ213 12 15 0).trans rfl
theorem fa11_2 {h w L : Nat} {xs : Nat → Int32} : gA (Z213 h w L xs) 11 2 0 = fun _ => 0 := (AZ213 11 2 0).trans rfl
theorem fa6_2_0 {h w L : Nat} {xs : Nat → Int32} : gA (Z213 h w L xs) 6 2 0 = fun _ => 0 := (AZ213 6 2 0).trans rfl
theorem fa6_2_1 {h w L : Nat} {xs : Nat → Int32} : gA (Z213 h w L xs) 6 2 1 = fun _ => 0 := (AZ213 6 2 1).trans rfl
theorem fa6_2_2 {h w L : Nat} {xs : Nat → Int32} : gA (Z213 h w L xs) 6 2 2 = fun _ => 0 := (AZ213 6 2 2).trans rfl
theorem fa6_2_3 {h w L : Nat} {xs : Nat → Int32} : gA (Z213 h w L xs) 6 2 3 = fun _ => 0 := (AZ213 6 2 3).trans rfl
theorem fa12_35_0 {h w L : Nat} {xs : Nat → Int32} : gA (Z213 h w L xs) 12 35 0 0 = 3 := (congrFun (AZ213 12 35 0) 0).trans rfl
theorem fa12_35_1 {h w L : Nat} {xs : Nat → Int32} : gA (Z213 h w L xs) 12 35 0 1 = 3 := (congrFun (AZ213 12 35 0) 1).trans rfl
theorem fa12_35_2 {h w L : Nat} {xs : Nat → Int32} : gA (Z213 h w L xs) 12 35 0 2 = 3 := (congrFun (AZ213 12 35 0) 2).trans rfl
theorem fa12_35_3 {h w L : Nat} {xs : Nat → Int32} : gA (Z213 h w L xs) 12 35 0 3 = 3 := (congrFun (AZ213 12 35 0) 3).trans rfl
theorem fa12_35_4 {h w L : Nat} {xs : Nat → Int32} : gA (Z213 h w L xs) 12 35 0 4 = 3 := (congrFun (AZ213 12 35 0) 4).trans rfl
theorem fa12_35_5 {h w L : Nat} {xs : Nat → Int32} : gA (Z213 h w L xs) 12 35 0 5 = 3 := (congrFun (AZ213 12 35 0) 5).trans rfl
theorem fa12_79_0 {h w L : Nat} {xs : Nat → Int32} : gA (Z213 h w L xs) 12 79 0 0 = -1 := (congrFun (AZ213 12 79 0) 0).trans rfl
theorem fa12_79_1 {h w L : Nat} {xs : Nat → Int32} : gA (Z213 h w L xs) 12 79 0 1 = -1 := (congrFun (AZ213 12 79 0) 1).trans rfl
theorem fa12_79_2 {h w L : Nat} {xs : Nat → Int32} : gA (Z213 h w L xs) 12 79 0 2 = -1 := (congrFun (AZ213 12 79 0) 2).trans rfl
theorem fa12_79_3 {h w L : Nat} {xs : Nat → Int32} : gA (Z213 h w L xs) 12 79 0 3 = -1 := (congrFun (AZ213 12 79 0) 3).trans rfl
theorem fi7_1_0 {h w L : Nat} {xs : Nat → Int32} : gI (Z213 h w L xs) 7 1 0 = 0 := (IZ213 7 1 0).trans (by decide +kernel)
theorem fi12_1_0 {h w L : Nat} {xs : Nat → Int32} : gI (Z213 h w L xs) 12 1 0 = 0 := (IZ213 12 1 0).trans (by decide +kernel)
theorem fi11_15_0 {h w L : Nat} {xs : Nat → Int32} : gI (Z213 h w L xs) 11 15 0 = 5 := (IZ213 11 15 0).trans (by decide +kernel)
theorem fi12_69_0 {h w L : Nat} {xs : Nat → Int32} : gI (Z213 h w L xs) 12 69 0 = 5 := (IZ213 12 69 0).trans (by decide +kernel)
theorem fi11_9_0 {h w L : Nat} {xs : Nat → Int32} : gI (Z213 h w L xs) 11 9 0 = 0 := (IZ213 11 9 0).trans (by decide +kernel)
theorem fi12_54_0 {h w L : Nat} {xs : Nat → Int32} : gI (Z213 h w L xs) 12 54 0 = 0 := (IZ213 12 54 0).trans (by decide +kernel)
theorem fi11_7_0 {h w L : Nat} {xs : Nat → Int32} : gI (Z213 h w L xs) 11 7 0 = 0 := (IZ213 11 7 0).trans (by decide +kernel)
theorem fi12_23_0 {h w L : Nat} {xs : Nat → Int32} : gI (Z213 h w L xs) 12 23 0 = 0 := (IZ213 12 23 0).trans (by decide +kernel)
theorem fi11_11_0 {h w L : Nat} {xs : Nat → Int32} : gI (Z213 h w L xs) 11 11 0 = 0 := (IZ213 11 11 0).trans (by decide +kernel)
theorem fi12_38_0 {h w L : Nat} {xs : Nat → Int32} : gI (Z213 h w L xs) 12 38 0 = 0 := (IZ213 12 38 0).trans (by decide +kernel)
theorem fi2_3_0 {h w L : Nat} {xs : Nat → Int32} : gI (Z213 h w L xs) 2 3 0 = 0 := (IZ213 2 3 0).trans (by decide +kernel)
theorem fi3_0_0 {h w L : Nat} {xs : Nat → Int32} : gI (Z213 h w L xs) 3 0 0 = 3 := (IZ213 3 0 0).trans (by decide +kernel)
theorem fi3_1_0 {h w L : Nat} {xs : Nat → Int32} : gI (Z213 h w L xs) 3 1 0 = 0 := (IZ213 3 1 0).trans (by decide +kernel)
theorem fi3_2_0 {h w L : Nat} {xs : Nat → Int32} : gI (Z213 h w L xs) 3 2 0 = 0 := (IZ213 3 2 0).trans (by decide +kernel)
theorem fi3_0_1 {h w L : Nat} {xs : Nat → Int32} : gI (Z213 h w L xs) 3 0 1 = 3 := (IZ213 3 0 1).trans (by decide +kernel)
theorem fi3_1_1 {h w L : Nat} {xs : Nat → Int32} : gI (Z213 h w L xs) 3 1 1 = 0 := (IZ213 3 1 1).trans (by decide +kernel)
theorem fi3_2_1 {h w L : Nat} {xs : Nat → Int32} : gI (Z213 h w L xs) 3 2 1 = 0 := (IZ213 3 2 1).trans (by decide +kernel)
theorem fi3_0_2 {h w L : Nat} {xs : Nat → Int32} : gI (Z213 h w L xs) 3 0 2 = 3 := (IZ213 3 0 2).trans (by decide +kernel)
theorem fi3_1_2 {h w L : Nat} {xs : Nat → Int32} : gI (Z213 h w L xs) 3 1 2 = 0 := (IZ213 3 1 2).trans (by decide +kernel)
theorem fi3_2_2 {h w L : Nat} {xs : Nat → Int32} : gI (Z213 h w L xs) 3 2 2 = 0 := (IZ213 3 2 2).trans (by decide +kernel)
theorem fi3_0_3 {h w L : Nat} {xs : Nat → Int32} : gI (Z213 h w L xs) 3 0 3 = 3 := (IZ213 3 0 3).trans (by decide +kernel)
theorem fi3_1_3 {h w L : Nat} {xs : Nat → Int32} : gI (Z213 h w L xs) 3 1 3 = 0 := (IZ213 3 1 3).trans (by decide +kernel)
theorem fi3_2_3 {h w L : Nat} {xs : Nat → Int32} : gI (Z213 h w L xs) 3 2 3 = 0 := (IZ213 3 2 3).trans (by decide +kernel)
theorem fi3_0_4 {h w L : Nat} {xs : Nat → Int32} : gI (Z213 h w L xs) 3 0 4 = 3 := (IZ213 3 0 4).trans (by decide +kernel)
theorem fi3_1_4 {h w L : Nat} {xs : Nat → Int32} : gI (Z213 h w L xs) 3 1 4 = 0 := (IZ213 3 1 4).trans (by decide +kernel)
theorem fi3_2_4 {h w L : Nat} {xs : Nat → Int32} : gI (Z213 h w L xs) 3 2 4 = 0 := (IZ213 3 2 4).trans (by decide +kernel)
theorem fi3_0_5 {h w L : Nat} {xs : Nat → Int32} : gI (Z213 h w L xs) 3 0 5 = 3 := (IZ213 3 0 5).trans (by decide +kernel)
theorem fi3_1_5 {h w L : Nat} {xs : Nat → Int32} : gI (Z213 h w L xs) 3 1 5 = 0 := (IZ213 3 1 5).trans (by decide +kernel)
theorem fi3_2_5 {h w L : Nat} {xs : Nat → Int32} : gI (Z213 h w L xs) 3 2 5 = 0 := (IZ213 3 2 5).trans (by decide +kernel)
theorem fi6_0_0 {h w L : Nat} {xs : Nat → Int32} : gI (Z213 h w L xs) 6 0 0 = (-1) := (IZ213 6 0 0).trans (by decide +kernel)
theorem fi6_1_0 {h w L : Nat} {xs : Nat → Int32} : gI (Z213 h w L xs) 6 1 0 = 0 := (IZ213 6 1 0).trans (by decide +kernel)
theorem fi6_0_1 {h w L : Nat} {xs : Nat → Int32} : gI (Z213 h w L xs) 6 0 1 = (-1) := (IZ213 6 0 1).trans (by decide +kernel)
theorem fi6_1_1 {h w L : Nat} {xs : Nat → Int32} : gI (Z213 h w L xs) 6 1 1 = 0 := (IZ213 6 1 1).trans (by decide +kernel)
theorem fi6_0_2 {h w L : Nat} {xs : Nat → Int32} : gI (Z213 h w L xs) 6 0 2 = (-1) := (IZ213 6 0 2).trans (by decide +kernel)
theorem fi6_1_2 {h w L : Nat} {xs : Nat → Int32} : gI (Z213 h w L xs) 6 1 2 = 0 := (IZ213 6 1 2).trans (by decide +kernel)
theorem fi6_0_3 {h w L : Nat} {xs : Nat → Int32} : gI (Z213 h w L xs) 6 0 3 = (-1) := (IZ213 6 0 3).trans (by decide +kernel)
theorem fi6_1_3 {h w L : Nat} {xs : Nat → Int32} : gI (Z213 h w L xs) 6 1 3 = 0 := (IZ213 6 1 3).trans (by decide +kernel)
theorem fi1_0_1 {h w L : Nat} {xs : Nat → Int32} : gI (Z213 h w L xs) 1 0 1 = 0 := (IZ213 1 0 1).trans (by decide +kernel)
theorem fi1_0_2 {h w L : Nat} {xs : Nat → Int32} : gI (Z213 h w L xs) 1 0 2 = 0 := (IZ213 1 0 2).trans (by decide +kernel)
theorem fi1_0_3 {h w L : Nat} {xs : Nat → Int32} : gI (Z213 h w L xs) 1 0 3 = 0 := (IZ213 1 0 3).trans (by decide +kernel)
theorem fi1_0_4 {h w L : Nat} {xs : Nat → Int32} : gI (Z213 h w L xs) 1 0 4 = 0 := (IZ213 1 0 4).trans (by decide +kernel)
theorem fr_11 {h w L : Nat} {xs : Nat → Int32} : gR (Z213 h w L xs) 11 0 0 = some 0 ∧ gR (Z213 h w L xs) 11 13 0 = some 0 ∧ gR (Z213 h w L xs) 11 17 0 = some 0 ∧ gR (Z213 h w L xs) 11 18 0 = some 0 := ⟨(RZ213 _ _ _).trans (by decide +kernel), (RZ213 _ _ _).trans (by decide +kernel), (RZ213 _ _ _).trans (by decide +kernel), (RZ213 _ _ _).trans (by decide +kernel)⟩
theorem fr_4 {h w L : Nat} {xs : Nat → Int32} : gR (Z213 h w L xs) 11 4 0 = some 0 := (RZ213 _ _ _).trans (by decide +kernel)
theorem fr_5 {h w L : Nat} {xs : Nat → Int32} : gR (Z213 h w L xs) 11 5 0 = some 0 := (RZ213 _ _ _).trans (by decide +kernel)
theorem fq_12 : ∀ j, j < 6 → QV129 11 12 0 j = some j := by decide +kernel
theorem fq_16 : ∀ j, j < 4 → QV129 11 16 0 j = some j := by decide +kernel
theorem fq_3 : ∀ j, j < 4 → QV129 11 3 0 j = some (j + 1) := by decide +kernel
theorem SH_0 {h w L : Nat} {xs : Nat → Int32} : SH (Z213 h w L xs) := by
  refine ⟨?_, fun c k i hc hi ha => ?_, fr_11, fun j hj => (congrFun (QZ213 11 12 0) j).trans (fq_12 j hj), fun j hj => (congrFun (QZ213 11 16 0) j).trans (fq_16 j hj)⟩
  · rw [NZ213]
    exact ⟨nn22_1, nn22_2, nn22_3, nn22_5, nn22_6, nn22_7, nn22_10, nn22_11, nn22_12⟩
  · rw [NZ213] at hi
    rw [LZ213 c k i hc]
    exact fin_L c hc k (Nat.lt_of_lt_of_le (fkA_lt ha) (nfd_82 c hc)) i hi ha
theorem Inv_0 {h w L : Nat} {xs : Nat → Int32} : Inv h 0 (Z213 h w L xs) := by
  refine ⟨SH_0, ?_⟩
  rw [NZ213, nn22_0, nn22_4, nn22_8, nn22_9]
  refine ⟨⟨0, by omega, fi7_1_0, fi12_1_0, fun j hj => absurd hj (by omega)⟩, ⟨by rw [fi11_15_0, fi12_69_0], by rw [fi12_69_0]; decide, fun j hj => by rw [fa11_14, fa12_68]; exact ⟨rfl, by show 0 ≤ (0 : Int32).toInt ∧ (0 : Int32).toInt < 5; decide⟩⟩, ?_, ?_, ⟨by omega, fi11_9_0, fi12_54_0, fun u hu => absurd hu (by omega), fun u h1 h2 => by rw [fa12_57, fa12_58]; exact ⟨rfl, rfl⟩⟩, ⟨fun u hu => absurd hu (by omega), fun t ht => absurd ht (by omega)⟩, ⟨by omega, fi11_7_0, fi12_23_0, fun p hp => absurd hp (by omega)⟩, ⟨by omega, fi11_11_0, fi12_38_0, fun t ht => absurd ht (by omega), fun t h1 h2 => by rw [fa12_48, fa12_47, fa12_49, fa12_50, fa12_53]; exact ⟨rfl, rfl, rfl, rfl, fun _ _ => rfl⟩⟩, ⟨0, by omega, fi2_3_0, fun j hj => absurd hj (by omega), fun p hp => by rw [fa12_29]; rfl, fun p d hp hd => by rw [fa12_30]; rfl⟩, ?_, ⟨⟨0, rfl, fr_4, fun co y hco hy hz => ?_⟩, fun co hco => ⟨by rw [fa11_2, fa12_15], 0, by omega, by rw [fa12_15]; rfl⟩⟩, ⟨by rw [HZ213]; omega, by rw [SZ213]; omega⟩⟩
  · intro j hj
    have hx : gI (Z213 h w L xs) 3 0 j = 3 ∧ gI (Z213 h w L xs) 3 1 j = 0 ∧ gI (Z213 h w L xs) 3 2 j = 0 ∧ gA (Z213 h w L xs) 12 35 0 j = 3 := by
      match j, hj with
      | 0, _ => exact ⟨fi3_0_0, fi3_1_0, fi3_2_0, fa12_35_0⟩
      | 1, _ => exact ⟨fi3_0_1, fi3_1_1, fi3_2_1, fa12_35_1⟩
      | 2, _ => exact ⟨fi3_0_2, fi3_1_2, fi3_2_2, fa12_35_2⟩
      | 3, _ => exact ⟨fi3_0_3, fi3_1_3, fi3_2_3, fa12_35_3⟩
      | 4, _ => exact ⟨fi3_0_4, fi3_1_4, fi3_2_4, fa12_35_4⟩
      | 5, _ => exact ⟨fi3_0_5, fi3_1_5, fi3_2_5, fa12_35_5⟩
    rw [hx.1, hx.2.1, hx.2.2.1, hx.2.2.2, fa12_36, fa12_37]
    exact ⟨rfl, by decide, rfl, by show 0 ≤ (0 : Int32).toInt ∧ (0 : Int32).toInt < 10; decide, 0, by omega, rfl, fun z => absurd z (by show ¬ 0 < (0 : Int32).toInt; decide)⟩
  · intro s hs
    have hx : gI (Z213 h w L xs) 6 0 s = -1 ∧ gI (Z213 h w L xs) 6 1 s = 0 ∧ gA (Z213 h w L xs) 6 2 s = (fun _ => 0) ∧ gA (Z213 h w L xs) 12 79 0 s = -1 := by
      match s, hs with
      | 0, _ => exact ⟨fi6_0_0, fi6_1_0, fa6_2_0, fa12_79_0⟩
      | 1, _ => exact ⟨fi6_0_1, fi6_1_1, fa6_2_1, fa12_79_1⟩
      | 2, _ => exact ⟨fi6_0_2, fi6_1_2, fa6_2_2, fa12_79_2⟩
      | 3, _ => exact ⟨fi6_0_3, fi6_1_3, fa6_2_3, fa12_79_3⟩
    rw [hx.1, hx.2.1, hx.2.2.1, hx.2.2.2, fa12_80, fa12_81]
    exact ⟨rfl, by decide, rfl, by show 0 ≤ (0 : Int32).toInt ∧ (0 : Int32).toInt ≤ 30; decide, fun j hj => rfl⟩
  · refine ⟨fun co => if co = 4 then 0 else co + 1, fun co hco => ?_, fun a b ha hb hab => ?_, fun co hco => ?_, fr_5, fun co hco => ?_⟩
    · dsimp only; split <;> omega
    · dsimp only at hab
      by_cases h1 : a = 4
      · rw [if_pos h1] at hab
        by_cases h2 : b = 4
        · omega
        · rw [if_neg h2] at hab; omega
      · rw [if_neg h1] at hab
        by_cases h2 : b = 4
        · rw [if_pos h2] at hab; omega
        · rw [if_neg h2] at hab; omega
    · dsimp only
      rw [if_neg (by omega)]
      exact (congrFun (QZ213 11 3 0) co).trans (fq_3 co hco)
    · dsimp only
      rw [if_neg (by omega), fa12_70, fa12_73]
      have hx : gI (Z213 h w L xs) 1 0 (co + 1) = 0 := by
        match co, hco with
        | 0, _ => exact fi1_0_1
        | 1, _ => exact fi1_0_2
        | 2, _ => exact fi1_0_3
        | 3, _ => exact fi1_0_4
      rw [hx]
      exact ⟨0, by omega, rfl, rfl, rfl, fun k hk => absurd hk (by omega)⟩
  · rw [fa12_15] at hz
    have hz : (y : Int) < 0 := hz
    omega
