theorem i218_0 : ins 218 0 = some (.new 7, 3) := (congrArg (fun x : PTy => x.1.lookup 0) q218).trans rfl
theorem e218_0 {d : Nat} {Q : Option AV → St → Prop} {st : List AV} {σ : St} {l0 l1 l2 l3 : Option AV} : Rn (d) Q (218, 0, [l0, l1, l2, l3], st, σ) = Rn (d) Q (218, 3, [l0, l1, l2, l3], vR (some (11, 0, gN σ 11)) :: st, newO σ 11) := E_new i218_0 ((congrArg (fun z => clsQ z 7) o218).trans k13_7)
theorem i218_3 : ins 218 3 = some (.dup, 1) := (congrArg (fun x : PTy => x.1.lookup 3) q218).trans rfl
theorem e218_3 {d : Nat} {Q : Option AV → St → Prop} {st : List AV} {σ : St} {l0 l1 l2 l3 : Option AV} {x : Option (Nat × Nat × Nat)} : Rn (d) Q (218, 3, [l0, l1, l2, l3], vR x :: st, σ) = Rn (d) Q (218, 4, [l0, l1, l2, l3], vR x :: vR x :: st, σ) := E_dupR i218_3
theorem i218_4 : ins 218 4 = some (.invokespecial 9, 3) := (congrArg (fun x : PTy => x.1.lookup 4) q218).trans rfl
theorem e218_4 {d : Nat} {Q : Option AV → St → Prop} {st : List AV} {σ : St} {l0 l1 l2 l3 : Option AV} {i : Nat} : Rn (d + 1) Q (218, 4, [l0, l1, l2, l3], vR (some (11, 0, i)) :: st, σ) = (i < gN σ 11 ∧ catS st ≤ 8 ∧ Rn d (fun r σ' => Rn (d + 1) Q (218, 7, [l0, l1, l2, l3], r.toList ++ st, σ')) (65, 0, [some (vR (some (11, 0, i))), none], [], σ)) := E_invI2 (a := []) i218_4 ((congrArg (fun z => mthQ z 9) o218).trans m13_9) o65 rfl (ek65 i) (en65 i)
theorem i218_7 : ins 218 7 = some (.astore_n 1, 1) := (congrArg (fun x : PTy => x.1.lookup 7) q218).trans rfl
theorem s218_1 : okst 218 1 = true := by unfold okst; rw [x218]; rfl
theorem e218_7 {d : Nat} {Q : Option AV → St → Prop} {st : List AV} {σ : St} {l0 l1 l2 l3 : Option AV} {x : Option (Nat × Nat × Nat)} : Rn (d) Q (218, 7, [l0, l1, l2, l3], vR x :: st, σ) = Rn (d) Q (218, 8, [l0, some (vR x), l2, l3], st, σ) := E_astore_n i218_7 s218_1
theorem i218_8 : ins 218 8 = some (.new 10, 3) := (congrArg (fun x : PTy => x.1.lookup 8) q218).trans rfl
theorem e218_8 {d : Nat} {Q : Option AV → St → Prop} {st : List AV} {σ : St} {l0 l1 l2 l3 : Option AV} : Rn (d) Q (218, 8, [l0, l1, l2, l3], st, σ) = Rn (d) Q (218, 11, [l0, l1, l2, l3], vR (some (12, 0, gN σ 12)) :: st, newO σ 12) := E_new i218_8 ((congrArg (fun z => clsQ z 10) o218).trans k13_10)
theorem i218_11 : ins 218 11 = some (.dup, 1) := (congrArg (fun x : PTy => x.1.lookup 11) q218).trans rfl
theorem e218_11 {d : Nat} {Q : Option AV → St → Prop} {st : List AV} {σ : St} {l0 l1 l2 l3 : Option AV} {x : Option (Nat × Nat × Nat)} : Rn (d) Q (218, 11, [l0, l1, l2, l3], vR x :: st, σ) = Rn (d) Q (218, 12, [l0, l1, l2, l3], vR x :: vR x :: st, σ) := E_dupR i218_11
theorem i218_12 : ins 218 12 = some (.invokespecial 12, 3) := (congrArg (fun x : PTy => x.1.lookup 12) q218).trans rfl
theorem e218_12 {d : Nat} {Q : Option AV → St → Prop} {st : List AV} {σ : St} {l0 l1 l2 l3 : Option AV} {i : Nat} : Rn (d + 1) Q (218, 12, [l0, l1, l2, l3], vR (some (12, 0, i)) :: st, σ) = (i < gN σ 12 ∧ catS st ≤ 8 ∧ Rn d (fun r σ' => Rn (d + 1) Q (218, 15, [l0, l1, l2, l3], r.toList ++ st, σ')) (130, 0, [some (vR (some (12, 0, i))), none], [], σ)) := E_invI2 (a := []) i218_12 ((congrArg (fun z => mthQ z 12) o218).trans m13_12) o130 rfl (ek130 i) (en130 i)
theorem i218_15 : ins 218 15 = some (.astore_n 2, 1) := (congrArg (fun x : PTy => x.1.lookup 15) q218).trans rfl
theorem s218_2 : okst 218 2 = true := by unfold okst; rw [x218]; rfl
theorem e218_15 {d : Nat} {Q : Option AV → St → Prop} {st : List AV} {σ : St} {l0 l1 l2 l3 : Option AV} {x : Option (Nat × Nat × Nat)} : Rn (d) Q (218, 15, [l0, l1, l2, l3], vR x :: st, σ) = Rn (d) Q (218, 16, [l0, l1, some (vR x), l3], st, σ) := E_astore_n i218_15 s218_2
theorem i218_16 : ins 218 16 = some (.iconst 0, 1) := (congrArg (fun x : PTy => x.1.lookup 16) q218).trans rfl
theorem e218_16 {d : Nat} {Q : Option AV → St → Prop} {st : List AV} {σ : St} {l0 l1 l2 l3 : Option AV} : Rn (d) Q (218, 16, [l0, l1, l2, l3], st, σ) = Rn (d) Q (218, 17, [l0, l1, l2, l3], vI 0 :: st, σ) := by rw [E_iconst i218_16, ci_0]
theorem i218_17 : ins 218 17 = some (.istore_n 3, 1) := (congrArg (fun x : PTy => x.1.lookup 17) q218).trans rfl
theorem s218_3 : okst 218 3 = true := by unfold okst; rw [x218]; rfl
theorem e218_17 {d : Nat} {Q : Option AV → St → Prop} {st : List AV} {σ : St} {l0 l1 l2 l3 : Option AV} {x : Int32} : Rn (d) Q (218, 17, [l0, l1, l2, l3], vI x :: st, σ) = Rn (d) Q (218, 18, [l0, l1, l2, some (vI x)], st, σ) := E_istore_n i218_17 s218_3
theorem i218_18 : ins 218 18 = some (.iload_n 3, 1) := (congrArg (fun x : PTy => x.1.lookup 18) q218).trans rfl
theorem e218_18 {d : Nat} {Q : Option AV → St → Prop} {st : List AV} {σ : St} {l0 l1 l2 : Option AV} {x : Int32} : Rn (d) Q (218, 18, [l0, l1, l2, some (vI x)], st, σ) = Rn (d) Q (218, 19, [l0, l1, l2, some (vI x)], vI x :: st, σ) := E_iload_n i218_18 rfl
theorem i218_19 : ins 218 19 = some (.aload_n 0, 1) := (congrArg (fun x : PTy => x.1.lookup 19) q218).trans rfl
theorem e218_19 {d : Nat} {Q : Option AV → St → Prop} {st : List AV} {σ : St} {l1 l2 l3 : Option AV} {x : Option (Nat × Nat × Nat)} : Rn (d) Q (218, 19, [some (vR x), l1, l2, l3], st, σ) = Rn (d) Q (218, 20, [some (vR x), l1, l2, l3], vR x :: st, σ) := E_aload_n i218_19 rfl
theorem i218_20 : ins 218 20 = some (.arraylength, 1) := (congrArg (fun x : PTy => x.1.lookup 20) q218).trans rfl
theorem e218_20 {d : Nat} {Q : Option AV → St → Prop} {st : List AV} {σ : St} {l0 l1 l2 l3 : Option AV} {i : Nat} : Rn (d) Q (218, 20, [l0, l1, l2, l3], vR (some (13, 1, i)) :: st, σ) = (∃ n, gL σ 13 0 i = some n ∧ i < gN σ 13 ∧ Rn (d) Q (218, 21, [l0, l1, l2, l3], vI (Int32.ofNat n) :: st, σ)) := E_arraylength i218_20 rfl
theorem i218_21 : ins 218 21 = some (.bipush 6, 2) := (congrArg (fun x : PTy => x.1.lookup 21) q218).trans rfl
theorem e218_21 {d : Nat} {Q : Option AV → St → Prop} {st : List AV} {σ : St} {l0 l1 l2 l3 : Option AV} : Rn (d) Q (218, 21, [l0, l1, l2, l3], st, σ) = Rn (d) Q (218, 23, [l0, l1, l2, l3], vI 6 :: st, σ) := by rw [E_bipush i218_21, cb_6]
theorem i218_23 : ins 218 23 = some (.isub, 1) := (congrArg (fun x : PTy => x.1.lookup 23) q218).trans rfl
theorem e218_23 {d : Nat} {Q : Option AV → St → Prop} {st : List AV} {σ : St} {l0 l1 l2 l3 : Option AV} {x y : Int32} : Rn (d) Q (218, 23, [l0, l1, l2, l3], vI y :: vI x :: st, σ) = Rn (d) Q (218, 24, [l0, l1, l2, l3], vI (x - y) :: st, σ) := E_isub i218_23
theorem i218_24 : ins 218 24 = some (.if_icmp .gt 1794, 3) := (congrArg (fun x : PTy => x.1.lookup 24) q218).trans rfl
theorem e218_24 {d : Nat} {Q : Option AV → St → Prop} {st : List AV} {σ : St} {l0 l1 l2 l3 : Option AV} {x y : Int32} : Rn (d) Q (218, 24, [l0, l1, l2, l3], vI y :: vI x :: st, σ) = (if y < x then Rn (d) Q (218, 1818, [l0, l1, l2, l3], st, σ) else Rn (d) Q (218, 27, [l0, l1, l2, l3], st, σ)) := E_icmp_gt 1818 i218_24 (by decide)
theorem i218_27 : ins 218 27 = some (.aload_n 0, 1) := (congrArg (fun x : PTy => x.1.lookup 27) q218).trans rfl
theorem e218_27 {d : Nat} {Q : Option AV → St → Prop} {st : List AV} {σ : St} {l1 l2 l3 : Option AV} {x : Option (Nat × Nat × Nat)} : Rn (d) Q (218, 27, [some (vR x), l1, l2, l3], st, σ) = Rn (d) Q (218, 28, [some (vR x), l1, l2, l3], vR x :: st, σ) := E_aload_n i218_27 rfl
theorem i218_28 : ins 218 28 = some (.iload_n 3, 1) := (congrArg (fun x : PTy => x.1.lookup 28) q218).trans rfl
theorem e218_28 {d : Nat} {Q : Option AV → St → Prop} {st : List AV} {σ : St} {l0 l1 l2 : Option AV} {x : Int32} : Rn (d) Q (218, 28, [l0, l1, l2, some (vI x)], st, σ) = Rn (d) Q (218, 29, [l0, l1, l2, some (vI x)], vI x :: st, σ) := E_iload_n i218_28 rfl
theorem i218_29 : ins 218 29 = some (.iaload, 1) := (congrArg (fun x : PTy => x.1.lookup 29) q218).trans rfl
theorem e218_29 {d : Nat} {Q : Option AV → St → Prop} {st : List AV} {σ : St} {l0 l1 l2 l3 : Option AV} {i : Nat} {j : Int32} : Rn (d) Q (218, 29, [l0, l1, l2, l3], vI j :: vR (some (13, 1, i)) :: st, σ) = (∃ n, gL σ 13 0 i = some n ∧ i < gN σ 13 ∧ (0 ≤ j.toInt ∧ j.toInt < n) ∧ Rn (d) Q (218, 30, [l0, l1, l2, l3], vI (gA σ 13 0 i j.toNatClampNeg) :: st, σ)) := E_iaload1 i218_29 rfl
theorem i218_30 : ins 218 30 = some (.bipush 63, 2) := (congrArg (fun x : PTy => x.1.lookup 30) q218).trans rfl
theorem e218_30 {d : Nat} {Q : Option AV → St → Prop} {st : List AV} {σ : St} {l0 l1 l2 l3 : Option AV} : Rn (d) Q (218, 30, [l0, l1, l2, l3], st, σ) = Rn (d) Q (218, 32, [l0, l1, l2, l3], vI 63 :: st, σ) := by rw [E_bipush i218_30, cb_63]
theorem i218_32 : ins 218 32 = some (.iand, 1) := (congrArg (fun x : PTy => x.1.lookup 32) q218).trans rfl
theorem e218_32 {d : Nat} {Q : Option AV → St → Prop} {st : List AV} {σ : St} {l0 l1 l2 l3 : Option AV} {x y : Int32} : Rn (d) Q (218, 32, [l0, l1, l2, l3], vI y :: vI x :: st, σ) = Rn (d) Q (218, 33, [l0, l1, l2, l3], vI (x &&& y) :: st, σ) := E_iand i218_32
theorem i218_33 : ins 218 33 = some (.tableswitch 1779 0 41 #[183, 246, 279, 322, 375, 418, 451, 484, 527, 560, 593, 636, 679, 712, 755, 818, 851, 914, 947, 980, 1003, 1036, 1069, 1092, 1125, 1148, 1181, 1214, 1257, 1300, 1343, 1376, 1399, 1422, 1445, 1488, 1521, 1554, 1597, 1640, 1663, 1716], 183) := (congrArg (fun x : PTy => x.1.lookup 33) q218).trans rfl
theorem e218_33 {d : Nat} {Q : Option AV → St → Prop} {st : List AV} {σ : St} {l0 l1 l2 l3 : Option AV} {x : Int32} : Rn (d) Q (218, 33, [l0, l1, l2, l3], vI x :: st, σ) = (if x = 0 then Rn (d) Q (218, 216, [l0, l1, l2, l3], st, σ) else (if x = 1 then Rn (d) Q (218, 279, [l0, l1, l2, l3], st, σ) else (if x = 2 then Rn (d) Q (218, 312, [l0, l1, l2, l3], st, σ) else (if x = 3 then Rn (d) Q (218, 355, [l0, l1, l2, l3], st, σ) else (if x = 4 then Rn (d) Q (218, 408, [l0, l1, l2, l3], st, σ) else (if x = 5 then Rn (d) Q (218, 451, [l0, l1, l2, l3], st, σ) else (if x = 6 then Rn (d) Q (218, 484, [l0, l1, l2, l3], st, σ) else (if x = 7 then Rn (d) Q (218, 517, [l0, l1, l2, l3], st, σ) else (if x = 8 then Rn (d) Q (218, 560, [l0, l1, l2, l3], st, σ) else (if x = 9 then Rn (d) Q (218, 593, [l0, l1, l2, l3], st, σ) else (if x = 10 then Rn (d) Q (218, 626, [l0, l1, l2, l3], st, σ) else (if x = 11 then Rn (d) Q (218, 669, [l0, l1, l2, l3], st, σ) else (if x = 12 then Rn (d) Q (218, 712, [l0, l1, l2, l3], st, σ) else (if x = 13 then Rn (d) Q (218, 745, [l0, l1, l2, l3], st, σ) else (if x = 14 then Rn (d) Q (218, 788, [l0, l1, l2, l3], st, σ) else (if x = 15 then Rn (d) Q (218, 851, [l0, l1, l2, l3], st, σ) else (if x = 16 then Rn (d) Q (218, 884, [l0, l1, l2, l3], st, σ) else (if x = 17 then Rn (d) Q (218, 947, [l0, l1, l2, l3], st, σ) else (if x = 18 then Rn (d) Q (218, 980, [l0, l1, l2, l3], st, σ) else (if x = 19 then Rn (d) Q (218, 1013, [l0, l1, l2, l3], st, σ) else (if x = 20 then Rn (d) Q (218, 1036, [l0, l1, l2, l3], st, σ) else (if x = 21 then Rn (d) Q (218, 1069, [l0, l1, l2, l3], st, σ) else (if x = 22 then Rn (d) Q (218, 1102, [l0, l1, l2, l3], st, σ) else (if x = 23 then Rn (d) Q (218, 1125, [l0, l1, l2, l3], st, σ) else (if x = 24 then Rn (d) Q (218, 1158, [l0, l1, l2, l3], st, σ) else (if x = 25 then Rn (d) Q (218, 1181, [l0, l1, l2, l3], st, σ) else (if x = 26 then Rn (d) Q (218, 1214, [l0, l1, l2, l3], st, σ) else (if x = 27 then Rn (d) Q (218, 1247, [l0, l1, l2, l3], st, σ) else (if x = 28 then Rn (d) Q (218, 1290, [l0, l1, l2, l3], st, σ) else (if x = 29 then Rn (d) Q (218, 1333, [l0, l1, l2, l3], st, σ) else (if x = 30 then Rn (d) Q (218, 1376, [l0, l1, l2, l3], st, σ) else (if x = 31 then Rn (d) Q (218, 1409, [l0, l1, l2, l3], st, σ) else (if x = 32 then Rn (d) Q (218, 1432, [l0, l1, l2, l3], st, σ) else (if x = 33 then Rn (d) Q (218, 1455, [l0, l1, l2, l3], st, σ) else (if x = 34 then Rn (d) Q (218, 1478, [l0, l1, l2, l3], st, σ) else (if x = 35 then Rn (d) Q (218, 1521, [l0, l1, l2, l3], st, σ) else (if x = 36 then Rn (d) Q (218, 1554, [l0, l1, l2, l3], st, σ) else (if x = 37 then Rn (d) Q (218, 1587, [l0, l1, l2, l3], st, σ) else (if x = 38 then Rn (d) Q (218, 1630, [l0, l1, l2, l3], st, σ) else (if x = 39 then Rn (d) Q (218, 1673, [l0, l1, l2, l3], st, σ) else (if x = 40 then Rn (d) Q (218, 1696, [l0, l1, l2, l3], st, σ) else (if x = 41 then Rn (d) Q (218, 1749, [l0, l1, l2, l3], st, σ) else Rn (d) Q (218, 1812, [l0, l1, l2, l3], st, σ))))))))))))))))))))))))))))))))))))))))))) := by
  by_cases h0 : x = 0
  · subst h0
    rw [if_pos rfl]
    exact E_tsI 216 i218_33 (by decide) rfl (by decide)
  rw [if_neg h0]
  by_cases h1 : x = 1
  · subst h1
    rw [if_pos rfl]
    exact E_tsI 279 i218_33 (by decide) rfl (by decide)
  rw [if_neg h1]
  by_cases h2 : x = 2
  · subst h2
    rw [if_pos rfl]
    exact E_tsI 312 i218_33 (by decide) rfl (by decide)
  rw [if_neg h2]
  by_cases h3 : x = 3
  · subst h3
    rw [if_pos rfl]
    exact E_tsI 355 i218_33 (by decide) rfl (by decide)
  rw [if_neg h3]
  by_cases h4 : x = 4
  · subst h4
    rw [if_pos rfl]
    exact E_tsI 408 i218_33 (by decide) rfl (by decide)
  rw [if_neg h4]
  by_cases h5 : x = 5
  · subst h5
    rw [if_pos rfl]
    exact E_tsI 451 i218_33 (by decide) rfl (by decide)
  rw [if_neg h5]
  by_cases h6 : x = 6
  · subst h6
    rw [if_pos rfl]
    exact E_tsI 484 i218_33 (by decide) rfl (by decide)
  rw [if_neg h6]
  by_cases h7 : x = 7
  · subst h7
    rw [if_pos rfl]
    exact E_tsI 517 i218_33 (by decide) rfl (by decide)
  rw [if_neg h7]
  by_cases h8 : x = 8
  · subst h8
    rw [if_pos rfl]
    exact E_tsI 560 i218_33 (by decide) rfl (by decide)
  rw [if_neg h8]
  by_cases h9 : x = 9
  · subst h9
    rw [if_pos rfl]
    exact E_tsI 593 i218_33 (by decide) rfl (by decide)
  rw [if_neg h9]
  by_cases h10 : x = 10
  · subst h10
    rw [if_pos rfl]
    exact E_tsI 626 i218_33 (by decide) rfl (by decide)
  rw [if_neg h10]
  by_cases h11 : x = 11
  · subst h11
    rw [if_pos rfl]
    exact E_tsI 669 i218_33 (by decide) rfl (by decide)
  rw [if_neg h11]
  by_cases h12 : x = 12
  · subst h12
    rw [if_pos rfl]
    exact E_tsI 712 i218_33 (by decide) rfl (by decide)
  rw [if_neg h12]
  by_cases h13 : x = 13
  · subst h13
    rw [if_pos rfl]
    exact E_tsI 745 i218_33 (by decide) rfl (by decide)
  rw [if_neg h13]
  by_cases h14 : x = 14
  · subst h14
    rw [if_pos rfl]
    exact E_tsI 788 i218_33 (by decide) rfl (by decide)
  rw [if_neg h14]
  by_cases h15 : x = 15
  · subst h15
    rw [if_pos rfl]
    exact E_tsI 851 i218_33 (by decide) rfl (by decide)
  rw [if_neg h15]
  by_cases h16 : x = 16
  · subst h16
    rw [if_pos rfl]
    exact E_tsI 884 i218_33 (by decide) rfl (by decide)
  rw [if_neg h16]
  by_cases h17 : x = 17
  · subst h17
    rw [if_pos rfl]
    exact E_tsI 947 i218_33 (by decide) rfl (by decide)
  rw [if_neg h17]
  by_cases h18 : x = 18
  · subst h18
    rw [if_pos rfl]
    exact E_tsI 980 i218_33 (by decide) rfl (by decide)
  rw [if_neg h18]
  by_cases h19 : x = 19
  · subst h19
    rw [if_pos rfl]
    exact E_tsI 1013 i218_33 (by decide) rfl (by decide)
  rw [if_neg h19]
  by_cases h20 : x = 20
  · subst h20
    rw [if_pos rfl]
    exact E_tsI 1036 i218_33 (by decide) rfl (by decide)
  rw [if_neg h20]
  by_cases h21 : x = 21
  · subst h21
    rw [if_pos rfl]
    exact E_tsI 1069 i218_33 (by decide) rfl (by decide)
  rw [if_neg h21]
  by_cases h22 : x = 22
  · subst h22
    rw [if_pos rfl]
    exact E_tsI 1102 i218_33 (by decide) rfl (by decide)
  rw [if_neg h22]
  by_cases h23 : x = 23
  · subst h23
    rw [if_pos rfl]
    exact E_tsI 1125 i218_33 (by decide) rfl (by decide)
  rw [if_neg h23]
  by_cases h24 : x = 24
  · subst h24
    rw [if_pos rfl]
    exact E_tsI 1158 i218_33 (by decide) rfl (by decide)
  rw [if_neg h24]
  by_cases h25 : x = 25
  · subst h25
    rw [if_pos rfl]
    exact E_tsI 1181 i218_33 (by decide) rfl (by decide)
  rw [if_neg h25]
  by_cases h26 : x = 26
  · subst h26
    rw [if_pos rfl]
    exact E_tsI 1214 i218_33 (by decide) rfl (by decide)
  rw [if_neg h26]
  by_cases h27 : x = 27
  · subst h27
    rw [if_pos rfl]
    exact E_tsI 1247 i218_33 (by decide) rfl (by decide)
  rw [if_neg h27]
  by_cases h28 : x = 28
  · subst h28
    rw [if_pos rfl]
    exact E_tsI 1290 i218_33 (by decide) rfl (by decide)
  rw [if_neg h28]
  by_cases h29 : x = 29
  · subst h29
    rw [if_pos rfl]
    exact E_tsI 1333 i218_33 (by decide) rfl (by decide)
  rw [if_neg h29]
  by_cases h30 : x = 30
  · subst h30
    rw [if_pos rfl]
    exact E_tsI 1376 i218_33 (by decide) rfl (by decide)
  rw [if_neg h30]
  by_cases h31 : x = 31
  · subst h31
    rw [if_pos rfl]
    exact E_tsI 1409 i218_33 (by decide) rfl (by decide)
  rw [if_neg h31]
  by_cases h32 : x = 32
  · subst h32
    rw [if_pos rfl]
    exact E_tsI 1432 i218_33 (by decide) rfl (by decide)
  rw [if_neg h32]
  by_cases h33 : x = 33
  · subst h33
    rw [if_pos rfl]
    exact E_tsI 1455 i218_33 (by decide) rfl (by decide)
  rw [if_neg h33]
  by_cases h34 : x = 34
  · subst h34
    rw [if_pos rfl]
    exact E_tsI 1478 i218_33 (by decide) rfl (by decide)
  rw [if_neg h34]
  by_cases h35 : x = 35
  · subst h35
    rw [if_pos rfl]
    exact E_tsI 1521 i218_33 (by decide) rfl (by decide)
  rw [if_neg h35]
  by_cases h36 : x = 36
  · subst h36
    rw [if_pos rfl]
    exact E_tsI 1554 i218_33 (by decide) rfl (by decide)
  rw [if_neg h36]
  by_cases h37 : x = 37
  · subst h37
    rw [if_pos rfl]
    exact E_tsI 1587 i218_33 (by decide) rfl (by decide)
  rw [if_neg h37]
  by_cases h38 : x = 38
  · subst h38
    rw [if_pos rfl]
    exact E_tsI 1630 i218_33 (by decide) rfl (by decide)
  rw [if_neg h38]
  by_cases h39 : x = 39
  · subst h39
    rw [if_pos rfl]
    exact E_tsI 1673 i218_33 (by decide) rfl (by decide)
  rw [if_neg h39]
  by_cases h40 : x = 40
  · subst h40
    rw [if_pos rfl]
    exact E_tsI 1696 i218_33 (by decide) rfl (by decide)
  rw [if_neg h40]
  by_cases h41 : x = 41
  · subst h41
    rw [if_pos rfl]
    exact E_tsI 1749 i218_33 (by decide) rfl (by decide)
  rw [if_neg h41]
  refine E_tsO 1812 i218_33 (by decide) ?_
  have g0 : x.toInt ≠ 0 := fun z => h0 (Int32.toInt_inj.mp (z.trans (by decide)))
  have g1 : x.toInt ≠ 1 := fun z => h1 (Int32.toInt_inj.mp (z.trans (by decide)))
  have g2 : x.toInt ≠ 2 := fun z => h2 (Int32.toInt_inj.mp (z.trans (by decide)))
  have g3 : x.toInt ≠ 3 := fun z => h3 (Int32.toInt_inj.mp (z.trans (by decide)))
  have g4 : x.toInt ≠ 4 := fun z => h4 (Int32.toInt_inj.mp (z.trans (by decide)))
  have g5 : x.toInt ≠ 5 := fun z => h5 (Int32.toInt_inj.mp (z.trans (by decide)))
  have g6 : x.toInt ≠ 6 := fun z => h6 (Int32.toInt_inj.mp (z.trans (by decide)))
  have g7 : x.toInt ≠ 7 := fun z => h7 (Int32.toInt_inj.mp (z.trans (by decide)))
  have g8 : x.toInt ≠ 8 := fun z => h8 (Int32.toInt_inj.mp (z.trans (by decide)))
  have g9 : x.toInt ≠ 9 := fun z => h9 (Int32.toInt_inj.mp (z.trans (by decide)))
  have g10 : x.toInt ≠ 10 := fun z => h10 (Int32.toInt_inj.mp (z.trans (by decide)))
  have g11 : x.toInt ≠ 11 := fun z => h11 (Int32.toInt_inj.mp (z.trans (by decide)))
  have g12 : x.toInt ≠ 12 := fun z => h12 (Int32.toInt_inj.mp (z.trans (by decide)))
  have g13 : x.toInt ≠ 13 := fun z => h13 (Int32.toInt_inj.mp (z.trans (by decide)))
  have g14 : x.toInt ≠ 14 := fun z => h14 (Int32.toInt_inj.mp (z.trans (by decide)))
  have g15 : x.toInt ≠ 15 := fun z => h15 (Int32.toInt_inj.mp (z.trans (by decide)))
  have g16 : x.toInt ≠ 16 := fun z => h16 (Int32.toInt_inj.mp (z.trans (by decide)))
  have g17 : x.toInt ≠ 17 := fun z => h17 (Int32.toInt_inj.mp (z.trans (by decide)))
  have g18 : x.toInt ≠ 18 := fun z => h18 (Int32.toInt_inj.mp (z.trans (by decide)))
  have g19 : x.toInt ≠ 19 := fun z => h19 (Int32.toInt_inj.mp (z.trans (by decide)))
  have g20 : x.toInt ≠ 20 := fun z => h20 (Int32.toInt_inj.mp (z.trans (by decide)))
  have g21 : x.toInt ≠ 21 := fun z => h21 (Int32.toInt_inj.mp (z.trans (by decide)))
  have g22 : x.toInt ≠ 22 := fun z => h22 (Int32.toInt_inj.mp (z.trans (by decide)))
  have g23 : x.toInt ≠ 23 := fun z => h23 (Int32.toInt_inj.mp (z.trans (by decide)))
  have g24 : x.toInt ≠ 24 := fun z => h24 (Int32.toInt_inj.mp (z.trans (by decide)))
  have g25 : x.toInt ≠ 25 := fun z => h25 (Int32.toInt_inj.mp (z.trans (by decide)))
  have g26 : x.toInt ≠ 26 := fun z => h26 (Int32.toInt_inj.mp (z.trans (by decide)))
  have g27 : x.toInt ≠ 27 := fun z => h27 (Int32.toInt_inj.mp (z.trans (by decide)))
  have g28 : x.toInt ≠ 28 := fun z => h28 (Int32.toInt_inj.mp (z.trans (by decide)))
  have g29 : x.toInt ≠ 29 := fun z => h29 (Int32.toInt_inj.mp (z.trans (by decide)))
  have g30 : x.toInt ≠ 30 := fun z => h30 (Int32.toInt_inj.mp (z.trans (by decide)))
  have g31 : x.toInt ≠ 31 := fun z => h31 (Int32.toInt_inj.mp (z.trans (by decide)))
  have g32 : x.toInt ≠ 32 := fun z => h32 (Int32.toInt_inj.mp (z.trans (by decide)))
  have g33 : x.toInt ≠ 33 := fun z => h33 (Int32.toInt_inj.mp (z.trans (by decide)))
  have g34 : x.toInt ≠ 34 := fun z => h34 (Int32.toInt_inj.mp (z.trans (by decide)))
  have g35 : x.toInt ≠ 35 := fun z => h35 (Int32.toInt_inj.mp (z.trans (by decide)))
  have g36 : x.toInt ≠ 36 := fun z => h36 (Int32.toInt_inj.mp (z.trans (by decide)))
  have g37 : x.toInt ≠ 37 := fun z => h37 (Int32.toInt_inj.mp (z.trans (by decide)))
  have g38 : x.toInt ≠ 38 := fun z => h38 (Int32.toInt_inj.mp (z.trans (by decide)))
  have g39 : x.toInt ≠ 39 := fun z => h39 (Int32.toInt_inj.mp (z.trans (by decide)))
  have g40 : x.toInt ≠ 40 := fun z => h40 (Int32.toInt_inj.mp (z.trans (by decide)))
  have g41 : x.toInt ≠ 41 := fun z => h41 (Int32.toInt_inj.mp (z.trans (by decide)))
  omega
theorem i218_216 : ins 218 216 = some (.aload_n 1, 1) := (congrArg (fun x : PTy => x.1.lookup 216) q218).trans rfl
theorem e218_216 {d : Nat} {Q : Option AV → St → Prop} {st : List AV} {σ : St} {l0 l2 l3 : Option AV} {x : Option (Nat × Nat × Nat)} : Rn (d) Q (218, 216, [l0, some (vR x), l2, l3], st, σ) = Rn (d) Q (218, 217, [l0, some (vR x), l2, l3], vR x :: st, σ) := E_aload_n i218_216 rfl
theorem i218_217 : ins 218 217 = some (.aload_n 0, 1) := (congrArg (fun x : PTy => x.1.lookup 217) q218).trans rfl
theorem e218_217 {d : Nat} {Q : Option AV → St → Prop} {st : List AV} {σ : St} {l1 l2 l3 : Option AV} {x : Option (Nat × Nat × Nat)} : Rn (d) Q (218, 217, [some (vR x), l1, l2, l3], st, σ) = Rn (d) Q (218, 218, [some (vR x), l1, l2, l3], vR x :: st, σ) := E_aload_n i218_217 rfl
theorem i218_218 : ins 218 218 = some (.iload_n 3, 1) := (congrArg (fun x : PTy => x.1.lookup 218) q218).trans rfl
theorem e218_218 {d : Nat} {Q : Option AV → St → Prop} {st : List AV} {σ : St} {l0 l1 l2 : Option AV} {x : Int32} : Rn (d) Q (218, 218, [l0, l1, l2, some (vI x)], st, σ) = Rn (d) Q (218, 219, [l0, l1, l2, some (vI x)], vI x :: st, σ) := E_iload_n i218_218 rfl
theorem i218_219 : ins 218 219 = some (.iconst 1, 1) := (congrArg (fun x : PTy => x.1.lookup 219) q218).trans rfl
theorem e218_219 {d : Nat} {Q : Option AV → St → Prop} {st : List AV} {σ : St} {l0 l1 l2 l3 : Option AV} : Rn (d) Q (218, 219, [l0, l1, l2, l3], st, σ) = Rn (d) Q (218, 220, [l0, l1, l2, l3], vI 1 :: st, σ) := by rw [E_iconst i218_219, ci_1]
theorem i218_220 : ins 218 220 = some (.iadd, 1) := (congrArg (fun x : PTy => x.1.lookup 220) q218).trans rfl
theorem e218_220 {d : Nat} {Q : Option AV → St → Prop} {st : List AV} {σ : St} {l0 l1 l2 l3 : Option AV} {x y : Int32} : Rn (d) Q (218, 220, [l0, l1, l2, l3], vI y :: vI x :: st, σ) = Rn (d) Q (218, 221, [l0, l1, l2, l3], vI (x + y) :: st, σ) := E_iadd i218_220
theorem i218_221 : ins 218 221 = some (.iaload, 1) := (congrArg (fun x : PTy => x.1.lookup 221) q218).trans rfl
theorem e218_221 {d : Nat} {Q : Option AV → St → Prop} {st : List AV} {σ : St} {l0 l1 l2 l3 : Option AV} {i : Nat} {j : Int32} : Rn (d) Q (218, 221, [l0, l1, l2, l3], vI j :: vR (some (13, 1, i)) :: st, σ) = (∃ n, gL σ 13 0 i = some n ∧ i < gN σ 13 ∧ (0 ≤ j.toInt ∧ j.toInt < n) ∧ Rn (d) Q (218, 222, [l0, l1, l2, l3], vI (gA σ 13 0 i j.toNatClampNeg) :: st, σ)) := E_iaload1 i218_221 rfl
theorem i218_222 : ins 218 222 = some (.i2l, 1) := (congrArg (fun x : PTy => x.1.lookup 222) q218).trans rfl
theorem e218_222 {d : Nat} {Q : Option AV → St → Prop} {st : List AV} {σ : St} {l0 l1 l2 l3 : Option AV} {x : Int32} : Rn (d) Q (218, 222, [l0, l1, l2, l3], vI x :: st, σ) = Rn (d) Q (218, 223, [l0, l1, l2, l3], vL x.toInt64 :: st, σ) := E_i2l i218_222
theorem i218_223 : ins 218 223 = some (.bipush 32, 2) := (congrArg (fun x : PTy => x.1.lookup 223) q218).trans rfl
theorem e218_223 {d : Nat} {Q : Option AV → St → Prop} {st : List AV} {σ : St} {l0 l1 l2 l3 : Option AV} : Rn (d) Q (218, 223, [l0, l1, l2, l3], st, σ) = Rn (d) Q (218, 225, [l0, l1, l2, l3], vI 32 :: st, σ) := by rw [E_bipush i218_223, cb_32]
theorem i218_225 : ins 218 225 = some (.lshl, 1) := (congrArg (fun x : PTy => x.1.lookup 225) q218).trans rfl
theorem e218_225 {d : Nat} {Q : Option AV → St → Prop} {st : List AV} {σ : St} {l0 l1 l2 l3 : Option AV} {x : Int64} {y : Int32} : Rn (d) Q (218, 225, [l0, l1, l2, l3], vI y :: vL x :: st, σ) = Rn (d) Q (218, 226, [l0, l1, l2, l3], vL (x <<< (y.toInt64 &&& 63)) :: st, σ) := E_lshl i218_225
theorem i218_226 : ins 218 226 = some (.aload_n 0, 1) := (congrArg (fun x : PTy => x.1.lookup 226) q218).trans rfl
theorem e218_226 {d : Nat} {Q : Option AV → St → Prop} {st : List AV} {σ : St} {l1 l2 l3 : Option AV} {x : Option (Nat × Nat × Nat)} : Rn (d) Q (218, 226, [some (vR x), l1, l2, l3], st, σ) = Rn (d) Q (218, 227, [some (vR x), l1, l2, l3], vR x :: st, σ) := E_aload_n i218_226 rfl
theorem i218_227 : ins 218 227 = some (.iload_n 3, 1) := (congrArg (fun x : PTy => x.1.lookup 227) q218).trans rfl
theorem e218_227 {d : Nat} {Q : Option AV → St → Prop} {st : List AV} {σ : St} {l0 l1 l2 : Option AV} {x : Int32} : Rn (d) Q (218, 227, [l0, l1, l2, some (vI x)], st, σ) = Rn (d) Q (218, 228, [l0, l1, l2, some (vI x)], vI x :: st, σ) := E_iload_n i218_227 rfl
theorem i218_228 : ins 218 228 = some (.iconst 2, 1) := (congrArg (fun x : PTy => x.1.lookup 228) q218).trans rfl
theorem e218_228 {d : Nat} {Q : Option AV → St → Prop} {st : List AV} {σ : St} {l0 l1 l2 l3 : Option AV} : Rn (d) Q (218, 228, [l0, l1, l2, l3], st, σ) = Rn (d) Q (218, 229, [l0, l1, l2, l3], vI 2 :: st, σ) := by rw [E_iconst i218_228, ci_2]
theorem i218_229 : ins 218 229 = some (.iadd, 1) := (congrArg (fun x : PTy => x.1.lookup 229) q218).trans rfl
theorem e218_229 {d : Nat} {Q : Option AV → St → Prop} {st : List AV} {σ : St} {l0 l1 l2 l3 : Option AV} {x y : Int32} : Rn (d) Q (218, 229, [l0, l1, l2, l3], vI y :: vI x :: st, σ) = Rn (d) Q (218, 230, [l0, l1, l2, l3], vI (x + y) :: st, σ) := E_iadd i218_229
theorem i218_230 : ins 218 230 = some (.iaload, 1) := (congrArg (fun x : PTy => x.1.lookup 230) q218).trans rfl
theorem e218_230 {d : Nat} {Q : Option AV → St → Prop} {st : List AV} {σ : St} {l0 l1 l2 l3 : Option AV} {i : Nat} {j : Int32} : Rn (d) Q (218, 230, [l0, l1, l2, l3], vI j :: vR (some (13, 1, i)) :: st, σ) = (∃ n, gL σ 13 0 i = some n ∧ i < gN σ 13 ∧ (0 ≤ j.toInt ∧ j.toInt < n) ∧ Rn (d) Q (218, 231, [l0, l1, l2, l3], vI (gA σ 13 0 i j.toNatClampNeg) :: st, σ)) := E_iaload1 i218_230 rfl
theorem i218_231 : ins 218 231 = some (.i2l, 1) := (congrArg (fun x : PTy => x.1.lookup 231) q218).trans rfl
theorem e218_231 {d : Nat} {Q : Option AV → St → Prop} {st : List AV} {σ : St} {l0 l1 l2 l3 : Option AV} {x : Int32} : Rn (d) Q (218, 231, [l0, l1, l2, l3], vI x :: st, σ) = Rn (d) Q (218, 232, [l0, l1, l2, l3], vL x.toInt64 :: st, σ) := E_i2l i218_231
theorem i218_232 : ins 218 232 = some (.ldc2_w 13, 3) := (congrArg (fun x : PTy => x.1.lookup 232) q218).trans rfl
theorem e218_232 {d : Nat} {Q : Option AV → St → Prop} {st : List AV} {σ : St} {l0 l1 l2 l3 : Option AV} : Rn (d) Q (218, 232, [l0, l1, l2, l3], st, σ) = Rn (d) Q (218, 235, [l0, l1, l2, l3], vL 4294967295 :: st, σ) := E_ldc2_w i218_232 ((congrArg (fun z => lngQ z 13) o218).trans l13_13)
theorem i218_235 : ins 218 235 = some (.land, 1) := (congrArg (fun x : PTy => x.1.lookup 235) q218).trans rfl
theorem e218_235 {d : Nat} {Q : Option AV → St → Prop} {st : List AV} {σ : St} {l0 l1 l2 l3 : Option AV} {x y : Int64} : Rn (d) Q (218, 235, [l0, l1, l2, l3], vL y :: vL x :: st, σ) = Rn (d) Q (218, 236, [l0, l1, l2, l3], vL (x &&& y) :: st, σ) := E_land i218_235
theorem i218_236 : ins 218 236 = some (.lor, 1) := (congrArg (fun x : PTy => x.1.lookup 236) q218).trans rfl
theorem e218_236 {d : Nat} {Q : Option AV → St → Prop} {st : List AV} {σ : St} {l0 l1 l2 l3 : Option AV} {x y : Int64} : Rn (d) Q (218, 236, [l0, l1, l2, l3], vL y :: vL x :: st, σ) = Rn (d) Q (218, 237, [l0, l1, l2, l3], vL (x ||| y) :: st, σ) := E_lor i218_236
theorem i218_237 : ins 218 237 = some (.aload_n 0, 1) := (congrArg (fun x : PTy => x.1.lookup 237) q218).trans rfl
theorem e218_237 {d : Nat} {Q : Option AV → St → Prop} {st : List AV} {σ : St} {l1 l2 l3 : Option AV} {x : Option (Nat × Nat × Nat)} : Rn (d) Q (218, 237, [some (vR x), l1, l2, l3], st, σ) = Rn (d) Q (218, 238, [some (vR x), l1, l2, l3], vR x :: st, σ) := E_aload_n i218_237 rfl
theorem i218_238 : ins 218 238 = some (.iload_n 3, 1) := (congrArg (fun x : PTy => x.1.lookup 238) q218).trans rfl
theorem e218_238 {d : Nat} {Q : Option AV → St → Prop} {st : List AV} {σ : St} {l0 l1 l2 : Option AV} {x : Int32} : Rn (d) Q (218, 238, [l0, l1, l2, some (vI x)], st, σ) = Rn (d) Q (218, 239, [l0, l1, l2, some (vI x)], vI x :: st, σ) := E_iload_n i218_238 rfl
theorem i218_239 : ins 218 239 = some (.iconst 3, 1) := (congrArg (fun x : PTy => x.1.lookup 239) q218).trans rfl
theorem e218_239 {d : Nat} {Q : Option AV → St → Prop} {st : List AV} {σ : St} {l0 l1 l2 l3 : Option AV} : Rn (d) Q (218, 239, [l0, l1, l2, l3], st, σ) = Rn (d) Q (218, 240, [l0, l1, l2, l3], vI 3 :: st, σ) := by rw [E_iconst i218_239, ci_3]
theorem i218_240 : ins 218 240 = some (.iadd, 1) := (congrArg (fun x : PTy => x.1.lookup 240) q218).trans rfl
theorem e218_240 {d : Nat} {Q : Option AV → St → Prop} {st : List AV} {σ : St} {l0 l1 l2 l3 : Option AV} {x y : Int32} : Rn (d) Q (218, 240, [l0, l1, l2, l3], vI y :: vI x :: st, σ) = Rn (d) Q (218, 241, [l0, l1, l2, l3], vI (x + y) :: st, σ) := E_iadd i218_240
theorem i218_241 : ins 218 241 = some (.iaload, 1) := (congrArg (fun x : PTy => x.1.lookup 241) q218).trans rfl
theorem e218_241 {d : Nat} {Q : Option AV → St → Prop} {st : List AV} {σ : St} {l0 l1 l2 l3 : Option AV} {i : Nat} {j : Int32} : Rn (d) Q (218, 241, [l0, l1, l2, l3], vI j :: vR (some (13, 1, i)) :: st, σ) = (∃ n, gL σ 13 0 i = some n ∧ i < gN σ 13 ∧ (0 ≤ j.toInt ∧ j.toInt < n) ∧ Rn (d) Q (218, 242, [l0, l1, l2, l3], vI (gA σ 13 0 i j.toNatClampNeg) :: st, σ)) := E_iaload1 i218_241 rfl
theorem i218_242 : ins 218 242 = some (.invokevirtual 15, 3) := (congrArg (fun x : PTy => x.1.lookup 242) q218).trans rfl
theorem e218_242 {d : Nat} {Q : Option AV → St → Prop} {st : List AV} {σ : St} {l0 l1 l2 l3 : Option AV} {i : Nat} {a1 : Int64} {a2 : Int32} : Rn (d + 1) Q (218, 242, [l0, l1, l2, l3], vI a2 :: vL a1 :: vR (some (11, 0, i)) :: st, σ) = (i < gN σ 11 ∧ catS st ≤ 8 ∧ Rn d (fun r σ' => Rn (d + 1) Q (218, 245, [l0, l1, l2, l3], r.toList ++ st, σ')) (66, 0, [some (vR (some (11, 0, i))), some (vL a1), none, some (vI a2), none, none], [], σ)) := E_invV (a := [vI a2, vL a1]) i218_242 ((congrArg (fun z => mthQ z 15) o218).trans m13_15) o66 rfl (ek66 i a1 a2) (en66 i a1 a2)
theorem i218_245 : ins 218 245 = some (.aload_n 2, 1) := (congrArg (fun x : PTy => x.1.lookup 245) q218).trans rfl
theorem e218_245 {d : Nat} {Q : Option AV → St → Prop} {st : List AV} {σ : St} {l0 l1 l3 : Option AV} {x : Option (Nat × Nat × Nat)} : Rn (d) Q (218, 245, [l0, l1, some (vR x), l3], st, σ) = Rn (d) Q (218, 246, [l0, l1, some (vR x), l3], vR x :: st, σ) := E_aload_n i218_245 rfl
theorem i218_246 : ins 218 246 = some (.aload_n 0, 1) := (congrArg (fun x : PTy => x.1.lookup 246) q218).trans rfl
theorem e218_246 {d : Nat} {Q : Option AV → St → Prop} {st : List AV} {σ : St} {l1 l2 l3 : Option AV} {x : Option (Nat × Nat × Nat)} : Rn (d) Q (218, 246, [some (vR x), l1, l2, l3], st, σ) = Rn (d) Q (218, 247, [some (vR x), l1, l2, l3], vR x :: st, σ) := E_aload_n i218_246 rfl
theorem i218_247 : ins 218 247 = some (.iload_n 3, 1) := (congrArg (fun x : PTy => x.1.lookup 247) q218).trans rfl
theorem e218_247 {d : Nat} {Q : Option AV → St → Prop} {st : List AV} {σ : St} {l0 l1 l2 : Option AV} {x : Int32} : Rn (d) Q (218, 247, [l0, l1, l2, some (vI x)], st, σ) = Rn (d) Q (218, 248, [l0, l1, l2, some (vI x)], vI x :: st, σ) := E_iload_n i218_247 rfl
theorem i218_248 : ins 218 248 = some (.iconst 1, 1) := (congrArg (fun x : PTy => x.1.lookup 248) q218).trans rfl
theorem e218_248 {d : Nat} {Q : Option AV → St → Prop} {st : List AV} {σ : St} {l0 l1 l2 l3 : Option AV} : Rn (d) Q (218, 248, [l0, l1, l2, l3], st, σ) = Rn (d) Q (218, 249, [l0, l1, l2, l3], vI 1 :: st, σ) := by rw [E_iconst i218_248, ci_1]
theorem i218_249 : ins 218 249 = some (.iadd, 1) := (congrArg (fun x : PTy => x.1.lookup 249) q218).trans rfl
theorem e218_249 {d : Nat} {Q : Option AV → St → Prop} {st : List AV} {σ : St} {l0 l1 l2 l3 : Option AV} {x y : Int32} : Rn (d) Q (218, 249, [l0, l1, l2, l3], vI y :: vI x :: st, σ) = Rn (d) Q (218, 250, [l0, l1, l2, l3], vI (x + y) :: st, σ) := E_iadd i218_249
theorem i218_250 : ins 218 250 = some (.iaload, 1) := (congrArg (fun x : PTy => x.1.lookup 250) q218).trans rfl
theorem e218_250 {d : Nat} {Q : Option AV → St → Prop} {st : List AV} {σ : St} {l0 l1 l2 l3 : Option AV} {i : Nat} {j : Int32} : Rn (d) Q (218, 250, [l0, l1, l2, l3], vI j :: vR (some (13, 1, i)) :: st, σ) = (∃ n, gL σ 13 0 i = some n ∧ i < gN σ 13 ∧ (0 ≤ j.toInt ∧ j.toInt < n) ∧ Rn (d) Q (218, 251, [l0, l1, l2, l3], vI (gA σ 13 0 i j.toNatClampNeg) :: st, σ)) := E_iaload1 i218_250 rfl
theorem i218_251 : ins 218 251 = some (.i2l, 1) := (congrArg (fun x : PTy => x.1.lookup 251) q218).trans rfl
theorem e218_251 {d : Nat} {Q : Option AV → St → Prop} {st : List AV} {σ : St} {l0 l1 l2 l3 : Option AV} {x : Int32} : Rn (d) Q (218, 251, [l0, l1, l2, l3], vI x :: st, σ) = Rn (d) Q (218, 252, [l0, l1, l2, l3], vL x.toInt64 :: st, σ) := E_i2l i218_251
theorem i218_252 : ins 218 252 = some (.bipush 32, 2) := (congrArg (fun x : PTy => x.1.lookup 252) q218).trans rfl
theorem e218_252 {d : Nat} {Q : Option AV → St → Prop} {st : List AV} {σ : St} {l0 l1 l2 l3 : Option AV} : Rn (d) Q (218, 252, [l0, l1, l2, l3], st, σ) = Rn (d) Q (218, 254, [l0, l1, l2, l3], vI 32 :: st, σ) := by rw [E_bipush i218_252, cb_32]
theorem i218_254 : ins 218 254 = some (.lshl, 1) := (congrArg (fun x : PTy => x.1.lookup 254) q218).trans rfl
theorem e218_254 {d : Nat} {Q : Option AV → St → Prop} {st : List AV} {σ : St} {l0 l1 l2 l3 : Option AV} {x : Int64} {y : Int32} : Rn (d) Q (218, 254, [l0, l1, l2, l3], vI y :: vL x :: st, σ) = Rn (d) Q (218, 255, [l0, l1, l2, l3], vL (x <<< (y.toInt64 &&& 63)) :: st, σ) := E_lshl i218_254
theorem i218_255 : ins 218 255 = some (.aload_n 0, 1) := (congrArg (fun x : PTy => x.1.lookup 255) q218).trans rfl
theorem e218_255 {d : Nat} {Q : Option AV → St → Prop} {st : List AV} {σ : St} {l1 l2 l3 : Option AV} {x : Option (Nat × Nat × Nat)} : Rn (d) Q (218, 255, [some (vR x), l1, l2, l3], st, σ) = Rn (d) Q (218, 256, [some (vR x), l1, l2, l3], vR x :: st, σ) := E_aload_n i218_255 rfl
theorem i218_256 : ins 218 256 = some (.iload_n 3, 1) := (congrArg (fun x : PTy => x.1.lookup 256) q218).trans rfl
theorem e218_256 {d : Nat} {Q : Option AV → St → Prop} {st : List AV} {σ : St} {l0 l1 l2 : Option AV} {x : Int32} : Rn (d) Q (218, 256, [l0, l1, l2, some (vI x)], st, σ) = Rn (d) Q (218, 257, [l0, l1, l2, some (vI x)], vI x :: st, σ) := E_iload_n i218_256 rfl
theorem i218_257 : ins 218 257 = some (.iconst 2, 1) := (congrArg (fun x : PTy => x.1.lookup 257) q218).trans rfl
theorem e218_257 {d : Nat} {Q : Option AV → St → Prop} {st : List AV} {σ : St} {l0 l1 l2 l3 : Option AV} : Rn (d) Q (218, 257, [l0, l1, l2, l3], st, σ) = Rn (d) Q (218, 258, [l0, l1, l2, l3], vI 2 :: st, σ) := by rw [E_iconst i218_257, ci_2]
theorem i218_258 : ins 218 258 = some (.iadd, 1) := (congrArg (fun x : PTy => x.1.lookup 258) q218).trans rfl
theorem e218_258 {d : Nat} {Q : Option AV → St → Prop} {st : List AV} {σ : St} {l0 l1 l2 l3 : Option AV} {x y : Int32} : Rn (d) Q (218, 258, [l0, l1, l2, l3], vI y :: vI x :: st, σ) = Rn (d) Q (218, 259, [l0, l1, l2, l3], vI (x + y) :: st, σ) := E_iadd i218_258
theorem i218_259 : ins 218 259 = some (.iaload, 1) := (congrArg (fun x : PTy => x.1.lookup 259) q218).trans rfl
theorem e218_259 {d : Nat} {Q : Option AV → St → Prop} {st : List AV} {σ : St} {l0 l1 l2 l3 : Option AV} {i : Nat} {j : Int32} : Rn (d) Q (218, 259, [l0, l1, l2, l3], vI j :: vR (some (13, 1, i)) :: st, σ) = (∃ n, gL σ 13 0 i = some n ∧ i < gN σ 13 ∧ (0 ≤ j.toInt ∧ j.toInt < n) ∧ Rn (d) Q (218, 260, [l0, l1, l2, l3], vI (gA σ 13 0 i j.toNatClampNeg) :: st, σ)) := E_iaload1 i218_259 rfl
theorem i218_260 : ins 218 260 = some (.i2l, 1) := (congrArg (fun x : PTy => x.1.lookup 260) q218).trans rfl
theorem e218_260 {d : Nat} {Q : Option AV → St → Prop} {st : List AV} {σ : St} {l0 l1 l2 l3 : Option AV} {x : Int32} : Rn (d) Q (218, 260, [l0, l1, l2, l3], vI x :: st, σ) = Rn (d) Q (218, 261, [l0, l1, l2, l3], vL x.toInt64 :: st, σ) := E_i2l i218_260
theorem i218_261 : ins 218 261 = some (.ldc2_w 13, 3) := (congrArg (fun x : PTy => x.1.lookup 261) q218).trans rfl
theorem e218_261 {d : Nat} {Q : Option AV → St → Prop} {st : List AV} {σ : St} {l0 l1 l2 l3 : Option AV} : Rn (d) Q (218, 261, [l0, l1, l2, l3], st, σ) = Rn (d) Q (218, 264, [l0, l1, l2, l3], vL 4294967295 :: st, σ) := E_ldc2_w i218_261 ((congrArg (fun z => lngQ z 13) o218).trans l13_13)
theorem i218_264 : ins 218 264 = some (.land, 1) := (congrArg (fun x : PTy => x.1.lookup 264) q218).trans rfl
theorem e218_264 {d : Nat} {Q : Option AV → St → Prop} {st : List AV} {σ : St} {l0 l1 l2 l3 : Option AV} {x y : Int64} : Rn (d) Q (218, 264, [l0, l1, l2, l3], vL y :: vL x :: st, σ) = Rn (d) Q (218, 265, [l0, l1, l2, l3], vL (x &&& y) :: st, σ) := E_land i218_264
theorem i218_265 : ins 218 265 = some (.lor, 1) := (congrArg (fun x : PTy => x.1.lookup 265) q218).trans rfl
theorem e218_265 {d : Nat} {Q : Option AV → St → Prop} {st : List AV} {σ : St} {l0 l1 l2 l3 : Option AV} {x y : Int64} : Rn (d) Q (218, 265, [l0, l1, l2, l3], vL y :: vL x :: st, σ) = Rn (d) Q (218, 266, [l0, l1, l2, l3], vL (x ||| y) :: st, σ) := E_lor i218_265
theorem i218_266 : ins 218 266 = some (.aload_n 0, 1) := (congrArg (fun x : PTy => x.1.lookup 266) q218).trans rfl
theorem e218_266 {d : Nat} {Q : Option AV → St → Prop} {st : List AV} {σ : St} {l1 l2 l3 : Option AV} {x : Option (Nat × Nat × Nat)} : Rn (d) Q (218, 266, [some (vR x), l1, l2, l3], st, σ) = Rn (d) Q (218, 267, [some (vR x), l1, l2, l3], vR x :: st, σ) := E_aload_n i218_266 rfl
theorem i218_267 : ins 218 267 = some (.iload_n 3, 1) := (congrArg (fun x : PTy => x.1.lookup 267) q218).trans rfl
theorem e218_267 {d : Nat} {Q : Option AV → St → Prop} {st : List AV} {σ : St} {l0 l1 l2 : Option AV} {x : Int32} : Rn (d) Q (218, 267, [l0, l1, l2, some (vI x)], st, σ) = Rn (d) Q (218, 268, [l0, l1, l2, some (vI x)], vI x :: st, σ) := E_iload_n i218_267 rfl
theorem i218_268 : ins 218 268 = some (.iconst 3, 1) := (congrArg (fun x : PTy => x.1.lookup 268) q218).trans rfl
theorem e218_268 {d : Nat} {Q : Option AV → St → Prop} {st : List AV} {σ : St} {l0 l1 l2 l3 : Option AV} : Rn (d) Q (218, 268, [l0, l1, l2, l3], st, σ) = Rn (d) Q (218, 269, [l0, l1, l2, l3], vI 3 :: st, σ) := by rw [E_iconst i218_268, ci_3]
theorem i218_269 : ins 218 269 = some (.iadd, 1) := (congrArg (fun x : PTy => x.1.lookup 269) q218).trans rfl
theorem e218_269 {d : Nat} {Q : Option AV → St → Prop} {st : List AV} {σ : St} {l0 l1 l2 l3 : Option AV} {x y : Int32} : Rn (d) Q (218, 269, [l0, l1, l2, l3], vI y :: vI x :: st, σ) = Rn (d) Q (218, 270, [l0, l1, l2, l3], vI (x + y) :: st, σ) := E_iadd i218_269
theorem i218_270 : ins 218 270 = some (.iaload, 1) := (congrArg (fun x : PTy => x.1.lookup 270) q218).trans rfl
theorem e218_270 {d : Nat} {Q : Option AV → St → Prop} {st : List AV} {σ : St} {l0 l1 l2 l3 : Option AV} {i : Nat} {j : Int32} : Rn (d) Q (218, 270, [l0, l1, l2, l3], vI j :: vR (some (13, 1, i)) :: st, σ) = (∃ n, gL σ 13 0 i = some n ∧ i < gN σ 13 ∧ (0 ≤ j.toInt ∧ j.toInt < n) ∧ Rn (d) Q (218, 271, [l0, l1, l2, l3], vI (gA σ 13 0 i j.toNatClampNeg) :: st, σ)) := E_iaload1 i218_270 rfl
theorem i218_271 : ins 218 271 = some (.invokevirtual 19, 3) := (congrArg (fun x : PTy => x.1.lookup 271) q218).trans rfl
theorem e218_271 {d : Nat} {Q : Option AV → St → Prop} {st : List AV} {σ : St} {l0 l1 l2 l3 : Option AV} {i : Nat} {a1 : Int64} {a2 : Int32} : Rn (d + 1) Q (218, 271, [l0, l1, l2, l3], vI a2 :: vL a1 :: vR (some (12, 0, i)) :: st, σ) = (i < gN σ 12 ∧ catS st ≤ 8 ∧ Rn d (fun r σ' => Rn (d + 1) Q (218, 274, [l0, l1, l2, l3], r.toList ++ st, σ')) (132, 0, [some (vR (some (12, 0, i))), some (vL a1), none, some (vI a2), none], [], σ)) := E_invV (a := [vI a2, vL a1]) i218_271 ((congrArg (fun z => mthQ z 19) o218).trans m13_19) o132 rfl (ek132 i a1 a2) (en132 i a1 a2)
theorem i218_274 : ins 218 274 = some (.if_icmp .eq 1538, 3) := (congrArg (fun x : PTy => x.1.lookup 274) q218).trans rfl
theorem e218_274 {d : Nat} {Q : Option AV → St → Prop} {st : List AV} {σ : St} {l0 l1 l2 l3 : Option AV} {x y : Int32} : Rn (d) Q (218, 274, [l0, l1, l2, l3], vI y :: vI x :: st, σ) = (if x = y then Rn (d) Q (218, 1812, [l0, l1, l2, l3], st, σ) else Rn (d) Q (218, 277, [l0, l1, l2, l3], st, σ)) := E_icmp_eq 1812 i218_274 (by decide)
theorem i218_277 : ins 218 277 = some (.iconst 0, 1) := (congrArg (fun x : PTy => x.1.lookup 277) q218).trans rfl
theorem e218_277 {d : Nat} {Q : Option AV → St → Prop} {st : List AV} {σ : St} {l0 l1 l2 l3 : Option AV} : Rn (d) Q (218, 277, [l0, l1, l2, l3], st, σ) = Rn (d) Q (218, 278, [l0, l1, l2, l3], vI 0 :: st, σ) := by rw [E_iconst i218_277, ci_0]
theorem i218_278 : ins 218 278 = some (.ireturn, 1) := (congrArg (fun x : PTy => x.1.lookup 278) q218).trans rfl
theorem e218_278 {d : Nat} {Q : Option AV → St → Prop} {st : List AV} {σ : St} {l0 l1 l2 l3 : Option AV} {x : Int32} : Rn (d) Q (218, 278, [l0, l1, l2, l3], [vI x], σ) = ((x = 0 ∨ x = 1) ∧ Q (some (vI x)) σ) := E_iretZ (st := []) i218_278 r218
theorem i218_279 : ins 218 279 = some (.aload_n 1, 1) := (congrArg (fun x : PTy => x.1.lookup 279) q218).trans rfl
theorem e218_279 {d : Nat} {Q : Option AV → St → Prop} {st : List AV} {σ : St} {l0 l2 l3 : Option AV} {x : Option (Nat × Nat × Nat)} : Rn (d) Q (218, 279, [l0, some (vR x), l2, l3], st, σ) = Rn (d) Q (218, 280, [l0, some (vR x), l2, l3], vR x :: st, σ) := E_aload_n i218_279 rfl
theorem i218_280 : ins 218 280 = some (.aload_n 0, 1) := (congrArg (fun x : PTy => x.1.lookup 280) q218).trans rfl
theorem e218_280 {d : Nat} {Q : Option AV → St → Prop} {st : List AV} {σ : St} {l1 l2 l3 : Option AV} {x : Option (Nat × Nat × Nat)} : Rn (d) Q (218, 280, [some (vR x), l1, l2, l3], st, σ) = Rn (d) Q (218, 281, [some (vR x), l1, l2, l3], vR x :: st, σ) := E_aload_n i218_280 rfl
theorem i218_281 : ins 218 281 = some (.iload_n 3, 1) := (congrArg (fun x : PTy => x.1.lookup 281) q218).trans rfl
theorem e218_281 {d : Nat} {Q : Option AV → St → Prop} {st : List AV} {σ : St} {l0 l1 l2 : Option AV} {x : Int32} : Rn (d) Q (218, 281, [l0, l1, l2, some (vI x)], st, σ) = Rn (d) Q (218, 282, [l0, l1, l2, some (vI x)], vI x :: st, σ) := E_iload_n i218_281 rfl
theorem i218_282 : ins 218 282 = some (.iconst 1, 1) := (congrArg (fun x : PTy => x.1.lookup 282) q218).trans rfl
theorem e218_282 {d : Nat} {Q : Option AV → St → Prop} {st : List AV} {σ : St} {l0 l1 l2 l3 : Option AV} : Rn (d) Q (218, 282, [l0, l1, l2, l3], st, σ) = Rn (d) Q (218, 283, [l0, l1, l2, l3], vI 1 :: st, σ) := by rw [E_iconst i218_282, ci_1]
theorem i218_283 : ins 218 283 = some (.iadd, 1) := (congrArg (fun x : PTy => x.1.lookup 283) q218).trans rfl
theorem e218_283 {d : Nat} {Q : Option AV → St → Prop} {st : List AV} {σ : St} {l0 l1 l2 l3 : Option AV} {x y : Int32} : Rn (d) Q (218, 283, [l0, l1, l2, l3], vI y :: vI x :: st, σ) = Rn (d) Q (218, 284, [l0, l1, l2, l3], vI (x + y) :: st, σ) := E_iadd i218_283
theorem i218_284 : ins 218 284 = some (.iaload, 1) := (congrArg (fun x : PTy => x.1.lookup 284) q218).trans rfl
theorem e218_284 {d : Nat} {Q : Option AV → St → Prop} {st : List AV} {σ : St} {l0 l1 l2 l3 : Option AV} {i : Nat} {j : Int32} : Rn (d) Q (218, 284, [l0, l1, l2, l3], vI j :: vR (some (13, 1, i)) :: st, σ) = (∃ n, gL σ 13 0 i = some n ∧ i < gN σ 13 ∧ (0 ≤ j.toInt ∧ j.toInt < n) ∧ Rn (d) Q (218, 285, [l0, l1, l2, l3], vI (gA σ 13 0 i j.toNatClampNeg) :: st, σ)) := E_iaload1 i218_284 rfl
theorem i218_285 : ins 218 285 = some (.aload_n 0, 1) := (congrArg (fun x : PTy => x.1.lookup 285) q218).trans rfl
theorem e218_285 {d : Nat} {Q : Option AV → St → Prop} {st : List AV} {σ : St} {l1 l2 l3 : Option AV} {x : Option (Nat × Nat × Nat)} : Rn (d) Q (218, 285, [some (vR x), l1, l2, l3], st, σ) = Rn (d) Q (218, 286, [some (vR x), l1, l2, l3], vR x :: st, σ) := E_aload_n i218_285 rfl
theorem i218_286 : ins 218 286 = some (.iload_n 3, 1) := (congrArg (fun x : PTy => x.1.lookup 286) q218).trans rfl
theorem e218_286 {d : Nat} {Q : Option AV → St → Prop} {st : List AV} {σ : St} {l0 l1 l2 : Option AV} {x : Int32} : Rn (d) Q (218, 286, [l0, l1, l2, some (vI x)], st, σ) = Rn (d) Q (218, 287, [l0, l1, l2, some (vI x)], vI x :: st, σ) := E_iload_n i218_286 rfl
theorem i218_287 : ins 218 287 = some (.iconst 2, 1) := (congrArg (fun x : PTy => x.1.lookup 287) q218).trans rfl
theorem e218_287 {d : Nat} {Q : Option AV → St → Prop} {st : List AV} {σ : St} {l0 l1 l2 l3 : Option AV} : Rn (d) Q (218, 287, [l0, l1, l2, l3], st, σ) = Rn (d) Q (218, 288, [l0, l1, l2, l3], vI 2 :: st, σ) := by rw [E_iconst i218_287, ci_2]
theorem i218_288 : ins 218 288 = some (.iadd, 1) := (congrArg (fun x : PTy => x.1.lookup 288) q218).trans rfl
theorem e218_288 {d : Nat} {Q : Option AV → St → Prop} {st : List AV} {σ : St} {l0 l1 l2 l3 : Option AV} {x y : Int32} : Rn (d) Q (218, 288, [l0, l1, l2, l3], vI y :: vI x :: st, σ) = Rn (d) Q (218, 289, [l0, l1, l2, l3], vI (x + y) :: st, σ) := E_iadd i218_288
theorem i218_289 : ins 218 289 = some (.iaload, 1) := (congrArg (fun x : PTy => x.1.lookup 289) q218).trans rfl
theorem e218_289 {d : Nat} {Q : Option AV → St → Prop} {st : List AV} {σ : St} {l0 l1 l2 l3 : Option AV} {i : Nat} {j : Int32} : Rn (d) Q (218, 289, [l0, l1, l2, l3], vI j :: vR (some (13, 1, i)) :: st, σ) = (∃ n, gL σ 13 0 i = some n ∧ i < gN σ 13 ∧ (0 ≤ j.toInt ∧ j.toInt < n) ∧ Rn (d) Q (218, 290, [l0, l1, l2, l3], vI (gA σ 13 0 i j.toNatClampNeg) :: st, σ)) := E_iaload1 i218_289 rfl
theorem i218_290 : ins 218 290 = some (.invokevirtual 20, 3) := (congrArg (fun x : PTy => x.1.lookup 290) q218).trans rfl
theorem e218_290 {d : Nat} {Q : Option AV → St → Prop} {st : List AV} {σ : St} {l0 l1 l2 l3 : Option AV} {i : Nat} {a1 : Int32} {a2 : Int32} : Rn (d + 1) Q (218, 290, [l0, l1, l2, l3], vI a2 :: vI a1 :: vR (some (11, 0, i)) :: st, σ) = (i < gN σ 11 ∧ catS st ≤ 8 ∧ Rn d (fun r σ' => Rn (d + 1) Q (218, 293, [l0, l1, l2, l3], r.toList ++ st, σ')) (67, 0, [some (vR (some (11, 0, i))), some (vI a1), some (vI a2), none, none], [], σ)) := E_invV (a := [vI a2, vI a1]) i218_290 ((congrArg (fun z => mthQ z 20) o218).trans m13_20) o67 rfl (ek67 i a1 a2) (en67 i a1 a2)
theorem i218_293 : ins 218 293 = some (.aload_n 2, 1) := (congrArg (fun x : PTy => x.1.lookup 293) q218).trans rfl
theorem e218_293 {d : Nat} {Q : Option AV → St → Prop} {st : List AV} {σ : St} {l0 l1 l3 : Option AV} {x : Option (Nat × Nat × Nat)} : Rn (d) Q (218, 293, [l0, l1, some (vR x), l3], st, σ) = Rn (d) Q (218, 294, [l0, l1, some (vR x), l3], vR x :: st, σ) := E_aload_n i218_293 rfl
theorem i218_294 : ins 218 294 = some (.aload_n 0, 1) := (congrArg (fun x : PTy => x.1.lookup 294) q218).trans rfl
theorem e218_294 {d : Nat} {Q : Option AV → St → Prop} {st : List AV} {σ : St} {l1 l2 l3 : Option AV} {x : Option (Nat × Nat × Nat)} : Rn (d) Q (218, 294, [some (vR x), l1, l2, l3], st, σ) = Rn (d) Q (218, 295, [some (vR x), l1, l2, l3], vR x :: st, σ) := E_aload_n i218_294 rfl
theorem i218_295 : ins 218 295 = some (.iload_n 3, 1) := (congrArg (fun x : PTy => x.1.lookup 295) q218).trans rfl
theorem e218_295 {d : Nat} {Q : Option AV → St → Prop} {st : List AV} {σ : St} {l0 l1 l2 : Option AV} {x : Int32} : Rn (d) Q (218, 295, [l0, l1, l2, some (vI x)], st, σ) = Rn (d) Q (218, 296, [l0, l1, l2, some (vI x)], vI x :: st, σ) := E_iload_n i218_295 rfl
theorem i218_296 : ins 218 296 = some (.iconst 1, 1) := (congrArg (fun x : PTy => x.1.lookup 296) q218).trans rfl
theorem e218_296 {d : Nat} {Q : Option AV → St → Prop} {st : List AV} {σ : St} {l0 l1 l2 l3 : Option AV} : Rn (d) Q (218, 296, [l0, l1, l2, l3], st, σ) = Rn (d) Q (218, 297, [l0, l1, l2, l3], vI 1 :: st, σ) := by rw [E_iconst i218_296, ci_1]
theorem i218_297 : ins 218 297 = some (.iadd, 1) := (congrArg (fun x : PTy => x.1.lookup 297) q218).trans rfl
theorem e218_297 {d : Nat} {Q : Option AV → St → Prop} {st : List AV} {σ : St} {l0 l1 l2 l3 : Option AV} {x y : Int32} : Rn (d) Q (218, 297, [l0, l1, l2, l3], vI y :: vI x :: st, σ) = Rn (d) Q (218, 298, [l0, l1, l2, l3], vI (x + y) :: st, σ) := E_iadd i218_297
theorem i218_298 : ins 218 298 = some (.iaload, 1) := (congrArg (fun x : PTy => x.1.lookup 298) q218).trans rfl
theorem e218_298 {d : Nat} {Q : Option AV → St → Prop} {st : List AV} {σ : St} {l0 l1 l2 l3 : Option AV} {i : Nat} {j : Int32} : Rn (d) Q (218, 298, [l0, l1, l2, l3], vI j :: vR (some (13, 1, i)) :: st, σ) = (∃ n, gL σ 13 0 i = some n ∧ i < gN σ 13 ∧ (0 ≤ j.toInt ∧ j.toInt < n) ∧ Rn (d) Q (218, 299, [l0, l1, l2, l3], vI (gA σ 13 0 i j.toNatClampNeg) :: st, σ)) := E_iaload1 i218_298 rfl
theorem i218_299 : ins 218 299 = some (.aload_n 0, 1) := (congrArg (fun x : PTy => x.1.lookup 299) q218).trans rfl
theorem e218_299 {d : Nat} {Q : Option AV → St → Prop} {st : List AV} {σ : St} {l1 l2 l3 : Option AV} {x : Option (Nat × Nat × Nat)} : Rn (d) Q (218, 299, [some (vR x), l1, l2, l3], st, σ) = Rn (d) Q (218, 300, [some (vR x), l1, l2, l3], vR x :: st, σ) := E_aload_n i218_299 rfl
theorem i218_300 : ins 218 300 = some (.iload_n 3, 1) := (congrArg (fun x : PTy => x.1.lookup 300) q218).trans rfl
theorem e218_300 {d : Nat} {Q : Option AV → St → Prop} {st : List AV} {σ : St} {l0 l1 l2 : Option AV} {x : Int32} : Rn (d) Q (218, 300, [l0, l1, l2, some (vI x)], st, σ) = Rn (d) Q (218, 301, [l0, l1, l2, some (vI x)], vI x :: st, σ) := E_iload_n i218_300 rfl
theorem i218_301 : ins 218 301 = some (.iconst 2, 1) := (congrArg (fun x : PTy => x.1.lookup 301) q218).trans rfl
theorem e218_301 {d : Nat} {Q : Option AV → St → Prop} {st : List AV} {σ : St} {l0 l1 l2 l3 : Option AV} : Rn (d) Q (218, 301, [l0, l1, l2, l3], st, σ) = Rn (d) Q (218, 302, [l0, l1, l2, l3], vI 2 :: st, σ) := by rw [E_iconst i218_301, ci_2]
theorem i218_302 : ins 218 302 = some (.iadd, 1) := (congrArg (fun x : PTy => x.1.lookup 302) q218).trans rfl
theorem e218_302 {d : Nat} {Q : Option AV → St → Prop} {st : List AV} {σ : St} {l0 l1 l2 l3 : Option AV} {x y : Int32} : Rn (d) Q (218, 302, [l0, l1, l2, l3], vI y :: vI x :: st, σ) = Rn (d) Q (218, 303, [l0, l1, l2, l3], vI (x + y) :: st, σ) := E_iadd i218_302
theorem i218_303 : ins 218 303 = some (.iaload, 1) := (congrArg (fun x : PTy => x.1.lookup 303) q218).trans rfl
theorem e218_303 {d : Nat} {Q : Option AV → St → Prop} {st : List AV} {σ : St} {l0 l1 l2 l3 : Option AV} {i : Nat} {j : Int32} : Rn (d) Q (218, 303, [l0, l1, l2, l3], vI j :: vR (some (13, 1, i)) :: st, σ) = (∃ n, gL σ 13 0 i = some n ∧ i < gN σ 13 ∧ (0 ≤ j.toInt ∧ j.toInt < n) ∧ Rn (d) Q (218, 304, [l0, l1, l2, l3], vI (gA σ 13 0 i j.toNatClampNeg) :: st, σ)) := E_iaload1 i218_303 rfl
theorem i218_304 : ins 218 304 = some (.invokevirtual 24, 3) := (congrArg (fun x : PTy => x.1.lookup 304) q218).trans rfl
theorem e218_304 {d : Nat} {Q : Option AV → St → Prop} {st : List AV} {σ : St} {l0 l1 l2 l3 : Option AV} {i : Nat} {a1 : Int32} {a2 : Int32} : Rn (d + 1) Q (218, 304, [l0, l1, l2, l3], vI a2 :: vI a1 :: vR (some (12, 0, i)) :: st, σ) = (i < gN σ 12 ∧ catS st ≤ 8 ∧ Rn d (fun r σ' => Rn (d + 1) Q (218, 307, [l0, l1, l2, l3], r.toList ++ st, σ')) (146, 0, [some (vR (some (12, 0, i))), some (vI a1), some (vI a2), none, none, none], [], σ)) := E_invV (a := [vI a2, vI a1]) i218_304 ((congrArg (fun z => mthQ z 24) o218).trans m13_24) o146 rfl (ek146 i a1 a2) (en146 i a1 a2)
theorem i218_307 : ins 218 307 = some (.if_icmp .eq 1505, 3) := (congrArg (fun x : PTy => x.1.lookup 307) q218).trans rfl
theorem e218_307 {d : Nat} {Q : Option AV → St → Prop} {st : List AV} {σ : St} {l0 l1 l2 l3 : Option AV} {x y : Int32} : Rn (d) Q (218, 307, [l0, l1, l2, l3], vI y :: vI x :: st, σ) = (if x = y then Rn (d) Q (218, 1812, [l0, l1, l2, l3], st, σ) else Rn (d) Q (218, 310, [l0, l1, l2, l3], st, σ)) := E_icmp_eq 1812 i218_307 (by decide)
theorem i218_310 : ins 218 310 = some (.iconst 0, 1) := (congrArg (fun x : PTy => x.1.lookup 310) q218).trans rfl
theorem e218_310 {d : Nat} {Q : Option AV → St → Prop} {st : List AV} {σ : St} {l0 l1 l2 l3 : Option AV} : Rn (d) Q (218, 310, [l0, l1, l2, l3], st, σ) = Rn (d) Q (218, 311, [l0, l1, l2, l3], vI 0 :: st, σ) := by rw [E_iconst i218_310, ci_0]
theorem i218_311 : ins 218 311 = some (.ireturn, 1) := (congrArg (fun x : PTy => x.1.lookup 311) q218).trans rfl
theorem e218_311 {d : Nat} {Q : Option AV → St → Prop} {st : List AV} {σ : St} {l0 l1 l2 l3 : Option AV} {x : Int32} : Rn (d) Q (218, 311, [l0, l1, l2, l3], [vI x], σ) = ((x = 0 ∨ x = 1) ∧ Q (some (vI x)) σ) := E_iretZ (st := []) i218_311 r218
theorem i218_312 : ins 218 312 = some (.aload_n 1, 1) := (congrArg (fun x : PTy => x.1.lookup 312) q218).trans rfl
theorem e218_312 {d : Nat} {Q : Option AV → St → Prop} {st : List AV} {σ : St} {l0 l2 l3 : Option AV} {x : Option (Nat × Nat × Nat)} : Rn (d) Q (218, 312, [l0, some (vR x), l2, l3], st, σ) = Rn (d) Q (218, 313, [l0, some (vR x), l2, l3], vR x :: st, σ) := E_aload_n i218_312 rfl
theorem i218_313 : ins 218 313 = some (.aload_n 0, 1) := (congrArg (fun x : PTy => x.1.lookup 313) q218).trans rfl
theorem e218_313 {d : Nat} {Q : Option AV → St → Prop} {st : List AV} {σ : St} {l1 l2 l3 : Option AV} {x : Option (Nat × Nat × Nat)} : Rn (d) Q (218, 313, [some (vR x), l1, l2, l3], st, σ) = Rn (d) Q (218, 314, [some (vR x), l1, l2, l3], vR x :: st, σ) := E_aload_n i218_313 rfl
theorem i218_314 : ins 218 314 = some (.iload_n 3, 1) := (congrArg (fun x : PTy => x.1.lookup 314) q218).trans rfl
theorem e218_314 {d : Nat} {Q : Option AV → St → Prop} {st : List AV} {σ : St} {l0 l1 l2 : Option AV} {x : Int32} : Rn (d) Q (218, 314, [l0, l1, l2, some (vI x)], st, σ) = Rn (d) Q (218, 315, [l0, l1, l2, some (vI x)], vI x :: st, σ) := E_iload_n i218_314 rfl
theorem i218_315 : ins 218 315 = some (.iconst 1, 1) := (congrArg (fun x : PTy => x.1.lookup 315) q218).trans rfl
theorem e218_315 {d : Nat} {Q : Option AV → St → Prop} {st : List AV} {σ : St} {l0 l1 l2 l3 : Option AV} : Rn (d) Q (218, 315, [l0, l1, l2, l3], st, σ) = Rn (d) Q (218, 316, [l0, l1, l2, l3], vI 1 :: st, σ) := by rw [E_iconst i218_315, ci_1]
theorem i218_316 : ins 218 316 = some (.iadd, 1) := (congrArg (fun x : PTy => x.1.lookup 316) q218).trans rfl
theorem e218_316 {d : Nat} {Q : Option AV → St → Prop} {st : List AV} {σ : St} {l0 l1 l2 l3 : Option AV} {x y : Int32} : Rn (d) Q (218, 316, [l0, l1, l2, l3], vI y :: vI x :: st, σ) = Rn (d) Q (218, 317, [l0, l1, l2, l3], vI (x + y) :: st, σ) := E_iadd i218_316
theorem i218_317 : ins 218 317 = some (.iaload, 1) := (congrArg (fun x : PTy => x.1.lookup 317) q218).trans rfl
theorem e218_317 {d : Nat} {Q : Option AV → St → Prop} {st : List AV} {σ : St} {l0 l1 l2 l3 : Option AV} {i : Nat} {j : Int32} : Rn (d) Q (218, 317, [l0, l1, l2, l3], vI j :: vR (some (13, 1, i)) :: st, σ) = (∃ n, gL σ 13 0 i = some n ∧ i < gN σ 13 ∧ (0 ≤ j.toInt ∧ j.toInt < n) ∧ Rn (d) Q (218, 318, [l0, l1, l2, l3], vI (gA σ 13 0 i j.toNatClampNeg) :: st, σ)) := E_iaload1 i218_317 rfl
theorem i218_318 : ins 218 318 = some (.aload_n 0, 1) := (congrArg (fun x : PTy => x.1.lookup 318) q218).trans rfl
theorem e218_318 {d : Nat} {Q : Option AV → St → Prop} {st : List AV} {σ : St} {l1 l2 l3 : Option AV} {x : Option (Nat × Nat × Nat)} : Rn (d) Q (218, 318, [some (vR x), l1, l2, l3], st, σ) = Rn (d) Q (218, 319, [some (vR x), l1, l2, l3], vR x :: st, σ) := E_aload_n i218_318 rfl
theorem i218_319 : ins 218 319 = some (.iload_n 3, 1) := (congrArg (fun x : PTy => x.1.lookup 319) q218).trans rfl
theorem e218_319 {d : Nat} {Q : Option AV → St → Prop} {st : List AV} {σ : St} {l0 l1 l2 : Option AV} {x : Int32} : Rn (d) Q (218, 319, [l0, l1, l2, some (vI x)], st, σ) = Rn (d) Q (218, 320, [l0, l1, l2, some (vI x)], vI x :: st, σ) := E_iload_n i218_319 rfl
theorem i218_320 : ins 218 320 = some (.iconst 2, 1) := (congrArg (fun x : PTy => x.1.lookup 320) q218).trans rfl
theorem e218_320 {d : Nat} {Q : Option AV → St → Prop} {st : List AV} {σ : St} {l0 l1 l2 l3 : Option AV} : Rn (d) Q (218, 320, [l0, l1, l2, l3], st, σ) = Rn (d) Q (218, 321, [l0, l1, l2, l3], vI 2 :: st, σ) := by rw [E_iconst i218_320, ci_2]
theorem i218_321 : ins 218 321 = some (.iadd, 1) := (congrArg (fun x : PTy => x.1.lookup 321) q218).trans rfl
theorem e218_321 {d : Nat} {Q : Option AV → St → Prop} {st : List AV} {σ : St} {l0 l1 l2 l3 : Option AV} {x y : Int32} : Rn (d) Q (218, 321, [l0, l1, l2, l3], vI y :: vI x :: st, σ) = Rn (d) Q (218, 322, [l0, l1, l2, l3], vI (x + y) :: st, σ) := E_iadd i218_321
theorem i218_322 : ins 218 322 = some (.iaload, 1) := (congrArg (fun x : PTy => x.1.lookup 322) q218).trans rfl
theorem e218_322 {d : Nat} {Q : Option AV → St → Prop} {st : List AV} {σ : St} {l0 l1 l2 l3 : Option AV} {i : Nat} {j : Int32} : Rn (d) Q (218, 322, [l0, l1, l2, l3], vI j :: vR (some (13, 1, i)) :: st, σ) = (∃ n, gL σ 13 0 i = some n ∧ i < gN σ 13 ∧ (0 ≤ j.toInt ∧ j.toInt < n) ∧ Rn (d) Q (218, 323, [l0, l1, l2, l3], vI (gA σ 13 0 i j.toNatClampNeg) :: st, σ)) := E_iaload1 i218_322 rfl
theorem i218_323 : ins 218 323 = some (.aload_n 0, 1) := (congrArg (fun x : PTy => x.1.lookup 323) q218).trans rfl
theorem e218_323 {d : Nat} {Q : Option AV → St → Prop} {st : List AV} {σ : St} {l1 l2 l3 : Option AV} {x : Option (Nat × Nat × Nat)} : Rn (d) Q (218, 323, [some (vR x), l1, l2, l3], st, σ) = Rn (d) Q (218, 324, [some (vR x), l1, l2, l3], vR x :: st, σ) := E_aload_n i218_323 rfl
theorem i218_324 : ins 218 324 = some (.iload_n 3, 1) := (congrArg (fun x : PTy => x.1.lookup 324) q218).trans rfl
theorem e218_324 {d : Nat} {Q : Option AV → St → Prop} {st : List AV} {σ : St} {l0 l1 l2 : Option AV} {x : Int32} : Rn (d) Q (218, 324, [l0, l1, l2, some (vI x)], st, σ) = Rn (d) Q (218, 325, [l0, l1, l2, some (vI x)], vI x :: st, σ) := E_iload_n i218_324 rfl
theorem i218_325 : ins 218 325 = some (.iconst 3, 1) := (congrArg (fun x : PTy => x.1.lookup 325) q218).trans rfl
theorem e218_325 {d : Nat} {Q : Option AV → St → Prop} {st : List AV} {σ : St} {l0 l1 l2 l3 : Option AV} : Rn (d) Q (218, 325, [l0, l1, l2, l3], st, σ) = Rn (d) Q (218, 326, [l0, l1, l2, l3], vI 3 :: st, σ) := by rw [E_iconst i218_325, ci_3]
theorem i218_326 : ins 218 326 = some (.iadd, 1) := (congrArg (fun x : PTy => x.1.lookup 326) q218).trans rfl
theorem e218_326 {d : Nat} {Q : Option AV → St → Prop} {st : List AV} {σ : St} {l0 l1 l2 l3 : Option AV} {x y : Int32} : Rn (d) Q (218, 326, [l0, l1, l2, l3], vI y :: vI x :: st, σ) = Rn (d) Q (218, 327, [l0, l1, l2, l3], vI (x + y) :: st, σ) := E_iadd i218_326
theorem i218_327 : ins 218 327 = some (.iaload, 1) := (congrArg (fun x : PTy => x.1.lookup 327) q218).trans rfl
theorem e218_327 {d : Nat} {Q : Option AV → St → Prop} {st : List AV} {σ : St} {l0 l1 l2 l3 : Option AV} {i : Nat} {j : Int32} : Rn (d) Q (218, 327, [l0, l1, l2, l3], vI j :: vR (some (13, 1, i)) :: st, σ) = (∃ n, gL σ 13 0 i = some n ∧ i < gN σ 13 ∧ (0 ≤ j.toInt ∧ j.toInt < n) ∧ Rn (d) Q (218, 328, [l0, l1, l2, l3], vI (gA σ 13 0 i j.toNatClampNeg) :: st, σ)) := E_iaload1 i218_327 rfl
theorem i218_328 : ins 218 328 = some (.invokevirtual 25, 3) := (congrArg (fun x : PTy => x.1.lookup 328) q218).trans rfl
theorem e218_328 {d : Nat} {Q : Option AV → St → Prop} {st : List AV} {σ : St} {l0 l1 l2 l3 : Option AV} {i : Nat} {a1 : Int32} {a2 : Int32} {a3 : Int32} : Rn (d + 1) Q (218, 328, [l0, l1, l2, l3], vI a3 :: vI a2 :: vI a1 :: vR (some (11, 0, i)) :: st, σ) = (i < gN σ 11 ∧ catS st ≤ 8 ∧ Rn d (fun r σ' => Rn (d + 1) Q (218, 331, [l0, l1, l2, l3], r.toList ++ st, σ')) (68, 0, [some (vR (some (11, 0, i))), some (vI a1), some (vI a2), some (vI a3), none], [], σ)) := E_invV (a := [vI a3, vI a2, vI a1]) i218_328 ((congrArg (fun z => mthQ z 25) o218).trans m13_25) o68 rfl (ek68 i a1 a2 a3) (en68 i a1 a2 a3)
theorem i218_331 : ins 218 331 = some (.aload_n 2, 1) := (congrArg (fun x : PTy => x.1.lookup 331) q218).trans rfl
theorem e218_331 {d : Nat} {Q : Option AV → St → Prop} {st : List AV} {σ : St} {l0 l1 l3 : Option AV} {x : Option (Nat × Nat × Nat)} : Rn (d) Q (218, 331, [l0, l1, some (vR x), l3], st, σ) = Rn (d) Q (218, 332, [l0, l1, some (vR x), l3], vR x :: st, σ) := E_aload_n i218_331 rfl
theorem i218_332 : ins 218 332 = some (.aload_n 0, 1) := (congrArg (fun x : PTy => x.1.lookup 332) q218).trans rfl
theorem e218_332 {d : Nat} {Q : Option AV → St → Prop} {st : List AV} {σ : St} {l1 l2 l3 : Option AV} {x : Option (Nat × Nat × Nat)} : Rn (d) Q (218, 332, [some (vR x), l1, l2, l3], st, σ) = Rn (d) Q (218, 333, [some (vR x), l1, l2, l3], vR x :: st, σ) := E_aload_n i218_332 rfl
theorem i218_333 : ins 218 333 = some (.iload_n 3, 1) := (congrArg (fun x : PTy => x.1.lookup 333) q218).trans rfl
theorem e218_333 {d : Nat} {Q : Option AV → St → Prop} {st : List AV} {σ : St} {l0 l1 l2 : Option AV} {x : Int32} : Rn (d) Q (218, 333, [l0, l1, l2, some (vI x)], st, σ) = Rn (d) Q (218, 334, [l0, l1, l2, some (vI x)], vI x :: st, σ) := E_iload_n i218_333 rfl
theorem i218_334 : ins 218 334 = some (.iconst 1, 1) := (congrArg (fun x : PTy => x.1.lookup 334) q218).trans rfl
theorem e218_334 {d : Nat} {Q : Option AV → St → Prop} {st : List AV} {σ : St} {l0 l1 l2 l3 : Option AV} : Rn (d) Q (218, 334, [l0, l1, l2, l3], st, σ) = Rn (d) Q (218, 335, [l0, l1, l2, l3], vI 1 :: st, σ) := by rw [E_iconst i218_334, ci_1]
theorem i218_335 : ins 218 335 = some (.iadd, 1) := (congrArg (fun x : PTy => x.1.lookup 335) q218).trans rfl
theorem e218_335 {d : Nat} {Q : Option AV → St → Prop} {st : List AV} {σ : St} {l0 l1 l2 l3 : Option AV} {x y : Int32} : Rn (d) Q (218, 335, [l0, l1, l2, l3], vI y :: vI x :: st, σ) = Rn (d) Q (218, 336, [l0, l1, l2, l3], vI (x + y) :: st, σ) := E_iadd i218_335
theorem i218_336 : ins 218 336 = some (.iaload, 1) := (congrArg (fun x : PTy => x.1.lookup 336) q218).trans rfl
theorem e218_336 {d : Nat} {Q : Option AV → St → Prop} {st : List AV} {σ : St} {l0 l1 l2 l3 : Option AV} {i : Nat} {j : Int32} : Rn (d) Q (218, 336, [l0, l1, l2, l3], vI j :: vR (some (13, 1, i)) :: st, σ) = (∃ n, gL σ 13 0 i = some n ∧ i < gN σ 13 ∧ (0 ≤ j.toInt ∧ j.toInt < n) ∧ Rn (d) Q (218, 337, [l0, l1, l2, l3], vI (gA σ 13 0 i j.toNatClampNeg) :: st, σ)) := E_iaload1 i218_336 rfl
theorem i218_337 : ins 218 337 = some (.aload_n 0, 1) := (congrArg (fun x : PTy => x.1.lookup 337) q218).trans rfl
theorem e218_337 {d : Nat} {Q : Option AV → St → Prop} {st : List AV} {σ : St} {l1 l2 l3 : Option AV} {x : Option (Nat × Nat × Nat)} : Rn (d) Q (218, 337, [some (vR x), l1, l2, l3], st, σ) = Rn (d) Q (218, 338, [some (vR x), l1, l2, l3], vR x :: st, σ) := E_aload_n i218_337 rfl
theorem i218_338 : ins 218 338 = some (.iload_n 3, 1) := (congrArg (fun x : PTy => x.1.lookup 338) q218).trans rfl
theorem e218_338 {d : Nat} {Q : Option AV → St → Prop} {st : List AV} {σ : St} {l0 l1 l2 : Option AV} {x : Int32} : Rn (d) Q (218, 338, [l0, l1, l2, some (vI x)], st, σ) = Rn (d) Q (218, 339, [l0, l1, l2, some (vI x)], vI x :: st, σ) := E_iload_n i218_338 rfl
theorem i218_339 : ins 218 339 = some (.iconst 2, 1) := (congrArg (fun x : PTy => x.1.lookup 339) q218).trans rfl
theorem e218_339 {d : Nat} {Q : Option AV → St → Prop} {st : List AV} {σ : St} {l0 l1 l2 l3 : Option AV} : Rn (d) Q (218, 339, [l0, l1, l2, l3], st, σ) = Rn (d) Q (218, 340, [l0, l1, l2, l3], vI 2 :: st, σ) := by rw [E_iconst i218_339, ci_2]
theorem i218_340 : ins 218 340 = some (.iadd, 1) := (congrArg (fun x : PTy => x.1.lookup 340) q218).trans rfl
theorem e218_340 {d : Nat} {Q : Option AV → St → Prop} {st : List AV} {σ : St} {l0 l1 l2 l3 : Option AV} {x y : Int32} : Rn (d) Q (218, 340, [l0, l1, l2, l3], vI y :: vI x :: st, σ) = Rn (d) Q (218, 341, [l0, l1, l2, l3], vI (x + y) :: st, σ) := E_iadd i218_340
theorem i218_341 : ins 218 341 = some (.iaload, 1) := (congrArg (fun x : PTy => x.1.lookup 341) q218).trans rfl
theorem e218_341 {d : Nat} {Q : Option AV → St → Prop} {st : List AV} {σ : St} {l0 l1 l2 l3 : Option AV} {i : Nat} {j : Int32} : Rn (d) Q (218, 341, [l0, l1, l2, l3], vI j :: vR (some (13, 1, i)) :: st, σ) = (∃ n, gL σ 13 0 i = some n ∧ i < gN σ 13 ∧ (0 ≤ j.toInt ∧ j.toInt < n) ∧ Rn (d) Q (218, 342, [l0, l1, l2, l3], vI (gA σ 13 0 i j.toNatClampNeg) :: st, σ)) := E_iaload1 i218_341 rfl
theorem i218_342 : ins 218 342 = some (.aload_n 0, 1) := (congrArg (fun x : PTy => x.1.lookup 342) q218).trans rfl
theorem e218_342 {d : Nat} {Q : Option AV → St → Prop} {st : List AV} {σ : St} {l1 l2 l3 : Option AV} {x : Option (Nat × Nat × Nat)} : Rn (d) Q (218, 342, [some (vR x), l1, l2, l3], st, σ) = Rn (d) Q (218, 343, [some (vR x), l1, l2, l3], vR x :: st, σ) := E_aload_n i218_342 rfl
theorem i218_343 : ins 218 343 = some (.iload_n 3, 1) := (congrArg (fun x : PTy => x.1.lookup 343) q218).trans rfl
theorem e218_343 {d : Nat} {Q : Option AV → St → Prop} {st : List AV} {σ : St} {l0 l1 l2 : Option AV} {x : Int32} : Rn (d) Q (218, 343, [l0, l1, l2, some (vI x)], st, σ) = Rn (d) Q (218, 344, [l0, l1, l2, some (vI x)], vI x :: st, σ) := E_iload_n i218_343 rfl
theorem i218_344 : ins 218 344 = some (.iconst 3, 1) := (congrArg (fun x : PTy => x.1.lookup 344) q218).trans rfl
theorem e218_344 {d : Nat} {Q : Option AV → St → Prop} {st : List AV} {σ : St} {l0 l1 l2 l3 : Option AV} : Rn (d) Q (218, 344, [l0, l1, l2, l3], st, σ) = Rn (d) Q (218, 345, [l0, l1, l2, l3], vI 3 :: st, σ) := by rw [E_iconst i218_344, ci_3]
theorem i218_345 : ins 218 345 = some (.iadd, 1) := (congrArg (fun x : PTy => x.1.lookup 345) q218).trans rfl
theorem e218_345 {d : Nat} {Q : Option AV → St → Prop} {st : List AV} {σ : St} {l0 l1 l2 l3 : Option AV} {x y : Int32} : Rn (d) Q (218, 345, [l0, l1, l2, l3], vI y :: vI x :: st, σ) = Rn (d) Q (218, 346, [l0, l1, l2, l3], vI (x + y) :: st, σ) := E_iadd i218_345
theorem i218_346 : ins 218 346 = some (.iaload, 1) := (congrArg (fun x : PTy => x.1.lookup 346) q218).trans rfl
theorem e218_346 {d : Nat} {Q : Option AV → St → Prop} {st : List AV} {σ : St} {l0 l1 l2 l3 : Option AV} {i : Nat} {j : Int32} : Rn (d) Q (218, 346, [l0, l1, l2, l3], vI j :: vR (some (13, 1, i)) :: st, σ) = (∃ n, gL σ 13 0 i = some n ∧ i < gN σ 13 ∧ (0 ≤ j.toInt ∧ j.toInt < n) ∧ Rn (d) Q (218, 347, [l0, l1, l2, l3], vI (gA σ 13 0 i j.toNatClampNeg) :: st, σ)) := E_iaload1 i218_346 rfl
theorem i218_347 : ins 218 347 = some (.invokevirtual 29, 3) := (congrArg (fun x : PTy => x.1.lookup 347) q218).trans rfl
theorem e218_347 {d : Nat} {Q : Option AV → St → Prop} {st : List AV} {σ : St} {l0 l1 l2 l3 : Option AV} {i : Nat} {a1 : Int32} {a2 : Int32} {a3 : Int32} : Rn (d + 1) Q (218, 347, [l0, l1, l2, l3], vI a3 :: vI a2 :: vI a1 :: vR (some (12, 0, i)) :: st, σ) = (i < gN σ 12 ∧ catS st ≤ 8 ∧ Rn d (fun r σ' => Rn (d + 1) Q (218, 350, [l0, l1, l2, l3], r.toList ++ st, σ')) (149, 0, [some (vR (some (12, 0, i))), some (vI a1), some (vI a2), some (vI a3), none], [], σ)) := E_invV (a := [vI a3, vI a2, vI a1]) i218_347 ((congrArg (fun z => mthQ z 29) o218).trans m13_29) o149 rfl (ek149 i a1 a2 a3) (en149 i a1 a2 a3)
theorem i218_350 : ins 218 350 = some (.if_icmp .eq 1462, 3) := (congrArg (fun x : PTy => x.1.lookup 350) q218).trans rfl
theorem e218_350 {d : Nat} {Q : Option AV → St → Prop} {st : List AV} {σ : St} {l0 l1 l2 l3 : Option AV} {x y : Int32} : Rn (d) Q (218, 350, [l0, l1, l2, l3], vI y :: vI x :: st, σ) = (if x = y then Rn (d) Q (218, 1812, [l0, l1, l2, l3], st, σ) else Rn (d) Q (218, 353, [l0, l1, l2, l3], st, σ)) := E_icmp_eq 1812 i218_350 (by decide)
theorem i218_353 : ins 218 353 = some (.iconst 0, 1) := (congrArg (fun x : PTy => x.1.lookup 353) q218).trans rfl
theorem e218_353 {d : Nat} {Q : Option AV → St → Prop} {st : List AV} {σ : St} {l0 l1 l2 l3 : Option AV} : Rn (d) Q (218, 353, [l0, l1, l2, l3], st, σ) = Rn (d) Q (218, 354, [l0, l1, l2, l3], vI 0 :: st, σ) := by rw [E_iconst i218_353, ci_0]
theorem i218_354 : ins 218 354 = some (.ireturn, 1) := (congrArg (fun x : PTy => x.1.lookup 354) q218).trans rfl
theorem e218_354 {d : Nat} {Q : Option AV → St → Prop} {st : List AV} {σ : St} {l0 l1 l2 l3 : Option AV} {x : Int32} : Rn (d) Q (218, 354, [l0, l1, l2, l3], [vI x], σ) = ((x = 0 ∨ x = 1) ∧ Q (some (vI x)) σ) := E_iretZ (st := []) i218_354 r218
theorem i218_355 : ins 218 355 = some (.aload_n 1, 1) := (congrArg (fun x : PTy => x.1.lookup 355) q218).trans rfl
theorem e218_355 {d : Nat} {Q : Option AV → St → Prop} {st : List AV} {σ : St} {l0 l2 l3 : Option AV} {x : Option (Nat × Nat × Nat)} : Rn (d) Q (218, 355, [l0, some (vR x), l2, l3], st, σ) = Rn (d) Q (218, 356, [l0, some (vR x), l2, l3], vR x :: st, σ) := E_aload_n i218_355 rfl
theorem i218_356 : ins 218 356 = some (.aload_n 0, 1) := (congrArg (fun x : PTy => x.1.lookup 356) q218).trans rfl
theorem e218_356 {d : Nat} {Q : Option AV → St → Prop} {st : List AV} {σ : St} {l1 l2 l3 : Option AV} {x : Option (Nat × Nat × Nat)} : Rn (d) Q (218, 356, [some (vR x), l1, l2, l3], st, σ) = Rn (d) Q (218, 357, [some (vR x), l1, l2, l3], vR x :: st, σ) := E_aload_n i218_356 rfl
theorem i218_357 : ins 218 357 = some (.iload_n 3, 1) := (congrArg (fun x : PTy => x.1.lookup 357) q218).trans rfl
theorem e218_357 {d : Nat} {Q : Option AV → St → Prop} {st : List AV} {σ : St} {l0 l1 l2 : Option AV} {x : Int32} : Rn (d) Q (218, 357, [l0, l1, l2, some (vI x)], st, σ) = Rn (d) Q (218, 358, [l0, l1, l2, some (vI x)], vI x :: st, σ) := E_iload_n i218_357 rfl
theorem i218_358 : ins 218 358 = some (.iconst 1, 1) := (congrArg (fun x : PTy => x.1.lookup 358) q218).trans rfl
theorem e218_358 {d : Nat} {Q : Option AV → St → Prop} {st : List AV} {σ : St} {l0 l1 l2 l3 : Option AV} : Rn (d) Q (218, 358, [l0, l1, l2, l3], st, σ) = Rn (d) Q (218, 359, [l0, l1, l2, l3], vI 1 :: st, σ) := by rw [E_iconst i218_358, ci_1]
theorem i218_359 : ins 218 359 = some (.iadd, 1) := (congrArg (fun x : PTy => x.1.lookup 359) q218).trans rfl
theorem e218_359 {d : Nat} {Q : Option AV → St → Prop} {st : List AV} {σ : St} {l0 l1 l2 l3 : Option AV} {x y : Int32} : Rn (d) Q (218, 359, [l0, l1, l2, l3], vI y :: vI x :: st, σ) = Rn (d) Q (218, 360, [l0, l1, l2, l3], vI (x + y) :: st, σ) := E_iadd i218_359
theorem i218_360 : ins 218 360 = some (.iaload, 1) := (congrArg (fun x : PTy => x.1.lookup 360) q218).trans rfl
theorem e218_360 {d : Nat} {Q : Option AV → St → Prop} {st : List AV} {σ : St} {l0 l1 l2 l3 : Option AV} {i : Nat} {j : Int32} : Rn (d) Q (218, 360, [l0, l1, l2, l3], vI j :: vR (some (13, 1, i)) :: st, σ) = (∃ n, gL σ 13 0 i = some n ∧ i < gN σ 13 ∧ (0 ≤ j.toInt ∧ j.toInt < n) ∧ Rn (d) Q (218, 361, [l0, l1, l2, l3], vI (gA σ 13 0 i j.toNatClampNeg) :: st, σ)) := E_iaload1 i218_360 rfl
theorem i218_361 : ins 218 361 = some (.aload_n 0, 1) := (congrArg (fun x : PTy => x.1.lookup 361) q218).trans rfl
theorem e218_361 {d : Nat} {Q : Option AV → St → Prop} {st : List AV} {σ : St} {l1 l2 l3 : Option AV} {x : Option (Nat × Nat × Nat)} : Rn (d) Q (218, 361, [some (vR x), l1, l2, l3], st, σ) = Rn (d) Q (218, 362, [some (vR x), l1, l2, l3], vR x :: st, σ) := E_aload_n i218_361 rfl
theorem i218_362 : ins 218 362 = some (.iload_n 3, 1) := (congrArg (fun x : PTy => x.1.lookup 362) q218).trans rfl
theorem e218_362 {d : Nat} {Q : Option AV → St → Prop} {st : List AV} {σ : St} {l0 l1 l2 : Option AV} {x : Int32} : Rn (d) Q (218, 362, [l0, l1, l2, some (vI x)], st, σ) = Rn (d) Q (218, 363, [l0, l1, l2, some (vI x)], vI x :: st, σ) := E_iload_n i218_362 rfl
theorem i218_363 : ins 218 363 = some (.iconst 2, 1) := (congrArg (fun x : PTy => x.1.lookup 363) q218).trans rfl
theorem e218_363 {d : Nat} {Q : Option AV → St → Prop} {st : List AV} {σ : St} {l0 l1 l2 l3 : Option AV} : Rn (d) Q (218, 363, [l0, l1, l2, l3], st, σ) = Rn (d) Q (218, 364, [l0, l1, l2, l3], vI 2 :: st, σ) := by rw [E_iconst i218_363, ci_2]
theorem i218_364 : ins 218 364 = some (.iadd, 1) := (congrArg (fun x : PTy => x.1.lookup 364) q218).trans rfl
theorem e218_364 {d : Nat} {Q : Option AV → St → Prop} {st : List AV} {σ : St} {l0 l1 l2 l3 : Option AV} {x y : Int32} : Rn (d) Q (218, 364, [l0, l1, l2, l3], vI y :: vI x :: st, σ) = Rn (d) Q (218, 365, [l0, l1, l2, l3], vI (x + y) :: st, σ) := E_iadd i218_364
theorem i218_365 : ins 218 365 = some (.iaload, 1) := (congrArg (fun x : PTy => x.1.lookup 365) q218).trans rfl
theorem e218_365 {d : Nat} {Q : Option AV → St → Prop} {st : List AV} {σ : St} {l0 l1 l2 l3 : Option AV} {i : Nat} {j : Int32} : Rn (d) Q (218, 365, [l0, l1, l2, l3], vI j :: vR (some (13, 1, i)) :: st, σ) = (∃ n, gL σ 13 0 i = some n ∧ i < gN σ 13 ∧ (0 ≤ j.toInt ∧ j.toInt < n) ∧ Rn (d) Q (218, 366, [l0, l1, l2, l3], vI (gA σ 13 0 i j.toNatClampNeg) :: st, σ)) := E_iaload1 i218_365 rfl
theorem i218_366 : ins 218 366 = some (.aload_n 0, 1) := (congrArg (fun x : PTy => x.1.lookup 366) q218).trans rfl
theorem e218_366 {d : Nat} {Q : Option AV → St → Prop} {st : List AV} {σ : St} {l1 l2 l3 : Option AV} {x : Option (Nat × Nat × Nat)} : Rn (d) Q (218, 366, [some (vR x), l1, l2, l3], st, σ) = Rn (d) Q (218, 367, [some (vR x), l1, l2, l3], vR x :: st, σ) := E_aload_n i218_366 rfl
theorem i218_367 : ins 218 367 = some (.iload_n 3, 1) := (congrArg (fun x : PTy => x.1.lookup 367) q218).trans rfl
theorem e218_367 {d : Nat} {Q : Option AV → St → Prop} {st : List AV} {σ : St} {l0 l1 l2 : Option AV} {x : Int32} : Rn (d) Q (218, 367, [l0, l1, l2, some (vI x)], st, σ) = Rn (d) Q (218, 368, [l0, l1, l2, some (vI x)], vI x :: st, σ) := E_iload_n i218_367 rfl
theorem i218_368 : ins 218 368 = some (.iconst 3, 1) := (congrArg (fun x : PTy => x.1.lookup 368) q218).trans rfl
theorem e218_368 {d : Nat} {Q : Option AV → St → Prop} {st : List AV} {σ : St} {l0 l1 l2 l3 : Option AV} : Rn (d) Q (218, 368, [l0, l1, l2, l3], st, σ) = Rn (d) Q (218, 369, [l0, l1, l2, l3], vI 3 :: st, σ) := by rw [E_iconst i218_368, ci_3]
theorem i218_369 : ins 218 369 = some (.iadd, 1) := (congrArg (fun x : PTy => x.1.lookup 369) q218).trans rfl
theorem e218_369 {d : Nat} {Q : Option AV → St → Prop} {st : List AV} {σ : St} {l0 l1 l2 l3 : Option AV} {x y : Int32} : Rn (d) Q (218, 369, [l0, l1, l2, l3], vI y :: vI x :: st, σ) = Rn (d) Q (218, 370, [l0, l1, l2, l3], vI (x + y) :: st, σ) := E_iadd i218_369
theorem i218_370 : ins 218 370 = some (.iaload, 1) := (congrArg (fun x : PTy => x.1.lookup 370) q218).trans rfl
theorem e218_370 {d : Nat} {Q : Option AV → St → Prop} {st : List AV} {σ : St} {l0 l1 l2 l3 : Option AV} {i : Nat} {j : Int32} : Rn (d) Q (218, 370, [l0, l1, l2, l3], vI j :: vR (some (13, 1, i)) :: st, σ) = (∃ n, gL σ 13 0 i = some n ∧ i < gN σ 13 ∧ (0 ≤ j.toInt ∧ j.toInt < n) ∧ Rn (d) Q (218, 371, [l0, l1, l2, l3], vI (gA σ 13 0 i j.toNatClampNeg) :: st, σ)) := E_iaload1 i218_370 rfl
theorem i218_371 : ins 218 371 = some (.aload_n 0, 1) := (congrArg (fun x : PTy => x.1.lookup 371) q218).trans rfl
theorem e218_371 {d : Nat} {Q : Option AV → St → Prop} {st : List AV} {σ : St} {l1 l2 l3 : Option AV} {x : Option (Nat × Nat × Nat)} : Rn (d) Q (218, 371, [some (vR x), l1, l2, l3], st, σ) = Rn (d) Q (218, 372, [some (vR x), l1, l2, l3], vR x :: st, σ) := E_aload_n i218_371 rfl
theorem i218_372 : ins 218 372 = some (.iload_n 3, 1) := (congrArg (fun x : PTy => x.1.lookup 372) q218).trans rfl
theorem e218_372 {d : Nat} {Q : Option AV → St → Prop} {st : List AV} {σ : St} {l0 l1 l2 : Option AV} {x : Int32} : Rn (d) Q (218, 372, [l0, l1, l2, some (vI x)], st, σ) = Rn (d) Q (218, 373, [l0, l1, l2, some (vI x)], vI x :: st, σ) := E_iload_n i218_372 rfl
theorem i218_373 : ins 218 373 = some (.iconst 4, 1) := (congrArg (fun x : PTy => x.1.lookup 373) q218).trans rfl
theorem e218_373 {d : Nat} {Q : Option AV → St → Prop} {st : List AV} {σ : St} {l0 l1 l2 l3 : Option AV} : Rn (d) Q (218, 373, [l0, l1, l2, l3], st, σ) = Rn (d) Q (218, 374, [l0, l1, l2, l3], vI 4 :: st, σ) := by rw [E_iconst i218_373, ci_4]
theorem i218_374 : ins 218 374 = some (.iadd, 1) := (congrArg (fun x : PTy => x.1.lookup 374) q218).trans rfl
theorem e218_374 {d : Nat} {Q : Option AV → St → Prop} {st : List AV} {σ : St} {l0 l1 l2 l3 : Option AV} {x y : Int32} : Rn (d) Q (218, 374, [l0, l1, l2, l3], vI y :: vI x :: st, σ) = Rn (d) Q (218, 375, [l0, l1, l2, l3], vI (x + y) :: st, σ) := E_iadd i218_374
theorem i218_375 : ins 218 375 = some (.iaload, 1) := (congrArg (fun x : PTy => x.1.lookup 375) q218).trans rfl
theorem e218_375 {d : Nat} {Q : Option AV → St → Prop} {st : List AV} {σ : St} {l0 l1 l2 l3 : Option AV} {i : Nat} {j : Int32} : Rn (d) Q (218, 375, [l0, l1, l2, l3], vI j :: vR (some (13, 1, i)) :: st, σ) = (∃ n, gL σ 13 0 i = some n ∧ i < gN σ 13 ∧ (0 ≤ j.toInt ∧ j.toInt < n) ∧ Rn (d) Q (218, 376, [l0, l1, l2, l3], vI (gA σ 13 0 i j.toNatClampNeg) :: st, σ)) := E_iaload1 i218_375 rfl
theorem i218_376 : ins 218 376 = some (.invokevirtual 30, 3) := (congrArg (fun x : PTy => x.1.lookup 376) q218).trans rfl
theorem e218_376 {d : Nat} {Q : Option AV → St → Prop} {st : List AV} {σ : St} {l0 l1 l2 l3 : Option AV} {i : Nat} {a1 : Int32} {a2 : Int32} {a3 : Int32} {a4 : Int32} : Rn (d + 1) Q (218, 376, [l0, l1, l2, l3], vI a4 :: vI a3 :: vI a2 :: vI a1 :: vR (some (11, 0, i)) :: st, σ) = (i < gN σ 11 ∧ catS st ≤ 8 ∧ Rn d (fun r σ' => Rn (d + 1) Q (218, 379, [l0, l1, l2, l3], r.toList ++ st, σ')) (69, 0, [some (vR (some (11, 0, i))), some (vI a1), some (vI a2), some (vI a3), some (vI a4), none], [], σ)) := E_invV (a := [vI a4, vI a3, vI a2, vI a1]) i218_376 ((congrArg (fun z => mthQ z 30) o218).trans m13_30) o69 rfl (ek69 i a1 a2 a3 a4) (en69 i a1 a2 a3 a4)
theorem i218_379 : ins 218 379 = some (.aload_n 2, 1) := (congrArg (fun x : PTy => x.1.lookup 379) q218).trans rfl
theorem e218_379 {d : Nat} {Q : Option AV → St → Prop} {st : List AV} {σ : St} {l0 l1 l3 : Option AV} {x : Option (Nat × Nat × Nat)} : Rn (d) Q (218, 379, [l0, l1, some (vR x), l3], st, σ) = Rn (d) Q (218, 380, [l0, l1, some (vR x), l3], vR x :: st, σ) := E_aload_n i218_379 rfl
theorem i218_380 : ins 218 380 = some (.aload_n 0, 1) := (congrArg (fun x : PTy => x.1.lookup 380) q218).trans rfl
theorem e218_380 {d : Nat} {Q : Option AV → St → Prop} {st : List AV} {σ : St} {l1 l2 l3 : Option AV} {x : Option (Nat × Nat × Nat)} : Rn (d) Q (218, 380, [some (vR x), l1, l2, l3], st, σ) = Rn (d) Q (218, 381, [some (vR x), l1, l2, l3], vR x :: st, σ) := E_aload_n i218_380 rfl
theorem i218_381 : ins 218 381 = some (.iload_n 3, 1) := (congrArg (fun x : PTy => x.1.lookup 381) q218).trans rfl
theorem e218_381 {d : Nat} {Q : Option AV → St → Prop} {st : List AV} {σ : St} {l0 l1 l2 : Option AV} {x : Int32} : Rn (d) Q (218, 381, [l0, l1, l2, some (vI x)], st, σ) = Rn (d) Q (218, 382, [l0, l1, l2, some (vI x)], vI x :: st, σ) := E_iload_n i218_381 rfl
theorem i218_382 : ins 218 382 = some (.iconst 1, 1) := (congrArg (fun x : PTy => x.1.lookup 382) q218).trans rfl
theorem e218_382 {d : Nat} {Q : Option AV → St → Prop} {st : List AV} {σ : St} {l0 l1 l2 l3 : Option AV} : Rn (d) Q (218, 382, [l0, l1, l2, l3], st, σ) = Rn (d) Q (218, 383, [l0, l1, l2, l3], vI 1 :: st, σ) := by rw [E_iconst i218_382, ci_1]
theorem i218_383 : ins 218 383 = some (.iadd, 1) := (congrArg (fun x : PTy => x.1.lookup 383) q218).trans rfl
theorem e218_383 {d : Nat} {Q : Option AV → St → Prop} {st : List AV} {σ : St} {l0 l1 l2 l3 : Option AV} {x y : Int32} : Rn (d) Q (218, 383, [l0, l1, l2, l3], vI y :: vI x :: st, σ) = Rn (d) Q (218, 384, [l0, l1, l2, l3], vI (x + y) :: st, σ) := E_iadd i218_383
theorem i218_384 : ins 218 384 = some (.iaload, 1) := (congrArg (fun x : PTy => x.1.lookup 384) q218).trans rfl
theorem e218_384 {d : Nat} {Q : Option AV → St → Prop} {st : List AV} {σ : St} {l0 l1 l2 l3 : Option AV} {i : Nat} {j : Int32} : Rn (d) Q (218, 384, [l0, l1, l2, l3], vI j :: vR (some (13, 1, i)) :: st, σ) = (∃ n, gL σ 13 0 i = some n ∧ i < gN σ 13 ∧ (0 ≤ j.toInt ∧ j.toInt < n) ∧ Rn (d) Q (218, 385, [l0, l1, l2, l3], vI (gA σ 13 0 i j.toNatClampNeg) :: st, σ)) := E_iaload1 i218_384 rfl
theorem i218_385 : ins 218 385 = some (.aload_n 0, 1) := (congrArg (fun x : PTy => x.1.lookup 385) q218).trans rfl
theorem e218_385 {d : Nat} {Q : Option AV → St → Prop} {st : List AV} {σ : St} {l1 l2 l3 : Option AV} {x : Option (Nat × Nat × Nat)} : Rn (d) Q (218, 385, [some (vR x), l1, l2, l3], st, σ) = Rn (d) Q (218, 386, [some (vR x), l1, l2, l3], vR x :: st, σ) := E_aload_n i218_385 rfl
theorem i218_386 : ins 218 386 = some (.iload_n 3, 1) := (congrArg (fun x : PTy => x.1.lookup 386) q218).trans rfl
theorem e218_386 {d : Nat} {Q : Option AV → St → Prop} {st : List AV} {σ : St} {l0 l1 l2 : Option AV} {x : Int32} : Rn (d) Q (218, 386, [l0, l1, l2, some (vI x)], st, σ) = Rn (d) Q (218, 387, [l0, l1, l2, some (vI x)], vI x :: st, σ) := E_iload_n i218_386 rfl
theorem i218_387 : ins 218 387 = some (.iconst 2, 1) := (congrArg (fun x : PTy => x.1.lookup 387) q218).trans rfl
theorem e218_387 {d : Nat} {Q : Option AV → St → Prop} {st : List AV} {σ : St} {l0 l1 l2 l3 : Option AV} : Rn (d) Q (218, 387, [l0, l1, l2, l3], st, σ) = Rn (d) Q (218, 388, [l0, l1, l2, l3], vI 2 :: st, σ) := by rw [E_iconst i218_387, ci_2]
theorem i218_388 : ins 218 388 = some (.iadd, 1) := (congrArg (fun x : PTy => x.1.lookup 388) q218).trans rfl
theorem e218_388 {d : Nat} {Q : Option AV → St → Prop} {st : List AV} {σ : St} {l0 l1 l2 l3 : Option AV} {x y : Int32} : Rn (d) Q (218, 388, [l0, l1, l2, l3], vI y :: vI x :: st, σ) = Rn (d) Q (218, 389, [l0, l1, l2, l3], vI (x + y) :: st, σ) := E_iadd i218_388
theorem i218_389 : ins 218 389 = some (.iaload, 1) := (congrArg (fun x : PTy => x.1.lookup 389) q218).trans rfl
theorem e218_389 {d : Nat} {Q : Option AV → St → Prop} {st : List AV} {σ : St} {l0 l1 l2 l3 : Option AV} {i : Nat} {j : Int32} : Rn (d) Q (218, 389, [l0, l1, l2, l3], vI j :: vR (some (13, 1, i)) :: st, σ) = (∃ n, gL σ 13 0 i = some n ∧ i < gN σ 13 ∧ (0 ≤ j.toInt ∧ j.toInt < n) ∧ Rn (d) Q (218, 390, [l0, l1, l2, l3], vI (gA σ 13 0 i j.toNatClampNeg) :: st, σ)) := E_iaload1 i218_389 rfl
theorem i218_390 : ins 218 390 = some (.aload_n 0, 1) := (congrArg (fun x : PTy => x.1.lookup 390) q218).trans rfl
theorem e218_390 {d : Nat} {Q : Option AV → St → Prop} {st : List AV} {σ : St} {l1 l2 l3 : Option AV} {x : Option (Nat × Nat × Nat)} : Rn (d) Q (218, 390, [some (vR x), l1, l2, l3], st, σ) = Rn (d) Q (218, 391, [some (vR x), l1, l2, l3], vR x :: st, σ) := E_aload_n i218_390 rfl
theorem i218_391 : ins 218 391 = some (.iload_n 3, 1) := (congrArg (fun x : PTy => x.1.lookup 391) q218).trans rfl
theorem e218_391 {d : Nat} {Q : Option AV → St → Prop} {st : List AV} {σ : St} {l0 l1 l2 : Option AV} {x : Int32} : Rn (d) Q (218, 391, [l0, l1, l2, some (vI x)], st, σ) = Rn (d) Q (218, 392, [l0, l1, l2, some (vI x)], vI x :: st, σ) := E_iload_n i218_391 rfl
theorem i218_392 : ins 218 392 = some (.iconst 3, 1) := (congrArg (fun x : PTy => x.1.lookup 392) q218).trans rfl
theorem e218_392 {d : Nat} {Q : Option AV → St → Prop} {st : List AV} {σ : St} {l0 l1 l2 l3 : Option AV} : Rn (d) Q (218, 392, [l0, l1, l2, l3], st, σ) = Rn (d) Q (218, 393, [l0, l1, l2, l3], vI 3 :: st, σ) := by rw [E_iconst i218_392, ci_3]
theorem i218_393 : ins 218 393 = some (.iadd, 1) := (congrArg (fun x : PTy => x.1.lookup 393) q218).trans rfl
theorem e218_393 {d : Nat} {Q : Option AV → St → Prop} {st : List AV} {σ : St} {l0 l1 l2 l3 : Option AV} {x y : Int32} : Rn (d) Q (218, 393, [l0, l1, l2, l3], vI y :: vI x :: st, σ) = Rn (d) Q (218, 394, [l0, l1, l2, l3], vI (x + y) :: st, σ) := E_iadd i218_393
theorem i218_394 : ins 218 394 = some (.iaload, 1) := (congrArg (fun x : PTy => x.1.lookup 394) q218).trans rfl
theorem e218_394 {d : Nat} {Q : Option AV → St → Prop} {st : List AV} {σ : St} {l0 l1 l2 l3 : Option AV} {i : Nat} {j : Int32} : Rn (d) Q (218, 394, [l0, l1, l2, l3], vI j :: vR (some (13, 1, i)) :: st, σ) = (∃ n, gL σ 13 0 i = some n ∧ i < gN σ 13 ∧ (0 ≤ j.toInt ∧ j.toInt < n) ∧ Rn (d) Q (218, 395, [l0, l1, l2, l3], vI (gA σ 13 0 i j.toNatClampNeg) :: st, σ)) := E_iaload1 i218_394 rfl
theorem i218_395 : ins 218 395 = some (.aload_n 0, 1) := (congrArg (fun x : PTy => x.1.lookup 395) q218).trans rfl
theorem e218_395 {d : Nat} {Q : Option AV → St → Prop} {st : List AV} {σ : St} {l1 l2 l3 : Option AV} {x : Option (Nat × Nat × Nat)} : Rn (d) Q (218, 395, [some (vR x), l1, l2, l3], st, σ) = Rn (d) Q (218, 396, [some (vR x), l1, l2, l3], vR x :: st, σ) := E_aload_n i218_395 rfl
theorem i218_396 : ins 218 396 = some (.iload_n 3, 1) := (congrArg (fun x : PTy => x.1.lookup 396) q218).trans rfl
theorem e218_396 {d : Nat} {Q : Option AV → St → Prop} {st : List AV} {σ : St} {l0 l1 l2 : Option AV} {x : Int32} : Rn (d) Q (218, 396, [l0, l1, l2, some (vI x)], st, σ) = Rn (d) Q (218, 397, [l0, l1, l2, some (vI x)], vI x :: st, σ) := E_iload_n i218_396 rfl
theorem i218_397 : ins 218 397 = some (.iconst 4, 1) := (congrArg (fun x : PTy => x.1.lookup 397) q218).trans rfl
theorem e218_397 {d : Nat} {Q : Option AV → St → Prop} {st : List AV} {σ : St} {l0 l1 l2 l3 : Option AV} : Rn (d) Q (218, 397, [l0, l1, l2, l3], st, σ) = Rn (d) Q (218, 398, [l0, l1, l2, l3], vI 4 :: st, σ) := by rw [E_iconst i218_397, ci_4]
theorem i218_398 : ins 218 398 = some (.iadd, 1) := (congrArg (fun x : PTy => x.1.lookup 398) q218).trans rfl
theorem e218_398 {d : Nat} {Q : Option AV → St → Prop} {st : List AV} {σ : St} {l0 l1 l2 l3 : Option AV} {x y : Int32} : Rn (d) Q (218, 398, [l0, l1, l2, l3], vI y :: vI x :: st, σ) = Rn (d) Q (218, 399, [l0, l1, l2, l3], vI (x + y) :: st, σ) := E_iadd i218_398
theorem i218_399 : ins 218 399 = some (.iaload, 1) := (congrArg (fun x : PTy => x.1.lookup 399) q218).trans rfl
theorem e218_399 {d : Nat} {Q : Option AV → St → Prop} {st : List AV} {σ : St} {l0 l1 l2 l3 : Option AV} {i : Nat} {j : Int32} : Rn (d) Q (218, 399, [l0, l1, l2, l3], vI j :: vR (some (13, 1, i)) :: st, σ) = (∃ n, gL σ 13 0 i = some n ∧ i < gN σ 13 ∧ (0 ≤ j.toInt ∧ j.toInt < n) ∧ Rn (d) Q (218, 400, [l0, l1, l2, l3], vI (gA σ 13 0 i j.toNatClampNeg) :: st, σ)) := E_iaload1 i218_399 rfl
theorem i218_400 : ins 218 400 = some (.invokevirtual 34, 3) := (congrArg (fun x : PTy => x.1.lookup 400) q218).trans rfl
theorem e218_400 {d : Nat} {Q : Option AV → St → Prop} {st : List AV} {σ : St} {l0 l1 l2 l3 : Option AV} {i : Nat} {a1 : Int32} {a2 : Int32} {a3 : Int32} {a4 : Int32} : Rn (d + 1) Q (218, 400, [l0, l1, l2, l3], vI a4 :: vI a3 :: vI a2 :: vI a1 :: vR (some (12, 0, i)) :: st, σ) = (i < gN σ 12 ∧ catS st ≤ 8 ∧ Rn d (fun r σ' => Rn (d + 1) Q (218, 403, [l0, l1, l2, l3], r.toList ++ st, σ')) (151, 0, [some (vR (some (12, 0, i))), some (vI a1), some (vI a2), some (vI a3), some (vI a4), none, none, none, none], [], σ)) := E_invV (a := [vI a4, vI a3, vI a2, vI a1]) i218_400 ((congrArg (fun z => mthQ z 34) o218).trans m13_34) o151 rfl (ek151 i a1 a2 a3 a4) (en151 i a1 a2 a3 a4)
theorem i218_403 : ins 218 403 = some (.if_icmp .eq 1409, 3) := (congrArg (fun x : PTy => x.1.lookup 403) q218).trans rfl
theorem e218_403 {d : Nat} {Q : Option AV → St → Prop} {st : List AV} {σ : St} {l0 l1 l2 l3 : Option AV} {x y : Int32} : Rn (d) Q (218, 403, [l0, l1, l2, l3], vI y :: vI x :: st, σ) = (if x = y then Rn (d) Q (218, 1812, [l0, l1, l2, l3], st, σ) else Rn (d) Q (218, 406, [l0, l1, l2, l3], st, σ)) := E_icmp_eq 1812 i218_403 (by decide)
theorem i218_406 : ins 218 406 = some (.iconst 0, 1) := (congrArg (fun x : PTy => x.1.lookup 406) q218).trans rfl
theorem e218_406 {d : Nat} {Q : Option AV → St → Prop} {st : List AV} {σ : St} {l0 l1 l2 l3 : Option AV} : Rn (d) Q (218, 406, [l0, l1, l2, l3], st, σ) = Rn (d) Q (218, 407, [l0, l1, l2, l3], vI 0 :: st, σ) := by rw [E_iconst i218_406, ci_0]
theorem i218_407 : ins 218 407 = some (.ireturn, 1) := (congrArg (fun x : PTy => x.1.lookup 407) q218).trans rfl
theorem e218_407 {d : Nat} {Q : Option AV → St → Prop} {st : List AV} {σ : St} {l0 l1 l2 l3 : Option AV} {x : Int32} : Rn (d) Q (218, 407, [l0, l1, l2, l3], [vI x], σ) = ((x = 0 ∨ x = 1) ∧ Q (some (vI x)) σ) := E_iretZ (st := []) i218_407 r218
theorem i218_408 : ins 218 408 = some (.aload_n 1, 1) := (congrArg (fun x : PTy => x.1.lookup 408) q218).trans rfl
theorem e218_408 {d : Nat} {Q : Option AV → St → Prop} {st : List AV} {σ : St} {l0 l2 l3 : Option AV} {x : Option (Nat × Nat × Nat)} : Rn (d) Q (218, 408, [l0, some (vR x), l2, l3], st, σ) = Rn (d) Q (218, 409, [l0, some (vR x), l2, l3], vR x :: st, σ) := E_aload_n i218_408 rfl
theorem i218_409 : ins 218 409 = some (.aload_n 0, 1) := (congrArg (fun x : PTy => x.1.lookup 409) q218).trans rfl
theorem e218_409 {d : Nat} {Q : Option AV → St → Prop} {st : List AV} {σ : St} {l1 l2 l3 : Option AV} {x : Option (Nat × Nat × Nat)} : Rn (d) Q (218, 409, [some (vR x), l1, l2, l3], st, σ) = Rn (d) Q (218, 410, [some (vR x), l1, l2, l3], vR x :: st, σ) := E_aload_n i218_409 rfl
theorem i218_410 : ins 218 410 = some (.iload_n 3, 1) := (congrArg (fun x : PTy => x.1.lookup 410) q218).trans rfl
theorem e218_410 {d : Nat} {Q : Option AV → St → Prop} {st : List AV} {σ : St} {l0 l1 l2 : Option AV} {x : Int32} : Rn (d) Q (218, 410, [l0, l1, l2, some (vI x)], st, σ) = Rn (d) Q (218, 411, [l0, l1, l2, some (vI x)], vI x :: st, σ) := E_iload_n i218_410 rfl
theorem i218_411 : ins 218 411 = some (.iconst 1, 1) := (congrArg (fun x : PTy => x.1.lookup 411) q218).trans rfl
theorem e218_411 {d : Nat} {Q : Option AV → St → Prop} {st : List AV} {σ : St} {l0 l1 l2 l3 : Option AV} : Rn (d) Q (218, 411, [l0, l1, l2, l3], st, σ) = Rn (d) Q (218, 412, [l0, l1, l2, l3], vI 1 :: st, σ) := by rw [E_iconst i218_411, ci_1]
theorem i218_412 : ins 218 412 = some (.iadd, 1) := (congrArg (fun x : PTy => x.1.lookup 412) q218).trans rfl
theorem e218_412 {d : Nat} {Q : Option AV → St → Prop} {st : List AV} {σ : St} {l0 l1 l2 l3 : Option AV} {x y : Int32} : Rn (d) Q (218, 412, [l0, l1, l2, l3], vI y :: vI x :: st, σ) = Rn (d) Q (218, 413, [l0, l1, l2, l3], vI (x + y) :: st, σ) := E_iadd i218_412
theorem i218_413 : ins 218 413 = some (.iaload, 1) := (congrArg (fun x : PTy => x.1.lookup 413) q218).trans rfl
theorem e218_413 {d : Nat} {Q : Option AV → St → Prop} {st : List AV} {σ : St} {l0 l1 l2 l3 : Option AV} {i : Nat} {j : Int32} : Rn (d) Q (218, 413, [l0, l1, l2, l3], vI j :: vR (some (13, 1, i)) :: st, σ) = (∃ n, gL σ 13 0 i = some n ∧ i < gN σ 13 ∧ (0 ≤ j.toInt ∧ j.toInt < n) ∧ Rn (d) Q (218, 414, [l0, l1, l2, l3], vI (gA σ 13 0 i j.toNatClampNeg) :: st, σ)) := E_iaload1 i218_413 rfl
theorem i218_414 : ins 218 414 = some (.aload_n 0, 1) := (congrArg (fun x : PTy => x.1.lookup 414) q218).trans rfl
theorem e218_414 {d : Nat} {Q : Option AV → St → Prop} {st : List AV} {σ : St} {l1 l2 l3 : Option AV} {x : Option (Nat × Nat × Nat)} : Rn (d) Q (218, 414, [some (vR x), l1, l2, l3], st, σ) = Rn (d) Q (218, 415, [some (vR x), l1, l2, l3], vR x :: st, σ) := E_aload_n i218_414 rfl
theorem i218_415 : ins 218 415 = some (.iload_n 3, 1) := (congrArg (fun x : PTy => x.1.lookup 415) q218).trans rfl
theorem e218_415 {d : Nat} {Q : Option AV → St → Prop} {st : List AV} {σ : St} {l0 l1 l2 : Option AV} {x : Int32} : Rn (d) Q (218, 415, [l0, l1, l2, some (vI x)], st, σ) = Rn (d) Q (218, 416, [l0, l1, l2, some (vI x)], vI x :: st, σ) := E_iload_n i218_415 rfl
theorem i218_416 : ins 218 416 = some (.iconst 2, 1) := (congrArg (fun x : PTy => x.1.lookup 416) q218).trans rfl
theorem e218_416 {d : Nat} {Q : Option AV → St → Prop} {st : List AV} {σ : St} {l0 l1 l2 l3 : Option AV} : Rn (d) Q (218, 416, [l0, l1, l2, l3], st, σ) = Rn (d) Q (218, 417, [l0, l1, l2, l3], vI 2 :: st, σ) := by rw [E_iconst i218_416, ci_2]
theorem i218_417 : ins 218 417 = some (.iadd, 1) := (congrArg (fun x : PTy => x.1.lookup 417) q218).trans rfl
theorem e218_417 {d : Nat} {Q : Option AV → St → Prop} {st : List AV} {σ : St} {l0 l1 l2 l3 : Option AV} {x y : Int32} : Rn (d) Q (218, 417, [l0, l1, l2, l3], vI y :: vI x :: st, σ) = Rn (d) Q (218, 418, [l0, l1, l2, l3], vI (x + y) :: st, σ) := E_iadd i218_417
theorem i218_418 : ins 218 418 = some (.iaload, 1) := (congrArg (fun x : PTy => x.1.lookup 418) q218).trans rfl
theorem e218_418 {d : Nat} {Q : Option AV → St → Prop} {st : List AV} {σ : St} {l0 l1 l2 l3 : Option AV} {i : Nat} {j : Int32} : Rn (d) Q (218, 418, [l0, l1, l2, l3], vI j :: vR (some (13, 1, i)) :: st, σ) = (∃ n, gL σ 13 0 i = some n ∧ i < gN σ 13 ∧ (0 ≤ j.toInt ∧ j.toInt < n) ∧ Rn (d) Q (218, 419, [l0, l1, l2, l3], vI (gA σ 13 0 i j.toNatClampNeg) :: st, σ)) := E_iaload1 i218_418 rfl
theorem i218_419 : ins 218 419 = some (.aload_n 0, 1) := (congrArg (fun x : PTy => x.1.lookup 419) q218).trans rfl
theorem e218_419 {d : Nat} {Q : Option AV → St → Prop} {st : List AV} {σ : St} {l1 l2 l3 : Option AV} {x : Option (Nat × Nat × Nat)} : Rn (d) Q (218, 419, [some (vR x), l1, l2, l3], st, σ) = Rn (d) Q (218, 420, [some (vR x), l1, l2, l3], vR x :: st, σ) := E_aload_n i218_419 rfl
theorem i218_420 : ins 218 420 = some (.iload_n 3, 1) := (congrArg (fun x : PTy => x.1.lookup 420) q218).trans rfl
theorem e218_420 {d : Nat} {Q : Option AV → St → Prop} {st : List AV} {σ : St} {l0 l1 l2 : Option AV} {x : Int32} : Rn (d) Q (218, 420, [l0, l1, l2, some (vI x)], st, σ) = Rn (d) Q (218, 421, [l0, l1, l2, some (vI x)], vI x :: st, σ) := E_iload_n i218_420 rfl
theorem i218_421 : ins 218 421 = some (.iconst 3, 1) := (congrArg (fun x : PTy => x.1.lookup 421) q218).trans rfl
theorem e218_421 {d : Nat} {Q : Option AV → St → Prop} {st : List AV} {σ : St} {l0 l1 l2 l3 : Option AV} : Rn (d) Q (218, 421, [l0, l1, l2, l3], st, σ) = Rn (d) Q (218, 422, [l0, l1, l2, l3], vI 3 :: st, σ) := by rw [E_iconst i218_421, ci_3]
theorem i218_422 : ins 218 422 = some (.iadd, 1) := (congrArg (fun x : PTy => x.1.lookup 422) q218).trans rfl
theorem e218_422 {d : Nat} {Q : Option AV → St → Prop} {st : List AV} {σ : St} {l0 l1 l2 l3 : Option AV} {x y : Int32} : Rn (d) Q (218, 422, [l0, l1, l2, l3], vI y :: vI x :: st, σ) = Rn (d) Q (218, 423, [l0, l1, l2, l3], vI (x + y) :: st, σ) := E_iadd i218_422
theorem i218_423 : ins 218 423 = some (.iaload, 1) := (congrArg (fun x : PTy => x.1.lookup 423) q218).trans rfl
theorem e218_423 {d : Nat} {Q : Option AV → St → Prop} {st : List AV} {σ : St} {l0 l1 l2 l3 : Option AV} {i : Nat} {j : Int32} : Rn (d) Q (218, 423, [l0, l1, l2, l3], vI j :: vR (some (13, 1, i)) :: st, σ) = (∃ n, gL σ 13 0 i = some n ∧ i < gN σ 13 ∧ (0 ≤ j.toInt ∧ j.toInt < n) ∧ Rn (d) Q (218, 424, [l0, l1, l2, l3], vI (gA σ 13 0 i j.toNatClampNeg) :: st, σ)) := E_iaload1 i218_423 rfl
theorem i218_424 : ins 218 424 = some (.invokevirtual 35, 3) := (congrArg (fun x : PTy => x.1.lookup 424) q218).trans rfl
theorem e218_424 {d : Nat} {Q : Option AV → St → Prop} {st : List AV} {σ : St} {l0 l1 l2 l3 : Option AV} {i : Nat} {a1 : Int32} {a2 : Int32} {a3 : Int32} : Rn (d + 1) Q (218, 424, [l0, l1, l2, l3], vI a3 :: vI a2 :: vI a1 :: vR (some (11, 0, i)) :: st, σ) = (i < gN σ 11 ∧ catS st ≤ 8 ∧ Rn d (fun r σ' => Rn (d + 1) Q (218, 427, [l0, l1, l2, l3], r.toList ++ st, σ')) (70, 0, [some (vR (some (11, 0, i))), some (vI a1), some (vI a2), some (vI a3), none, none], [], σ)) := E_invV (a := [vI a3, vI a2, vI a1]) i218_424 ((congrArg (fun z => mthQ z 35) o218).trans m13_35) o70 rfl (ek70 i a1 a2 a3) (en70 i a1 a2 a3)
theorem i218_427 : ins 218 427 = some (.aload_n 2, 1) := (congrArg (fun x : PTy => x.1.lookup 427) q218).trans rfl
theorem e218_427 {d : Nat} {Q : Option AV → St → Prop} {st : List AV} {σ : St} {l0 l1 l3 : Option AV} {x : Option (Nat × Nat × Nat)} : Rn (d) Q (218, 427, [l0, l1, some (vR x), l3], st, σ) = Rn (d) Q (218, 428, [l0, l1, some (vR x), l3], vR x :: st, σ) := E_aload_n i218_427 rfl
theorem i218_428 : ins 218 428 = some (.aload_n 0, 1) := (congrArg (fun x : PTy => x.1.lookup 428) q218).trans rfl
theorem e218_428 {d : Nat} {Q : Option AV → St → Prop} {st : List AV} {σ : St} {l1 l2 l3 : Option AV} {x : Option (Nat × Nat × Nat)} : Rn (d) Q (218, 428, [some (vR x), l1, l2, l3], st, σ) = Rn (d) Q (218, 429, [some (vR x), l1, l2, l3], vR x :: st, σ) := E_aload_n i218_428 rfl
theorem i218_429 : ins 218 429 = some (.iload_n 3, 1) := (congrArg (fun x : PTy => x.1.lookup 429) q218).trans rfl
theorem e218_429 {d : Nat} {Q : Option AV → St → Prop} {st : List AV} {σ : St} {l0 l1 l2 : Option AV} {x : Int32} : Rn (d) Q (218, 429, [l0, l1, l2, some (vI x)], st, σ) = Rn (d) Q (218, 430, [l0, l1, l2, some (vI x)], vI x :: st, σ) := E_iload_n i218_429 rfl
theorem i218_430 : ins 218 430 = some (.iconst 1, 1) := (congrArg (fun x : PTy => x.1.lookup 430) q218).trans rfl
theorem e218_430 {d : Nat} {Q : Option AV → St → Prop} {st : List AV} {σ : St} {l0 l1 l2 l3 : Option AV} : Rn (d) Q (218, 430, [l0, l1, l2, l3], st, σ) = Rn (d) Q (218, 431, [l0, l1, l2, l3], vI 1 :: st, σ) := by rw [E_iconst i218_430, ci_1]
theorem i218_431 : ins 218 431 = some (.iadd, 1) := (congrArg (fun x : PTy => x.1.lookup 431) q218).trans rfl
theorem e218_431 {d : Nat} {Q : Option AV → St → Prop} {st : List AV} {σ : St} {l0 l1 l2 l3 : Option AV} {x y : Int32} : Rn (d) Q (218, 431, [l0, l1, l2, l3], vI y :: vI x :: st, σ) = Rn (d) Q (218, 432, [l0, l1, l2, l3], vI (x + y) :: st, σ) := E_iadd i218_431
theorem i218_432 : ins 218 432 = some (.iaload, 1) := (congrArg (fun x : PTy => x.1.lookup 432) q218).trans rfl
theorem e218_432 {d : Nat} {Q : Option AV → St → Prop} {st : List AV} {σ : St} {l0 l1 l2 l3 : Option AV} {i : Nat} {j : Int32} : Rn (d) Q (218, 432, [l0, l1, l2, l3], vI j :: vR (some (13, 1, i)) :: st, σ) = (∃ n, gL σ 13 0 i = some n ∧ i < gN σ 13 ∧ (0 ≤ j.toInt ∧ j.toInt < n) ∧ Rn (d) Q (218, 433, [l0, l1, l2, l3], vI (gA σ 13 0 i j.toNatClampNeg) :: st, σ)) := E_iaload1 i218_432 rfl
theorem i218_433 : ins 218 433 = some (.aload_n 0, 1) := (congrArg (fun x : PTy => x.1.lookup 433) q218).trans rfl
theorem e218_433 {d : Nat} {Q : Option AV → St → Prop} {st : List AV} {σ : St} {l1 l2 l3 : Option AV} {x : Option (Nat × Nat × Nat)} : Rn (d) Q (218, 433, [some (vR x), l1, l2, l3], st, σ) = Rn (d) Q (218, 434, [some (vR x), l1, l2, l3], vR x :: st, σ) := E_aload_n i218_433 rfl
theorem i218_434 : ins 218 434 = some (.iload_n 3, 1) := (congrArg (fun x : PTy => x.1.lookup 434) q218).trans rfl
theorem e218_434 {d : Nat} {Q : Option AV → St → Prop} {st : List AV} {σ : St} {l0 l1 l2 : Option AV} {x : Int32} : Rn (d) Q (218, 434, [l0, l1, l2, some (vI x)], st, σ) = Rn (d) Q (218, 435, [l0, l1, l2, some (vI x)], vI x :: st, σ) := E_iload_n i218_434 rfl
theorem i218_435 : ins 218 435 = some (.iconst 2, 1) := (congrArg (fun x : PTy => x.1.lookup 435) q218).trans rfl
theorem e218_435 {d : Nat} {Q : Option AV → St → Prop} {st : List AV} {σ : St} {l0 l1 l2 l3 : Option AV} : Rn (d) Q (218, 435, [l0, l1, l2, l3], st, σ) = Rn (d) Q (218, 436, [l0, l1, l2, l3], vI 2 :: st, σ) := by rw [E_iconst i218_435, ci_2]
theorem i218_436 : ins 218 436 = some (.iadd, 1) := (congrArg (fun x : PTy => x.1.lookup 436) q218).trans rfl
theorem e218_436 {d : Nat} {Q : Option AV → St → Prop} {st : List AV} {σ : St} {l0 l1 l2 l3 : Option AV} {x y : Int32} : Rn (d) Q (218, 436, [l0, l1, l2, l3], vI y :: vI x :: st, σ) = Rn (d) Q (218, 437, [l0, l1, l2, l3], vI (x + y) :: st, σ) := E_iadd i218_436
theorem i218_437 : ins 218 437 = some (.iaload, 1) := (congrArg (fun x : PTy => x.1.lookup 437) q218).trans rfl
theorem e218_437 {d : Nat} {Q : Option AV → St → Prop} {st : List AV} {σ : St} {l0 l1 l2 l3 : Option AV} {i : Nat} {j : Int32} : Rn (d) Q (218, 437, [l0, l1, l2, l3], vI j :: vR (some (13, 1, i)) :: st, σ) = (∃ n, gL σ 13 0 i = some n ∧ i < gN σ 13 ∧ (0 ≤ j.toInt ∧ j.toInt < n) ∧ Rn (d) Q (218, 438, [l0, l1, l2, l3], vI (gA σ 13 0 i j.toNatClampNeg) :: st, σ)) := E_iaload1 i218_437 rfl
theorem i218_438 : ins 218 438 = some (.aload_n 0, 1) := (congrArg (fun x : PTy => x.1.lookup 438) q218).trans rfl
theorem e218_438 {d : Nat} {Q : Option AV → St → Prop} {st : List AV} {σ : St} {l1 l2 l3 : Option AV} {x : Option (Nat × Nat × Nat)} : Rn (d) Q (218, 438, [some (vR x), l1, l2, l3], st, σ) = Rn (d) Q (218, 439, [some (vR x), l1, l2, l3], vR x :: st, σ) := E_aload_n i218_438 rfl
theorem i218_439 : ins 218 439 = some (.iload_n 3, 1) := (congrArg (fun x : PTy => x.1.lookup 439) q218).trans rfl
theorem e218_439 {d : Nat} {Q : Option AV → St → Prop} {st : List AV} {σ : St} {l0 l1 l2 : Option AV} {x : Int32} : Rn (d) Q (218, 439, [l0, l1, l2, some (vI x)], st, σ) = Rn (d) Q (218, 440, [l0, l1, l2, some (vI x)], vI x :: st, σ) := E_iload_n i218_439 rfl
theorem i218_440 : ins 218 440 = some (.iconst 3, 1) := (congrArg (fun x : PTy => x.1.lookup 440) q218).trans rfl
theorem e218_440 {d : Nat} {Q : Option AV → St → Prop} {st : List AV} {σ : St} {l0 l1 l2 l3 : Option AV} : Rn (d) Q (218, 440, [l0, l1, l2, l3], st, σ) = Rn (d) Q (218, 441, [l0, l1, l2, l3], vI 3 :: st, σ) := by rw [E_iconst i218_440, ci_3]
theorem i218_441 : ins 218 441 = some (.iadd, 1) := (congrArg (fun x : PTy => x.1.lookup 441) q218).trans rfl
theorem e218_441 {d : Nat} {Q : Option AV → St → Prop} {st : List AV} {σ : St} {l0 l1 l2 l3 : Option AV} {x y : Int32} : Rn (d) Q (218, 441, [l0, l1, l2, l3], vI y :: vI x :: st, σ) = Rn (d) Q (218, 442, [l0, l1, l2, l3], vI (x + y) :: st, σ) := E_iadd i218_441
theorem i218_442 : ins 218 442 = some (.iaload, 1) := (congrArg (fun x : PTy => x.1.lookup 442) q218).trans rfl
theorem e218_442 {d : Nat} {Q : Option AV → St → Prop} {st : List AV} {σ : St} {l0 l1 l2 l3 : Option AV} {i : Nat} {j : Int32} : Rn (d) Q (218, 442, [l0, l1, l2, l3], vI j :: vR (some (13, 1, i)) :: st, σ) = (∃ n, gL σ 13 0 i = some n ∧ i < gN σ 13 ∧ (0 ≤ j.toInt ∧ j.toInt < n) ∧ Rn (d) Q (218, 443, [l0, l1, l2, l3], vI (gA σ 13 0 i j.toNatClampNeg) :: st, σ)) := E_iaload1 i218_442 rfl
theorem i218_443 : ins 218 443 = some (.invokevirtual 38, 3) := (congrArg (fun x : PTy => x.1.lookup 443) q218).trans rfl
theorem e218_443 {d : Nat} {Q : Option AV → St → Prop} {st : List AV} {σ : St} {l0 l1 l2 l3 : Option AV} {i : Nat} {a1 : Int32} {a2 : Int32} {a3 : Int32} : Rn (d + 1) Q (218, 443, [l0, l1, l2, l3], vI a3 :: vI a2 :: vI a1 :: vR (some (12, 0, i)) :: st, σ) = (i < gN σ 12 ∧ catS st ≤ 8 ∧ Rn d (fun r σ' => Rn (d + 1) Q (218, 446, [l0, l1, l2, l3], r.toList ++ st, σ')) (153, 0, [some (vR (some (12, 0, i))), some (vI a1), some (vI a2), some (vI a3), none], [], σ)) := E_invV (a := [vI a3, vI a2, vI a1]) i218_443 ((congrArg (fun z => mthQ z 38) o218).trans m13_38) o153 rfl (ek153 i a1 a2 a3) (en153 i a1 a2 a3)
theorem i218_446 : ins 218 446 = some (.if_icmp .eq 1366, 3) := (congrArg (fun x : PTy => x.1.lookup 446) q218).trans rfl
theorem e218_446 {d : Nat} {Q : Option AV → St → Prop} {st : List AV} {σ : St} {l0 l1 l2 l3 : Option AV} {x y : Int32} : Rn (d) Q (218, 446, [l0, l1, l2, l3], vI y :: vI x :: st, σ) = (if x = y then Rn (d) Q (218, 1812, [l0, l1, l2, l3], st, σ) else Rn (d) Q (218, 449, [l0, l1, l2, l3], st, σ)) := E_icmp_eq 1812 i218_446 (by decide)
theorem i218_449 : ins 218 449 = some (.iconst 0, 1) := (congrArg (fun x : PTy => x.1.lookup 449) q218).trans rfl
theorem e218_449 {d : Nat} {Q : Option AV → St → Prop} {st : List AV} {σ : St} {l0 l1 l2 l3 : Option AV} : Rn (d) Q (218, 449, [l0, l1, l2, l3], st, σ) = Rn (d) Q (218, 450, [l0, l1, l2, l3], vI 0 :: st, σ) := by rw [E_iconst i218_449, ci_0]
theorem i218_450 : ins 218 450 = some (.ireturn, 1) := (congrArg (fun x : PTy => x.1.lookup 450) q218).trans rfl
theorem e218_450 {d : Nat} {Q : Option AV → St → Prop} {st : List AV} {σ : St} {l0 l1 l2 l3 : Option AV} {x : Int32} : Rn (d) Q (218, 450, [l0, l1, l2, l3], [vI x], σ) = ((x = 0 ∨ x = 1) ∧ Q (some (vI x)) σ) := E_iretZ (st := []) i218_450 r218
theorem i218_451 : ins 218 451 = some (.aload_n 1, 1) := (congrArg (fun x : PTy => x.1.lookup 451) q218).trans rfl
theorem e218_451 {d : Nat} {Q : Option AV → St → Prop} {st : List AV} {σ : St} {l0 l2 l3 : Option AV} {x : Option (Nat × Nat × Nat)} : Rn (d) Q (218, 451, [l0, some (vR x), l2, l3], st, σ) = Rn (d) Q (218, 452, [l0, some (vR x), l2, l3], vR x :: st, σ) := E_aload_n i218_451 rfl
theorem i218_452 : ins 218 452 = some (.aload_n 0, 1) := (congrArg (fun x : PTy => x.1.lookup 452) q218).trans rfl
theorem e218_452 {d : Nat} {Q : Option AV → St → Prop} {st : List AV} {σ : St} {l1 l2 l3 : Option AV} {x : Option (Nat × Nat × Nat)} : Rn (d) Q (218, 452, [some (vR x), l1, l2, l3], st, σ) = Rn (d) Q (218, 453, [some (vR x), l1, l2, l3], vR x :: st, σ) := E_aload_n i218_452 rfl
theorem i218_453 : ins 218 453 = some (.iload_n 3, 1) := (congrArg (fun x : PTy => x.1.lookup 453) q218).trans rfl
theorem e218_453 {d : Nat} {Q : Option AV → St → Prop} {st : List AV} {σ : St} {l0 l1 l2 : Option AV} {x : Int32} : Rn (d) Q (218, 453, [l0, l1, l2, some (vI x)], st, σ) = Rn (d) Q (218, 454, [l0, l1, l2, some (vI x)], vI x :: st, σ) := E_iload_n i218_453 rfl
theorem i218_454 : ins 218 454 = some (.iconst 1, 1) := (congrArg (fun x : PTy => x.1.lookup 454) q218).trans rfl
theorem e218_454 {d : Nat} {Q : Option AV → St → Prop} {st : List AV} {σ : St} {l0 l1 l2 l3 : Option AV} : Rn (d) Q (218, 454, [l0, l1, l2, l3], st, σ) = Rn (d) Q (218, 455, [l0, l1, l2, l3], vI 1 :: st, σ) := by rw [E_iconst i218_454, ci_1]
theorem i218_455 : ins 218 455 = some (.iadd, 1) := (congrArg (fun x : PTy => x.1.lookup 455) q218).trans rfl
theorem e218_455 {d : Nat} {Q : Option AV → St → Prop} {st : List AV} {σ : St} {l0 l1 l2 l3 : Option AV} {x y : Int32} : Rn (d) Q (218, 455, [l0, l1, l2, l3], vI y :: vI x :: st, σ) = Rn (d) Q (218, 456, [l0, l1, l2, l3], vI (x + y) :: st, σ) := E_iadd i218_455
theorem i218_456 : ins 218 456 = some (.iaload, 1) := (congrArg (fun x : PTy => x.1.lookup 456) q218).trans rfl
theorem e218_456 {d : Nat} {Q : Option AV → St → Prop} {st : List AV} {σ : St} {l0 l1 l2 l3 : Option AV} {i : Nat} {j : Int32} : Rn (d) Q (218, 456, [l0, l1, l2, l3], vI j :: vR (some (13, 1, i)) :: st, σ) = (∃ n, gL σ 13 0 i = some n ∧ i < gN σ 13 ∧ (0 ≤ j.toInt ∧ j.toInt < n) ∧ Rn (d) Q (218, 457, [l0, l1, l2, l3], vI (gA σ 13 0 i j.toNatClampNeg) :: st, σ)) := E_iaload1 i218_456 rfl
theorem i218_457 : ins 218 457 = some (.aload_n 0, 1) := (congrArg (fun x : PTy => x.1.lookup 457) q218).trans rfl
theorem e218_457 {d : Nat} {Q : Option AV → St → Prop} {st : List AV} {σ : St} {l1 l2 l3 : Option AV} {x : Option (Nat × Nat × Nat)} : Rn (d) Q (218, 457, [some (vR x), l1, l2, l3], st, σ) = Rn (d) Q (218, 458, [some (vR x), l1, l2, l3], vR x :: st, σ) := E_aload_n i218_457 rfl
theorem i218_458 : ins 218 458 = some (.iload_n 3, 1) := (congrArg (fun x : PTy => x.1.lookup 458) q218).trans rfl
theorem e218_458 {d : Nat} {Q : Option AV → St → Prop} {st : List AV} {σ : St} {l0 l1 l2 : Option AV} {x : Int32} : Rn (d) Q (218, 458, [l0, l1, l2, some (vI x)], st, σ) = Rn (d) Q (218, 459, [l0, l1, l2, some (vI x)], vI x :: st, σ) := E_iload_n i218_458 rfl
theorem i218_459 : ins 218 459 = some (.iconst 2, 1) := (congrArg (fun x : PTy => x.1.lookup 459) q218).trans rfl
theorem e218_459 {d : Nat} {Q : Option AV → St → Prop} {st : List AV} {σ : St} {l0 l1 l2 l3 : Option AV} : Rn (d) Q (218, 459, [l0, l1, l2, l3], st, σ) = Rn (d) Q (218, 460, [l0, l1, l2, l3], vI 2 :: st, σ) := by rw [E_iconst i218_459, ci_2]
theorem i218_460 : ins 218 460 = some (.iadd, 1) := (congrArg (fun x : PTy => x.1.lookup 460) q218).trans rfl
theorem e218_460 {d : Nat} {Q : Option AV → St → Prop} {st : List AV} {σ : St} {l0 l1 l2 l3 : Option AV} {x y : Int32} : Rn (d) Q (218, 460, [l0, l1, l2, l3], vI y :: vI x :: st, σ) = Rn (d) Q (218, 461, [l0, l1, l2, l3], vI (x + y) :: st, σ) := E_iadd i218_460
theorem i218_461 : ins 218 461 = some (.iaload, 1) := (congrArg (fun x : PTy => x.1.lookup 461) q218).trans rfl
theorem e218_461 {d : Nat} {Q : Option AV → St → Prop} {st : List AV} {σ : St} {l0 l1 l2 l3 : Option AV} {i : Nat} {j : Int32} : Rn (d) Q (218, 461, [l0, l1, l2, l3], vI j :: vR (some (13, 1, i)) :: st, σ) = (∃ n, gL σ 13 0 i = some n ∧ i < gN σ 13 ∧ (0 ≤ j.toInt ∧ j.toInt < n) ∧ Rn (d) Q (218, 462, [l0, l1, l2, l3], vI (gA σ 13 0 i j.toNatClampNeg) :: st, σ)) := E_iaload1 i218_461 rfl
theorem i218_462 : ins 218 462 = some (.invokevirtual 39, 3) := (congrArg (fun x : PTy => x.1.lookup 462) q218).trans rfl
theorem e218_462 {d : Nat} {Q : Option AV → St → Prop} {st : List AV} {σ : St} {l0 l1 l2 l3 : Option AV} {i : Nat} {a1 : Int32} {a2 : Int32} : Rn (d + 1) Q (218, 462, [l0, l1, l2, l3], vI a2 :: vI a1 :: vR (some (11, 0, i)) :: st, σ) = (i < gN σ 11 ∧ catS st ≤ 8 ∧ Rn d (fun r σ' => Rn (d + 1) Q (218, 465, [l0, l1, l2, l3], r.toList ++ st, σ')) (71, 0, [some (vR (some (11, 0, i))), some (vI a1), some (vI a2), none], [], σ)) := E_invV (a := [vI a2, vI a1]) i218_462 ((congrArg (fun z => mthQ z 39) o218).trans m13_39) o71 rfl (ek71 i a1 a2) (en71 i a1 a2)
theorem i218_465 : ins 218 465 = some (.aload_n 2, 1) := (congrArg (fun x : PTy => x.1.lookup 465) q218).trans rfl
theorem e218_465 {d : Nat} {Q : Option AV → St → Prop} {st : List AV} {σ : St} {l0 l1 l3 : Option AV} {x : Option (Nat × Nat × Nat)} : Rn (d) Q (218, 465, [l0, l1, some (vR x), l3], st, σ) = Rn (d) Q (218, 466, [l0, l1, some (vR x), l3], vR x :: st, σ) := E_aload_n i218_465 rfl
theorem i218_466 : ins 218 466 = some (.aload_n 0, 1) := (congrArg (fun x : PTy => x.1.lookup 466) q218).trans rfl
theorem e218_466 {d : Nat} {Q : Option AV → St → Prop} {st : List AV} {σ : St} {l1 l2 l3 : Option AV} {x : Option (Nat × Nat × Nat)} : Rn (d) Q (218, 466, [some (vR x), l1, l2, l3], st, σ) = Rn (d) Q (218, 467, [some (vR x), l1, l2, l3], vR x :: st, σ) := E_aload_n i218_466 rfl
theorem i218_467 : ins 218 467 = some (.iload_n 3, 1) := (congrArg (fun x : PTy => x.1.lookup 467) q218).trans rfl
theorem e218_467 {d : Nat} {Q : Option AV → St → Prop} {st : List AV} {σ : St} {l0 l1 l2 : Option AV} {x : Int32} : Rn (d) Q (218, 467, [l0, l1, l2, some (vI x)], st, σ) = Rn (d) Q (218, 468, [l0, l1, l2, some (vI x)], vI x :: st, σ) := E_iload_n i218_467 rfl
theorem i218_468 : ins 218 468 = some (.iconst 1, 1) := (congrArg (fun x : PTy => x.1.lookup 468) q218).trans rfl
theorem e218_468 {d : Nat} {Q : Option AV → St → Prop} {st : List AV} {σ : St} {l0 l1 l2 l3 : Option AV} : Rn (d) Q (218, 468, [l0, l1, l2, l3], st, σ) = Rn (d) Q (218, 469, [l0, l1, l2, l3], vI 1 :: st, σ) := by rw [E_iconst i218_468, ci_1]
theorem i218_469 : ins 218 469 = some (.iadd, 1) := (congrArg (fun x : PTy => x.1.lookup 469) q218).trans rfl
theorem e218_469 {d : Nat} {Q : Option AV → St → Prop} {st : List AV} {σ : St} {l0 l1 l2 l3 : Option AV} {x y : Int32} : Rn (d) Q (218, 469, [l0, l1, l2, l3], vI y :: vI x :: st, σ) = Rn (d) Q (218, 470, [l0, l1, l2, l3], vI (x + y) :: st, σ) := E_iadd i218_469
theorem i218_470 : ins 218 470 = some (.iaload, 1) := (congrArg (fun x : PTy => x.1.lookup 470) q218).trans rfl
theorem e218_470 {d : Nat} {Q : Option AV → St → Prop} {st : List AV} {σ : St} {l0 l1 l2 l3 : Option AV} {i : Nat} {j : Int32} : Rn (d) Q (218, 470, [l0, l1, l2, l3], vI j :: vR (some (13, 1, i)) :: st, σ) = (∃ n, gL σ 13 0 i = some n ∧ i < gN σ 13 ∧ (0 ≤ j.toInt ∧ j.toInt < n) ∧ Rn (d) Q (218, 471, [l0, l1, l2, l3], vI (gA σ 13 0 i j.toNatClampNeg) :: st, σ)) := E_iaload1 i218_470 rfl
theorem i218_471 : ins 218 471 = some (.aload_n 0, 1) := (congrArg (fun x : PTy => x.1.lookup 471) q218).trans rfl
theorem e218_471 {d : Nat} {Q : Option AV → St → Prop} {st : List AV} {σ : St} {l1 l2 l3 : Option AV} {x : Option (Nat × Nat × Nat)} : Rn (d) Q (218, 471, [some (vR x), l1, l2, l3], st, σ) = Rn (d) Q (218, 472, [some (vR x), l1, l2, l3], vR x :: st, σ) := E_aload_n i218_471 rfl
theorem i218_472 : ins 218 472 = some (.iload_n 3, 1) := (congrArg (fun x : PTy => x.1.lookup 472) q218).trans rfl
theorem e218_472 {d : Nat} {Q : Option AV → St → Prop} {st : List AV} {σ : St} {l0 l1 l2 : Option AV} {x : Int32} : Rn (d) Q (218, 472, [l0, l1, l2, some (vI x)], st, σ) = Rn (d) Q (218, 473, [l0, l1, l2, some (vI x)], vI x :: st, σ) := E_iload_n i218_472 rfl
theorem i218_473 : ins 218 473 = some (.iconst 2, 1) := (congrArg (fun x : PTy => x.1.lookup 473) q218).trans rfl
theorem e218_473 {d : Nat} {Q : Option AV → St → Prop} {st : List AV} {σ : St} {l0 l1 l2 l3 : Option AV} : Rn (d) Q (218, 473, [l0, l1, l2, l3], st, σ) = Rn (d) Q (218, 474, [l0, l1, l2, l3], vI 2 :: st, σ) := by rw [E_iconst i218_473, ci_2]
theorem i218_474 : ins 218 474 = some (.iadd, 1) := (congrArg (fun x : PTy => x.1.lookup 474) q218).trans rfl
theorem e218_474 {d : Nat} {Q : Option AV → St → Prop} {st : List AV} {σ : St} {l0 l1 l2 l3 : Option AV} {x y : Int32} : Rn (d) Q (218, 474, [l0, l1, l2, l3], vI y :: vI x :: st, σ) = Rn (d) Q (218, 475, [l0, l1, l2, l3], vI (x + y) :: st, σ) := E_iadd i218_474
theorem i218_475 : ins 218 475 = some (.iaload, 1) := (congrArg (fun x : PTy => x.1.lookup 475) q218).trans rfl
theorem e218_475 {d : Nat} {Q : Option AV → St → Prop} {st : List AV} {σ : St} {l0 l1 l2 l3 : Option AV} {i : Nat} {j : Int32} : Rn (d) Q (218, 475, [l0, l1, l2, l3], vI j :: vR (some (13, 1, i)) :: st, σ) = (∃ n, gL σ 13 0 i = some n ∧ i < gN σ 13 ∧ (0 ≤ j.toInt ∧ j.toInt < n) ∧ Rn (d) Q (218, 476, [l0, l1, l2, l3], vI (gA σ 13 0 i j.toNatClampNeg) :: st, σ)) := E_iaload1 i218_475 rfl
theorem i218_476 : ins 218 476 = some (.invokevirtual 42, 3) := (congrArg (fun x : PTy => x.1.lookup 476) q218).trans rfl
theorem e218_476 {d : Nat} {Q : Option AV → St → Prop} {st : List AV} {σ : St} {l0 l1 l2 l3 : Option AV} {i : Nat} {a1 : Int32} {a2 : Int32} : Rn (d + 1) Q (218, 476, [l0, l1, l2, l3], vI a2 :: vI a1 :: vR (some (12, 0, i)) :: st, σ) = (i < gN σ 12 ∧ catS st ≤ 8 ∧ Rn d (fun r σ' => Rn (d + 1) Q (218, 479, [l0, l1, l2, l3], r.toList ++ st, σ')) (156, 0, [some (vR (some (12, 0, i))), some (vI a1), some (vI a2)], [], σ)) := E_invV (a := [vI a2, vI a1]) i218_476 ((congrArg (fun z => mthQ z 42) o218).trans m13_42) o156 rfl (ek156 i a1 a2) (en156 i a1 a2)
theorem i218_479 : ins 218 479 = some (.if_icmp .eq 1333, 3) := (congrArg (fun x : PTy => x.1.lookup 479) q218).trans rfl
theorem e218_479 {d : Nat} {Q : Option AV → St → Prop} {st : List AV} {σ : St} {l0 l1 l2 l3 : Option AV} {x y : Int32} : Rn (d) Q (218, 479, [l0, l1, l2, l3], vI y :: vI x :: st, σ) = (if x = y then Rn (d) Q (218, 1812, [l0, l1, l2, l3], st, σ) else Rn (d) Q (218, 482, [l0, l1, l2, l3], st, σ)) := E_icmp_eq 1812 i218_479 (by decide)
theorem i218_482 : ins 218 482 = some (.iconst 0, 1) := (congrArg (fun x : PTy => x.1.lookup 482) q218).trans rfl
theorem e218_482 {d : Nat} {Q : Option AV → St → Prop} {st : List AV} {σ : St} {l0 l1 l2 l3 : Option AV} : Rn (d) Q (218, 482, [l0, l1, l2, l3], st, σ) = Rn (d) Q (218, 483, [l0, l1, l2, l3], vI 0 :: st, σ) := by rw [E_iconst i218_482, ci_0]
theorem i218_483 : ins 218 483 = some (.ireturn, 1) := (congrArg (fun x : PTy => x.1.lookup 483) q218).trans rfl
theorem e218_483 {d : Nat} {Q : Option AV → St → Prop} {st : List AV} {σ : St} {l0 l1 l2 l3 : Option AV} {x : Int32} : Rn (d) Q (218, 483, [l0, l1, l2, l3], [vI x], σ) = ((x = 0 ∨ x = 1) ∧ Q (some (vI x)) σ) := E_iretZ (st := []) i218_483 r218
theorem i218_484 : ins 218 484 = some (.aload_n 1, 1) := (congrArg (fun x : PTy => x.1.lookup 484) q218).trans rfl
theorem e218_484 {d : Nat} {Q : Option AV → St → Prop} {st : List AV} {σ : St} {l0 l2 l3 : Option AV} {x : Option (Nat × Nat × Nat)} : Rn (d) Q (218, 484, [l0, some (vR x), l2, l3], st, σ) = Rn (d) Q (218, 485, [l0, some (vR x), l2, l3], vR x :: st, σ) := E_aload_n i218_484 rfl
theorem i218_485 : ins 218 485 = some (.aload_n 0, 1) := (congrArg (fun x : PTy => x.1.lookup 485) q218).trans rfl
theorem e218_485 {d : Nat} {Q : Option AV → St → Prop} {st : List AV} {σ : St} {l1 l2 l3 : Option AV} {x : Option (Nat × Nat × Nat)} : Rn (d) Q (218, 485, [some (vR x), l1, l2, l3], st, σ) = Rn (d) Q (218, 486, [some (vR x), l1, l2, l3], vR x :: st, σ) := E_aload_n i218_485 rfl
theorem i218_486 : ins 218 486 = some (.iload_n 3, 1) := (congrArg (fun x : PTy => x.1.lookup 486) q218).trans rfl
theorem e218_486 {d : Nat} {Q : Option AV → St → Prop} {st : List AV} {σ : St} {l0 l1 l2 : Option AV} {x : Int32} : Rn (d) Q (218, 486, [l0, l1, l2, some (vI x)], st, σ) = Rn (d) Q (218, 487, [l0, l1, l2, some (vI x)], vI x :: st, σ) := E_iload_n i218_486 rfl
theorem i218_487 : ins 218 487 = some (.iconst 1, 1) := (congrArg (fun x : PTy => x.1.lookup 487) q218).trans rfl
theorem e218_487 {d : Nat} {Q : Option AV → St → Prop} {st : List AV} {σ : St} {l0 l1 l2 l3 : Option AV} : Rn (d) Q (218, 487, [l0, l1, l2, l3], st, σ) = Rn (d) Q (218, 488, [l0, l1, l2, l3], vI 1 :: st, σ) := by rw [E_iconst i218_487, ci_1]
theorem i218_488 : ins 218 488 = some (.iadd, 1) := (congrArg (fun x : PTy => x.1.lookup 488) q218).trans rfl
theorem e218_488 {d : Nat} {Q : Option AV → St → Prop} {st : List AV} {σ : St} {l0 l1 l2 l3 : Option AV} {x y : Int32} : Rn (d) Q (218, 488, [l0, l1, l2, l3], vI y :: vI x :: st, σ) = Rn (d) Q (218, 489, [l0, l1, l2, l3], vI (x + y) :: st, σ) := E_iadd i218_488
theorem i218_489 : ins 218 489 = some (.iaload, 1) := (congrArg (fun x : PTy => x.1.lookup 489) q218).trans rfl
theorem e218_489 {d : Nat} {Q : Option AV → St → Prop} {st : List AV} {σ : St} {l0 l1 l2 l3 : Option AV} {i : Nat} {j : Int32} : Rn (d) Q (218, 489, [l0, l1, l2, l3], vI j :: vR (some (13, 1, i)) :: st, σ) = (∃ n, gL σ 13 0 i = some n ∧ i < gN σ 13 ∧ (0 ≤ j.toInt ∧ j.toInt < n) ∧ Rn (d) Q (218, 490, [l0, l1, l2, l3], vI (gA σ 13 0 i j.toNatClampNeg) :: st, σ)) := E_iaload1 i218_489 rfl
theorem i218_490 : ins 218 490 = some (.aload_n 0, 1) := (congrArg (fun x : PTy => x.1.lookup 490) q218).trans rfl
theorem e218_490 {d : Nat} {Q : Option AV → St → Prop} {st : List AV} {σ : St} {l1 l2 l3 : Option AV} {x : Option (Nat × Nat × Nat)} : Rn (d) Q (218, 490, [some (vR x), l1, l2, l3], st, σ) = Rn (d) Q (218, 491, [some (vR x), l1, l2, l3], vR x :: st, σ) := E_aload_n i218_490 rfl
theorem i218_491 : ins 218 491 = some (.iload_n 3, 1) := (congrArg (fun x : PTy => x.1.lookup 491) q218).trans rfl
theorem e218_491 {d : Nat} {Q : Option AV → St → Prop} {st : List AV} {σ : St} {l0 l1 l2 : Option AV} {x : Int32} : Rn (d) Q (218, 491, [l0, l1, l2, some (vI x)], st, σ) = Rn (d) Q (218, 492, [l0, l1, l2, some (vI x)], vI x :: st, σ) := E_iload_n i218_491 rfl
theorem i218_492 : ins 218 492 = some (.iconst 2, 1) := (congrArg (fun x : PTy => x.1.lookup 492) q218).trans rfl
theorem e218_492 {d : Nat} {Q : Option AV → St → Prop} {st : List AV} {σ : St} {l0 l1 l2 l3 : Option AV} : Rn (d) Q (218, 492, [l0, l1, l2, l3], st, σ) = Rn (d) Q (218, 493, [l0, l1, l2, l3], vI 2 :: st, σ) := by rw [E_iconst i218_492, ci_2]
theorem i218_493 : ins 218 493 = some (.iadd, 1) := (congrArg (fun x : PTy => x.1.lookup 493) q218).trans rfl
theorem e218_493 {d : Nat} {Q : Option AV → St → Prop} {st : List AV} {σ : St} {l0 l1 l2 l3 : Option AV} {x y : Int32} : Rn (d) Q (218, 493, [l0, l1, l2, l3], vI y :: vI x :: st, σ) = Rn (d) Q (218, 494, [l0, l1, l2, l3], vI (x + y) :: st, σ) := E_iadd i218_493
theorem i218_494 : ins 218 494 = some (.iaload, 1) := (congrArg (fun x : PTy => x.1.lookup 494) q218).trans rfl
theorem e218_494 {d : Nat} {Q : Option AV → St → Prop} {st : List AV} {σ : St} {l0 l1 l2 l3 : Option AV} {i : Nat} {j : Int32} : Rn (d) Q (218, 494, [l0, l1, l2, l3], vI j :: vR (some (13, 1, i)) :: st, σ) = (∃ n, gL σ 13 0 i = some n ∧ i < gN σ 13 ∧ (0 ≤ j.toInt ∧ j.toInt < n) ∧ Rn (d) Q (218, 495, [l0, l1, l2, l3], vI (gA σ 13 0 i j.toNatClampNeg) :: st, σ)) := E_iaload1 i218_494 rfl
theorem i218_495 : ins 218 495 = some (.invokevirtual 43, 3) := (congrArg (fun x : PTy => x.1.lookup 495) q218).trans rfl
theorem e218_495 {d : Nat} {Q : Option AV → St → Prop} {st : List AV} {σ : St} {l0 l1 l2 l3 : Option AV} {i : Nat} {a1 : Int32} {a2 : Int32} : Rn (d + 1) Q (218, 495, [l0, l1, l2, l3], vI a2 :: vI a1 :: vR (some (11, 0, i)) :: st, σ) = (i < gN σ 11 ∧ catS st ≤ 8 ∧ Rn d (fun r σ' => Rn (d + 1) Q (218, 498, [l0, l1, l2, l3], r.toList ++ st, σ')) (72, 0, [some (vR (some (11, 0, i))), some (vI a1), some (vI a2), none, none], [], σ)) := E_invV (a := [vI a2, vI a1]) i218_495 ((congrArg (fun z => mthQ z 43) o218).trans m13_43) o72 rfl (ek72 i a1 a2) (en72 i a1 a2)
theorem i218_498 : ins 218 498 = some (.aload_n 2, 1) := (congrArg (fun x : PTy => x.1.lookup 498) q218).trans rfl
theorem e218_498 {d : Nat} {Q : Option AV → St → Prop} {st : List AV} {σ : St} {l0 l1 l3 : Option AV} {x : Option (Nat × Nat × Nat)} : Rn (d) Q (218, 498, [l0, l1, some (vR x), l3], st, σ) = Rn (d) Q (218, 499, [l0, l1, some (vR x), l3], vR x :: st, σ) := E_aload_n i218_498 rfl
theorem i218_499 : ins 218 499 = some (.aload_n 0, 1) := (congrArg (fun x : PTy => x.1.lookup 499) q218).trans rfl
theorem e218_499 {d : Nat} {Q : Option AV → St → Prop} {st : List AV} {σ : St} {l1 l2 l3 : Option AV} {x : Option (Nat × Nat × Nat)} : Rn (d) Q (218, 499, [some (vR x), l1, l2, l3], st, σ) = Rn (d) Q (218, 500, [some (vR x), l1, l2, l3], vR x :: st, σ) := E_aload_n i218_499 rfl
theorem i218_500 : ins 218 500 = some (.iload_n 3, 1) := (congrArg (fun x : PTy => x.1.lookup 500) q218).trans rfl
theorem e218_500 {d : Nat} {Q : Option AV → St → Prop} {st : List AV} {σ : St} {l0 l1 l2 : Option AV} {x : Int32} : Rn (d) Q (218, 500, [l0, l1, l2, some (vI x)], st, σ) = Rn (d) Q (218, 501, [l0, l1, l2, some (vI x)], vI x :: st, σ) := E_iload_n i218_500 rfl
theorem i218_501 : ins 218 501 = some (.iconst 1, 1) := (congrArg (fun x : PTy => x.1.lookup 501) q218).trans rfl
theorem e218_501 {d : Nat} {Q : Option AV → St → Prop} {st : List AV} {σ : St} {l0 l1 l2 l3 : Option AV} : Rn (d) Q (218, 501, [l0, l1, l2, l3], st, σ) = Rn (d) Q (218, 502, [l0, l1, l2, l3], vI 1 :: st, σ) := by rw [E_iconst i218_501, ci_1]
theorem i218_502 : ins 218 502 = some (.iadd, 1) := (congrArg (fun x : PTy => x.1.lookup 502) q218).trans rfl
theorem e218_502 {d : Nat} {Q : Option AV → St → Prop} {st : List AV} {σ : St} {l0 l1 l2 l3 : Option AV} {x y : Int32} : Rn (d) Q (218, 502, [l0, l1, l2, l3], vI y :: vI x :: st, σ) = Rn (d) Q (218, 503, [l0, l1, l2, l3], vI (x + y) :: st, σ) := E_iadd i218_502
theorem i218_503 : ins 218 503 = some (.iaload, 1) := (congrArg (fun x : PTy => x.1.lookup 503) q218).trans rfl
theorem e218_503 {d : Nat} {Q : Option AV → St → Prop} {st : List AV} {σ : St} {l0 l1 l2 l3 : Option AV} {i : Nat} {j : Int32} : Rn (d) Q (218, 503, [l0, l1, l2, l3], vI j :: vR (some (13, 1, i)) :: st, σ) = (∃ n, gL σ 13 0 i = some n ∧ i < gN σ 13 ∧ (0 ≤ j.toInt ∧ j.toInt < n) ∧ Rn (d) Q (218, 504, [l0, l1, l2, l3], vI (gA σ 13 0 i j.toNatClampNeg) :: st, σ)) := E_iaload1 i218_503 rfl
theorem i218_504 : ins 218 504 = some (.aload_n 0, 1) := (congrArg (fun x : PTy => x.1.lookup 504) q218).trans rfl
theorem e218_504 {d : Nat} {Q : Option AV → St → Prop} {st : List AV} {σ : St} {l1 l2 l3 : Option AV} {x : Option (Nat × Nat × Nat)} : Rn (d) Q (218, 504, [some (vR x), l1, l2, l3], st, σ) = Rn (d) Q (218, 505, [some (vR x), l1, l2, l3], vR x :: st, σ) := E_aload_n i218_504 rfl
theorem i218_505 : ins 218 505 = some (.iload_n 3, 1) := (congrArg (fun x : PTy => x.1.lookup 505) q218).trans rfl
theorem e218_505 {d : Nat} {Q : Option AV → St → Prop} {st : List AV} {σ : St} {l0 l1 l2 : Option AV} {x : Int32} : Rn (d) Q (218, 505, [l0, l1, l2, some (vI x)], st, σ) = Rn (d) Q (218, 506, [l0, l1, l2, some (vI x)], vI x :: st, σ) := E_iload_n i218_505 rfl
theorem i218_506 : ins 218 506 = some (.iconst 2, 1) := (congrArg (fun x : PTy => x.1.lookup 506) q218).trans rfl
theorem e218_506 {d : Nat} {Q : Option AV → St → Prop} {st : List AV} {σ : St} {l0 l1 l2 l3 : Option AV} : Rn (d) Q (218, 506, [l0, l1, l2, l3], st, σ) = Rn (d) Q (218, 507, [l0, l1, l2, l3], vI 2 :: st, σ) := by rw [E_iconst i218_506, ci_2]
theorem i218_507 : ins 218 507 = some (.iadd, 1) := (congrArg (fun x : PTy => x.1.lookup 507) q218).trans rfl
theorem e218_507 {d : Nat} {Q : Option AV → St → Prop} {st : List AV} {σ : St} {l0 l1 l2 l3 : Option AV} {x y : Int32} : Rn (d) Q (218, 507, [l0, l1, l2, l3], vI y :: vI x :: st, σ) = Rn (d) Q (218, 508, [l0, l1, l2, l3], vI (x + y) :: st, σ) := E_iadd i218_507
theorem i218_508 : ins 218 508 = some (.iaload, 1) := (congrArg (fun x : PTy => x.1.lookup 508) q218).trans rfl
theorem e218_508 {d : Nat} {Q : Option AV → St → Prop} {st : List AV} {σ : St} {l0 l1 l2 l3 : Option AV} {i : Nat} {j : Int32} : Rn (d) Q (218, 508, [l0, l1, l2, l3], vI j :: vR (some (13, 1, i)) :: st, σ) = (∃ n, gL σ 13 0 i = some n ∧ i < gN σ 13 ∧ (0 ≤ j.toInt ∧ j.toInt < n) ∧ Rn (d) Q (218, 509, [l0, l1, l2, l3], vI (gA σ 13 0 i j.toNatClampNeg) :: st, σ)) := E_iaload1 i218_508 rfl
theorem i218_509 : ins 218 509 = some (.invokevirtual 46, 3) := (congrArg (fun x : PTy => x.1.lookup 509) q218).trans rfl
theorem e218_509 {d : Nat} {Q : Option AV → St → Prop} {st : List AV} {σ : St} {l0 l1 l2 l3 : Option AV} {i : Nat} {a1 : Int32} {a2 : Int32} : Rn (d + 1) Q (218, 509, [l0, l1, l2, l3], vI a2 :: vI a1 :: vR (some (12, 0, i)) :: st, σ) = (i < gN σ 12 ∧ catS st ≤ 8 ∧ Rn d (fun r σ' => Rn (d + 1) Q (218, 512, [l0, l1, l2, l3], r.toList ++ st, σ')) (157, 0, [some (vR (some (12, 0, i))), some (vI a1), some (vI a2), none], [], σ)) := E_invV (a := [vI a2, vI a1]) i218_509 ((congrArg (fun z => mthQ z 46) o218).trans m13_46) o157 rfl (ek157 i a1 a2) (en157 i a1 a2)
theorem i218_512 : ins 218 512 = some (.if_icmp .eq 1300, 3) := (congrArg (fun x : PTy => x.1.lookup 512) q218).trans rfl
theorem e218_512 {d : Nat} {Q : Option AV → St → Prop} {st : List AV} {σ : St} {l0 l1 l2 l3 : Option AV} {x y : Int32} : Rn (d) Q (218, 512, [l0, l1, l2, l3], vI y :: vI x :: st, σ) = (if x = y then Rn (d) Q (218, 1812, [l0, l1, l2, l3], st, σ) else Rn (d) Q (218, 515, [l0, l1, l2, l3], st, σ)) := E_icmp_eq 1812 i218_512 (by decide)
theorem i218_515 : ins 218 515 = some (.iconst 0, 1) := (congrArg (fun x : PTy => x.1.lookup 515) q218).trans rfl
theorem e218_515 {d : Nat} {Q : Option AV → St → Prop} {st : List AV} {σ : St} {l0 l1 l2 l3 : Option AV} : Rn (d) Q (218, 515, [l0, l1, l2, l3], st, σ) = Rn (d) Q (218, 516, [l0, l1, l2, l3], vI 0 :: st, σ) := by rw [E_iconst i218_515, ci_0]
theorem i218_516 : ins 218 516 = some (.ireturn, 1) := (congrArg (fun x : PTy => x.1.lookup 516) q218).trans rfl
theorem e218_516 {d : Nat} {Q : Option AV → St → Prop} {st : List AV} {σ : St} {l0 l1 l2 l3 : Option AV} {x : Int32} : Rn (d) Q (218, 516, [l0, l1, l2, l3], [vI x], σ) = ((x = 0 ∨ x = 1) ∧ Q (some (vI x)) σ) := E_iretZ (st := []) i218_516 r218
theorem i218_517 : ins 218 517 = some (.aload_n 1, 1) := (congrArg (fun x : PTy => x.1.lookup 517) q218).trans rfl
theorem e218_517 {d : Nat} {Q : Option AV → St → Prop} {st : List AV} {σ : St} {l0 l2 l3 : Option AV} {x : Option (Nat × Nat × Nat)} : Rn (d) Q (218, 517, [l0, some (vR x), l2, l3], st, σ) = Rn (d) Q (218, 518, [l0, some (vR x), l2, l3], vR x :: st, σ) := E_aload_n i218_517 rfl
theorem i218_518 : ins 218 518 = some (.aload_n 0, 1) := (congrArg (fun x : PTy => x.1.lookup 518) q218).trans rfl
theorem e218_518 {d : Nat} {Q : Option AV → St → Prop} {st : List AV} {σ : St} {l1 l2 l3 : Option AV} {x : Option (Nat × Nat × Nat)} : Rn (d) Q (218, 518, [some (vR x), l1, l2, l3], st, σ) = Rn (d) Q (218, 519, [some (vR x), l1, l2, l3], vR x :: st, σ) := E_aload_n i218_518 rfl
theorem i218_519 : ins 218 519 = some (.iload_n 3, 1) := (congrArg (fun x : PTy => x.1.lookup 519) q218).trans rfl
theorem e218_519 {d : Nat} {Q : Option AV → St → Prop} {st : List AV} {σ : St} {l0 l1 l2 : Option AV} {x : Int32} : Rn (d) Q (218, 519, [l0, l1, l2, some (vI x)], st, σ) = Rn (d) Q (218, 520, [l0, l1, l2, some (vI x)], vI x :: st, σ) := E_iload_n i218_519 rfl
theorem i218_520 : ins 218 520 = some (.iconst 1, 1) := (congrArg (fun x : PTy => x.1.lookup 520) q218).trans rfl
theorem e218_520 {d : Nat} {Q : Option AV → St → Prop} {st : List AV} {σ : St} {l0 l1 l2 l3 : Option AV} : Rn (d) Q (218, 520, [l0, l1, l2, l3], st, σ) = Rn (d) Q (218, 521, [l0, l1, l2, l3], vI 1 :: st, σ) := by rw [E_iconst i218_520, ci_1]
theorem i218_521 : ins 218 521 = some (.iadd, 1) := (congrArg (fun x : PTy => x.1.lookup 521) q218).trans rfl
theorem e218_521 {d : Nat} {Q : Option AV → St → Prop} {st : List AV} {σ : St} {l0 l1 l2 l3 : Option AV} {x y : Int32} : Rn (d) Q (218, 521, [l0, l1, l2, l3], vI y :: vI x :: st, σ) = Rn (d) Q (218, 522, [l0, l1, l2, l3], vI (x + y) :: st, σ) := E_iadd i218_521
theorem i218_522 : ins 218 522 = some (.iaload, 1) := (congrArg (fun x : PTy => x.1.lookup 522) q218).trans rfl
theorem e218_522 {d : Nat} {Q : Option AV → St → Prop} {st : List AV} {σ : St} {l0 l1 l2 l3 : Option AV} {i : Nat} {j : Int32} : Rn (d) Q (218, 522, [l0, l1, l2, l3], vI j :: vR (some (13, 1, i)) :: st, σ) = (∃ n, gL σ 13 0 i = some n ∧ i < gN σ 13 ∧ (0 ≤ j.toInt ∧ j.toInt < n) ∧ Rn (d) Q (218, 523, [l0, l1, l2, l3], vI (gA σ 13 0 i j.toNatClampNeg) :: st, σ)) := E_iaload1 i218_522 rfl
theorem i218_523 : ins 218 523 = some (.aload_n 0, 1) := (congrArg (fun x : PTy => x.1.lookup 523) q218).trans rfl
theorem e218_523 {d : Nat} {Q : Option AV → St → Prop} {st : List AV} {σ : St} {l1 l2 l3 : Option AV} {x : Option (Nat × Nat × Nat)} : Rn (d) Q (218, 523, [some (vR x), l1, l2, l3], st, σ) = Rn (d) Q (218, 524, [some (vR x), l1, l2, l3], vR x :: st, σ) := E_aload_n i218_523 rfl
theorem i218_524 : ins 218 524 = some (.iload_n 3, 1) := (congrArg (fun x : PTy => x.1.lookup 524) q218).trans rfl
theorem e218_524 {d : Nat} {Q : Option AV → St → Prop} {st : List AV} {σ : St} {l0 l1 l2 : Option AV} {x : Int32} : Rn (d) Q (218, 524, [l0, l1, l2, some (vI x)], st, σ) = Rn (d) Q (218, 525, [l0, l1, l2, some (vI x)], vI x :: st, σ) := E_iload_n i218_524 rfl
theorem i218_525 : ins 218 525 = some (.iconst 2, 1) := (congrArg (fun x : PTy => x.1.lookup 525) q218).trans rfl
theorem e218_525 {d : Nat} {Q : Option AV → St → Prop} {st : List AV} {σ : St} {l0 l1 l2 l3 : Option AV} : Rn (d) Q (218, 525, [l0, l1, l2, l3], st, σ) = Rn (d) Q (218, 526, [l0, l1, l2, l3], vI 2 :: st, σ) := by rw [E_iconst i218_525, ci_2]
theorem i218_526 : ins 218 526 = some (.iadd, 1) := (congrArg (fun x : PTy => x.1.lookup 526) q218).trans rfl
theorem e218_526 {d : Nat} {Q : Option AV → St → Prop} {st : List AV} {σ : St} {l0 l1 l2 l3 : Option AV} {x y : Int32} : Rn (d) Q (218, 526, [l0, l1, l2, l3], vI y :: vI x :: st, σ) = Rn (d) Q (218, 527, [l0, l1, l2, l3], vI (x + y) :: st, σ) := E_iadd i218_526
theorem i218_527 : ins 218 527 = some (.iaload, 1) := (congrArg (fun x : PTy => x.1.lookup 527) q218).trans rfl
theorem e218_527 {d : Nat} {Q : Option AV → St → Prop} {st : List AV} {σ : St} {l0 l1 l2 l3 : Option AV} {i : Nat} {j : Int32} : Rn (d) Q (218, 527, [l0, l1, l2, l3], vI j :: vR (some (13, 1, i)) :: st, σ) = (∃ n, gL σ 13 0 i = some n ∧ i < gN σ 13 ∧ (0 ≤ j.toInt ∧ j.toInt < n) ∧ Rn (d) Q (218, 528, [l0, l1, l2, l3], vI (gA σ 13 0 i j.toNatClampNeg) :: st, σ)) := E_iaload1 i218_527 rfl
theorem i218_528 : ins 218 528 = some (.aload_n 0, 1) := (congrArg (fun x : PTy => x.1.lookup 528) q218).trans rfl
theorem e218_528 {d : Nat} {Q : Option AV → St → Prop} {st : List AV} {σ : St} {l1 l2 l3 : Option AV} {x : Option (Nat × Nat × Nat)} : Rn (d) Q (218, 528, [some (vR x), l1, l2, l3], st, σ) = Rn (d) Q (218, 529, [some (vR x), l1, l2, l3], vR x :: st, σ) := E_aload_n i218_528 rfl
theorem i218_529 : ins 218 529 = some (.iload_n 3, 1) := (congrArg (fun x : PTy => x.1.lookup 529) q218).trans rfl
theorem e218_529 {d : Nat} {Q : Option AV → St → Prop} {st : List AV} {σ : St} {l0 l1 l2 : Option AV} {x : Int32} : Rn (d) Q (218, 529, [l0, l1, l2, some (vI x)], st, σ) = Rn (d) Q (218, 530, [l0, l1, l2, some (vI x)], vI x :: st, σ) := E_iload_n i218_529 rfl
theorem i218_530 : ins 218 530 = some (.iconst 3, 1) := (congrArg (fun x : PTy => x.1.lookup 530) q218).trans rfl
theorem e218_530 {d : Nat} {Q : Option AV → St → Prop} {st : List AV} {σ : St} {l0 l1 l2 l3 : Option AV} : Rn (d) Q (218, 530, [l0, l1, l2, l3], st, σ) = Rn (d) Q (218, 531, [l0, l1, l2, l3], vI 3 :: st, σ) := by rw [E_iconst i218_530, ci_3]
theorem i218_531 : ins 218 531 = some (.iadd, 1) := (congrArg (fun x : PTy => x.1.lookup 531) q218).trans rfl
theorem e218_531 {d : Nat} {Q : Option AV → St → Prop} {st : List AV} {σ : St} {l0 l1 l2 l3 : Option AV} {x y : Int32} : Rn (d) Q (218, 531, [l0, l1, l2, l3], vI y :: vI x :: st, σ) = Rn (d) Q (218, 532, [l0, l1, l2, l3], vI (x + y) :: st, σ) := E_iadd i218_531
theorem i218_532 : ins 218 532 = some (.iaload, 1) := (congrArg (fun x : PTy => x.1.lookup 532) q218).trans rfl
theorem e218_532 {d : Nat} {Q : Option AV → St → Prop} {st : List AV} {σ : St} {l0 l1 l2 l3 : Option AV} {i : Nat} {j : Int32} : Rn (d) Q (218, 532, [l0, l1, l2, l3], vI j :: vR (some (13, 1, i)) :: st, σ) = (∃ n, gL σ 13 0 i = some n ∧ i < gN σ 13 ∧ (0 ≤ j.toInt ∧ j.toInt < n) ∧ Rn (d) Q (218, 533, [l0, l1, l2, l3], vI (gA σ 13 0 i j.toNatClampNeg) :: st, σ)) := E_iaload1 i218_532 rfl
theorem i218_533 : ins 218 533 = some (.invokevirtual 47, 3) := (congrArg (fun x : PTy => x.1.lookup 533) q218).trans rfl
theorem e218_533 {d : Nat} {Q : Option AV → St → Prop} {st : List AV} {σ : St} {l0 l1 l2 l3 : Option AV} {i : Nat} {a1 : Int32} {a2 : Int32} {a3 : Int32} : Rn (d + 1) Q (218, 533, [l0, l1, l2, l3], vI a3 :: vI a2 :: vI a1 :: vR (some (11, 0, i)) :: st, σ) = (i < gN σ 11 ∧ catS st ≤ 8 ∧ Rn d (fun r σ' => Rn (d + 1) Q (218, 536, [l0, l1, l2, l3], r.toList ++ st, σ')) (73, 0, [some (vR (some (11, 0, i))), some (vI a1), some (vI a2), some (vI a3), none, none], [], σ)) := E_invV (a := [vI a3, vI a2, vI a1]) i218_533 ((congrArg (fun z => mthQ z 47) o218).trans m13_47) o73 rfl (ek73 i a1 a2 a3) (en73 i a1 a2 a3)
theorem i218_536 : ins 218 536 = some (.aload_n 2, 1) := (congrArg (fun x : PTy => x.1.lookup 536) q218).trans rfl
theorem e218_536 {d : Nat} {Q : Option AV → St → Prop} {st : List AV} {σ : St} {l0 l1 l3 : Option AV} {x : Option (Nat × Nat × Nat)} : Rn (d) Q (218, 536, [l0, l1, some (vR x), l3], st, σ) = Rn (d) Q (218, 537, [l0, l1, some (vR x), l3], vR x :: st, σ) := E_aload_n i218_536 rfl
theorem i218_537 : ins 218 537 = some (.aload_n 0, 1) := (congrArg (fun x : PTy => x.1.lookup 537) q218).trans rfl
theorem e218_537 {d : Nat} {Q : Option AV → St → Prop} {st : List AV} {σ : St} {l1 l2 l3 : Option AV} {x : Option (Nat × Nat × Nat)} : Rn (d) Q (218, 537, [some (vR x), l1, l2, l3], st, σ) = Rn (d) Q (218, 538, [some (vR x), l1, l2, l3], vR x :: st, σ) := E_aload_n i218_537 rfl
theorem i218_538 : ins 218 538 = some (.iload_n 3, 1) := (congrArg (fun x : PTy => x.1.lookup 538) q218).trans rfl
theorem e218_538 {d : Nat} {Q : Option AV → St → Prop} {st : List AV} {σ : St} {l0 l1 l2 : Option AV} {x : Int32} : Rn (d) Q (218, 538, [l0, l1, l2, some (vI x)], st, σ) = Rn (d) Q (218, 539, [l0, l1, l2, some (vI x)], vI x :: st, σ) := E_iload_n i218_538 rfl
theorem i218_539 : ins 218 539 = some (.iconst 1, 1) := (congrArg (fun x : PTy => x.1.lookup 539) q218).trans rfl
theorem e218_539 {d : Nat} {Q : Option AV → St → Prop} {st : List AV} {σ : St} {l0 l1 l2 l3 : Option AV} : Rn (d) Q (218, 539, [l0, l1, l2, l3], st, σ) = Rn (d) Q (218, 540, [l0, l1, l2, l3], vI 1 :: st, σ) := by rw [E_iconst i218_539, ci_1]
theorem i218_540 : ins 218 540 = some (.iadd, 1) := (congrArg (fun x : PTy => x.1.lookup 540) q218).trans rfl
theorem e218_540 {d : Nat} {Q : Option AV → St → Prop} {st : List AV} {σ : St} {l0 l1 l2 l3 : Option AV} {x y : Int32} : Rn (d) Q (218, 540, [l0, l1, l2, l3], vI y :: vI x :: st, σ) = Rn (d) Q (218, 541, [l0, l1, l2, l3], vI (x + y) :: st, σ) := E_iadd i218_540
theorem i218_541 : ins 218 541 = some (.iaload, 1) := (congrArg (fun x : PTy => x.1.lookup 541) q218).trans rfl
theorem e218_541 {d : Nat} {Q : Option AV → St → Prop} {st : List AV} {σ : St} {l0 l1 l2 l3 : Option AV} {i : Nat} {j : Int32} : Rn (d) Q (218, 541, [l0, l1, l2, l3], vI j :: vR (some (13, 1, i)) :: st, σ) = (∃ n, gL σ 13 0 i = some n ∧ i < gN σ 13 ∧ (0 ≤ j.toInt ∧ j.toInt < n) ∧ Rn (d) Q (218, 542, [l0, l1, l2, l3], vI (gA σ 13 0 i j.toNatClampNeg) :: st, σ)) := E_iaload1 i218_541 rfl
theorem i218_542 : ins 218 542 = some (.aload_n 0, 1) := (congrArg (fun x : PTy => x.1.lookup 542) q218).trans rfl
theorem e218_542 {d : Nat} {Q : Option AV → St → Prop} {st : List AV} {σ : St} {l1 l2 l3 : Option AV} {x : Option (Nat × Nat × Nat)} : Rn (d) Q (218, 542, [some (vR x), l1, l2, l3], st, σ) = Rn (d) Q (218, 543, [some (vR x), l1, l2, l3], vR x :: st, σ) := E_aload_n i218_542 rfl
theorem i218_543 : ins 218 543 = some (.iload_n 3, 1) := (congrArg (fun x : PTy => x.1.lookup 543) q218).trans rfl
theorem e218_543 {d : Nat} {Q : Option AV → St → Prop} {st : List AV} {σ : St} {l0 l1 l2 : Option AV} {x : Int32} : Rn (d) Q (218, 543, [l0, l1, l2, some (vI x)], st, σ) = Rn (d) Q (218, 544, [l0, l1, l2, some (vI x)], vI x :: st, σ) := E_iload_n i218_543 rfl
theorem i218_544 : ins 218 544 = some (.iconst 2, 1) := (congrArg (fun x : PTy => x.1.lookup 544) q218).trans rfl
theorem e218_544 {d : Nat} {Q : Option AV → St → Prop} {st : List AV} {σ : St} {l0 l1 l2 l3 : Option AV} : Rn (d) Q (218, 544, [l0, l1, l2, l3], st, σ) = Rn (d) Q (218, 545, [l0, l1, l2, l3], vI 2 :: st, σ) := by rw [E_iconst i218_544, ci_2]
theorem i218_545 : ins 218 545 = some (.iadd, 1) := (congrArg (fun x : PTy => x.1.lookup 545) q218).trans rfl
theorem e218_545 {d : Nat} {Q : Option AV → St → Prop} {st : List AV} {σ : St} {l0 l1 l2 l3 : Option AV} {x y : Int32} : Rn (d) Q (218, 545, [l0, l1, l2, l3], vI y :: vI x :: st, σ) = Rn (d) Q (218, 546, [l0, l1, l2, l3], vI (x + y) :: st, σ) := E_iadd i218_545
theorem i218_546 : ins 218 546 = some (.iaload, 1) := (congrArg (fun x : PTy => x.1.lookup 546) q218).trans rfl
theorem e218_546 {d : Nat} {Q : Option AV → St → Prop} {st : List AV} {σ : St} {l0 l1 l2 l3 : Option AV} {i : Nat} {j : Int32} : Rn (d) Q (218, 546, [l0, l1, l2, l3], vI j :: vR (some (13, 1, i)) :: st, σ) = (∃ n, gL σ 13 0 i = some n ∧ i < gN σ 13 ∧ (0 ≤ j.toInt ∧ j.toInt < n) ∧ Rn (d) Q (218, 547, [l0, l1, l2, l3], vI (gA σ 13 0 i j.toNatClampNeg) :: st, σ)) := E_iaload1 i218_546 rfl
theorem i218_547 : ins 218 547 = some (.aload_n 0, 1) := (congrArg (fun x : PTy => x.1.lookup 547) q218).trans rfl
theorem e218_547 {d : Nat} {Q : Option AV → St → Prop} {st : List AV} {σ : St} {l1 l2 l3 : Option AV} {x : Option (Nat × Nat × Nat)} : Rn (d) Q (218, 547, [some (vR x), l1, l2, l3], st, σ) = Rn (d) Q (218, 548, [some (vR x), l1, l2, l3], vR x :: st, σ) := E_aload_n i218_547 rfl
theorem i218_548 : ins 218 548 = some (.iload_n 3, 1) := (congrArg (fun x : PTy => x.1.lookup 548) q218).trans rfl
theorem e218_548 {d : Nat} {Q : Option AV → St → Prop} {st : List AV} {σ : St} {l0 l1 l2 : Option AV} {x : Int32} : Rn (d) Q (218, 548, [l0, l1, l2, some (vI x)], st, σ) = Rn (d) Q (218, 549, [l0, l1, l2, some (vI x)], vI x :: st, σ) := E_iload_n i218_548 rfl
theorem i218_549 : ins 218 549 = some (.iconst 3, 1) := (congrArg (fun x : PTy => x.1.lookup 549) q218).trans rfl
theorem e218_549 {d : Nat} {Q : Option AV → St → Prop} {st : List AV} {σ : St} {l0 l1 l2 l3 : Option AV} : Rn (d) Q (218, 549, [l0, l1, l2, l3], st, σ) = Rn (d) Q (218, 550, [l0, l1, l2, l3], vI 3 :: st, σ) := by rw [E_iconst i218_549, ci_3]
theorem i218_550 : ins 218 550 = some (.iadd, 1) := (congrArg (fun x : PTy => x.1.lookup 550) q218).trans rfl
theorem e218_550 {d : Nat} {Q : Option AV → St → Prop} {st : List AV} {σ : St} {l0 l1 l2 l3 : Option AV} {x y : Int32} : Rn (d) Q (218, 550, [l0, l1, l2, l3], vI y :: vI x :: st, σ) = Rn (d) Q (218, 551, [l0, l1, l2, l3], vI (x + y) :: st, σ) := E_iadd i218_550
theorem i218_551 : ins 218 551 = some (.iaload, 1) := (congrArg (fun x : PTy => x.1.lookup 551) q218).trans rfl
theorem e218_551 {d : Nat} {Q : Option AV → St → Prop} {st : List AV} {σ : St} {l0 l1 l2 l3 : Option AV} {i : Nat} {j : Int32} : Rn (d) Q (218, 551, [l0, l1, l2, l3], vI j :: vR (some (13, 1, i)) :: st, σ) = (∃ n, gL σ 13 0 i = some n ∧ i < gN σ 13 ∧ (0 ≤ j.toInt ∧ j.toInt < n) ∧ Rn (d) Q (218, 552, [l0, l1, l2, l3], vI (gA σ 13 0 i j.toNatClampNeg) :: st, σ)) := E_iaload1 i218_551 rfl
theorem i218_552 : ins 218 552 = some (.invokevirtual 50, 3) := (congrArg (fun x : PTy => x.1.lookup 552) q218).trans rfl
theorem e218_552 {d : Nat} {Q : Option AV → St → Prop} {st : List AV} {σ : St} {l0 l1 l2 l3 : Option AV} {i : Nat} {a1 : Int32} {a2 : Int32} {a3 : Int32} : Rn (d + 1) Q (218, 552, [l0, l1, l2, l3], vI a3 :: vI a2 :: vI a1 :: vR (some (12, 0, i)) :: st, σ) = (i < gN σ 12 ∧ catS st ≤ 8 ∧ Rn d (fun r σ' => Rn (d + 1) Q (218, 555, [l0, l1, l2, l3], r.toList ++ st, σ')) (163, 0, [some (vR (some (12, 0, i))), some (vI a1), some (vI a2), some (vI a3), none], [], σ)) := E_invV (a := [vI a3, vI a2, vI a1]) i218_552 ((congrArg (fun z => mthQ z 50) o218).trans m13_50) o163 rfl (ek163 i a1 a2 a3) (en163 i a1 a2 a3)
theorem i218_555 : ins 218 555 = some (.if_icmp .eq 1257, 3) := (congrArg (fun x : PTy => x.1.lookup 555) q218).trans rfl
theorem e218_555 {d : Nat} {Q : Option AV → St → Prop} {st : List AV} {σ : St} {l0 l1 l2 l3 : Option AV} {x y : Int32} : Rn (d) Q (218, 555, [l0, l1, l2, l3], vI y :: vI x :: st, σ) = (if x = y then Rn (d) Q (218, 1812, [l0, l1, l2, l3], st, σ) else Rn (d) Q (218, 558, [l0, l1, l2, l3], st, σ)) := E_icmp_eq 1812 i218_555 (by decide)
theorem i218_558 : ins 218 558 = some (.iconst 0, 1) := (congrArg (fun x : PTy => x.1.lookup 558) q218).trans rfl
theorem e218_558 {d : Nat} {Q : Option AV → St → Prop} {st : List AV} {σ : St} {l0 l1 l2 l3 : Option AV} : Rn (d) Q (218, 558, [l0, l1, l2, l3], st, σ) = Rn (d) Q (218, 559, [l0, l1, l2, l3], vI 0 :: st, σ) := by rw [E_iconst i218_558, ci_0]
theorem i218_559 : ins 218 559 = some (.ireturn, 1) := (congrArg (fun x : PTy => x.1.lookup 559) q218).trans rfl
theorem e218_559 {d : Nat} {Q : Option AV → St → Prop} {st : List AV} {σ : St} {l0 l1 l2 l3 : Option AV} {x : Int32} : Rn (d) Q (218, 559, [l0, l1, l2, l3], [vI x], σ) = ((x = 0 ∨ x = 1) ∧ Q (some (vI x)) σ) := E_iretZ (st := []) i218_559 r218
theorem i218_560 : ins 218 560 = some (.aload_n 1, 1) := (congrArg (fun x : PTy => x.1.lookup 560) q218).trans rfl
theorem e218_560 {d : Nat} {Q : Option AV → St → Prop} {st : List AV} {σ : St} {l0 l2 l3 : Option AV} {x : Option (Nat × Nat × Nat)} : Rn (d) Q (218, 560, [l0, some (vR x), l2, l3], st, σ) = Rn (d) Q (218, 561, [l0, some (vR x), l2, l3], vR x :: st, σ) := E_aload_n i218_560 rfl
theorem i218_561 : ins 218 561 = some (.aload_n 0, 1) := (congrArg (fun x : PTy => x.1.lookup 561) q218).trans rfl
theorem e218_561 {d : Nat} {Q : Option AV → St → Prop} {st : List AV} {σ : St} {l1 l2 l3 : Option AV} {x : Option (Nat × Nat × Nat)} : Rn (d) Q (218, 561, [some (vR x), l1, l2, l3], st, σ) = Rn (d) Q (218, 562, [some (vR x), l1, l2, l3], vR x :: st, σ) := E_aload_n i218_561 rfl
theorem i218_562 : ins 218 562 = some (.iload_n 3, 1) := (congrArg (fun x : PTy => x.1.lookup 562) q218).trans rfl
theorem e218_562 {d : Nat} {Q : Option AV → St → Prop} {st : List AV} {σ : St} {l0 l1 l2 : Option AV} {x : Int32} : Rn (d) Q (218, 562, [l0, l1, l2, some (vI x)], st, σ) = Rn (d) Q (218, 563, [l0, l1, l2, some (vI x)], vI x :: st, σ) := E_iload_n i218_562 rfl
theorem i218_563 : ins 218 563 = some (.iconst 1, 1) := (congrArg (fun x : PTy => x.1.lookup 563) q218).trans rfl
theorem e218_563 {d : Nat} {Q : Option AV → St → Prop} {st : List AV} {σ : St} {l0 l1 l2 l3 : Option AV} : Rn (d) Q (218, 563, [l0, l1, l2, l3], st, σ) = Rn (d) Q (218, 564, [l0, l1, l2, l3], vI 1 :: st, σ) := by rw [E_iconst i218_563, ci_1]
theorem i218_564 : ins 218 564 = some (.iadd, 1) := (congrArg (fun x : PTy => x.1.lookup 564) q218).trans rfl
theorem e218_564 {d : Nat} {Q : Option AV → St → Prop} {st : List AV} {σ : St} {l0 l1 l2 l3 : Option AV} {x y : Int32} : Rn (d) Q (218, 564, [l0, l1, l2, l3], vI y :: vI x :: st, σ) = Rn (d) Q (218, 565, [l0, l1, l2, l3], vI (x + y) :: st, σ) := E_iadd i218_564
theorem i218_565 : ins 218 565 = some (.iaload, 1) := (congrArg (fun x : PTy => x.1.lookup 565) q218).trans rfl
theorem e218_565 {d : Nat} {Q : Option AV → St → Prop} {st : List AV} {σ : St} {l0 l1 l2 l3 : Option AV} {i : Nat} {j : Int32} : Rn (d) Q (218, 565, [l0, l1, l2, l3], vI j :: vR (some (13, 1, i)) :: st, σ) = (∃ n, gL σ 13 0 i = some n ∧ i < gN σ 13 ∧ (0 ≤ j.toInt ∧ j.toInt < n) ∧ Rn (d) Q (218, 566, [l0, l1, l2, l3], vI (gA σ 13 0 i j.toNatClampNeg) :: st, σ)) := E_iaload1 i218_565 rfl
theorem i218_566 : ins 218 566 = some (.aload_n 0, 1) := (congrArg (fun x : PTy => x.1.lookup 566) q218).trans rfl
theorem e218_566 {d : Nat} {Q : Option AV → St → Prop} {st : List AV} {σ : St} {l1 l2 l3 : Option AV} {x : Option (Nat × Nat × Nat)} : Rn (d) Q (218, 566, [some (vR x), l1, l2, l3], st, σ) = Rn (d) Q (218, 567, [some (vR x), l1, l2, l3], vR x :: st, σ) := E_aload_n i218_566 rfl
theorem i218_567 : ins 218 567 = some (.iload_n 3, 1) := (congrArg (fun x : PTy => x.1.lookup 567) q218).trans rfl
theorem e218_567 {d : Nat} {Q : Option AV → St → Prop} {st : List AV} {σ : St} {l0 l1 l2 : Option AV} {x : Int32} : Rn (d) Q (218, 567, [l0, l1, l2, some (vI x)], st, σ) = Rn (d) Q (218, 568, [l0, l1, l2, some (vI x)], vI x :: st, σ) := E_iload_n i218_567 rfl
theorem i218_568 : ins 218 568 = some (.iconst 2, 1) := (congrArg (fun x : PTy => x.1.lookup 568) q218).trans rfl
theorem e218_568 {d : Nat} {Q : Option AV → St → Prop} {st : List AV} {σ : St} {l0 l1 l2 l3 : Option AV} : Rn (d) Q (218, 568, [l0, l1, l2, l3], st, σ) = Rn (d) Q (218, 569, [l0, l1, l2, l3], vI 2 :: st, σ) := by rw [E_iconst i218_568, ci_2]
theorem i218_569 : ins 218 569 = some (.iadd, 1) := (congrArg (fun x : PTy => x.1.lookup 569) q218).trans rfl
theorem e218_569 {d : Nat} {Q : Option AV → St → Prop} {st : List AV} {σ : St} {l0 l1 l2 l3 : Option AV} {x y : Int32} : Rn (d) Q (218, 569, [l0, l1, l2, l3], vI y :: vI x :: st, σ) = Rn (d) Q (218, 570, [l0, l1, l2, l3], vI (x + y) :: st, σ) := E_iadd i218_569
theorem i218_570 : ins 218 570 = some (.iaload, 1) := (congrArg (fun x : PTy => x.1.lookup 570) q218).trans rfl
theorem e218_570 {d : Nat} {Q : Option AV → St → Prop} {st : List AV} {σ : St} {l0 l1 l2 l3 : Option AV} {i : Nat} {j : Int32} : Rn (d) Q (218, 570, [l0, l1, l2, l3], vI j :: vR (some (13, 1, i)) :: st, σ) = (∃ n, gL σ 13 0 i = some n ∧ i < gN σ 13 ∧ (0 ≤ j.toInt ∧ j.toInt < n) ∧ Rn (d) Q (218, 571, [l0, l1, l2, l3], vI (gA σ 13 0 i j.toNatClampNeg) :: st, σ)) := E_iaload1 i218_570 rfl
theorem i218_571 : ins 218 571 = some (.invokevirtual 51, 3) := (congrArg (fun x : PTy => x.1.lookup 571) q218).trans rfl
theorem e218_571 {d : Nat} {Q : Option AV → St → Prop} {st : List AV} {σ : St} {l0 l1 l2 l3 : Option AV} {i : Nat} {a1 : Int32} {a2 : Int32} : Rn (d + 1) Q (218, 571, [l0, l1, l2, l3], vI a2 :: vI a1 :: vR (some (11, 0, i)) :: st, σ) = (i < gN σ 11 ∧ catS st ≤ 8 ∧ Rn d (fun r σ' => Rn (d + 1) Q (218, 574, [l0, l1, l2, l3], r.toList ++ st, σ')) (74, 0, [some (vR (some (11, 0, i))), some (vI a1), some (vI a2), none, none], [], σ)) := E_invV (a := [vI a2, vI a1]) i218_571 ((congrArg (fun z => mthQ z 51) o218).trans m13_51) o74 rfl (ek74 i a1 a2) (en74 i a1 a2)
theorem i218_574 : ins 218 574 = some (.aload_n 2, 1) := (congrArg (fun x : PTy => x.1.lookup 574) q218).trans rfl
theorem e218_574 {d : Nat} {Q : Option AV → St → Prop} {st : List AV} {σ : St} {l0 l1 l3 : Option AV} {x : Option (Nat × Nat × Nat)} : Rn (d) Q (218, 574, [l0, l1, some (vR x), l3], st, σ) = Rn (d) Q (218, 575, [l0, l1, some (vR x), l3], vR x :: st, σ) := E_aload_n i218_574 rfl
theorem i218_575 : ins 218 575 = some (.aload_n 0, 1) := (congrArg (fun x : PTy => x.1.lookup 575) q218).trans rfl
theorem e218_575 {d : Nat} {Q : Option AV → St → Prop} {st : List AV} {σ : St} {l1 l2 l3 : Option AV} {x : Option (Nat × Nat × Nat)} : Rn (d) Q (218, 575, [some (vR x), l1, l2, l3], st, σ) = Rn (d) Q (218, 576, [some (vR x), l1, l2, l3], vR x :: st, σ) := E_aload_n i218_575 rfl
theorem i218_576 : ins 218 576 = some (.iload_n 3, 1) := (congrArg (fun x : PTy => x.1.lookup 576) q218).trans rfl
theorem e218_576 {d : Nat} {Q : Option AV → St → Prop} {st : List AV} {σ : St} {l0 l1 l2 : Option AV} {x : Int32} : Rn (d) Q (218, 576, [l0, l1, l2, some (vI x)], st, σ) = Rn (d) Q (218, 577, [l0, l1, l2, some (vI x)], vI x :: st, σ) := E_iload_n i218_576 rfl
theorem i218_577 : ins 218 577 = some (.iconst 1, 1) := (congrArg (fun x : PTy => x.1.lookup 577) q218).trans rfl
theorem e218_577 {d : Nat} {Q : Option AV → St → Prop} {st : List AV} {σ : St} {l0 l1 l2 l3 : Option AV} : Rn (d) Q (218, 577, [l0, l1, l2, l3], st, σ) = Rn (d) Q (218, 578, [l0, l1, l2, l3], vI 1 :: st, σ) := by rw [E_iconst i218_577, ci_1]
theorem i218_578 : ins 218 578 = some (.iadd, 1) := (congrArg (fun x : PTy => x.1.lookup 578) q218).trans rfl
theorem e218_578 {d : Nat} {Q : Option AV → St → Prop} {st : List AV} {σ : St} {l0 l1 l2 l3 : Option AV} {x y : Int32} : Rn (d) Q (218, 578, [l0, l1, l2, l3], vI y :: vI x :: st, σ) = Rn (d) Q (218, 579, [l0, l1, l2, l3], vI (x + y) :: st, σ) := E_iadd i218_578
theorem i218_579 : ins 218 579 = some (.iaload, 1) := (congrArg (fun x : PTy => x.1.lookup 579) q218).trans rfl
theorem e218_579 {d : Nat} {Q : Option AV → St → Prop} {st : List AV} {σ : St} {l0 l1 l2 l3 : Option AV} {i : Nat} {j : Int32} : Rn (d) Q (218, 579, [l0, l1, l2, l3], vI j :: vR (some (13, 1, i)) :: st, σ) = (∃ n, gL σ 13 0 i = some n ∧ i < gN σ 13 ∧ (0 ≤ j.toInt ∧ j.toInt < n) ∧ Rn (d) Q (218, 580, [l0, l1, l2, l3], vI (gA σ 13 0 i j.toNatClampNeg) :: st, σ)) := E_iaload1 i218_579 rfl
theorem i218_580 : ins 218 580 = some (.aload_n 0, 1) := (congrArg (fun x : PTy => x.1.lookup 580) q218).trans rfl
theorem e218_580 {d : Nat} {Q : Option AV → St → Prop} {st : List AV} {σ : St} {l1 l2 l3 : Option AV} {x : Option (Nat × Nat × Nat)} : Rn (d) Q (218, 580, [some (vR x), l1, l2, l3], st, σ) = Rn (d) Q (218, 581, [some (vR x), l1, l2, l3], vR x :: st, σ) := E_aload_n i218_580 rfl
theorem i218_581 : ins 218 581 = some (.iload_n 3, 1) := (congrArg (fun x : PTy => x.1.lookup 581) q218).trans rfl
theorem e218_581 {d : Nat} {Q : Option AV → St → Prop} {st : List AV} {σ : St} {l0 l1 l2 : Option AV} {x : Int32} : Rn (d) Q (218, 581, [l0, l1, l2, some (vI x)], st, σ) = Rn (d) Q (218, 582, [l0, l1, l2, some (vI x)], vI x :: st, σ) := E_iload_n i218_581 rfl
theorem i218_582 : ins 218 582 = some (.iconst 2, 1) := (congrArg (fun x : PTy => x.1.lookup 582) q218).trans rfl
theorem e218_582 {d : Nat} {Q : Option AV → St → Prop} {st : List AV} {σ : St} {l0 l1 l2 l3 : Option AV} : Rn (d) Q (218, 582, [l0, l1, l2, l3], st, σ) = Rn (d) Q (218, 583, [l0, l1, l2, l3], vI 2 :: st, σ) := by rw [E_iconst i218_582, ci_2]
theorem i218_583 : ins 218 583 = some (.iadd, 1) := (congrArg (fun x : PTy => x.1.lookup 583) q218).trans rfl
theorem e218_583 {d : Nat} {Q : Option AV → St → Prop} {st : List AV} {σ : St} {l0 l1 l2 l3 : Option AV} {x y : Int32} : Rn (d) Q (218, 583, [l0, l1, l2, l3], vI y :: vI x :: st, σ) = Rn (d) Q (218, 584, [l0, l1, l2, l3], vI (x + y) :: st, σ) := E_iadd i218_583
theorem i218_584 : ins 218 584 = some (.iaload, 1) := (congrArg (fun x : PTy => x.1.lookup 584) q218).trans rfl
theorem e218_584 {d : Nat} {Q : Option AV → St → Prop} {st : List AV} {σ : St} {l0 l1 l2 l3 : Option AV} {i : Nat} {j : Int32} : Rn (d) Q (218, 584, [l0, l1, l2, l3], vI j :: vR (some (13, 1, i)) :: st, σ) = (∃ n, gL σ 13 0 i = some n ∧ i < gN σ 13 ∧ (0 ≤ j.toInt ∧ j.toInt < n) ∧ Rn (d) Q (218, 585, [l0, l1, l2, l3], vI (gA σ 13 0 i j.toNatClampNeg) :: st, σ)) := E_iaload1 i218_584 rfl
theorem i218_585 : ins 218 585 = some (.invokevirtual 54, 3) := (congrArg (fun x : PTy => x.1.lookup 585) q218).trans rfl
theorem e218_585 {d : Nat} {Q : Option AV → St → Prop} {st : List AV} {σ : St} {l0 l1 l2 l3 : Option AV} {i : Nat} {a1 : Int32} {a2 : Int32} : Rn (d + 1) Q (218, 585, [l0, l1, l2, l3], vI a2 :: vI a1 :: vR (some (12, 0, i)) :: st, σ) = (i < gN σ 12 ∧ catS st ≤ 8 ∧ Rn d (fun r σ' => Rn (d + 1) Q (218, 588, [l0, l1, l2, l3], r.toList ++ st, σ')) (164, 0, [some (vR (some (12, 0, i))), some (vI a1), some (vI a2)], [], σ)) := E_invV (a := [vI a2, vI a1]) i218_585 ((congrArg (fun z => mthQ z 54) o218).trans m13_54) o164 rfl (ek164 i a1 a2) (en164 i a1 a2)
theorem i218_588 : ins 218 588 = some (.if_icmp .eq 1224, 3) := (congrArg (fun x : PTy => x.1.lookup 588) q218).trans rfl
theorem e218_588 {d : Nat} {Q : Option AV → St → Prop} {st : List AV} {σ : St} {l0 l1 l2 l3 : Option AV} {x y : Int32} : Rn (d) Q (218, 588, [l0, l1, l2, l3], vI y :: vI x :: st, σ) = (if x = y then Rn (d) Q (218, 1812, [l0, l1, l2, l3], st, σ) else Rn (d) Q (218, 591, [l0, l1, l2, l3], st, σ)) := E_icmp_eq 1812 i218_588 (by decide)
theorem i218_591 : ins 218 591 = some (.iconst 0, 1) := (congrArg (fun x : PTy => x.1.lookup 591) q218).trans rfl
theorem e218_591 {d : Nat} {Q : Option AV → St → Prop} {st : List AV} {σ : St} {l0 l1 l2 l3 : Option AV} : Rn (d) Q (218, 591, [l0, l1, l2, l3], st, σ) = Rn (d) Q (218, 592, [l0, l1, l2, l3], vI 0 :: st, σ) := by rw [E_iconst i218_591, ci_0]
theorem i218_592 : ins 218 592 = some (.ireturn, 1) := (congrArg (fun x : PTy => x.1.lookup 592) q218).trans rfl
theorem e218_592 {d : Nat} {Q : Option AV → St → Prop} {st : List AV} {σ : St} {l0 l1 l2 l3 : Option AV} {x : Int32} : Rn (d) Q (218, 592, [l0, l1, l2, l3], [vI x], σ) = ((x = 0 ∨ x = 1) ∧ Q (some (vI x)) σ) := E_iretZ (st := []) i218_592 r218
theorem i218_593 : ins 218 593 = some (.aload_n 1, 1) := (congrArg (fun x : PTy => x.1.lookup 593) q218).trans rfl
theorem e218_593 {d : Nat} {Q : Option AV → St → Prop} {st : List AV} {σ : St} {l0 l2 l3 : Option AV} {x : Option (Nat × Nat × Nat)} : Rn (d) Q (218, 593, [l0, some (vR x), l2, l3], st, σ) = Rn (d) Q (218, 594, [l0, some (vR x), l2, l3], vR x :: st, σ) := E_aload_n i218_593 rfl
theorem i218_594 : ins 218 594 = some (.aload_n 0, 1) := (congrArg (fun x : PTy => x.1.lookup 594) q218).trans rfl
theorem e218_594 {d : Nat} {Q : Option AV → St → Prop} {st : List AV} {σ : St} {l1 l2 l3 : Option AV} {x : Option (Nat × Nat × Nat)} : Rn (d) Q (218, 594, [some (vR x), l1, l2, l3], st, σ) = Rn (d) Q (218, 595, [some (vR x), l1, l2, l3], vR x :: st, σ) := E_aload_n i218_594 rfl
theorem i218_595 : ins 218 595 = some (.iload_n 3, 1) := (congrArg (fun x : PTy => x.1.lookup 595) q218).trans rfl
theorem e218_595 {d : Nat} {Q : Option AV → St → Prop} {st : List AV} {σ : St} {l0 l1 l2 : Option AV} {x : Int32} : Rn (d) Q (218, 595, [l0, l1, l2, some (vI x)], st, σ) = Rn (d) Q (218, 596, [l0, l1, l2, some (vI x)], vI x :: st, σ) := E_iload_n i218_595 rfl
theorem i218_596 : ins 218 596 = some (.iconst 1, 1) := (congrArg (fun x : PTy => x.1.lookup 596) q218).trans rfl
theorem e218_596 {d : Nat} {Q : Option AV → St → Prop} {st : List AV} {σ : St} {l0 l1 l2 l3 : Option AV} : Rn (d) Q (218, 596, [l0, l1, l2, l3], st, σ) = Rn (d) Q (218, 597, [l0, l1, l2, l3], vI 1 :: st, σ) := by rw [E_iconst i218_596, ci_1]
theorem i218_597 : ins 218 597 = some (.iadd, 1) := (congrArg (fun x : PTy => x.1.lookup 597) q218).trans rfl
theorem e218_597 {d : Nat} {Q : Option AV → St → Prop} {st : List AV} {σ : St} {l0 l1 l2 l3 : Option AV} {x y : Int32} : Rn (d) Q (218, 597, [l0, l1, l2, l3], vI y :: vI x :: st, σ) = Rn (d) Q (218, 598, [l0, l1, l2, l3], vI (x + y) :: st, σ) := E_iadd i218_597
theorem i218_598 : ins 218 598 = some (.iaload, 1) := (congrArg (fun x : PTy => x.1.lookup 598) q218).trans rfl
theorem e218_598 {d : Nat} {Q : Option AV → St → Prop} {st : List AV} {σ : St} {l0 l1 l2 l3 : Option AV} {i : Nat} {j : Int32} : Rn (d) Q (218, 598, [l0, l1, l2, l3], vI j :: vR (some (13, 1, i)) :: st, σ) = (∃ n, gL σ 13 0 i = some n ∧ i < gN σ 13 ∧ (0 ≤ j.toInt ∧ j.toInt < n) ∧ Rn (d) Q (218, 599, [l0, l1, l2, l3], vI (gA σ 13 0 i j.toNatClampNeg) :: st, σ)) := E_iaload1 i218_598 rfl
theorem i218_599 : ins 218 599 = some (.aload_n 0, 1) := (congrArg (fun x : PTy => x.1.lookup 599) q218).trans rfl
theorem e218_599 {d : Nat} {Q : Option AV → St → Prop} {st : List AV} {σ : St} {l1 l2 l3 : Option AV} {x : Option (Nat × Nat × Nat)} : Rn (d) Q (218, 599, [some (vR x), l1, l2, l3], st, σ) = Rn (d) Q (218, 600, [some (vR x), l1, l2, l3], vR x :: st, σ) := E_aload_n i218_599 rfl
theorem i218_600 : ins 218 600 = some (.iload_n 3, 1) := (congrArg (fun x : PTy => x.1.lookup 600) q218).trans rfl
theorem e218_600 {d : Nat} {Q : Option AV → St → Prop} {st : List AV} {σ : St} {l0 l1 l2 : Option AV} {x : Int32} : Rn (d) Q (218, 600, [l0, l1, l2, some (vI x)], st, σ) = Rn (d) Q (218, 601, [l0, l1, l2, some (vI x)], vI x :: st, σ) := E_iload_n i218_600 rfl
theorem i218_601 : ins 218 601 = some (.iconst 2, 1) := (congrArg (fun x : PTy => x.1.lookup 601) q218).trans rfl
theorem e218_601 {d : Nat} {Q : Option AV → St → Prop} {st : List AV} {σ : St} {l0 l1 l2 l3 : Option AV} : Rn (d) Q (218, 601, [l0, l1, l2, l3], st, σ) = Rn (d) Q (218, 602, [l0, l1, l2, l3], vI 2 :: st, σ) := by rw [E_iconst i218_601, ci_2]
theorem i218_602 : ins 218 602 = some (.iadd, 1) := (congrArg (fun x : PTy => x.1.lookup 602) q218).trans rfl
theorem e218_602 {d : Nat} {Q : Option AV → St → Prop} {st : List AV} {σ : St} {l0 l1 l2 l3 : Option AV} {x y : Int32} : Rn (d) Q (218, 602, [l0, l1, l2, l3], vI y :: vI x :: st, σ) = Rn (d) Q (218, 603, [l0, l1, l2, l3], vI (x + y) :: st, σ) := E_iadd i218_602
theorem i218_603 : ins 218 603 = some (.iaload, 1) := (congrArg (fun x : PTy => x.1.lookup 603) q218).trans rfl
theorem e218_603 {d : Nat} {Q : Option AV → St → Prop} {st : List AV} {σ : St} {l0 l1 l2 l3 : Option AV} {i : Nat} {j : Int32} : Rn (d) Q (218, 603, [l0, l1, l2, l3], vI j :: vR (some (13, 1, i)) :: st, σ) = (∃ n, gL σ 13 0 i = some n ∧ i < gN σ 13 ∧ (0 ≤ j.toInt ∧ j.toInt < n) ∧ Rn (d) Q (218, 604, [l0, l1, l2, l3], vI (gA σ 13 0 i j.toNatClampNeg) :: st, σ)) := E_iaload1 i218_603 rfl
theorem i218_604 : ins 218 604 = some (.invokevirtual 55, 3) := (congrArg (fun x : PTy => x.1.lookup 604) q218).trans rfl
theorem e218_604 {d : Nat} {Q : Option AV → St → Prop} {st : List AV} {σ : St} {l0 l1 l2 l3 : Option AV} {i : Nat} {a1 : Int32} {a2 : Int32} : Rn (d + 1) Q (218, 604, [l0, l1, l2, l3], vI a2 :: vI a1 :: vR (some (11, 0, i)) :: st, σ) = (i < gN σ 11 ∧ catS st ≤ 8 ∧ Rn d (fun r σ' => Rn (d + 1) Q (218, 607, [l0, l1, l2, l3], r.toList ++ st, σ')) (75, 0, [some (vR (some (11, 0, i))), some (vI a1), some (vI a2), none], [], σ)) := E_invV (a := [vI a2, vI a1]) i218_604 ((congrArg (fun z => mthQ z 55) o218).trans m13_55) o75 rfl (ek75 i a1 a2) (en75 i a1 a2)
theorem i218_607 : ins 218 607 = some (.aload_n 2, 1) := (congrArg (fun x : PTy => x.1.lookup 607) q218).trans rfl
theorem e218_607 {d : Nat} {Q : Option AV → St → Prop} {st : List AV} {σ : St} {l0 l1 l3 : Option AV} {x : Option (Nat × Nat × Nat)} : Rn (d) Q (218, 607, [l0, l1, some (vR x), l3], st, σ) = Rn (d) Q (218, 608, [l0, l1, some (vR x), l3], vR x :: st, σ) := E_aload_n i218_607 rfl
theorem i218_608 : ins 218 608 = some (.aload_n 0, 1) := (congrArg (fun x : PTy => x.1.lookup 608) q218).trans rfl
theorem e218_608 {d : Nat} {Q : Option AV → St → Prop} {st : List AV} {σ : St} {l1 l2 l3 : Option AV} {x : Option (Nat × Nat × Nat)} : Rn (d) Q (218, 608, [some (vR x), l1, l2, l3], st, σ) = Rn (d) Q (218, 609, [some (vR x), l1, l2, l3], vR x :: st, σ) := E_aload_n i218_608 rfl
theorem i218_609 : ins 218 609 = some (.iload_n 3, 1) := (congrArg (fun x : PTy => x.1.lookup 609) q218).trans rfl
theorem e218_609 {d : Nat} {Q : Option AV → St → Prop} {st : List AV} {σ : St} {l0 l1 l2 : Option AV} {x : Int32} : Rn (d) Q (218, 609, [l0, l1, l2, some (vI x)], st, σ) = Rn (d) Q (218, 610, [l0, l1, l2, some (vI x)], vI x :: st, σ) := E_iload_n i218_609 rfl
theorem i218_610 : ins 218 610 = some (.iconst 1, 1) := (congrArg (fun x : PTy => x.1.lookup 610) q218).trans rfl
theorem e218_610 {d : Nat} {Q : Option AV → St → Prop} {st : List AV} {σ : St} {l0 l1 l2 l3 : Option AV} : Rn (d) Q (218, 610, [l0, l1, l2, l3], st, σ) = Rn (d) Q (218, 611, [l0, l1, l2, l3], vI 1 :: st, σ) := by rw [E_iconst i218_610, ci_1]
theorem i218_611 : ins 218 611 = some (.iadd, 1) := (congrArg (fun x : PTy => x.1.lookup 611) q218).trans rfl
theorem e218_611 {d : Nat} {Q : Option AV → St → Prop} {st : List AV} {σ : St} {l0 l1 l2 l3 : Option AV} {x y : Int32} : Rn (d) Q (218, 611, [l0, l1, l2, l3], vI y :: vI x :: st, σ) = Rn (d) Q (218, 612, [l0, l1, l2, l3], vI (x + y) :: st, σ) := E_iadd i218_611
theorem i218_612 : ins 218 612 = some (.iaload, 1) := (congrArg (fun x : PTy => x.1.lookup 612) q218).trans rfl
theorem e218_612 {d : Nat} {Q : Option AV → St → Prop} {st : List AV} {σ : St} {l0 l1 l2 l3 : Option AV} {i : Nat} {j : Int32} : Rn (d) Q (218, 612, [l0, l1, l2, l3], vI j :: vR (some (13, 1, i)) :: st, σ) = (∃ n, gL σ 13 0 i = some n ∧ i < gN σ 13 ∧ (0 ≤ j.toInt ∧ j.toInt < n) ∧ Rn (d) Q (218, 613, [l0, l1, l2, l3], vI (gA σ 13 0 i j.toNatClampNeg) :: st, σ)) := E_iaload1 i218_612 rfl
theorem i218_613 : ins 218 613 = some (.aload_n 0, 1) := (congrArg (fun x : PTy => x.1.lookup 613) q218).trans rfl
theorem e218_613 {d : Nat} {Q : Option AV → St → Prop} {st : List AV} {σ : St} {l1 l2 l3 : Option AV} {x : Option (Nat × Nat × Nat)} : Rn (d) Q (218, 613, [some (vR x), l1, l2, l3], st, σ) = Rn (d) Q (218, 614, [some (vR x), l1, l2, l3], vR x :: st, σ) := E_aload_n i218_613 rfl
theorem i218_614 : ins 218 614 = some (.iload_n 3, 1) := (congrArg (fun x : PTy => x.1.lookup 614) q218).trans rfl
theorem e218_614 {d : Nat} {Q : Option AV → St → Prop} {st : List AV} {σ : St} {l0 l1 l2 : Option AV} {x : Int32} : Rn (d) Q (218, 614, [l0, l1, l2, some (vI x)], st, σ) = Rn (d) Q (218, 615, [l0, l1, l2, some (vI x)], vI x :: st, σ) := E_iload_n i218_614 rfl
theorem i218_615 : ins 218 615 = some (.iconst 2, 1) := (congrArg (fun x : PTy => x.1.lookup 615) q218).trans rfl
theorem e218_615 {d : Nat} {Q : Option AV → St → Prop} {st : List AV} {σ : St} {l0 l1 l2 l3 : Option AV} : Rn (d) Q (218, 615, [l0, l1, l2, l3], st, σ) = Rn (d) Q (218, 616, [l0, l1, l2, l3], vI 2 :: st, σ) := by rw [E_iconst i218_615, ci_2]
theorem i218_616 : ins 218 616 = some (.iadd, 1) := (congrArg (fun x : PTy => x.1.lookup 616) q218).trans rfl
theorem e218_616 {d : Nat} {Q : Option AV → St → Prop} {st : List AV} {σ : St} {l0 l1 l2 l3 : Option AV} {x y : Int32} : Rn (d) Q (218, 616, [l0, l1, l2, l3], vI y :: vI x :: st, σ) = Rn (d) Q (218, 617, [l0, l1, l2, l3], vI (x + y) :: st, σ) := E_iadd i218_616
theorem i218_617 : ins 218 617 = some (.iaload, 1) := (congrArg (fun x : PTy => x.1.lookup 617) q218).trans rfl
theorem e218_617 {d : Nat} {Q : Option AV → St → Prop} {st : List AV} {σ : St} {l0 l1 l2 l3 : Option AV} {i : Nat} {j : Int32} : Rn (d) Q (218, 617, [l0, l1, l2, l3], vI j :: vR (some (13, 1, i)) :: st, σ) = (∃ n, gL σ 13 0 i = some n ∧ i < gN σ 13 ∧ (0 ≤ j.toInt ∧ j.toInt < n) ∧ Rn (d) Q (218, 618, [l0, l1, l2, l3], vI (gA σ 13 0 i j.toNatClampNeg) :: st, σ)) := E_iaload1 i218_617 rfl
theorem i218_618 : ins 218 618 = some (.invokevirtual 58, 3) := (congrArg (fun x : PTy => x.1.lookup 618) q218).trans rfl
theorem e218_618 {d : Nat} {Q : Option AV → St → Prop} {st : List AV} {σ : St} {l0 l1 l2 l3 : Option AV} {i : Nat} {a1 : Int32} {a2 : Int32} : Rn (d + 1) Q (218, 618, [l0, l1, l2, l3], vI a2 :: vI a1 :: vR (some (12, 0, i)) :: st, σ) = (i < gN σ 12 ∧ catS st ≤ 8 ∧ Rn d (fun r σ' => Rn (d + 1) Q (218, 621, [l0, l1, l2, l3], r.toList ++ st, σ')) (166, 0, [some (vR (some (12, 0, i))), some (vI a1), some (vI a2), none, none, none, none, none, none], [], σ)) := E_invV (a := [vI a2, vI a1]) i218_618 ((congrArg (fun z => mthQ z 58) o218).trans m13_58) o166 rfl (ek166 i a1 a2) (en166 i a1 a2)
theorem i218_621 : ins 218 621 = some (.if_icmp .eq 1191, 3) := (congrArg (fun x : PTy => x.1.lookup 621) q218).trans rfl
theorem e218_621 {d : Nat} {Q : Option AV → St → Prop} {st : List AV} {σ : St} {l0 l1 l2 l3 : Option AV} {x y : Int32} : Rn (d) Q (218, 621, [l0, l1, l2, l3], vI y :: vI x :: st, σ) = (if x = y then Rn (d) Q (218, 1812, [l0, l1, l2, l3], st, σ) else Rn (d) Q (218, 624, [l0, l1, l2, l3], st, σ)) := E_icmp_eq 1812 i218_621 (by decide)
theorem i218_624 : ins 218 624 = some (.iconst 0, 1) := (congrArg (fun x : PTy => x.1.lookup 624) q218).trans rfl
theorem e218_624 {d : Nat} {Q : Option AV → St → Prop} {st : List AV} {σ : St} {l0 l1 l2 l3 : Option AV} : Rn (d) Q (218, 624, [l0, l1, l2, l3], st, σ) = Rn (d) Q (218, 625, [l0, l1, l2, l3], vI 0 :: st, σ) := by rw [E_iconst i218_624, ci_0]
theorem i218_625 : ins 218 625 = some (.ireturn, 1) := (congrArg (fun x : PTy => x.1.lookup 625) q218).trans rfl
theorem e218_625 {d : Nat} {Q : Option AV → St → Prop} {st : List AV} {σ : St} {l0 l1 l2 l3 : Option AV} {x : Int32} : Rn (d) Q (218, 625, [l0, l1, l2, l3], [vI x], σ) = ((x = 0 ∨ x = 1) ∧ Q (some (vI x)) σ) := E_iretZ (st := []) i218_625 r218
theorem i218_626 : ins 218 626 = some (.aload_n 1, 1) := (congrArg (fun x : PTy => x.1.lookup 626) q218).trans rfl
theorem e218_626 {d : Nat} {Q : Option AV → St → Prop} {st : List AV} {σ : St} {l0 l2 l3 : Option AV} {x : Option (Nat × Nat × Nat)} : Rn (d) Q (218, 626, [l0, some (vR x), l2, l3], st, σ) = Rn (d) Q (218, 627, [l0, some (vR x), l2, l3], vR x :: st, σ) := E_aload_n i218_626 rfl
theorem i218_627 : ins 218 627 = some (.aload_n 0, 1) := (congrArg (fun x : PTy => x.1.lookup 627) q218).trans rfl
theorem e218_627 {d : Nat} {Q : Option AV → St → Prop} {st : List AV} {σ : St} {l1 l2 l3 : Option AV} {x : Option (Nat × Nat × Nat)} : Rn (d) Q (218, 627, [some (vR x), l1, l2, l3], st, σ) = Rn (d) Q (218, 628, [some (vR x), l1, l2, l3], vR x :: st, σ) := E_aload_n i218_627 rfl
theorem i218_628 : ins 218 628 = some (.iload_n 3, 1) := (congrArg (fun x : PTy => x.1.lookup 628) q218).trans rfl
theorem e218_628 {d : Nat} {Q : Option AV → St → Prop} {st : List AV} {σ : St} {l0 l1 l2 : Option AV} {x : Int32} : Rn (d) Q (218, 628, [l0, l1, l2, some (vI x)], st, σ) = Rn (d) Q (218, 629, [l0, l1, l2, some (vI x)], vI x :: st, σ) := E_iload_n i218_628 rfl
theorem i218_629 : ins 218 629 = some (.iconst 1, 1) := (congrArg (fun x : PTy => x.1.lookup 629) q218).trans rfl
theorem e218_629 {d : Nat} {Q : Option AV → St → Prop} {st : List AV} {σ : St} {l0 l1 l2 l3 : Option AV} : Rn (d) Q (218, 629, [l0, l1, l2, l3], st, σ) = Rn (d) Q (218, 630, [l0, l1, l2, l3], vI 1 :: st, σ) := by rw [E_iconst i218_629, ci_1]
theorem i218_630 : ins 218 630 = some (.iadd, 1) := (congrArg (fun x : PTy => x.1.lookup 630) q218).trans rfl
theorem e218_630 {d : Nat} {Q : Option AV → St → Prop} {st : List AV} {σ : St} {l0 l1 l2 l3 : Option AV} {x y : Int32} : Rn (d) Q (218, 630, [l0, l1, l2, l3], vI y :: vI x :: st, σ) = Rn (d) Q (218, 631, [l0, l1, l2, l3], vI (x + y) :: st, σ) := E_iadd i218_630
theorem i218_631 : ins 218 631 = some (.iaload, 1) := (congrArg (fun x : PTy => x.1.lookup 631) q218).trans rfl
theorem e218_631 {d : Nat} {Q : Option AV → St → Prop} {st : List AV} {σ : St} {l0 l1 l2 l3 : Option AV} {i : Nat} {j : Int32} : Rn (d) Q (218, 631, [l0, l1, l2, l3], vI j :: vR (some (13, 1, i)) :: st, σ) = (∃ n, gL σ 13 0 i = some n ∧ i < gN σ 13 ∧ (0 ≤ j.toInt ∧ j.toInt < n) ∧ Rn (d) Q (218, 632, [l0, l1, l2, l3], vI (gA σ 13 0 i j.toNatClampNeg) :: st, σ)) := E_iaload1 i218_631 rfl
theorem i218_632 : ins 218 632 = some (.aload_n 0, 1) := (congrArg (fun x : PTy => x.1.lookup 632) q218).trans rfl
theorem e218_632 {d : Nat} {Q : Option AV → St → Prop} {st : List AV} {σ : St} {l1 l2 l3 : Option AV} {x : Option (Nat × Nat × Nat)} : Rn (d) Q (218, 632, [some (vR x), l1, l2, l3], st, σ) = Rn (d) Q (218, 633, [some (vR x), l1, l2, l3], vR x :: st, σ) := E_aload_n i218_632 rfl
theorem i218_633 : ins 218 633 = some (.iload_n 3, 1) := (congrArg (fun x : PTy => x.1.lookup 633) q218).trans rfl
theorem e218_633 {d : Nat} {Q : Option AV → St → Prop} {st : List AV} {σ : St} {l0 l1 l2 : Option AV} {x : Int32} : Rn (d) Q (218, 633, [l0, l1, l2, some (vI x)], st, σ) = Rn (d) Q (218, 634, [l0, l1, l2, some (vI x)], vI x :: st, σ) := E_iload_n i218_633 rfl
theorem i218_634 : ins 218 634 = some (.iconst 2, 1) := (congrArg (fun x : PTy => x.1.lookup 634) q218).trans rfl
theorem e218_634 {d : Nat} {Q : Option AV → St → Prop} {st : List AV} {σ : St} {l0 l1 l2 l3 : Option AV} : Rn (d) Q (218, 634, [l0, l1, l2, l3], st, σ) = Rn (d) Q (218, 635, [l0, l1, l2, l3], vI 2 :: st, σ) := by rw [E_iconst i218_634, ci_2]
theorem i218_635 : ins 218 635 = some (.iadd, 1) := (congrArg (fun x : PTy => x.1.lookup 635) q218).trans rfl
theorem e218_635 {d : Nat} {Q : Option AV → St → Prop} {st : List AV} {σ : St} {l0 l1 l2 l3 : Option AV} {x y : Int32} : Rn (d) Q (218, 635, [l0, l1, l2, l3], vI y :: vI x :: st, σ) = Rn (d) Q (218, 636, [l0, l1, l2, l3], vI (x + y) :: st, σ) := E_iadd i218_635
theorem i218_636 : ins 218 636 = some (.iaload, 1) := (congrArg (fun x : PTy => x.1.lookup 636) q218).trans rfl
theorem e218_636 {d : Nat} {Q : Option AV → St → Prop} {st : List AV} {σ : St} {l0 l1 l2 l3 : Option AV} {i : Nat} {j : Int32} : Rn (d) Q (218, 636, [l0, l1, l2, l3], vI j :: vR (some (13, 1, i)) :: st, σ) = (∃ n, gL σ 13 0 i = some n ∧ i < gN σ 13 ∧ (0 ≤ j.toInt ∧ j.toInt < n) ∧ Rn (d) Q (218, 637, [l0, l1, l2, l3], vI (gA σ 13 0 i j.toNatClampNeg) :: st, σ)) := E_iaload1 i218_636 rfl
theorem i218_637 : ins 218 637 = some (.aload_n 0, 1) := (congrArg (fun x : PTy => x.1.lookup 637) q218).trans rfl
theorem e218_637 {d : Nat} {Q : Option AV → St → Prop} {st : List AV} {σ : St} {l1 l2 l3 : Option AV} {x : Option (Nat × Nat × Nat)} : Rn (d) Q (218, 637, [some (vR x), l1, l2, l3], st, σ) = Rn (d) Q (218, 638, [some (vR x), l1, l2, l3], vR x :: st, σ) := E_aload_n i218_637 rfl
theorem i218_638 : ins 218 638 = some (.iload_n 3, 1) := (congrArg (fun x : PTy => x.1.lookup 638) q218).trans rfl
theorem e218_638 {d : Nat} {Q : Option AV → St → Prop} {st : List AV} {σ : St} {l0 l1 l2 : Option AV} {x : Int32} : Rn (d) Q (218, 638, [l0, l1, l2, some (vI x)], st, σ) = Rn (d) Q (218, 639, [l0, l1, l2, some (vI x)], vI x :: st, σ) := E_iload_n i218_638 rfl
theorem i218_639 : ins 218 639 = some (.iconst 3, 1) := (congrArg (fun x : PTy => x.1.lookup 639) q218).trans rfl
theorem e218_639 {d : Nat} {Q : Option AV → St → Prop} {st : List AV} {σ : St} {l0 l1 l2 l3 : Option AV} : Rn (d) Q (218, 639, [l0, l1, l2, l3], st, σ) = Rn (d) Q (218, 640, [l0, l1, l2, l3], vI 3 :: st, σ) := by rw [E_iconst i218_639, ci_3]
theorem i218_640 : ins 218 640 = some (.iadd, 1) := (congrArg (fun x : PTy => x.1.lookup 640) q218).trans rfl
theorem e218_640 {d : Nat} {Q : Option AV → St → Prop} {st : List AV} {σ : St} {l0 l1 l2 l3 : Option AV} {x y : Int32} : Rn (d) Q (218, 640, [l0, l1, l2, l3], vI y :: vI x :: st, σ) = Rn (d) Q (218, 641, [l0, l1, l2, l3], vI (x + y) :: st, σ) := E_iadd i218_640
theorem i218_641 : ins 218 641 = some (.iaload, 1) := (congrArg (fun x : PTy => x.1.lookup 641) q218).trans rfl
theorem e218_641 {d : Nat} {Q : Option AV → St → Prop} {st : List AV} {σ : St} {l0 l1 l2 l3 : Option AV} {i : Nat} {j : Int32} : Rn (d) Q (218, 641, [l0, l1, l2, l3], vI j :: vR (some (13, 1, i)) :: st, σ) = (∃ n, gL σ 13 0 i = some n ∧ i < gN σ 13 ∧ (0 ≤ j.toInt ∧ j.toInt < n) ∧ Rn (d) Q (218, 642, [l0, l1, l2, l3], vI (gA σ 13 0 i j.toNatClampNeg) :: st, σ)) := E_iaload1 i218_641 rfl
theorem i218_642 : ins 218 642 = some (.invokevirtual 59, 3) := (congrArg (fun x : PTy => x.1.lookup 642) q218).trans rfl
theorem e218_642 {d : Nat} {Q : Option AV → St → Prop} {st : List AV} {σ : St} {l0 l1 l2 l3 : Option AV} {i : Nat} {a1 : Int32} {a2 : Int32} {a3 : Int32} : Rn (d + 1) Q (218, 642, [l0, l1, l2, l3], vI a3 :: vI a2 :: vI a1 :: vR (some (11, 0, i)) :: st, σ) = (i < gN σ 11 ∧ catS st ≤ 8 ∧ Rn d (fun r σ' => Rn (d + 1) Q (218, 645, [l0, l1, l2, l3], r.toList ++ st, σ')) (76, 0, [some (vR (some (11, 0, i))), some (vI a1), some (vI a2), some (vI a3)], [], σ)) := E_invV (a := [vI a3, vI a2, vI a1]) i218_642 ((congrArg (fun z => mthQ z 59) o218).trans m13_59) o76 rfl (ek76 i a1 a2 a3) (en76 i a1 a2 a3)
theorem i218_645 : ins 218 645 = some (.aload_n 2, 1) := (congrArg (fun x : PTy => x.1.lookup 645) q218).trans rfl
theorem e218_645 {d : Nat} {Q : Option AV → St → Prop} {st : List AV} {σ : St} {l0 l1 l3 : Option AV} {x : Option (Nat × Nat × Nat)} : Rn (d) Q (218, 645, [l0, l1, some (vR x), l3], st, σ) = Rn (d) Q (218, 646, [l0, l1, some (vR x), l3], vR x :: st, σ) := E_aload_n i218_645 rfl
theorem i218_646 : ins 218 646 = some (.aload_n 0, 1) := (congrArg (fun x : PTy => x.1.lookup 646) q218).trans rfl
theorem e218_646 {d : Nat} {Q : Option AV → St → Prop} {st : List AV} {σ : St} {l1 l2 l3 : Option AV} {x : Option (Nat × Nat × Nat)} : Rn (d) Q (218, 646, [some (vR x), l1, l2, l3], st, σ) = Rn (d) Q (218, 647, [some (vR x), l1, l2, l3], vR x :: st, σ) := E_aload_n i218_646 rfl
theorem i218_647 : ins 218 647 = some (.iload_n 3, 1) := (congrArg (fun x : PTy => x.1.lookup 647) q218).trans rfl
theorem e218_647 {d : Nat} {Q : Option AV → St → Prop} {st : List AV} {σ : St} {l0 l1 l2 : Option AV} {x : Int32} : Rn (d) Q (218, 647, [l0, l1, l2, some (vI x)], st, σ) = Rn (d) Q (218, 648, [l0, l1, l2, some (vI x)], vI x :: st, σ) := E_iload_n i218_647 rfl
theorem i218_648 : ins 218 648 = some (.iconst 1, 1) := (congrArg (fun x : PTy => x.1.lookup 648) q218).trans rfl
theorem e218_648 {d : Nat} {Q : Option AV → St → Prop} {st : List AV} {σ : St} {l0 l1 l2 l3 : Option AV} : Rn (d) Q (218, 648, [l0, l1, l2, l3], st, σ) = Rn (d) Q (218, 649, [l0, l1, l2, l3], vI 1 :: st, σ) := by rw [E_iconst i218_648, ci_1]
theorem i218_649 : ins 218 649 = some (.iadd, 1) := (congrArg (fun x : PTy => x.1.lookup 649) q218).trans rfl
theorem e218_649 {d : Nat} {Q : Option AV → St → Prop} {st : List AV} {σ : St} {l0 l1 l2 l3 : Option AV} {x y : Int32} : Rn (d) Q (218, 649, [l0, l1, l2, l3], vI y :: vI x :: st, σ) = Rn (d) Q (218, 650, [l0, l1, l2, l3], vI (x + y) :: st, σ) := E_iadd i218_649
theorem i218_650 : ins 218 650 = some (.iaload, 1) := (congrArg (fun x : PTy => x.1.lookup 650) q218).trans rfl
theorem e218_650 {d : Nat} {Q : Option AV → St → Prop} {st : List AV} {σ : St} {l0 l1 l2 l3 : Option AV} {i : Nat} {j : Int32} : Rn (d) Q (218, 650, [l0, l1, l2, l3], vI j :: vR (some (13, 1, i)) :: st, σ) = (∃ n, gL σ 13 0 i = some n ∧ i < gN σ 13 ∧ (0 ≤ j.toInt ∧ j.toInt < n) ∧ Rn (d) Q (218, 651, [l0, l1, l2, l3], vI (gA σ 13 0 i j.toNatClampNeg) :: st, σ)) := E_iaload1 i218_650 rfl
theorem i218_651 : ins 218 651 = some (.aload_n 0, 1) := (congrArg (fun x : PTy => x.1.lookup 651) q218).trans rfl
theorem e218_651 {d : Nat} {Q : Option AV → St → Prop} {st : List AV} {σ : St} {l1 l2 l3 : Option AV} {x : Option (Nat × Nat × Nat)} : Rn (d) Q (218, 651, [some (vR x), l1, l2, l3], st, σ) = Rn (d) Q (218, 652, [some (vR x), l1, l2, l3], vR x :: st, σ) := E_aload_n i218_651 rfl
theorem i218_652 : ins 218 652 = some (.iload_n 3, 1) := (congrArg (fun x : PTy => x.1.lookup 652) q218).trans rfl
theorem e218_652 {d : Nat} {Q : Option AV → St → Prop} {st : List AV} {σ : St} {l0 l1 l2 : Option AV} {x : Int32} : Rn (d) Q (218, 652, [l0, l1, l2, some (vI x)], st, σ) = Rn (d) Q (218, 653, [l0, l1, l2, some (vI x)], vI x :: st, σ) := E_iload_n i218_652 rfl
theorem i218_653 : ins 218 653 = some (.iconst 2, 1) := (congrArg (fun x : PTy => x.1.lookup 653) q218).trans rfl
theorem e218_653 {d : Nat} {Q : Option AV → St → Prop} {st : List AV} {σ : St} {l0 l1 l2 l3 : Option AV} : Rn (d) Q (218, 653, [l0, l1, l2, l3], st, σ) = Rn (d) Q (218, 654, [l0, l1, l2, l3], vI 2 :: st, σ) := by rw [E_iconst i218_653, ci_2]
theorem i218_654 : ins 218 654 = some (.iadd, 1) := (congrArg (fun x : PTy => x.1.lookup 654) q218).trans rfl
theorem e218_654 {d : Nat} {Q : Option AV → St → Prop} {st : List AV} {σ : St} {l0 l1 l2 l3 : Option AV} {x y : Int32} : Rn (d) Q (218, 654, [l0, l1, l2, l3], vI y :: vI x :: st, σ) = Rn (d) Q (218, 655, [l0, l1, l2, l3], vI (x + y) :: st, σ) := E_iadd i218_654
theorem i218_655 : ins 218 655 = some (.iaload, 1) := (congrArg (fun x : PTy => x.1.lookup 655) q218).trans rfl
theorem e218_655 {d : Nat} {Q : Option AV → St → Prop} {st : List AV} {σ : St} {l0 l1 l2 l3 : Option AV} {i : Nat} {j : Int32} : Rn (d) Q (218, 655, [l0, l1, l2, l3], vI j :: vR (some (13, 1, i)) :: st, σ) = (∃ n, gL σ 13 0 i = some n ∧ i < gN σ 13 ∧ (0 ≤ j.toInt ∧ j.toInt < n) ∧ Rn (d) Q (218, 656, [l0, l1, l2, l3], vI (gA σ 13 0 i j.toNatClampNeg) :: st, σ)) := E_iaload1 i218_655 rfl
theorem i218_656 : ins 218 656 = some (.aload_n 0, 1) := (congrArg (fun x : PTy => x.1.lookup 656) q218).trans rfl
theorem e218_656 {d : Nat} {Q : Option AV → St → Prop} {st : List AV} {σ : St} {l1 l2 l3 : Option AV} {x : Option (Nat × Nat × Nat)} : Rn (d) Q (218, 656, [some (vR x), l1, l2, l3], st, σ) = Rn (d) Q (218, 657, [some (vR x), l1, l2, l3], vR x :: st, σ) := E_aload_n i218_656 rfl
theorem i218_657 : ins 218 657 = some (.iload_n 3, 1) := (congrArg (fun x : PTy => x.1.lookup 657) q218).trans rfl
theorem e218_657 {d : Nat} {Q : Option AV → St → Prop} {st : List AV} {σ : St} {l0 l1 l2 : Option AV} {x : Int32} : Rn (d) Q (218, 657, [l0, l1, l2, some (vI x)], st, σ) = Rn (d) Q (218, 658, [l0, l1, l2, some (vI x)], vI x :: st, σ) := E_iload_n i218_657 rfl
theorem i218_658 : ins 218 658 = some (.iconst 3, 1) := (congrArg (fun x : PTy => x.1.lookup 658) q218).trans rfl
theorem e218_658 {d : Nat} {Q : Option AV → St → Prop} {st : List AV} {σ : St} {l0 l1 l2 l3 : Option AV} : Rn (d) Q (218, 658, [l0, l1, l2, l3], st, σ) = Rn (d) Q (218, 659, [l0, l1, l2, l3], vI 3 :: st, σ) := by rw [E_iconst i218_658, ci_3]
theorem i218_659 : ins 218 659 = some (.iadd, 1) := (congrArg (fun x : PTy => x.1.lookup 659) q218).trans rfl
theorem e218_659 {d : Nat} {Q : Option AV → St → Prop} {st : List AV} {σ : St} {l0 l1 l2 l3 : Option AV} {x y : Int32} : Rn (d) Q (218, 659, [l0, l1, l2, l3], vI y :: vI x :: st, σ) = Rn (d) Q (218, 660, [l0, l1, l2, l3], vI (x + y) :: st, σ) := E_iadd i218_659
theorem i218_660 : ins 218 660 = some (.iaload, 1) := (congrArg (fun x : PTy => x.1.lookup 660) q218).trans rfl
theorem e218_660 {d : Nat} {Q : Option AV → St → Prop} {st : List AV} {σ : St} {l0 l1 l2 l3 : Option AV} {i : Nat} {j : Int32} : Rn (d) Q (218, 660, [l0, l1, l2, l3], vI j :: vR (some (13, 1, i)) :: st, σ) = (∃ n, gL σ 13 0 i = some n ∧ i < gN σ 13 ∧ (0 ≤ j.toInt ∧ j.toInt < n) ∧ Rn (d) Q (218, 661, [l0, l1, l2, l3], vI (gA σ 13 0 i j.toNatClampNeg) :: st, σ)) := E_iaload1 i218_660 rfl
theorem i218_661 : ins 218 661 = some (.invokevirtual 62, 3) := (congrArg (fun x : PTy => x.1.lookup 661) q218).trans rfl
theorem e218_661 {d : Nat} {Q : Option AV → St → Prop} {st : List AV} {σ : St} {l0 l1 l2 l3 : Option AV} {i : Nat} {a1 : Int32} {a2 : Int32} {a3 : Int32} : Rn (d + 1) Q (218, 661, [l0, l1, l2, l3], vI a3 :: vI a2 :: vI a1 :: vR (some (12, 0, i)) :: st, σ) = (i < gN σ 12 ∧ catS st ≤ 8 ∧ Rn d (fun r σ' => Rn (d + 1) Q (218, 664, [l0, l1, l2, l3], r.toList ++ st, σ')) (167, 0, [some (vR (some (12, 0, i))), some (vI a1), some (vI a2), some (vI a3)], [], σ)) := E_invV (a := [vI a3, vI a2, vI a1]) i218_661 ((congrArg (fun z => mthQ z 62) o218).trans m13_62) o167 rfl (ek167 i a1 a2 a3) (en167 i a1 a2 a3)
theorem i218_664 : ins 218 664 = some (.if_icmp .eq 1148, 3) := (congrArg (fun x : PTy => x.1.lookup 664) q218).trans rfl
theorem e218_664 {d : Nat} {Q : Option AV → St → Prop} {st : List AV} {σ : St} {l0 l1 l2 l3 : Option AV} {x y : Int32} : Rn (d) Q (218, 664, [l0, l1, l2, l3], vI y :: vI x :: st, σ) = (if x = y then Rn (d) Q (218, 1812, [l0, l1, l2, l3], st, σ) else Rn (d) Q (218, 667, [l0, l1, l2, l3], st, σ)) := E_icmp_eq 1812 i218_664 (by decide)
theorem i218_667 : ins 218 667 = some (.iconst 0, 1) := (congrArg (fun x : PTy => x.1.lookup 667) q218).trans rfl
theorem e218_667 {d : Nat} {Q : Option AV → St → Prop} {st : List AV} {σ : St} {l0 l1 l2 l3 : Option AV} : Rn (d) Q (218, 667, [l0, l1, l2, l3], st, σ) = Rn (d) Q (218, 668, [l0, l1, l2, l3], vI 0 :: st, σ) := by rw [E_iconst i218_667, ci_0]
theorem i218_668 : ins 218 668 = some (.ireturn, 1) := (congrArg (fun x : PTy => x.1.lookup 668) q218).trans rfl
theorem e218_668 {d : Nat} {Q : Option AV → St → Prop} {st : List AV} {σ : St} {l0 l1 l2 l3 : Option AV} {x : Int32} : Rn (d) Q (218, 668, [l0, l1, l2, l3], [vI x], σ) = ((x = 0 ∨ x = 1) ∧ Q (some (vI x)) σ) := E_iretZ (st := []) i218_668 r218
theorem i218_669 : ins 218 669 = some (.aload_n 1, 1) := (congrArg (fun x : PTy => x.1.lookup 669) q218).trans rfl
theorem e218_669 {d : Nat} {Q : Option AV → St → Prop} {st : List AV} {σ : St} {l0 l2 l3 : Option AV} {x : Option (Nat × Nat × Nat)} : Rn (d) Q (218, 669, [l0, some (vR x), l2, l3], st, σ) = Rn (d) Q (218, 670, [l0, some (vR x), l2, l3], vR x :: st, σ) := E_aload_n i218_669 rfl
theorem i218_670 : ins 218 670 = some (.aload_n 0, 1) := (congrArg (fun x : PTy => x.1.lookup 670) q218).trans rfl
theorem e218_670 {d : Nat} {Q : Option AV → St → Prop} {st : List AV} {σ : St} {l1 l2 l3 : Option AV} {x : Option (Nat × Nat × Nat)} : Rn (d) Q (218, 670, [some (vR x), l1, l2, l3], st, σ) = Rn (d) Q (218, 671, [some (vR x), l1, l2, l3], vR x :: st, σ) := E_aload_n i218_670 rfl
theorem i218_671 : ins 218 671 = some (.iload_n 3, 1) := (congrArg (fun x : PTy => x.1.lookup 671) q218).trans rfl
theorem e218_671 {d : Nat} {Q : Option AV → St → Prop} {st : List AV} {σ : St} {l0 l1 l2 : Option AV} {x : Int32} : Rn (d) Q (218, 671, [l0, l1, l2, some (vI x)], st, σ) = Rn (d) Q (218, 672, [l0, l1, l2, some (vI x)], vI x :: st, σ) := E_iload_n i218_671 rfl
theorem i218_672 : ins 218 672 = some (.iconst 1, 1) := (congrArg (fun x : PTy => x.1.lookup 672) q218).trans rfl
theorem e218_672 {d : Nat} {Q : Option AV → St → Prop} {st : List AV} {σ : St} {l0 l1 l2 l3 : Option AV} : Rn (d) Q (218, 672, [l0, l1, l2, l3], st, σ) = Rn (d) Q (218, 673, [l0, l1, l2, l3], vI 1 :: st, σ) := by rw [E_iconst i218_672, ci_1]
theorem i218_673 : ins 218 673 = some (.iadd, 1) := (congrArg (fun x : PTy => x.1.lookup 673) q218).trans rfl
theorem e218_673 {d : Nat} {Q : Option AV → St → Prop} {st : List AV} {σ : St} {l0 l1 l2 l3 : Option AV} {x y : Int32} : Rn (d) Q (218, 673, [l0, l1, l2, l3], vI y :: vI x :: st, σ) = Rn (d) Q (218, 674, [l0, l1, l2, l3], vI (x + y) :: st, σ) := E_iadd i218_673
theorem i218_674 : ins 218 674 = some (.iaload, 1) := (congrArg (fun x : PTy => x.1.lookup 674) q218).trans rfl
theorem e218_674 {d : Nat} {Q : Option AV → St → Prop} {st : List AV} {σ : St} {l0 l1 l2 l3 : Option AV} {i : Nat} {j : Int32} : Rn (d) Q (218, 674, [l0, l1, l2, l3], vI j :: vR (some (13, 1, i)) :: st, σ) = (∃ n, gL σ 13 0 i = some n ∧ i < gN σ 13 ∧ (0 ≤ j.toInt ∧ j.toInt < n) ∧ Rn (d) Q (218, 675, [l0, l1, l2, l3], vI (gA σ 13 0 i j.toNatClampNeg) :: st, σ)) := E_iaload1 i218_674 rfl
theorem i218_675 : ins 218 675 = some (.aload_n 0, 1) := (congrArg (fun x : PTy => x.1.lookup 675) q218).trans rfl
theorem e218_675 {d : Nat} {Q : Option AV → St → Prop} {st : List AV} {σ : St} {l1 l2 l3 : Option AV} {x : Option (Nat × Nat × Nat)} : Rn (d) Q (218, 675, [some (vR x), l1, l2, l3], st, σ) = Rn (d) Q (218, 676, [some (vR x), l1, l2, l3], vR x :: st, σ) := E_aload_n i218_675 rfl
theorem i218_676 : ins 218 676 = some (.iload_n 3, 1) := (congrArg (fun x : PTy => x.1.lookup 676) q218).trans rfl
theorem e218_676 {d : Nat} {Q : Option AV → St → Prop} {st : List AV} {σ : St} {l0 l1 l2 : Option AV} {x : Int32} : Rn (d) Q (218, 676, [l0, l1, l2, some (vI x)], st, σ) = Rn (d) Q (218, 677, [l0, l1, l2, some (vI x)], vI x :: st, σ) := E_iload_n i218_676 rfl
theorem i218_677 : ins 218 677 = some (.iconst 2, 1) := (congrArg (fun x : PTy => x.1.lookup 677) q218).trans rfl
theorem e218_677 {d : Nat} {Q : Option AV → St → Prop} {st : List AV} {σ : St} {l0 l1 l2 l3 : Option AV} : Rn (d) Q (218, 677, [l0, l1, l2, l3], st, σ) = Rn (d) Q (218, 678, [l0, l1, l2, l3], vI 2 :: st, σ) := by rw [E_iconst i218_677, ci_2]
theorem i218_678 : ins 218 678 = some (.iadd, 1) := (congrArg (fun x : PTy => x.1.lookup 678) q218).trans rfl
theorem e218_678 {d : Nat} {Q : Option AV → St → Prop} {st : List AV} {σ : St} {l0 l1 l2 l3 : Option AV} {x y : Int32} : Rn (d) Q (218, 678, [l0, l1, l2, l3], vI y :: vI x :: st, σ) = Rn (d) Q (218, 679, [l0, l1, l2, l3], vI (x + y) :: st, σ) := E_iadd i218_678
theorem i218_679 : ins 218 679 = some (.iaload, 1) := (congrArg (fun x : PTy => x.1.lookup 679) q218).trans rfl
theorem e218_679 {d : Nat} {Q : Option AV → St → Prop} {st : List AV} {σ : St} {l0 l1 l2 l3 : Option AV} {i : Nat} {j : Int32} : Rn (d) Q (218, 679, [l0, l1, l2, l3], vI j :: vR (some (13, 1, i)) :: st, σ) = (∃ n, gL σ 13 0 i = some n ∧ i < gN σ 13 ∧ (0 ≤ j.toInt ∧ j.toInt < n) ∧ Rn (d) Q (218, 680, [l0, l1, l2, l3], vI (gA σ 13 0 i j.toNatClampNeg) :: st, σ)) := E_iaload1 i218_679 rfl
theorem i218_680 : ins 218 680 = some (.aload_n 0, 1) := (congrArg (fun x : PTy => x.1.lookup 680) q218).trans rfl
theorem e218_680 {d : Nat} {Q : Option AV → St → Prop} {st : List AV} {σ : St} {l1 l2 l3 : Option AV} {x : Option (Nat × Nat × Nat)} : Rn (d) Q (218, 680, [some (vR x), l1, l2, l3], st, σ) = Rn (d) Q (218, 681, [some (vR x), l1, l2, l3], vR x :: st, σ) := E_aload_n i218_680 rfl
theorem i218_681 : ins 218 681 = some (.iload_n 3, 1) := (congrArg (fun x : PTy => x.1.lookup 681) q218).trans rfl
theorem e218_681 {d : Nat} {Q : Option AV → St → Prop} {st : List AV} {σ : St} {l0 l1 l2 : Option AV} {x : Int32} : Rn (d) Q (218, 681, [l0, l1, l2, some (vI x)], st, σ) = Rn (d) Q (218, 682, [l0, l1, l2, some (vI x)], vI x :: st, σ) := E_iload_n i218_681 rfl
theorem i218_682 : ins 218 682 = some (.iconst 3, 1) := (congrArg (fun x : PTy => x.1.lookup 682) q218).trans rfl
theorem e218_682 {d : Nat} {Q : Option AV → St → Prop} {st : List AV} {σ : St} {l0 l1 l2 l3 : Option AV} : Rn (d) Q (218, 682, [l0, l1, l2, l3], st, σ) = Rn (d) Q (218, 683, [l0, l1, l2, l3], vI 3 :: st, σ) := by rw [E_iconst i218_682, ci_3]
theorem i218_683 : ins 218 683 = some (.iadd, 1) := (congrArg (fun x : PTy => x.1.lookup 683) q218).trans rfl
theorem e218_683 {d : Nat} {Q : Option AV → St → Prop} {st : List AV} {σ : St} {l0 l1 l2 l3 : Option AV} {x y : Int32} : Rn (d) Q (218, 683, [l0, l1, l2, l3], vI y :: vI x :: st, σ) = Rn (d) Q (218, 684, [l0, l1, l2, l3], vI (x + y) :: st, σ) := E_iadd i218_683
theorem i218_684 : ins 218 684 = some (.iaload, 1) := (congrArg (fun x : PTy => x.1.lookup 684) q218).trans rfl
theorem e218_684 {d : Nat} {Q : Option AV → St → Prop} {st : List AV} {σ : St} {l0 l1 l2 l3 : Option AV} {i : Nat} {j : Int32} : Rn (d) Q (218, 684, [l0, l1, l2, l3], vI j :: vR (some (13, 1, i)) :: st, σ) = (∃ n, gL σ 13 0 i = some n ∧ i < gN σ 13 ∧ (0 ≤ j.toInt ∧ j.toInt < n) ∧ Rn (d) Q (218, 685, [l0, l1, l2, l3], vI (gA σ 13 0 i j.toNatClampNeg) :: st, σ)) := E_iaload1 i218_684 rfl
theorem i218_685 : ins 218 685 = some (.invokevirtual 63, 3) := (congrArg (fun x : PTy => x.1.lookup 685) q218).trans rfl
theorem e218_685 {d : Nat} {Q : Option AV → St → Prop} {st : List AV} {σ : St} {l0 l1 l2 l3 : Option AV} {i : Nat} {a1 : Int32} {a2 : Int32} {a3 : Int32} : Rn (d + 1) Q (218, 685, [l0, l1, l2, l3], vI a3 :: vI a2 :: vI a1 :: vR (some (11, 0, i)) :: st, σ) = (i < gN σ 11 ∧ catS st ≤ 8 ∧ Rn d (fun r σ' => Rn (d + 1) Q (218, 688, [l0, l1, l2, l3], r.toList ++ st, σ')) (77, 0, [some (vR (some (11, 0, i))), some (vI a1), some (vI a2), some (vI a3), none, none], [], σ)) := E_invV (a := [vI a3, vI a2, vI a1]) i218_685 ((congrArg (fun z => mthQ z 63) o218).trans m13_63) o77 rfl (ek77 i a1 a2 a3) (en77 i a1 a2 a3)
theorem i218_688 : ins 218 688 = some (.aload_n 2, 1) := (congrArg (fun x : PTy => x.1.lookup 688) q218).trans rfl
theorem e218_688 {d : Nat} {Q : Option AV → St → Prop} {st : List AV} {σ : St} {l0 l1 l3 : Option AV} {x : Option (Nat × Nat × Nat)} : Rn (d) Q (218, 688, [l0, l1, some (vR x), l3], st, σ) = Rn (d) Q (218, 689, [l0, l1, some (vR x), l3], vR x :: st, σ) := E_aload_n i218_688 rfl
theorem i218_689 : ins 218 689 = some (.aload_n 0, 1) := (congrArg (fun x : PTy => x.1.lookup 689) q218).trans rfl
theorem e218_689 {d : Nat} {Q : Option AV → St → Prop} {st : List AV} {σ : St} {l1 l2 l3 : Option AV} {x : Option (Nat × Nat × Nat)} : Rn (d) Q (218, 689, [some (vR x), l1, l2, l3], st, σ) = Rn (d) Q (218, 690, [some (vR x), l1, l2, l3], vR x :: st, σ) := E_aload_n i218_689 rfl
theorem i218_690 : ins 218 690 = some (.iload_n 3, 1) := (congrArg (fun x : PTy => x.1.lookup 690) q218).trans rfl
theorem e218_690 {d : Nat} {Q : Option AV → St → Prop} {st : List AV} {σ : St} {l0 l1 l2 : Option AV} {x : Int32} : Rn (d) Q (218, 690, [l0, l1, l2, some (vI x)], st, σ) = Rn (d) Q (218, 691, [l0, l1, l2, some (vI x)], vI x :: st, σ) := E_iload_n i218_690 rfl
theorem i218_691 : ins 218 691 = some (.iconst 1, 1) := (congrArg (fun x : PTy => x.1.lookup 691) q218).trans rfl
theorem e218_691 {d : Nat} {Q : Option AV → St → Prop} {st : List AV} {σ : St} {l0 l1 l2 l3 : Option AV} : Rn (d) Q (218, 691, [l0, l1, l2, l3], st, σ) = Rn (d) Q (218, 692, [l0, l1, l2, l3], vI 1 :: st, σ) := by rw [E_iconst i218_691, ci_1]
theorem i218_692 : ins 218 692 = some (.iadd, 1) := (congrArg (fun x : PTy => x.1.lookup 692) q218).trans rfl
theorem e218_692 {d : Nat} {Q : Option AV → St → Prop} {st : List AV} {σ : St} {l0 l1 l2 l3 : Option AV} {x y : Int32} : Rn (d) Q (218, 692, [l0, l1, l2, l3], vI y :: vI x :: st, σ) = Rn (d) Q (218, 693, [l0, l1, l2, l3], vI (x + y) :: st, σ) := E_iadd i218_692
theorem i218_693 : ins 218 693 = some (.iaload, 1) := (congrArg (fun x : PTy => x.1.lookup 693) q218).trans rfl
theorem e218_693 {d : Nat} {Q : Option AV → St → Prop} {st : List AV} {σ : St} {l0 l1 l2 l3 : Option AV} {i : Nat} {j : Int32} : Rn (d) Q (218, 693, [l0, l1, l2, l3], vI j :: vR (some (13, 1, i)) :: st, σ) = (∃ n, gL σ 13 0 i = some n ∧ i < gN σ 13 ∧ (0 ≤ j.toInt ∧ j.toInt < n) ∧ Rn (d) Q (218, 694, [l0, l1, l2, l3], vI (gA σ 13 0 i j.toNatClampNeg) :: st, σ)) := E_iaload1 i218_693 rfl
theorem i218_694 : ins 218 694 = some (.aload_n 0, 1) := (congrArg (fun x : PTy => x.1.lookup 694) q218).trans rfl
theorem e218_694 {d : Nat} {Q : Option AV → St → Prop} {st : List AV} {σ : St} {l1 l2 l3 : Option AV} {x : Option (Nat × Nat × Nat)} : Rn (d) Q (218, 694, [some (vR x), l1, l2, l3], st, σ) = Rn (d) Q (218, 695, [some (vR x), l1, l2, l3], vR x :: st, σ) := E_aload_n i218_694 rfl
theorem i218_695 : ins 218 695 = some (.iload_n 3, 1) := (congrArg (fun x : PTy => x.1.lookup 695) q218).trans rfl
theorem e218_695 {d : Nat} {Q : Option AV → St → Prop} {st : List AV} {σ : St} {l0 l1 l2 : Option AV} {x : Int32} : Rn (d) Q (218, 695, [l0, l1, l2, some (vI x)], st, σ) = Rn (d) Q (218, 696, [l0, l1, l2, some (vI x)], vI x :: st, σ) := E_iload_n i218_695 rfl
theorem i218_696 : ins 218 696 = some (.iconst 2, 1) := (congrArg (fun x : PTy => x.1.lookup 696) q218).trans rfl
theorem e218_696 {d : Nat} {Q : Option AV → St → Prop} {st : List AV} {σ : St} {l0 l1 l2 l3 : Option AV} : Rn (d) Q (218, 696, [l0, l1, l2, l3], st, σ) = Rn (d) Q (218, 697, [l0, l1, l2, l3], vI 2 :: st, σ) := by rw [E_iconst i218_696, ci_2]
theorem i218_697 : ins 218 697 = some (.iadd, 1) := (congrArg (fun x : PTy => x.1.lookup 697) q218).trans rfl
theorem e218_697 {d : Nat} {Q : Option AV → St → Prop} {st : List AV} {σ : St} {l0 l1 l2 l3 : Option AV} {x y : Int32} : Rn (d) Q (218, 697, [l0, l1, l2, l3], vI y :: vI x :: st, σ) = Rn (d) Q (218, 698, [l0, l1, l2, l3], vI (x + y) :: st, σ) := E_iadd i218_697
theorem i218_698 : ins 218 698 = some (.iaload, 1) := (congrArg (fun x : PTy => x.1.lookup 698) q218).trans rfl
theorem e218_698 {d : Nat} {Q : Option AV → St → Prop} {st : List AV} {σ : St} {l0 l1 l2 l3 : Option AV} {i : Nat} {j : Int32} : Rn (d) Q (218, 698, [l0, l1, l2, l3], vI j :: vR (some (13, 1, i)) :: st, σ) = (∃ n, gL σ 13 0 i = some n ∧ i < gN σ 13 ∧ (0 ≤ j.toInt ∧ j.toInt < n) ∧ Rn (d) Q (218, 699, [l0, l1, l2, l3], vI (gA σ 13 0 i j.toNatClampNeg) :: st, σ)) := E_iaload1 i218_698 rfl
theorem i218_699 : ins 218 699 = some (.aload_n 0, 1) := (congrArg (fun x : PTy => x.1.lookup 699) q218).trans rfl
theorem e218_699 {d : Nat} {Q : Option AV → St → Prop} {st : List AV} {σ : St} {l1 l2 l3 : Option AV} {x : Option (Nat × Nat × Nat)} : Rn (d) Q (218, 699, [some (vR x), l1, l2, l3], st, σ) = Rn (d) Q (218, 700, [some (vR x), l1, l2, l3], vR x :: st, σ) := E_aload_n i218_699 rfl
theorem i218_700 : ins 218 700 = some (.iload_n 3, 1) := (congrArg (fun x : PTy => x.1.lookup 700) q218).trans rfl
theorem e218_700 {d : Nat} {Q : Option AV → St → Prop} {st : List AV} {σ : St} {l0 l1 l2 : Option AV} {x : Int32} : Rn (d) Q (218, 700, [l0, l1, l2, some (vI x)], st, σ) = Rn (d) Q (218, 701, [l0, l1, l2, some (vI x)], vI x :: st, σ) := E_iload_n i218_700 rfl
theorem i218_701 : ins 218 701 = some (.iconst 3, 1) := (congrArg (fun x : PTy => x.1.lookup 701) q218).trans rfl
theorem e218_701 {d : Nat} {Q : Option AV → St → Prop} {st : List AV} {σ : St} {l0 l1 l2 l3 : Option AV} : Rn (d) Q (218, 701, [l0, l1, l2, l3], st, σ) = Rn (d) Q (218, 702, [l0, l1, l2, l3], vI 3 :: st, σ) := by rw [E_iconst i218_701, ci_3]
theorem i218_702 : ins 218 702 = some (.iadd, 1) := (congrArg (fun x : PTy => x.1.lookup 702) q218).trans rfl
theorem e218_702 {d : Nat} {Q : Option AV → St → Prop} {st : List AV} {σ : St} {l0 l1 l2 l3 : Option AV} {x y : Int32} : Rn (d) Q (218, 702, [l0, l1, l2, l3], vI y :: vI x :: st, σ) = Rn (d) Q (218, 703, [l0, l1, l2, l3], vI (x + y) :: st, σ) := E_iadd i218_702
theorem i218_703 : ins 218 703 = some (.iaload, 1) := (congrArg (fun x : PTy => x.1.lookup 703) q218).trans rfl
theorem e218_703 {d : Nat} {Q : Option AV → St → Prop} {st : List AV} {σ : St} {l0 l1 l2 l3 : Option AV} {i : Nat} {j : Int32} : Rn (d) Q (218, 703, [l0, l1, l2, l3], vI j :: vR (some (13, 1, i)) :: st, σ) = (∃ n, gL σ 13 0 i = some n ∧ i < gN σ 13 ∧ (0 ≤ j.toInt ∧ j.toInt < n) ∧ Rn (d) Q (218, 704, [l0, l1, l2, l3], vI (gA σ 13 0 i j.toNatClampNeg) :: st, σ)) := E_iaload1 i218_703 rfl
theorem i218_704 : ins 218 704 = some (.invokevirtual 66, 3) := (congrArg (fun x : PTy => x.1.lookup 704) q218).trans rfl
theorem e218_704 {d : Nat} {Q : Option AV → St → Prop} {st : List AV} {σ : St} {l0 l1 l2 l3 : Option AV} {i : Nat} {a1 : Int32} {a2 : Int32} {a3 : Int32} : Rn (d + 1) Q (218, 704, [l0, l1, l2, l3], vI a3 :: vI a2 :: vI a1 :: vR (some (12, 0, i)) :: st, σ) = (i < gN σ 12 ∧ catS st ≤ 8 ∧ Rn d (fun r σ' => Rn (d + 1) Q (218, 707, [l0, l1, l2, l3], r.toList ++ st, σ')) (169, 0, [some (vR (some (12, 0, i))), some (vI a1), some (vI a2), some (vI a3), none], [], σ)) := E_invV (a := [vI a3, vI a2, vI a1]) i218_704 ((congrArg (fun z => mthQ z 66) o218).trans m13_66) o169 rfl (ek169 i a1 a2 a3) (en169 i a1 a2 a3)
theorem i218_707 : ins 218 707 = some (.if_icmp .eq 1105, 3) := (congrArg (fun x : PTy => x.1.lookup 707) q218).trans rfl
theorem e218_707 {d : Nat} {Q : Option AV → St → Prop} {st : List AV} {σ : St} {l0 l1 l2 l3 : Option AV} {x y : Int32} : Rn (d) Q (218, 707, [l0, l1, l2, l3], vI y :: vI x :: st, σ) = (if x = y then Rn (d) Q (218, 1812, [l0, l1, l2, l3], st, σ) else Rn (d) Q (218, 710, [l0, l1, l2, l3], st, σ)) := E_icmp_eq 1812 i218_707 (by decide)
theorem i218_710 : ins 218 710 = some (.iconst 0, 1) := (congrArg (fun x : PTy => x.1.lookup 710) q218).trans rfl
theorem e218_710 {d : Nat} {Q : Option AV → St → Prop} {st : List AV} {σ : St} {l0 l1 l2 l3 : Option AV} : Rn (d) Q (218, 710, [l0, l1, l2, l3], st, σ) = Rn (d) Q (218, 711, [l0, l1, l2, l3], vI 0 :: st, σ) := by rw [E_iconst i218_710, ci_0]
theorem i218_711 : ins 218 711 = some (.ireturn, 1) := (congrArg (fun x : PTy => x.1.lookup 711) q218).trans rfl
theorem e218_711 {d : Nat} {Q : Option AV → St → Prop} {st : List AV} {σ : St} {l0 l1 l2 l3 : Option AV} {x : Int32} : Rn (d) Q (218, 711, [l0, l1, l2, l3], [vI x], σ) = ((x = 0 ∨ x = 1) ∧ Q (some (vI x)) σ) := E_iretZ (st := []) i218_711 r218
theorem i218_712 : ins 218 712 = some (.aload_n 1, 1) := (congrArg (fun x : PTy => x.1.lookup 712) q218).trans rfl
theorem e218_712 {d : Nat} {Q : Option AV → St → Prop} {st : List AV} {σ : St} {l0 l2 l3 : Option AV} {x : Option (Nat × Nat × Nat)} : Rn (d) Q (218, 712, [l0, some (vR x), l2, l3], st, σ) = Rn (d) Q (218, 713, [l0, some (vR x), l2, l3], vR x :: st, σ) := E_aload_n i218_712 rfl
theorem i218_713 : ins 218 713 = some (.aload_n 0, 1) := (congrArg (fun x : PTy => x.1.lookup 713) q218).trans rfl
theorem e218_713 {d : Nat} {Q : Option AV → St → Prop} {st : List AV} {σ : St} {l1 l2 l3 : Option AV} {x : Option (Nat × Nat × Nat)} : Rn (d) Q (218, 713, [some (vR x), l1, l2, l3], st, σ) = Rn (d) Q (218, 714, [some (vR x), l1, l2, l3], vR x :: st, σ) := E_aload_n i218_713 rfl
theorem i218_714 : ins 218 714 = some (.iload_n 3, 1) := (congrArg (fun x : PTy => x.1.lookup 714) q218).trans rfl
theorem e218_714 {d : Nat} {Q : Option AV → St → Prop} {st : List AV} {σ : St} {l0 l1 l2 : Option AV} {x : Int32} : Rn (d) Q (218, 714, [l0, l1, l2, some (vI x)], st, σ) = Rn (d) Q (218, 715, [l0, l1, l2, some (vI x)], vI x :: st, σ) := E_iload_n i218_714 rfl
theorem i218_715 : ins 218 715 = some (.iconst 1, 1) := (congrArg (fun x : PTy => x.1.lookup 715) q218).trans rfl
theorem e218_715 {d : Nat} {Q : Option AV → St → Prop} {st : List AV} {σ : St} {l0 l1 l2 l3 : Option AV} : Rn (d) Q (218, 715, [l0, l1, l2, l3], st, σ) = Rn (d) Q (218, 716, [l0, l1, l2, l3], vI 1 :: st, σ) := by rw [E_iconst i218_715, ci_1]
theorem i218_716 : ins 218 716 = some (.iadd, 1) := (congrArg (fun x : PTy => x.1.lookup 716) q218).trans rfl
theorem e218_716 {d : Nat} {Q : Option AV → St → Prop} {st : List AV} {σ : St} {l0 l1 l2 l3 : Option AV} {x y : Int32} : Rn (d) Q (218, 716, [l0, l1, l2, l3], vI y :: vI x :: st, σ) = Rn (d) Q (218, 717, [l0, l1, l2, l3], vI (x + y) :: st, σ) := E_iadd i218_716
theorem i218_717 : ins 218 717 = some (.iaload, 1) := (congrArg (fun x : PTy => x.1.lookup 717) q218).trans rfl
theorem e218_717 {d : Nat} {Q : Option AV → St → Prop} {st : List AV} {σ : St} {l0 l1 l2 l3 : Option AV} {i : Nat} {j : Int32} : Rn (d) Q (218, 717, [l0, l1, l2, l3], vI j :: vR (some (13, 1, i)) :: st, σ) = (∃ n, gL σ 13 0 i = some n ∧ i < gN σ 13 ∧ (0 ≤ j.toInt ∧ j.toInt < n) ∧ Rn (d) Q (218, 718, [l0, l1, l2, l3], vI (gA σ 13 0 i j.toNatClampNeg) :: st, σ)) := E_iaload1 i218_717 rfl
theorem i218_718 : ins 218 718 = some (.aload_n 0, 1) := (congrArg (fun x : PTy => x.1.lookup 718) q218).trans rfl
theorem e218_718 {d : Nat} {Q : Option AV → St → Prop} {st : List AV} {σ : St} {l1 l2 l3 : Option AV} {x : Option (Nat × Nat × Nat)} : Rn (d) Q (218, 718, [some (vR x), l1, l2, l3], st, σ) = Rn (d) Q (218, 719, [some (vR x), l1, l2, l3], vR x :: st, σ) := E_aload_n i218_718 rfl
theorem i218_719 : ins 218 719 = some (.iload_n 3, 1) := (congrArg (fun x : PTy => x.1.lookup 719) q218).trans rfl
theorem e218_719 {d : Nat} {Q : Option AV → St → Prop} {st : List AV} {σ : St} {l0 l1 l2 : Option AV} {x : Int32} : Rn (d) Q (218, 719, [l0, l1, l2, some (vI x)], st, σ) = Rn (d) Q (218, 720, [l0, l1, l2, some (vI x)], vI x :: st, σ) := E_iload_n i218_719 rfl
theorem i218_720 : ins 218 720 = some (.iconst 2, 1) := (congrArg (fun x : PTy => x.1.lookup 720) q218).trans rfl
theorem e218_720 {d : Nat} {Q : Option AV → St → Prop} {st : List AV} {σ : St} {l0 l1 l2 l3 : Option AV} : Rn (d) Q (218, 720, [l0, l1, l2, l3], st, σ) = Rn (d) Q (218, 721, [l0, l1, l2, l3], vI 2 :: st, σ) := by rw [E_iconst i218_720, ci_2]
theorem i218_721 : ins 218 721 = some (.iadd, 1) := (congrArg (fun x : PTy => x.1.lookup 721) q218).trans rfl
theorem e218_721 {d : Nat} {Q : Option AV → St → Prop} {st : List AV} {σ : St} {l0 l1 l2 l3 : Option AV} {x y : Int32} : Rn (d) Q (218, 721, [l0, l1, l2, l3], vI y :: vI x :: st, σ) = Rn (d) Q (218, 722, [l0, l1, l2, l3], vI (x + y) :: st, σ) := E_iadd i218_721
theorem i218_722 : ins 218 722 = some (.iaload, 1) := (congrArg (fun x : PTy => x.1.lookup 722) q218).trans rfl
theorem e218_722 {d : Nat} {Q : Option AV → St → Prop} {st : List AV} {σ : St} {l0 l1 l2 l3 : Option AV} {i : Nat} {j : Int32} : Rn (d) Q (218, 722, [l0, l1, l2, l3], vI j :: vR (some (13, 1, i)) :: st, σ) = (∃ n, gL σ 13 0 i = some n ∧ i < gN σ 13 ∧ (0 ≤ j.toInt ∧ j.toInt < n) ∧ Rn (d) Q (218, 723, [l0, l1, l2, l3], vI (gA σ 13 0 i j.toNatClampNeg) :: st, σ)) := E_iaload1 i218_722 rfl
theorem i218_723 : ins 218 723 = some (.invokevirtual 67, 3) := (congrArg (fun x : PTy => x.1.lookup 723) q218).trans rfl
theorem e218_723 {d : Nat} {Q : Option AV → St → Prop} {st : List AV} {σ : St} {l0 l1 l2 l3 : Option AV} {i : Nat} {a1 : Int32} {a2 : Int32} : Rn (d + 1) Q (218, 723, [l0, l1, l2, l3], vI a2 :: vI a1 :: vR (some (11, 0, i)) :: st, σ) = (i < gN σ 11 ∧ catS st ≤ 8 ∧ Rn d (fun r σ' => Rn (d + 1) Q (218, 726, [l0, l1, l2, l3], r.toList ++ st, σ')) (78, 0, [some (vR (some (11, 0, i))), some (vI a1), some (vI a2), none, none], [], σ)) := E_invV (a := [vI a2, vI a1]) i218_723 ((congrArg (fun z => mthQ z 67) o218).trans m13_67) o78 rfl (ek78 i a1 a2) (en78 i a1 a2)
theorem i218_726 : ins 218 726 = some (.aload_n 2, 1) := (congrArg (fun x : PTy => x.1.lookup 726) q218).trans rfl
theorem e218_726 {d : Nat} {Q : Option AV → St → Prop} {st : List AV} {σ : St} {l0 l1 l3 : Option AV} {x : Option (Nat × Nat × Nat)} : Rn (d) Q (218, 726, [l0, l1, some (vR x), l3], st, σ) = Rn (d) Q (218, 727, [l0, l1, some (vR x), l3], vR x :: st, σ) := E_aload_n i218_726 rfl
theorem i218_727 : ins 218 727 = some (.aload_n 0, 1) := (congrArg (fun x : PTy => x.1.lookup 727) q218).trans rfl
theorem e218_727 {d : Nat} {Q : Option AV → St → Prop} {st : List AV} {σ : St} {l1 l2 l3 : Option AV} {x : Option (Nat × Nat × Nat)} : Rn (d) Q (218, 727, [some (vR x), l1, l2, l3], st, σ) = Rn (d) Q (218, 728, [some (vR x), l1, l2, l3], vR x :: st, σ) := E_aload_n i218_727 rfl
theorem i218_728 : ins 218 728 = some (.iload_n 3, 1) := (congrArg (fun x : PTy => x.1.lookup 728) q218).trans rfl
theorem e218_728 {d : Nat} {Q : Option AV → St → Prop} {st : List AV} {σ : St} {l0 l1 l2 : Option AV} {x : Int32} : Rn (d) Q (218, 728, [l0, l1, l2, some (vI x)], st, σ) = Rn (d) Q (218, 729, [l0, l1, l2, some (vI x)], vI x :: st, σ) := E_iload_n i218_728 rfl
theorem i218_729 : ins 218 729 = some (.iconst 1, 1) := (congrArg (fun x : PTy => x.1.lookup 729) q218).trans rfl
theorem e218_729 {d : Nat} {Q : Option AV → St → Prop} {st : List AV} {σ : St} {l0 l1 l2 l3 : Option AV} : Rn (d) Q (218, 729, [l0, l1, l2, l3], st, σ) = Rn (d) Q (218, 730, [l0, l1, l2, l3], vI 1 :: st, σ) := by rw [E_iconst i218_729, ci_1]
theorem i218_730 : ins 218 730 = some (.iadd, 1) := (congrArg (fun x : PTy => x.1.lookup 730) q218).trans rfl
theorem e218_730 {d : Nat} {Q : Option AV → St → Prop} {st : List AV} {σ : St} {l0 l1 l2 l3 : Option AV} {x y : Int32} : Rn (d) Q (218, 730, [l0, l1, l2, l3], vI y :: vI x :: st, σ) = Rn (d) Q (218, 731, [l0, l1, l2, l3], vI (x + y) :: st, σ) := E_iadd i218_730
theorem i218_731 : ins 218 731 = some (.iaload, 1) := (congrArg (fun x : PTy => x.1.lookup 731) q218).trans rfl
theorem e218_731 {d : Nat} {Q : Option AV → St → Prop} {st : List AV} {σ : St} {l0 l1 l2 l3 : Option AV} {i : Nat} {j : Int32} : Rn (d) Q (218, 731, [l0, l1, l2, l3], vI j :: vR (some (13, 1, i)) :: st, σ) = (∃ n, gL σ 13 0 i = some n ∧ i < gN σ 13 ∧ (0 ≤ j.toInt ∧ j.toInt < n) ∧ Rn (d) Q (218, 732, [l0, l1, l2, l3], vI (gA σ 13 0 i j.toNatClampNeg) :: st, σ)) := E_iaload1 i218_731 rfl
theorem i218_732 : ins 218 732 = some (.aload_n 0, 1) := (congrArg (fun x : PTy => x.1.lookup 732) q218).trans rfl
theorem e218_732 {d : Nat} {Q : Option AV → St → Prop} {st : List AV} {σ : St} {l1 l2 l3 : Option AV} {x : Option (Nat × Nat × Nat)} : Rn (d) Q (218, 732, [some (vR x), l1, l2, l3], st, σ) = Rn (d) Q (218, 733, [some (vR x), l1, l2, l3], vR x :: st, σ) := E_aload_n i218_732 rfl
theorem i218_733 : ins 218 733 = some (.iload_n 3, 1) := (congrArg (fun x : PTy => x.1.lookup 733) q218).trans rfl
theorem e218_733 {d : Nat} {Q : Option AV → St → Prop} {st : List AV} {σ : St} {l0 l1 l2 : Option AV} {x : Int32} : Rn (d) Q (218, 733, [l0, l1, l2, some (vI x)], st, σ) = Rn (d) Q (218, 734, [l0, l1, l2, some (vI x)], vI x :: st, σ) := E_iload_n i218_733 rfl
theorem i218_734 : ins 218 734 = some (.iconst 2, 1) := (congrArg (fun x : PTy => x.1.lookup 734) q218).trans rfl
theorem e218_734 {d : Nat} {Q : Option AV → St → Prop} {st : List AV} {σ : St} {l0 l1 l2 l3 : Option AV} : Rn (d) Q (218, 734, [l0, l1, l2, l3], st, σ) = Rn (d) Q (218, 735, [l0, l1, l2, l3], vI 2 :: st, σ) := by rw [E_iconst i218_734, ci_2]
theorem i218_735 : ins 218 735 = some (.iadd, 1) := (congrArg (fun x : PTy => x.1.lookup 735) q218).trans rfl
theorem e218_735 {d : Nat} {Q : Option AV → St → Prop} {st : List AV} {σ : St} {l0 l1 l2 l3 : Option AV} {x y : Int32} : Rn (d) Q (218, 735, [l0, l1, l2, l3], vI y :: vI x :: st, σ) = Rn (d) Q (218, 736, [l0, l1, l2, l3], vI (x + y) :: st, σ) := E_iadd i218_735
theorem i218_736 : ins 218 736 = some (.iaload, 1) := (congrArg (fun x : PTy => x.1.lookup 736) q218).trans rfl
theorem e218_736 {d : Nat} {Q : Option AV → St → Prop} {st : List AV} {σ : St} {l0 l1 l2 l3 : Option AV} {i : Nat} {j : Int32} : Rn (d) Q (218, 736, [l0, l1, l2, l3], vI j :: vR (some (13, 1, i)) :: st, σ) = (∃ n, gL σ 13 0 i = some n ∧ i < gN σ 13 ∧ (0 ≤ j.toInt ∧ j.toInt < n) ∧ Rn (d) Q (218, 737, [l0, l1, l2, l3], vI (gA σ 13 0 i j.toNatClampNeg) :: st, σ)) := E_iaload1 i218_736 rfl
theorem i218_737 : ins 218 737 = some (.invokevirtual 70, 3) := (congrArg (fun x : PTy => x.1.lookup 737) q218).trans rfl
theorem e218_737 {d : Nat} {Q : Option AV → St → Prop} {st : List AV} {σ : St} {l0 l1 l2 l3 : Option AV} {i : Nat} {a1 : Int32} {a2 : Int32} : Rn (d + 1) Q (218, 737, [l0, l1, l2, l3], vI a2 :: vI a1 :: vR (some (12, 0, i)) :: st, σ) = (i < gN σ 12 ∧ catS st ≤ 8 ∧ Rn d (fun r σ' => Rn (d + 1) Q (218, 740, [l0, l1, l2, l3], r.toList ++ st, σ')) (171, 0, [some (vR (some (12, 0, i))), some (vI a1), some (vI a2), none], [], σ)) := E_invV (a := [vI a2, vI a1]) i218_737 ((congrArg (fun z => mthQ z 70) o218).trans m13_70) o171 rfl (ek171 i a1 a2) (en171 i a1 a2)
theorem i218_740 : ins 218 740 = some (.if_icmp .eq 1072, 3) := (congrArg (fun x : PTy => x.1.lookup 740) q218).trans rfl
theorem e218_740 {d : Nat} {Q : Option AV → St → Prop} {st : List AV} {σ : St} {l0 l1 l2 l3 : Option AV} {x y : Int32} : Rn (d) Q (218, 740, [l0, l1, l2, l3], vI y :: vI x :: st, σ) = (if x = y then Rn (d) Q (218, 1812, [l0, l1, l2, l3], st, σ) else Rn (d) Q (218, 743, [l0, l1, l2, l3], st, σ)) := E_icmp_eq 1812 i218_740 (by decide)
theorem i218_743 : ins 218 743 = some (.iconst 0, 1) := (congrArg (fun x : PTy => x.1.lookup 743) q218).trans rfl
theorem e218_743 {d : Nat} {Q : Option AV → St → Prop} {st : List AV} {σ : St} {l0 l1 l2 l3 : Option AV} : Rn (d) Q (218, 743, [l0, l1, l2, l3], st, σ) = Rn (d) Q (218, 744, [l0, l1, l2, l3], vI 0 :: st, σ) := by rw [E_iconst i218_743, ci_0]
theorem i218_744 : ins 218 744 = some (.ireturn, 1) := (congrArg (fun x : PTy => x.1.lookup 744) q218).trans rfl
theorem e218_744 {d : Nat} {Q : Option AV → St → Prop} {st : List AV} {σ : St} {l0 l1 l2 l3 : Option AV} {x : Int32} : Rn (d) Q (218, 744, [l0, l1, l2, l3], [vI x], σ) = ((x = 0 ∨ x = 1) ∧ Q (some (vI x)) σ) := E_iretZ (st := []) i218_744 r218
theorem i218_745 : ins 218 745 = some (.aload_n 1, 1) := (congrArg (fun x : PTy => x.1.lookup 745) q218).trans rfl
theorem e218_745 {d : Nat} {Q : Option AV → St → Prop} {st : List AV} {σ : St} {l0 l2 l3 : Option AV} {x : Option (Nat × Nat × Nat)} : Rn (d) Q (218, 745, [l0, some (vR x), l2, l3], st, σ) = Rn (d) Q (218, 746, [l0, some (vR x), l2, l3], vR x :: st, σ) := E_aload_n i218_745 rfl
theorem i218_746 : ins 218 746 = some (.aload_n 0, 1) := (congrArg (fun x : PTy => x.1.lookup 746) q218).trans rfl
theorem e218_746 {d : Nat} {Q : Option AV → St → Prop} {st : List AV} {σ : St} {l1 l2 l3 : Option AV} {x : Option (Nat × Nat × Nat)} : Rn (d) Q (218, 746, [some (vR x), l1, l2, l3], st, σ) = Rn (d) Q (218, 747, [some (vR x), l1, l2, l3], vR x :: st, σ) := E_aload_n i218_746 rfl
theorem i218_747 : ins 218 747 = some (.iload_n 3, 1) := (congrArg (fun x : PTy => x.1.lookup 747) q218).trans rfl
theorem e218_747 {d : Nat} {Q : Option AV → St → Prop} {st : List AV} {σ : St} {l0 l1 l2 : Option AV} {x : Int32} : Rn (d) Q (218, 747, [l0, l1, l2, some (vI x)], st, σ) = Rn (d) Q (218, 748, [l0, l1, l2, some (vI x)], vI x :: st, σ) := E_iload_n i218_747 rfl
theorem i218_748 : ins 218 748 = some (.iconst 1, 1) := (congrArg (fun x : PTy => x.1.lookup 748) q218).trans rfl
theorem e218_748 {d : Nat} {Q : Option AV → St → Prop} {st : List AV} {σ : St} {l0 l1 l2 l3 : Option AV} : Rn (d) Q (218, 748, [l0, l1, l2, l3], st, σ) = Rn (d) Q (218, 749, [l0, l1, l2, l3], vI 1 :: st, σ) := by rw [E_iconst i218_748, ci_1]
theorem i218_749 : ins 218 749 = some (.iadd, 1) := (congrArg (fun x : PTy => x.1.lookup 749) q218).trans rfl
theorem e218_749 {d : Nat} {Q : Option AV → St → Prop} {st : List AV} {σ : St} {l0 l1 l2 l3 : Option AV} {x y : Int32} : Rn (d) Q (218, 749, [l0, l1, l2, l3], vI y :: vI x :: st, σ) = Rn (d) Q (218, 750, [l0, l1, l2, l3], vI (x + y) :: st, σ) := E_iadd i218_749
theorem i218_750 : ins 218 750 = some (.iaload, 1) := (congrArg (fun x : PTy => x.1.lookup 750) q218).trans rfl
theorem e218_750 {d : Nat} {Q : Option AV → St → Prop} {st : List AV} {σ : St} {l0 l1 l2 l3 : Option AV} {i : Nat} {j : Int32} : Rn (d) Q (218, 750, [l0, l1, l2, l3], vI j :: vR (some (13, 1, i)) :: st, σ) = (∃ n, gL σ 13 0 i = some n ∧ i < gN σ 13 ∧ (0 ≤ j.toInt ∧ j.toInt < n) ∧ Rn (d) Q (218, 751, [l0, l1, l2, l3], vI (gA σ 13 0 i j.toNatClampNeg) :: st, σ)) := E_iaload1 i218_750 rfl
theorem i218_751 : ins 218 751 = some (.aload_n 0, 1) := (congrArg (fun x : PTy => x.1.lookup 751) q218).trans rfl
theorem e218_751 {d : Nat} {Q : Option AV → St → Prop} {st : List AV} {σ : St} {l1 l2 l3 : Option AV} {x : Option (Nat × Nat × Nat)} : Rn (d) Q (218, 751, [some (vR x), l1, l2, l3], st, σ) = Rn (d) Q (218, 752, [some (vR x), l1, l2, l3], vR x :: st, σ) := E_aload_n i218_751 rfl
theorem i218_752 : ins 218 752 = some (.iload_n 3, 1) := (congrArg (fun x : PTy => x.1.lookup 752) q218).trans rfl
theorem e218_752 {d : Nat} {Q : Option AV → St → Prop} {st : List AV} {σ : St} {l0 l1 l2 : Option AV} {x : Int32} : Rn (d) Q (218, 752, [l0, l1, l2, some (vI x)], st, σ) = Rn (d) Q (218, 753, [l0, l1, l2, some (vI x)], vI x :: st, σ) := E_iload_n i218_752 rfl
theorem i218_753 : ins 218 753 = some (.iconst 2, 1) := (congrArg (fun x : PTy => x.1.lookup 753) q218).trans rfl
theorem e218_753 {d : Nat} {Q : Option AV → St → Prop} {st : List AV} {σ : St} {l0 l1 l2 l3 : Option AV} : Rn (d) Q (218, 753, [l0, l1, l2, l3], st, σ) = Rn (d) Q (218, 754, [l0, l1, l2, l3], vI 2 :: st, σ) := by rw [E_iconst i218_753, ci_2]
theorem i218_754 : ins 218 754 = some (.iadd, 1) := (congrArg (fun x : PTy => x.1.lookup 754) q218).trans rfl
theorem e218_754 {d : Nat} {Q : Option AV → St → Prop} {st : List AV} {σ : St} {l0 l1 l2 l3 : Option AV} {x y : Int32} : Rn (d) Q (218, 754, [l0, l1, l2, l3], vI y :: vI x :: st, σ) = Rn (d) Q (218, 755, [l0, l1, l2, l3], vI (x + y) :: st, σ) := E_iadd i218_754
theorem i218_755 : ins 218 755 = some (.iaload, 1) := (congrArg (fun x : PTy => x.1.lookup 755) q218).trans rfl
theorem e218_755 {d : Nat} {Q : Option AV → St → Prop} {st : List AV} {σ : St} {l0 l1 l2 l3 : Option AV} {i : Nat} {j : Int32} : Rn (d) Q (218, 755, [l0, l1, l2, l3], vI j :: vR (some (13, 1, i)) :: st, σ) = (∃ n, gL σ 13 0 i = some n ∧ i < gN σ 13 ∧ (0 ≤ j.toInt ∧ j.toInt < n) ∧ Rn (d) Q (218, 756, [l0, l1, l2, l3], vI (gA σ 13 0 i j.toNatClampNeg) :: st, σ)) := E_iaload1 i218_755 rfl
theorem i218_756 : ins 218 756 = some (.aload_n 0, 1) := (congrArg (fun x : PTy => x.1.lookup 756) q218).trans rfl
theorem e218_756 {d : Nat} {Q : Option AV → St → Prop} {st : List AV} {σ : St} {l1 l2 l3 : Option AV} {x : Option (Nat × Nat × Nat)} : Rn (d) Q (218, 756, [some (vR x), l1, l2, l3], st, σ) = Rn (d) Q (218, 757, [some (vR x), l1, l2, l3], vR x :: st, σ) := E_aload_n i218_756 rfl
theorem i218_757 : ins 218 757 = some (.iload_n 3, 1) := (congrArg (fun x : PTy => x.1.lookup 757) q218).trans rfl
theorem e218_757 {d : Nat} {Q : Option AV → St → Prop} {st : List AV} {σ : St} {l0 l1 l2 : Option AV} {x : Int32} : Rn (d) Q (218, 757, [l0, l1, l2, some (vI x)], st, σ) = Rn (d) Q (218, 758, [l0, l1, l2, some (vI x)], vI x :: st, σ) := E_iload_n i218_757 rfl
theorem i218_758 : ins 218 758 = some (.iconst 3, 1) := (congrArg (fun x : PTy => x.1.lookup 758) q218).trans rfl
theorem e218_758 {d : Nat} {Q : Option AV → St → Prop} {st : List AV} {σ : St} {l0 l1 l2 l3 : Option AV} : Rn (d) Q (218, 758, [l0, l1, l2, l3], st, σ) = Rn (d) Q (218, 759, [l0, l1, l2, l3], vI 3 :: st, σ) := by rw [E_iconst i218_758, ci_3]
theorem i218_759 : ins 218 759 = some (.iadd, 1) := (congrArg (fun x : PTy => x.1.lookup 759) q218).trans rfl
theorem e218_759 {d : Nat} {Q : Option AV → St → Prop} {st : List AV} {σ : St} {l0 l1 l2 l3 : Option AV} {x y : Int32} : Rn (d) Q (218, 759, [l0, l1, l2, l3], vI y :: vI x :: st, σ) = Rn (d) Q (218, 760, [l0, l1, l2, l3], vI (x + y) :: st, σ) := E_iadd i218_759
theorem i218_760 : ins 218 760 = some (.iaload, 1) := (congrArg (fun x : PTy => x.1.lookup 760) q218).trans rfl
theorem e218_760 {d : Nat} {Q : Option AV → St → Prop} {st : List AV} {σ : St} {l0 l1 l2 l3 : Option AV} {i : Nat} {j : Int32} : Rn (d) Q (218, 760, [l0, l1, l2, l3], vI j :: vR (some (13, 1, i)) :: st, σ) = (∃ n, gL σ 13 0 i = some n ∧ i < gN σ 13 ∧ (0 ≤ j.toInt ∧ j.toInt < n) ∧ Rn (d) Q (218, 761, [l0, l1, l2, l3], vI (gA σ 13 0 i j.toNatClampNeg) :: st, σ)) := E_iaload1 i218_760 rfl
theorem i218_761 : ins 218 761 = some (.invokevirtual 71, 3) := (congrArg (fun x : PTy => x.1.lookup 761) q218).trans rfl
theorem e218_761 {d : Nat} {Q : Option AV → St → Prop} {st : List AV} {σ : St} {l0 l1 l2 l3 : Option AV} {i : Nat} {a1 : Int32} {a2 : Int32} {a3 : Int32} : Rn (d + 1) Q (218, 761, [l0, l1, l2, l3], vI a3 :: vI a2 :: vI a1 :: vR (some (11, 0, i)) :: st, σ) = (i < gN σ 11 ∧ catS st ≤ 8 ∧ Rn d (fun r σ' => Rn (d + 1) Q (218, 764, [l0, l1, l2, l3], r.toList ++ st, σ')) (79, 0, [some (vR (some (11, 0, i))), some (vI a1), some (vI a2), some (vI a3), none, none], [], σ)) := E_invV (a := [vI a3, vI a2, vI a1]) i218_761 ((congrArg (fun z => mthQ z 71) o218).trans m13_71) o79 rfl (ek79 i a1 a2 a3) (en79 i a1 a2 a3)
theorem i218_764 : ins 218 764 = some (.aload_n 2, 1) := (congrArg (fun x : PTy => x.1.lookup 764) q218).trans rfl
theorem e218_764 {d : Nat} {Q : Option AV → St → Prop} {st : List AV} {σ : St} {l0 l1 l3 : Option AV} {x : Option (Nat × Nat × Nat)} : Rn (d) Q (218, 764, [l0, l1, some (vR x), l3], st, σ) = Rn (d) Q (218, 765, [l0, l1, some (vR x), l3], vR x :: st, σ) := E_aload_n i218_764 rfl
theorem i218_765 : ins 218 765 = some (.aload_n 0, 1) := (congrArg (fun x : PTy => x.1.lookup 765) q218).trans rfl
theorem e218_765 {d : Nat} {Q : Option AV → St → Prop} {st : List AV} {σ : St} {l1 l2 l3 : Option AV} {x : Option (Nat × Nat × Nat)} : Rn (d) Q (218, 765, [some (vR x), l1, l2, l3], st, σ) = Rn (d) Q (218, 766, [some (vR x), l1, l2, l3], vR x :: st, σ) := E_aload_n i218_765 rfl
theorem i218_766 : ins 218 766 = some (.iload_n 3, 1) := (congrArg (fun x : PTy => x.1.lookup 766) q218).trans rfl
theorem e218_766 {d : Nat} {Q : Option AV → St → Prop} {st : List AV} {σ : St} {l0 l1 l2 : Option AV} {x : Int32} : Rn (d) Q (218, 766, [l0, l1, l2, some (vI x)], st, σ) = Rn (d) Q (218, 767, [l0, l1, l2, some (vI x)], vI x :: st, σ) := E_iload_n i218_766 rfl
theorem i218_767 : ins 218 767 = some (.iconst 1, 1) := (congrArg (fun x : PTy => x.1.lookup 767) q218).trans rfl
theorem e218_767 {d : Nat} {Q : Option AV → St → Prop} {st : List AV} {σ : St} {l0 l1 l2 l3 : Option AV} : Rn (d) Q (218, 767, [l0, l1, l2, l3], st, σ) = Rn (d) Q (218, 768, [l0, l1, l2, l3], vI 1 :: st, σ) := by rw [E_iconst i218_767, ci_1]
theorem i218_768 : ins 218 768 = some (.iadd, 1) := (congrArg (fun x : PTy => x.1.lookup 768) q218).trans rfl
theorem e218_768 {d : Nat} {Q : Option AV → St → Prop} {st : List AV} {σ : St} {l0 l1 l2 l3 : Option AV} {x y : Int32} : Rn (d) Q (218, 768, [l0, l1, l2, l3], vI y :: vI x :: st, σ) = Rn (d) Q (218, 769, [l0, l1, l2, l3], vI (x + y) :: st, σ) := E_iadd i218_768
theorem i218_769 : ins 218 769 = some (.iaload, 1) := (congrArg (fun x : PTy => x.1.lookup 769) q218).trans rfl
theorem e218_769 {d : Nat} {Q : Option AV → St → Prop} {st : List AV} {σ : St} {l0 l1 l2 l3 : Option AV} {i : Nat} {j : Int32} : Rn (d) Q (218, 769, [l0, l1, l2, l3], vI j :: vR (some (13, 1, i)) :: st, σ) = (∃ n, gL σ 13 0 i = some n ∧ i < gN σ 13 ∧ (0 ≤ j.toInt ∧ j.toInt < n) ∧ Rn (d) Q (218, 770, [l0, l1, l2, l3], vI (gA σ 13 0 i j.toNatClampNeg) :: st, σ)) := E_iaload1 i218_769 rfl
theorem i218_770 : ins 218 770 = some (.aload_n 0, 1) := (congrArg (fun x : PTy => x.1.lookup 770) q218).trans rfl
theorem e218_770 {d : Nat} {Q : Option AV → St → Prop} {st : List AV} {σ : St} {l1 l2 l3 : Option AV} {x : Option (Nat × Nat × Nat)} : Rn (d) Q (218, 770, [some (vR x), l1, l2, l3], st, σ) = Rn (d) Q (218, 771, [some (vR x), l1, l2, l3], vR x :: st, σ) := E_aload_n i218_770 rfl
theorem i218_771 : ins 218 771 = some (.iload_n 3, 1) := (congrArg (fun x : PTy => x.1.lookup 771) q218).trans rfl
theorem e218_771 {d : Nat} {Q : Option AV → St → Prop} {st : List AV} {σ : St} {l0 l1 l2 : Option AV} {x : Int32} : Rn (d) Q (218, 771, [l0, l1, l2, some (vI x)], st, σ) = Rn (d) Q (218, 772, [l0, l1, l2, some (vI x)], vI x :: st, σ) := E_iload_n i218_771 rfl
theorem i218_772 : ins 218 772 = some (.iconst 2, 1) := (congrArg (fun x : PTy => x.1.lookup 772) q218).trans rfl
theorem e218_772 {d : Nat} {Q : Option AV → St → Prop} {st : List AV} {σ : St} {l0 l1 l2 l3 : Option AV} : Rn (d) Q (218, 772, [l0, l1, l2, l3], st, σ) = Rn (d) Q (218, 773, [l0, l1, l2, l3], vI 2 :: st, σ) := by rw [E_iconst i218_772, ci_2]
theorem i218_773 : ins 218 773 = some (.iadd, 1) := (congrArg (fun x : PTy => x.1.lookup 773) q218).trans rfl
theorem e218_773 {d : Nat} {Q : Option AV → St → Prop} {st : List AV} {σ : St} {l0 l1 l2 l3 : Option AV} {x y : Int32} : Rn (d) Q (218, 773, [l0, l1, l2, l3], vI y :: vI x :: st, σ) = Rn (d) Q (218, 774, [l0, l1, l2, l3], vI (x + y) :: st, σ) := E_iadd i218_773
theorem i218_774 : ins 218 774 = some (.iaload, 1) := (congrArg (fun x : PTy => x.1.lookup 774) q218).trans rfl
theorem e218_774 {d : Nat} {Q : Option AV → St → Prop} {st : List AV} {σ : St} {l0 l1 l2 l3 : Option AV} {i : Nat} {j : Int32} : Rn (d) Q (218, 774, [l0, l1, l2, l3], vI j :: vR (some (13, 1, i)) :: st, σ) = (∃ n, gL σ 13 0 i = some n ∧ i < gN σ 13 ∧ (0 ≤ j.toInt ∧ j.toInt < n) ∧ Rn (d) Q (218, 775, [l0, l1, l2, l3], vI (gA σ 13 0 i j.toNatClampNeg) :: st, σ)) := E_iaload1 i218_774 rfl
theorem i218_775 : ins 218 775 = some (.aload_n 0, 1) := (congrArg (fun x : PTy => x.1.lookup 775) q218).trans rfl
theorem e218_775 {d : Nat} {Q : Option AV → St → Prop} {st : List AV} {σ : St} {l1 l2 l3 : Option AV} {x : Option (Nat × Nat × Nat)} : Rn (d) Q (218, 775, [some (vR x), l1, l2, l3], st, σ) = Rn (d) Q (218, 776, [some (vR x), l1, l2, l3], vR x :: st, σ) := E_aload_n i218_775 rfl
theorem i218_776 : ins 218 776 = some (.iload_n 3, 1) := (congrArg (fun x : PTy => x.1.lookup 776) q218).trans rfl
theorem e218_776 {d : Nat} {Q : Option AV → St → Prop} {st : List AV} {σ : St} {l0 l1 l2 : Option AV} {x : Int32} : Rn (d) Q (218, 776, [l0, l1, l2, some (vI x)], st, σ) = Rn (d) Q (218, 777, [l0, l1, l2, some (vI x)], vI x :: st, σ) := E_iload_n i218_776 rfl
theorem i218_777 : ins 218 777 = some (.iconst 3, 1) := (congrArg (fun x : PTy => x.1.lookup 777) q218).trans rfl
theorem e218_777 {d : Nat} {Q : Option AV → St → Prop} {st : List AV} {σ : St} {l0 l1 l2 l3 : Option AV} : Rn (d) Q (218, 777, [l0, l1, l2, l3], st, σ) = Rn (d) Q (218, 778, [l0, l1, l2, l3], vI 3 :: st, σ) := by rw [E_iconst i218_777, ci_3]
theorem i218_778 : ins 218 778 = some (.iadd, 1) := (congrArg (fun x : PTy => x.1.lookup 778) q218).trans rfl
theorem e218_778 {d : Nat} {Q : Option AV → St → Prop} {st : List AV} {σ : St} {l0 l1 l2 l3 : Option AV} {x y : Int32} : Rn (d) Q (218, 778, [l0, l1, l2, l3], vI y :: vI x :: st, σ) = Rn (d) Q (218, 779, [l0, l1, l2, l3], vI (x + y) :: st, σ) := E_iadd i218_778
theorem i218_779 : ins 218 779 = some (.iaload, 1) := (congrArg (fun x : PTy => x.1.lookup 779) q218).trans rfl
theorem e218_779 {d : Nat} {Q : Option AV → St → Prop} {st : List AV} {σ : St} {l0 l1 l2 l3 : Option AV} {i : Nat} {j : Int32} : Rn (d) Q (218, 779, [l0, l1, l2, l3], vI j :: vR (some (13, 1, i)) :: st, σ) = (∃ n, gL σ 13 0 i = some n ∧ i < gN σ 13 ∧ (0 ≤ j.toInt ∧ j.toInt < n) ∧ Rn (d) Q (218, 780, [l0, l1, l2, l3], vI (gA σ 13 0 i j.toNatClampNeg) :: st, σ)) := E_iaload1 i218_779 rfl
theorem i218_780 : ins 218 780 = some (.invokevirtual 74, 3) := (congrArg (fun x : PTy => x.1.lookup 780) q218).trans rfl
theorem e218_780 {d : Nat} {Q : Option AV → St → Prop} {st : List AV} {σ : St} {l0 l1 l2 l3 : Option AV} {i : Nat} {a1 : Int32} {a2 : Int32} {a3 : Int32} : Rn (d + 1) Q (218, 780, [l0, l1, l2, l3], vI a3 :: vI a2 :: vI a1 :: vR (some (12, 0, i)) :: st, σ) = (i < gN σ 12 ∧ catS st ≤ 8 ∧ Rn d (fun r σ' => Rn (d + 1) Q (218, 783, [l0, l1, l2, l3], r.toList ++ st, σ')) (174, 0, [some (vR (some (12, 0, i))), some (vI a1), some (vI a2), some (vI a3)], [], σ)) := E_invV (a := [vI a3, vI a2, vI a1]) i218_780 ((congrArg (fun z => mthQ z 74) o218).trans m13_74) o174 rfl (ek174 i a1 a2 a3) (en174 i a1 a2 a3)
theorem i218_783 : ins 218 783 = some (.if_icmp .eq 1029, 3) := (congrArg (fun x : PTy => x.1.lookup 783) q218).trans rfl
theorem e218_783 {d : Nat} {Q : Option AV → St → Prop} {st : List AV} {σ : St} {l0 l1 l2 l3 : Option AV} {x y : Int32} : Rn (d) Q (218, 783, [l0, l1, l2, l3], vI y :: vI x :: st, σ) = (if x = y then Rn (d) Q (218, 1812, [l0, l1, l2, l3], st, σ) else Rn (d) Q (218, 786, [l0, l1, l2, l3], st, σ)) := E_icmp_eq 1812 i218_783 (by decide)
theorem i218_786 : ins 218 786 = some (.iconst 0, 1) := (congrArg (fun x : PTy => x.1.lookup 786) q218).trans rfl
theorem e218_786 {d : Nat} {Q : Option AV → St → Prop} {st : List AV} {σ : St} {l0 l1 l2 l3 : Option AV} : Rn (d) Q (218, 786, [l0, l1, l2, l3], st, σ) = Rn (d) Q (218, 787, [l0, l1, l2, l3], vI 0 :: st, σ) := by rw [E_iconst i218_786, ci_0]
theorem i218_787 : ins 218 787 = some (.ireturn, 1) := (congrArg (fun x : PTy => x.1.lookup 787) q218).trans rfl
theorem e218_787 {d : Nat} {Q : Option AV → St → Prop} {st : List AV} {σ : St} {l0 l1 l2 l3 : Option AV} {x : Int32} : Rn (d) Q (218, 787, [l0, l1, l2, l3], [vI x], σ) = ((x = 0 ∨ x = 1) ∧ Q (some (vI x)) σ) := E_iretZ (st := []) i218_787 r218
theorem i218_788 : ins 218 788 = some (.aload_n 1, 1) := (congrArg (fun x : PTy => x.1.lookup 788) q218).trans rfl
theorem e218_788 {d : Nat} {Q : Option AV → St → Prop} {st : List AV} {σ : St} {l0 l2 l3 : Option AV} {x : Option (Nat × Nat × Nat)} : Rn (d) Q (218, 788, [l0, some (vR x), l2, l3], st, σ) = Rn (d) Q (218, 789, [l0, some (vR x), l2, l3], vR x :: st, σ) := E_aload_n i218_788 rfl
theorem i218_789 : ins 218 789 = some (.aload_n 0, 1) := (congrArg (fun x : PTy => x.1.lookup 789) q218).trans rfl
theorem e218_789 {d : Nat} {Q : Option AV → St → Prop} {st : List AV} {σ : St} {l1 l2 l3 : Option AV} {x : Option (Nat × Nat × Nat)} : Rn (d) Q (218, 789, [some (vR x), l1, l2, l3], st, σ) = Rn (d) Q (218, 790, [some (vR x), l1, l2, l3], vR x :: st, σ) := E_aload_n i218_789 rfl
theorem i218_790 : ins 218 790 = some (.iload_n 3, 1) := (congrArg (fun x : PTy => x.1.lookup 790) q218).trans rfl
theorem e218_790 {d : Nat} {Q : Option AV → St → Prop} {st : List AV} {σ : St} {l0 l1 l2 : Option AV} {x : Int32} : Rn (d) Q (218, 790, [l0, l1, l2, some (vI x)], st, σ) = Rn (d) Q (218, 791, [l0, l1, l2, some (vI x)], vI x :: st, σ) := E_iload_n i218_790 rfl
theorem i218_791 : ins 218 791 = some (.iconst 1, 1) := (congrArg (fun x : PTy => x.1.lookup 791) q218).trans rfl
theorem e218_791 {d : Nat} {Q : Option AV → St → Prop} {st : List AV} {σ : St} {l0 l1 l2 l3 : Option AV} : Rn (d) Q (218, 791, [l0, l1, l2, l3], st, σ) = Rn (d) Q (218, 792, [l0, l1, l2, l3], vI 1 :: st, σ) := by rw [E_iconst i218_791, ci_1]
theorem i218_792 : ins 218 792 = some (.iadd, 1) := (congrArg (fun x : PTy => x.1.lookup 792) q218).trans rfl
theorem e218_792 {d : Nat} {Q : Option AV → St → Prop} {st : List AV} {σ : St} {l0 l1 l2 l3 : Option AV} {x y : Int32} : Rn (d) Q (218, 792, [l0, l1, l2, l3], vI y :: vI x :: st, σ) = Rn (d) Q (218, 793, [l0, l1, l2, l3], vI (x + y) :: st, σ) := E_iadd i218_792
theorem i218_793 : ins 218 793 = some (.iaload, 1) := (congrArg (fun x : PTy => x.1.lookup 793) q218).trans rfl
theorem e218_793 {d : Nat} {Q : Option AV → St → Prop} {st : List AV} {σ : St} {l0 l1 l2 l3 : Option AV} {i : Nat} {j : Int32} : Rn (d) Q (218, 793, [l0, l1, l2, l3], vI j :: vR (some (13, 1, i)) :: st, σ) = (∃ n, gL σ 13 0 i = some n ∧ i < gN σ 13 ∧ (0 ≤ j.toInt ∧ j.toInt < n) ∧ Rn (d) Q (218, 794, [l0, l1, l2, l3], vI (gA σ 13 0 i j.toNatClampNeg) :: st, σ)) := E_iaload1 i218_793 rfl
theorem i218_794 : ins 218 794 = some (.aload_n 0, 1) := (congrArg (fun x : PTy => x.1.lookup 794) q218).trans rfl
theorem e218_794 {d : Nat} {Q : Option AV → St → Prop} {st : List AV} {σ : St} {l1 l2 l3 : Option AV} {x : Option (Nat × Nat × Nat)} : Rn (d) Q (218, 794, [some (vR x), l1, l2, l3], st, σ) = Rn (d) Q (218, 795, [some (vR x), l1, l2, l3], vR x :: st, σ) := E_aload_n i218_794 rfl
theorem i218_795 : ins 218 795 = some (.iload_n 3, 1) := (congrArg (fun x : PTy => x.1.lookup 795) q218).trans rfl
theorem e218_795 {d : Nat} {Q : Option AV → St → Prop} {st : List AV} {σ : St} {l0 l1 l2 : Option AV} {x : Int32} : Rn (d) Q (218, 795, [l0, l1, l2, some (vI x)], st, σ) = Rn (d) Q (218, 796, [l0, l1, l2, some (vI x)], vI x :: st, σ) := E_iload_n i218_795 rfl
theorem i218_796 : ins 218 796 = some (.iconst 2, 1) := (congrArg (fun x : PTy => x.1.lookup 796) q218).trans rfl
theorem e218_796 {d : Nat} {Q : Option AV → St → Prop} {st : List AV} {σ : St} {l0 l1 l2 l3 : Option AV} : Rn (d) Q (218, 796, [l0, l1, l2, l3], st, σ) = Rn (d) Q (218, 797, [l0, l1, l2, l3], vI 2 :: st, σ) := by rw [E_iconst i218_796, ci_2]
theorem i218_797 : ins 218 797 = some (.iadd, 1) := (congrArg (fun x : PTy => x.1.lookup 797) q218).trans rfl
theorem e218_797 {d : Nat} {Q : Option AV → St → Prop} {st : List AV} {σ : St} {l0 l1 l2 l3 : Option AV} {x y : Int32} : Rn (d) Q (218, 797, [l0, l1, l2, l3], vI y :: vI x :: st, σ) = Rn (d) Q (218, 798, [l0, l1, l2, l3], vI (x + y) :: st, σ) := E_iadd i218_797
theorem i218_798 : ins 218 798 = some (.iaload, 1) := (congrArg (fun x : PTy => x.1.lookup 798) q218).trans rfl
theorem e218_798 {d : Nat} {Q : Option AV → St → Prop} {st : List AV} {σ : St} {l0 l1 l2 l3 : Option AV} {i : Nat} {j : Int32} : Rn (d) Q (218, 798, [l0, l1, l2, l3], vI j :: vR (some (13, 1, i)) :: st, σ) = (∃ n, gL σ 13 0 i = some n ∧ i < gN σ 13 ∧ (0 ≤ j.toInt ∧ j.toInt < n) ∧ Rn (d) Q (218, 799, [l0, l1, l2, l3], vI (gA σ 13 0 i j.toNatClampNeg) :: st, σ)) := E_iaload1 i218_798 rfl
theorem i218_799 : ins 218 799 = some (.aload_n 0, 1) := (congrArg (fun x : PTy => x.1.lookup 799) q218).trans rfl
theorem e218_799 {d : Nat} {Q : Option AV → St → Prop} {st : List AV} {σ : St} {l1 l2 l3 : Option AV} {x : Option (Nat × Nat × Nat)} : Rn (d) Q (218, 799, [some (vR x), l1, l2, l3], st, σ) = Rn (d) Q (218, 800, [some (vR x), l1, l2, l3], vR x :: st, σ) := E_aload_n i218_799 rfl
theorem i218_800 : ins 218 800 = some (.iload_n 3, 1) := (congrArg (fun x : PTy => x.1.lookup 800) q218).trans rfl
theorem e218_800 {d : Nat} {Q : Option AV → St → Prop} {st : List AV} {σ : St} {l0 l1 l2 : Option AV} {x : Int32} : Rn (d) Q (218, 800, [l0, l1, l2, some (vI x)], st, σ) = Rn (d) Q (218, 801, [l0, l1, l2, some (vI x)], vI x :: st, σ) := E_iload_n i218_800 rfl
theorem i218_801 : ins 218 801 = some (.iconst 3, 1) := (congrArg (fun x : PTy => x.1.lookup 801) q218).trans rfl
theorem e218_801 {d : Nat} {Q : Option AV → St → Prop} {st : List AV} {σ : St} {l0 l1 l2 l3 : Option AV} : Rn (d) Q (218, 801, [l0, l1, l2, l3], st, σ) = Rn (d) Q (218, 802, [l0, l1, l2, l3], vI 3 :: st, σ) := by rw [E_iconst i218_801, ci_3]
theorem i218_802 : ins 218 802 = some (.iadd, 1) := (congrArg (fun x : PTy => x.1.lookup 802) q218).trans rfl
theorem e218_802 {d : Nat} {Q : Option AV → St → Prop} {st : List AV} {σ : St} {l0 l1 l2 l3 : Option AV} {x y : Int32} : Rn (d) Q (218, 802, [l0, l1, l2, l3], vI y :: vI x :: st, σ) = Rn (d) Q (218, 803, [l0, l1, l2, l3], vI (x + y) :: st, σ) := E_iadd i218_802
theorem i218_803 : ins 218 803 = some (.iaload, 1) := (congrArg (fun x : PTy => x.1.lookup 803) q218).trans rfl
theorem e218_803 {d : Nat} {Q : Option AV → St → Prop} {st : List AV} {σ : St} {l0 l1 l2 l3 : Option AV} {i : Nat} {j : Int32} : Rn (d) Q (218, 803, [l0, l1, l2, l3], vI j :: vR (some (13, 1, i)) :: st, σ) = (∃ n, gL σ 13 0 i = some n ∧ i < gN σ 13 ∧ (0 ≤ j.toInt ∧ j.toInt < n) ∧ Rn (d) Q (218, 804, [l0, l1, l2, l3], vI (gA σ 13 0 i j.toNatClampNeg) :: st, σ)) := E_iaload1 i218_803 rfl
theorem i218_804 : ins 218 804 = some (.aload_n 0, 1) := (congrArg (fun x : PTy => x.1.lookup 804) q218).trans rfl
theorem e218_804 {d : Nat} {Q : Option AV → St → Prop} {st : List AV} {σ : St} {l1 l2 l3 : Option AV} {x : Option (Nat × Nat × Nat)} : Rn (d) Q (218, 804, [some (vR x), l1, l2, l3], st, σ) = Rn (d) Q (218, 805, [some (vR x), l1, l2, l3], vR x :: st, σ) := E_aload_n i218_804 rfl
theorem i218_805 : ins 218 805 = some (.iload_n 3, 1) := (congrArg (fun x : PTy => x.1.lookup 805) q218).trans rfl
theorem e218_805 {d : Nat} {Q : Option AV → St → Prop} {st : List AV} {σ : St} {l0 l1 l2 : Option AV} {x : Int32} : Rn (d) Q (218, 805, [l0, l1, l2, some (vI x)], st, σ) = Rn (d) Q (218, 806, [l0, l1, l2, some (vI x)], vI x :: st, σ) := E_iload_n i218_805 rfl
theorem i218_806 : ins 218 806 = some (.iconst 4, 1) := (congrArg (fun x : PTy => x.1.lookup 806) q218).trans rfl
theorem e218_806 {d : Nat} {Q : Option AV → St → Prop} {st : List AV} {σ : St} {l0 l1 l2 l3 : Option AV} : Rn (d) Q (218, 806, [l0, l1, l2, l3], st, σ) = Rn (d) Q (218, 807, [l0, l1, l2, l3], vI 4 :: st, σ) := by rw [E_iconst i218_806, ci_4]
theorem i218_807 : ins 218 807 = some (.iadd, 1) := (congrArg (fun x : PTy => x.1.lookup 807) q218).trans rfl
theorem e218_807 {d : Nat} {Q : Option AV → St → Prop} {st : List AV} {σ : St} {l0 l1 l2 l3 : Option AV} {x y : Int32} : Rn (d) Q (218, 807, [l0, l1, l2, l3], vI y :: vI x :: st, σ) = Rn (d) Q (218, 808, [l0, l1, l2, l3], vI (x + y) :: st, σ) := E_iadd i218_807
theorem i218_808 : ins 218 808 = some (.iaload, 1) := (congrArg (fun x : PTy => x.1.lookup 808) q218).trans rfl
theorem e218_808 {d : Nat} {Q : Option AV → St → Prop} {st : List AV} {σ : St} {l0 l1 l2 l3 : Option AV} {i : Nat} {j : Int32} : Rn (d) Q (218, 808, [l0, l1, l2, l3], vI j :: vR (some (13, 1, i)) :: st, σ) = (∃ n, gL σ 13 0 i = some n ∧ i < gN σ 13 ∧ (0 ≤ j.toInt ∧ j.toInt < n) ∧ Rn (d) Q (218, 809, [l0, l1, l2, l3], vI (gA σ 13 0 i j.toNatClampNeg) :: st, σ)) := E_iaload1 i218_808 rfl
theorem i218_809 : ins 218 809 = some (.aload_n 0, 1) := (congrArg (fun x : PTy => x.1.lookup 809) q218).trans rfl
theorem e218_809 {d : Nat} {Q : Option AV → St → Prop} {st : List AV} {σ : St} {l1 l2 l3 : Option AV} {x : Option (Nat × Nat × Nat)} : Rn (d) Q (218, 809, [some (vR x), l1, l2, l3], st, σ) = Rn (d) Q (218, 810, [some (vR x), l1, l2, l3], vR x :: st, σ) := E_aload_n i218_809 rfl
theorem i218_810 : ins 218 810 = some (.iload_n 3, 1) := (congrArg (fun x : PTy => x.1.lookup 810) q218).trans rfl
theorem e218_810 {d : Nat} {Q : Option AV → St → Prop} {st : List AV} {σ : St} {l0 l1 l2 : Option AV} {x : Int32} : Rn (d) Q (218, 810, [l0, l1, l2, some (vI x)], st, σ) = Rn (d) Q (218, 811, [l0, l1, l2, some (vI x)], vI x :: st, σ) := E_iload_n i218_810 rfl
theorem i218_811 : ins 218 811 = some (.iconst 5, 1) := (congrArg (fun x : PTy => x.1.lookup 811) q218).trans rfl
theorem e218_811 {d : Nat} {Q : Option AV → St → Prop} {st : List AV} {σ : St} {l0 l1 l2 l3 : Option AV} : Rn (d) Q (218, 811, [l0, l1, l2, l3], st, σ) = Rn (d) Q (218, 812, [l0, l1, l2, l3], vI 5 :: st, σ) := by rw [E_iconst i218_811, ci_5]
theorem i218_812 : ins 218 812 = some (.iadd, 1) := (congrArg (fun x : PTy => x.1.lookup 812) q218).trans rfl
theorem e218_812 {d : Nat} {Q : Option AV → St → Prop} {st : List AV} {σ : St} {l0 l1 l2 l3 : Option AV} {x y : Int32} : Rn (d) Q (218, 812, [l0, l1, l2, l3], vI y :: vI x :: st, σ) = Rn (d) Q (218, 813, [l0, l1, l2, l3], vI (x + y) :: st, σ) := E_iadd i218_812
theorem i218_813 : ins 218 813 = some (.iaload, 1) := (congrArg (fun x : PTy => x.1.lookup 813) q218).trans rfl
theorem e218_813 {d : Nat} {Q : Option AV → St → Prop} {st : List AV} {σ : St} {l0 l1 l2 l3 : Option AV} {i : Nat} {j : Int32} : Rn (d) Q (218, 813, [l0, l1, l2, l3], vI j :: vR (some (13, 1, i)) :: st, σ) = (∃ n, gL σ 13 0 i = some n ∧ i < gN σ 13 ∧ (0 ≤ j.toInt ∧ j.toInt < n) ∧ Rn (d) Q (218, 814, [l0, l1, l2, l3], vI (gA σ 13 0 i j.toNatClampNeg) :: st, σ)) := E_iaload1 i218_813 rfl
theorem i218_814 : ins 218 814 = some (.invokevirtual 75, 3) := (congrArg (fun x : PTy => x.1.lookup 814) q218).trans rfl
theorem e218_814 {d : Nat} {Q : Option AV → St → Prop} {st : List AV} {σ : St} {l0 l1 l2 l3 : Option AV} {i : Nat} {a1 : Int32} {a2 : Int32} {a3 : Int32} {a4 : Int32} {a5 : Int32} : Rn (d + 1) Q (218, 814, [l0, l1, l2, l3], vI a5 :: vI a4 :: vI a3 :: vI a2 :: vI a1 :: vR (some (11, 0, i)) :: st, σ) = (i < gN σ 11 ∧ catS st ≤ 8 ∧ Rn d (fun r σ' => Rn (d + 1) Q (218, 817, [l0, l1, l2, l3], r.toList ++ st, σ')) (80, 0, [some (vR (some (11, 0, i))), some (vI a1), some (vI a2), some (vI a3), some (vI a4), some (vI a5), none], [], σ)) := E_invV (a := [vI a5, vI a4, vI a3, vI a2, vI a1]) i218_814 ((congrArg (fun z => mthQ z 75) o218).trans m13_75) o80 rfl (ek80 i a1 a2 a3 a4 a5) (en80 i a1 a2 a3 a4 a5)
theorem i218_817 : ins 218 817 = some (.aload_n 2, 1) := (congrArg (fun x : PTy => x.1.lookup 817) q218).trans rfl
theorem e218_817 {d : Nat} {Q : Option AV → St → Prop} {st : List AV} {σ : St} {l0 l1 l3 : Option AV} {x : Option (Nat × Nat × Nat)} : Rn (d) Q (218, 817, [l0, l1, some (vR x), l3], st, σ) = Rn (d) Q (218, 818, [l0, l1, some (vR x), l3], vR x :: st, σ) := E_aload_n i218_817 rfl
theorem i218_818 : ins 218 818 = some (.aload_n 0, 1) := (congrArg (fun x : PTy => x.1.lookup 818) q218).trans rfl
theorem e218_818 {d : Nat} {Q : Option AV → St → Prop} {st : List AV} {σ : St} {l1 l2 l3 : Option AV} {x : Option (Nat × Nat × Nat)} : Rn (d) Q (218, 818, [some (vR x), l1, l2, l3], st, σ) = Rn (d) Q (218, 819, [some (vR x), l1, l2, l3], vR x :: st, σ) := E_aload_n i218_818 rfl
theorem i218_819 : ins 218 819 = some (.iload_n 3, 1) := (congrArg (fun x : PTy => x.1.lookup 819) q218).trans rfl
theorem e218_819 {d : Nat} {Q : Option AV → St → Prop} {st : List AV} {σ : St} {l0 l1 l2 : Option AV} {x : Int32} : Rn (d) Q (218, 819, [l0, l1, l2, some (vI x)], st, σ) = Rn (d) Q (218, 820, [l0, l1, l2, some (vI x)], vI x :: st, σ) := E_iload_n i218_819 rfl
theorem i218_820 : ins 218 820 = some (.iconst 1, 1) := (congrArg (fun x : PTy => x.1.lookup 820) q218).trans rfl
theorem e218_820 {d : Nat} {Q : Option AV → St → Prop} {st : List AV} {σ : St} {l0 l1 l2 l3 : Option AV} : Rn (d) Q (218, 820, [l0, l1, l2, l3], st, σ) = Rn (d) Q (218, 821, [l0, l1, l2, l3], vI 1 :: st, σ) := by rw [E_iconst i218_820, ci_1]
theorem i218_821 : ins 218 821 = some (.iadd, 1) := (congrArg (fun x : PTy => x.1.lookup 821) q218).trans rfl
theorem e218_821 {d : Nat} {Q : Option AV → St → Prop} {st : List AV} {σ : St} {l0 l1 l2 l3 : Option AV} {x y : Int32} : Rn (d) Q (218, 821, [l0, l1, l2, l3], vI y :: vI x :: st, σ) = Rn (d) Q (218, 822, [l0, l1, l2, l3], vI (x + y) :: st, σ) := E_iadd i218_821
theorem i218_822 : ins 218 822 = some (.iaload, 1) := (congrArg (fun x : PTy => x.1.lookup 822) q218).trans rfl
theorem e218_822 {d : Nat} {Q : Option AV → St → Prop} {st : List AV} {σ : St} {l0 l1 l2 l3 : Option AV} {i : Nat} {j : Int32} : Rn (d) Q (218, 822, [l0, l1, l2, l3], vI j :: vR (some (13, 1, i)) :: st, σ) = (∃ n, gL σ 13 0 i = some n ∧ i < gN σ 13 ∧ (0 ≤ j.toInt ∧ j.toInt < n) ∧ Rn (d) Q (218, 823, [l0, l1, l2, l3], vI (gA σ 13 0 i j.toNatClampNeg) :: st, σ)) := E_iaload1 i218_822 rfl
theorem i218_823 : ins 218 823 = some (.aload_n 0, 1) := (congrArg (fun x : PTy => x.1.lookup 823) q218).trans rfl
theorem e218_823 {d : Nat} {Q : Option AV → St → Prop} {st : List AV} {σ : St} {l1 l2 l3 : Option AV} {x : Option (Nat × Nat × Nat)} : Rn (d) Q (218, 823, [some (vR x), l1, l2, l3], st, σ) = Rn (d) Q (218, 824, [some (vR x), l1, l2, l3], vR x :: st, σ) := E_aload_n i218_823 rfl
theorem i218_824 : ins 218 824 = some (.iload_n 3, 1) := (congrArg (fun x : PTy => x.1.lookup 824) q218).trans rfl
theorem e218_824 {d : Nat} {Q : Option AV → St → Prop} {st : List AV} {σ : St} {l0 l1 l2 : Option AV} {x : Int32} : Rn (d) Q (218, 824, [l0, l1, l2, some (vI x)], st, σ) = Rn (d) Q (218, 825, [l0, l1, l2, some (vI x)], vI x :: st, σ) := E_iload_n i218_824 rfl
theorem i218_825 : ins 218 825 = some (.iconst 2, 1) := (congrArg (fun x : PTy => x.1.lookup 825) q218).trans rfl
theorem e218_825 {d : Nat} {Q : Option AV → St → Prop} {st : List AV} {σ : St} {l0 l1 l2 l3 : Option AV} : Rn (d) Q (218, 825, [l0, l1, l2, l3], st, σ) = Rn (d) Q (218, 826, [l0, l1, l2, l3], vI 2 :: st, σ) := by rw [E_iconst i218_825, ci_2]
theorem i218_826 : ins 218 826 = some (.iadd, 1) := (congrArg (fun x : PTy => x.1.lookup 826) q218).trans rfl
theorem e218_826 {d : Nat} {Q : Option AV → St → Prop} {st : List AV} {σ : St} {l0 l1 l2 l3 : Option AV} {x y : Int32} : Rn (d) Q (218, 826, [l0, l1, l2, l3], vI y :: vI x :: st, σ) = Rn (d) Q (218, 827, [l0, l1, l2, l3], vI (x + y) :: st, σ) := E_iadd i218_826
theorem i218_827 : ins 218 827 = some (.iaload, 1) := (congrArg (fun x : PTy => x.1.lookup 827) q218).trans rfl
theorem e218_827 {d : Nat} {Q : Option AV → St → Prop} {st : List AV} {σ : St} {l0 l1 l2 l3 : Option AV} {i : Nat} {j : Int32} : Rn (d) Q (218, 827, [l0, l1, l2, l3], vI j :: vR (some (13, 1, i)) :: st, σ) = (∃ n, gL σ 13 0 i = some n ∧ i < gN σ 13 ∧ (0 ≤ j.toInt ∧ j.toInt < n) ∧ Rn (d) Q (218, 828, [l0, l1, l2, l3], vI (gA σ 13 0 i j.toNatClampNeg) :: st, σ)) := E_iaload1 i218_827 rfl
theorem i218_828 : ins 218 828 = some (.aload_n 0, 1) := (congrArg (fun x : PTy => x.1.lookup 828) q218).trans rfl
theorem e218_828 {d : Nat} {Q : Option AV → St → Prop} {st : List AV} {σ : St} {l1 l2 l3 : Option AV} {x : Option (Nat × Nat × Nat)} : Rn (d) Q (218, 828, [some (vR x), l1, l2, l3], st, σ) = Rn (d) Q (218, 829, [some (vR x), l1, l2, l3], vR x :: st, σ) := E_aload_n i218_828 rfl
theorem i218_829 : ins 218 829 = some (.iload_n 3, 1) := (congrArg (fun x : PTy => x.1.lookup 829) q218).trans rfl
theorem e218_829 {d : Nat} {Q : Option AV → St → Prop} {st : List AV} {σ : St} {l0 l1 l2 : Option AV} {x : Int32} : Rn (d) Q (218, 829, [l0, l1, l2, some (vI x)], st, σ) = Rn (d) Q (218, 830, [l0, l1, l2, some (vI x)], vI x :: st, σ) := E_iload_n i218_829 rfl
theorem i218_830 : ins 218 830 = some (.iconst 3, 1) := (congrArg (fun x : PTy => x.1.lookup 830) q218).trans rfl
theorem e218_830 {d : Nat} {Q : Option AV → St → Prop} {st : List AV} {σ : St} {l0 l1 l2 l3 : Option AV} : Rn (d) Q (218, 830, [l0, l1, l2, l3], st, σ) = Rn (d) Q (218, 831, [l0, l1, l2, l3], vI 3 :: st, σ) := by rw [E_iconst i218_830, ci_3]
theorem i218_831 : ins 218 831 = some (.iadd, 1) := (congrArg (fun x : PTy => x.1.lookup 831) q218).trans rfl
theorem e218_831 {d : Nat} {Q : Option AV → St → Prop} {st : List AV} {σ : St} {l0 l1 l2 l3 : Option AV} {x y : Int32} : Rn (d) Q (218, 831, [l0, l1, l2, l3], vI y :: vI x :: st, σ) = Rn (d) Q (218, 832, [l0, l1, l2, l3], vI (x + y) :: st, σ) := E_iadd i218_831
theorem i218_832 : ins 218 832 = some (.iaload, 1) := (congrArg (fun x : PTy => x.1.lookup 832) q218).trans rfl
theorem e218_832 {d : Nat} {Q : Option AV → St → Prop} {st : List AV} {σ : St} {l0 l1 l2 l3 : Option AV} {i : Nat} {j : Int32} : Rn (d) Q (218, 832, [l0, l1, l2, l3], vI j :: vR (some (13, 1, i)) :: st, σ) = (∃ n, gL σ 13 0 i = some n ∧ i < gN σ 13 ∧ (0 ≤ j.toInt ∧ j.toInt < n) ∧ Rn (d) Q (218, 833, [l0, l1, l2, l3], vI (gA σ 13 0 i j.toNatClampNeg) :: st, σ)) := E_iaload1 i218_832 rfl
theorem i218_833 : ins 218 833 = some (.aload_n 0, 1) := (congrArg (fun x : PTy => x.1.lookup 833) q218).trans rfl
theorem e218_833 {d : Nat} {Q : Option AV → St → Prop} {st : List AV} {σ : St} {l1 l2 l3 : Option AV} {x : Option (Nat × Nat × Nat)} : Rn (d) Q (218, 833, [some (vR x), l1, l2, l3], st, σ) = Rn (d) Q (218, 834, [some (vR x), l1, l2, l3], vR x :: st, σ) := E_aload_n i218_833 rfl
theorem i218_834 : ins 218 834 = some (.iload_n 3, 1) := (congrArg (fun x : PTy => x.1.lookup 834) q218).trans rfl
theorem e218_834 {d : Nat} {Q : Option AV → St → Prop} {st : List AV} {σ : St} {l0 l1 l2 : Option AV} {x : Int32} : Rn (d) Q (218, 834, [l0, l1, l2, some (vI x)], st, σ) = Rn (d) Q (218, 835, [l0, l1, l2, some (vI x)], vI x :: st, σ) := E_iload_n i218_834 rfl
theorem i218_835 : ins 218 835 = some (.iconst 4, 1) := (congrArg (fun x : PTy => x.1.lookup 835) q218).trans rfl
theorem e218_835 {d : Nat} {Q : Option AV → St → Prop} {st : List AV} {σ : St} {l0 l1 l2 l3 : Option AV} : Rn (d) Q (218, 835, [l0, l1, l2, l3], st, σ) = Rn (d) Q (218, 836, [l0, l1, l2, l3], vI 4 :: st, σ) := by rw [E_iconst i218_835, ci_4]
theorem i218_836 : ins 218 836 = some (.iadd, 1) := (congrArg (fun x : PTy => x.1.lookup 836) q218).trans rfl
theorem e218_836 {d : Nat} {Q : Option AV → St → Prop} {st : List AV} {σ : St} {l0 l1 l2 l3 : Option AV} {x y : Int32} : Rn (d) Q (218, 836, [l0, l1, l2, l3], vI y :: vI x :: st, σ) = Rn (d) Q (218, 837, [l0, l1, l2, l3], vI (x + y) :: st, σ) := E_iadd i218_836
theorem i218_837 : ins 218 837 = some (.iaload, 1) := (congrArg (fun x : PTy => x.1.lookup 837) q218).trans rfl
theorem e218_837 {d : Nat} {Q : Option AV → St → Prop} {st : List AV} {σ : St} {l0 l1 l2 l3 : Option AV} {i : Nat} {j : Int32} : Rn (d) Q (218, 837, [l0, l1, l2, l3], vI j :: vR (some (13, 1, i)) :: st, σ) = (∃ n, gL σ 13 0 i = some n ∧ i < gN σ 13 ∧ (0 ≤ j.toInt ∧ j.toInt < n) ∧ Rn (d) Q (218, 838, [l0, l1, l2, l3], vI (gA σ 13 0 i j.toNatClampNeg) :: st, σ)) := E_iaload1 i218_837 rfl
theorem i218_838 : ins 218 838 = some (.aload_n 0, 1) := (congrArg (fun x : PTy => x.1.lookup 838) q218).trans rfl
theorem e218_838 {d : Nat} {Q : Option AV → St → Prop} {st : List AV} {σ : St} {l1 l2 l3 : Option AV} {x : Option (Nat × Nat × Nat)} : Rn (d) Q (218, 838, [some (vR x), l1, l2, l3], st, σ) = Rn (d) Q (218, 839, [some (vR x), l1, l2, l3], vR x :: st, σ) := E_aload_n i218_838 rfl
theorem i218_839 : ins 218 839 = some (.iload_n 3, 1) := (congrArg (fun x : PTy => x.1.lookup 839) q218).trans rfl
theorem e218_839 {d : Nat} {Q : Option AV → St → Prop} {st : List AV} {σ : St} {l0 l1 l2 : Option AV} {x : Int32} : Rn (d) Q (218, 839, [l0, l1, l2, some (vI x)], st, σ) = Rn (d) Q (218, 840, [l0, l1, l2, some (vI x)], vI x :: st, σ) := E_iload_n i218_839 rfl
theorem i218_840 : ins 218 840 = some (.iconst 5, 1) := (congrArg (fun x : PTy => x.1.lookup 840) q218).trans rfl
theorem e218_840 {d : Nat} {Q : Option AV → St → Prop} {st : List AV} {σ : St} {l0 l1 l2 l3 : Option AV} : Rn (d) Q (218, 840, [l0, l1, l2, l3], st, σ) = Rn (d) Q (218, 841, [l0, l1, l2, l3], vI 5 :: st, σ) := by rw [E_iconst i218_840, ci_5]
theorem i218_841 : ins 218 841 = some (.iadd, 1) := (congrArg (fun x : PTy => x.1.lookup 841) q218).trans rfl
theorem e218_841 {d : Nat} {Q : Option AV → St → Prop} {st : List AV} {σ : St} {l0 l1 l2 l3 : Option AV} {x y : Int32} : Rn (d) Q (218, 841, [l0, l1, l2, l3], vI y :: vI x :: st, σ) = Rn (d) Q (218, 842, [l0, l1, l2, l3], vI (x + y) :: st, σ) := E_iadd i218_841
theorem i218_842 : ins 218 842 = some (.iaload, 1) := (congrArg (fun x : PTy => x.1.lookup 842) q218).trans rfl
theorem e218_842 {d : Nat} {Q : Option AV → St → Prop} {st : List AV} {σ : St} {l0 l1 l2 l3 : Option AV} {i : Nat} {j : Int32} : Rn (d) Q (218, 842, [l0, l1, l2, l3], vI j :: vR (some (13, 1, i)) :: st, σ) = (∃ n, gL σ 13 0 i = some n ∧ i < gN σ 13 ∧ (0 ≤ j.toInt ∧ j.toInt < n) ∧ Rn (d) Q (218, 843, [l0, l1, l2, l3], vI (gA σ 13 0 i j.toNatClampNeg) :: st, σ)) := E_iaload1 i218_842 rfl
theorem i218_843 : ins 218 843 = some (.invokevirtual 79, 3) := (congrArg (fun x : PTy => x.1.lookup 843) q218).trans rfl
theorem e218_843 {d : Nat} {Q : Option AV → St → Prop} {st : List AV} {σ : St} {l0 l1 l2 l3 : Option AV} {i : Nat} {a1 : Int32} {a2 : Int32} {a3 : Int32} {a4 : Int32} {a5 : Int32} : Rn (d + 1) Q (218, 843, [l0, l1, l2, l3], vI a5 :: vI a4 :: vI a3 :: vI a2 :: vI a1 :: vR (some (12, 0, i)) :: st, σ) = (i < gN σ 12 ∧ catS st ≤ 8 ∧ Rn d (fun r σ' => Rn (d + 1) Q (218, 846, [l0, l1, l2, l3], r.toList ++ st, σ')) (177, 0, [some (vR (some (12, 0, i))), some (vI a1), some (vI a2), some (vI a3), some (vI a4), some (vI a5)], [], σ)) := E_invV (a := [vI a5, vI a4, vI a3, vI a2, vI a1]) i218_843 ((congrArg (fun z => mthQ z 79) o218).trans m13_79) o177 rfl (ek177 i a1 a2 a3 a4 a5) (en177 i a1 a2 a3 a4 a5)
theorem i218_846 : ins 218 846 = some (.if_icmp .eq 966, 3) := (congrArg (fun x : PTy => x.1.lookup 846) q218).trans rfl
theorem e218_846 {d : Nat} {Q : Option AV → St → Prop} {st : List AV} {σ : St} {l0 l1 l2 l3 : Option AV} {x y : Int32} : Rn (d) Q (218, 846, [l0, l1, l2, l3], vI y :: vI x :: st, σ) = (if x = y then Rn (d) Q (218, 1812, [l0, l1, l2, l3], st, σ) else Rn (d) Q (218, 849, [l0, l1, l2, l3], st, σ)) := E_icmp_eq 1812 i218_846 (by decide)
theorem i218_849 : ins 218 849 = some (.iconst 0, 1) := (congrArg (fun x : PTy => x.1.lookup 849) q218).trans rfl
theorem e218_849 {d : Nat} {Q : Option AV → St → Prop} {st : List AV} {σ : St} {l0 l1 l2 l3 : Option AV} : Rn (d) Q (218, 849, [l0, l1, l2, l3], st, σ) = Rn (d) Q (218, 850, [l0, l1, l2, l3], vI 0 :: st, σ) := by rw [E_iconst i218_849, ci_0]
theorem i218_850 : ins 218 850 = some (.ireturn, 1) := (congrArg (fun x : PTy => x.1.lookup 850) q218).trans rfl
theorem e218_850 {d : Nat} {Q : Option AV → St → Prop} {st : List AV} {σ : St} {l0 l1 l2 l3 : Option AV} {x : Int32} : Rn (d) Q (218, 850, [l0, l1, l2, l3], [vI x], σ) = ((x = 0 ∨ x = 1) ∧ Q (some (vI x)) σ) := E_iretZ (st := []) i218_850 r218
theorem i218_851 : ins 218 851 = some (.aload_n 1, 1) := (congrArg (fun x : PTy => x.1.lookup 851) q218).trans rfl
theorem e218_851 {d : Nat} {Q : Option AV → St → Prop} {st : List AV} {σ : St} {l0 l2 l3 : Option AV} {x : Option (Nat × Nat × Nat)} : Rn (d) Q (218, 851, [l0, some (vR x), l2, l3], st, σ) = Rn (d) Q (218, 852, [l0, some (vR x), l2, l3], vR x :: st, σ) := E_aload_n i218_851 rfl
theorem i218_852 : ins 218 852 = some (.aload_n 0, 1) := (congrArg (fun x : PTy => x.1.lookup 852) q218).trans rfl
theorem e218_852 {d : Nat} {Q : Option AV → St → Prop} {st : List AV} {σ : St} {l1 l2 l3 : Option AV} {x : Option (Nat × Nat × Nat)} : Rn (d) Q (218, 852, [some (vR x), l1, l2, l3], st, σ) = Rn (d) Q (218, 853, [some (vR x), l1, l2, l3], vR x :: st, σ) := E_aload_n i218_852 rfl
theorem i218_853 : ins 218 853 = some (.iload_n 3, 1) := (congrArg (fun x : PTy => x.1.lookup 853) q218).trans rfl
theorem e218_853 {d : Nat} {Q : Option AV → St → Prop} {st : List AV} {σ : St} {l0 l1 l2 : Option AV} {x : Int32} : Rn (d) Q (218, 853, [l0, l1, l2, some (vI x)], st, σ) = Rn (d) Q (218, 854, [l0, l1, l2, some (vI x)], vI x :: st, σ) := E_iload_n i218_853 rfl
theorem i218_854 : ins 218 854 = some (.iconst 1, 1) := (congrArg (fun x : PTy => x.1.lookup 854) q218).trans rfl
theorem e218_854 {d : Nat} {Q : Option AV → St → Prop} {st : List AV} {σ : St} {l0 l1 l2 l3 : Option AV} : Rn (d) Q (218, 854, [l0, l1, l2, l3], st, σ) = Rn (d) Q (218, 855, [l0, l1, l2, l3], vI 1 :: st, σ) := by rw [E_iconst i218_854, ci_1]
theorem i218_855 : ins 218 855 = some (.iadd, 1) := (congrArg (fun x : PTy => x.1.lookup 855) q218).trans rfl
theorem e218_855 {d : Nat} {Q : Option AV → St → Prop} {st : List AV} {σ : St} {l0 l1 l2 l3 : Option AV} {x y : Int32} : Rn (d) Q (218, 855, [l0, l1, l2, l3], vI y :: vI x :: st, σ) = Rn (d) Q (218, 856, [l0, l1, l2, l3], vI (x + y) :: st, σ) := E_iadd i218_855
theorem i218_856 : ins 218 856 = some (.iaload, 1) := (congrArg (fun x : PTy => x.1.lookup 856) q218).trans rfl
theorem e218_856 {d : Nat} {Q : Option AV → St → Prop} {st : List AV} {σ : St} {l0 l1 l2 l3 : Option AV} {i : Nat} {j : Int32} : Rn (d) Q (218, 856, [l0, l1, l2, l3], vI j :: vR (some (13, 1, i)) :: st, σ) = (∃ n, gL σ 13 0 i = some n ∧ i < gN σ 13 ∧ (0 ≤ j.toInt ∧ j.toInt < n) ∧ Rn (d) Q (218, 857, [l0, l1, l2, l3], vI (gA σ 13 0 i j.toNatClampNeg) :: st, σ)) := E_iaload1 i218_856 rfl
theorem i218_857 : ins 218 857 = some (.aload_n 0, 1) := (congrArg (fun x : PTy => x.1.lookup 857) q218).trans rfl
theorem e218_857 {d : Nat} {Q : Option AV → St → Prop} {st : List AV} {σ : St} {l1 l2 l3 : Option AV} {x : Option (Nat × Nat × Nat)} : Rn (d) Q (218, 857, [some (vR x), l1, l2, l3], st, σ) = Rn (d) Q (218, 858, [some (vR x), l1, l2, l3], vR x :: st, σ) := E_aload_n i218_857 rfl
theorem i218_858 : ins 218 858 = some (.iload_n 3, 1) := (congrArg (fun x : PTy => x.1.lookup 858) q218).trans rfl
theorem e218_858 {d : Nat} {Q : Option AV → St → Prop} {st : List AV} {σ : St} {l0 l1 l2 : Option AV} {x : Int32} : Rn (d) Q (218, 858, [l0, l1, l2, some (vI x)], st, σ) = Rn (d) Q (218, 859, [l0, l1, l2, some (vI x)], vI x :: st, σ) := E_iload_n i218_858 rfl
theorem i218_859 : ins 218 859 = some (.iconst 2, 1) := (congrArg (fun x : PTy => x.1.lookup 859) q218).trans rfl
theorem e218_859 {d : Nat} {Q : Option AV → St → Prop} {st : List AV} {σ : St} {l0 l1 l2 l3 : Option AV} : Rn (d) Q (218, 859, [l0, l1, l2, l3], st, σ) = Rn (d) Q (218, 860, [l0, l1, l2, l3], vI 2 :: st, σ) := by rw [E_iconst i218_859, ci_2]
theorem i218_860 : ins 218 860 = some (.iadd, 1) := (congrArg (fun x : PTy => x.1.lookup 860) q218).trans rfl
theorem e218_860 {d : Nat} {Q : Option AV → St → Prop} {st : List AV} {σ : St} {l0 l1 l2 l3 : Option AV} {x y : Int32} : Rn (d) Q (218, 860, [l0, l1, l2, l3], vI y :: vI x :: st, σ) = Rn (d) Q (218, 861, [l0, l1, l2, l3], vI (x + y) :: st, σ) := E_iadd i218_860
theorem i218_861 : ins 218 861 = some (.iaload, 1) := (congrArg (fun x : PTy => x.1.lookup 861) q218).trans rfl
theorem e218_861 {d : Nat} {Q : Option AV → St → Prop} {st : List AV} {σ : St} {l0 l1 l2 l3 : Option AV} {i : Nat} {j : Int32} : Rn (d) Q (218, 861, [l0, l1, l2, l3], vI j :: vR (some (13, 1, i)) :: st, σ) = (∃ n, gL σ 13 0 i = some n ∧ i < gN σ 13 ∧ (0 ≤ j.toInt ∧ j.toInt < n) ∧ Rn (d) Q (218, 862, [l0, l1, l2, l3], vI (gA σ 13 0 i j.toNatClampNeg) :: st, σ)) := E_iaload1 i218_861 rfl
theorem i218_862 : ins 218 862 = some (.invokevirtual 80, 3) := (congrArg (fun x : PTy => x.1.lookup 862) q218).trans rfl
theorem e218_862 {d : Nat} {Q : Option AV → St → Prop} {st : List AV} {σ : St} {l0 l1 l2 l3 : Option AV} {i : Nat} {a1 : Int32} {a2 : Int32} : Rn (d + 1) Q (218, 862, [l0, l1, l2, l3], vI a2 :: vI a1 :: vR (some (11, 0, i)) :: st, σ) = (i < gN σ 11 ∧ catS st ≤ 8 ∧ Rn d (fun r σ' => Rn (d + 1) Q (218, 865, [l0, l1, l2, l3], r.toList ++ st, σ')) (81, 0, [some (vR (some (11, 0, i))), some (vI a1), some (vI a2), none, none], [], σ)) := E_invV (a := [vI a2, vI a1]) i218_862 ((congrArg (fun z => mthQ z 80) o218).trans m13_80) o81 rfl (ek81 i a1 a2) (en81 i a1 a2)
theorem i218_865 : ins 218 865 = some (.aload_n 2, 1) := (congrArg (fun x : PTy => x.1.lookup 865) q218).trans rfl
theorem e218_865 {d : Nat} {Q : Option AV → St → Prop} {st : List AV} {σ : St} {l0 l1 l3 : Option AV} {x : Option (Nat × Nat × Nat)} : Rn (d) Q (218, 865, [l0, l1, some (vR x), l3], st, σ) = Rn (d) Q (218, 866, [l0, l1, some (vR x), l3], vR x :: st, σ) := E_aload_n i218_865 rfl
theorem i218_866 : ins 218 866 = some (.aload_n 0, 1) := (congrArg (fun x : PTy => x.1.lookup 866) q218).trans rfl
theorem e218_866 {d : Nat} {Q : Option AV → St → Prop} {st : List AV} {σ : St} {l1 l2 l3 : Option AV} {x : Option (Nat × Nat × Nat)} : Rn (d) Q (218, 866, [some (vR x), l1, l2, l3], st, σ) = Rn (d) Q (218, 867, [some (vR x), l1, l2, l3], vR x :: st, σ) := E_aload_n i218_866 rfl
theorem i218_867 : ins 218 867 = some (.iload_n 3, 1) := (congrArg (fun x : PTy => x.1.lookup 867) q218).trans rfl
theorem e218_867 {d : Nat} {Q : Option AV → St → Prop} {st : List AV} {σ : St} {l0 l1 l2 : Option AV} {x : Int32} : Rn (d) Q (218, 867, [l0, l1, l2, some (vI x)], st, σ) = Rn (d) Q (218, 868, [l0, l1, l2, some (vI x)], vI x :: st, σ) := E_iload_n i218_867 rfl
theorem i218_868 : ins 218 868 = some (.iconst 1, 1) := (congrArg (fun x : PTy => x.1.lookup 868) q218).trans rfl
theorem e218_868 {d : Nat} {Q : Option AV → St → Prop} {st : List AV} {σ : St} {l0 l1 l2 l3 : Option AV} : Rn (d) Q (218, 868, [l0, l1, l2, l3], st, σ) = Rn (d) Q (218, 869, [l0, l1, l2, l3], vI 1 :: st, σ) := by rw [E_iconst i218_868, ci_1]
theorem i218_869 : ins 218 869 = some (.iadd, 1) := (congrArg (fun x : PTy => x.1.lookup 869) q218).trans rfl
theorem e218_869 {d : Nat} {Q : Option AV → St → Prop} {st : List AV} {σ : St} {l0 l1 l2 l3 : Option AV} {x y : Int32} : Rn (d) Q (218, 869, [l0, l1, l2, l3], vI y :: vI x :: st, σ) = Rn (d) Q (218, 870, [l0, l1, l2, l3], vI (x + y) :: st, σ) := E_iadd i218_869
theorem i218_870 : ins 218 870 = some (.iaload, 1) := (congrArg (fun x : PTy => x.1.lookup 870) q218).trans rfl
theorem e218_870 {d : Nat} {Q : Option AV → St → Prop} {st : List AV} {σ : St} {l0 l1 l2 l3 : Option AV} {i : Nat} {j : Int32} : Rn (d) Q (218, 870, [l0, l1, l2, l3], vI j :: vR (some (13, 1, i)) :: st, σ) = (∃ n, gL σ 13 0 i = some n ∧ i < gN σ 13 ∧ (0 ≤ j.toInt ∧ j.toInt < n) ∧ Rn (d) Q (218, 871, [l0, l1, l2, l3], vI (gA σ 13 0 i j.toNatClampNeg) :: st, σ)) := E_iaload1 i218_870 rfl
theorem i218_871 : ins 218 871 = some (.aload_n 0, 1) := (congrArg (fun x : PTy => x.1.lookup 871) q218).trans rfl
theorem e218_871 {d : Nat} {Q : Option AV → St → Prop} {st : List AV} {σ : St} {l1 l2 l3 : Option AV} {x : Option (Nat × Nat × Nat)} : Rn (d) Q (218, 871, [some (vR x), l1, l2, l3], st, σ) = Rn (d) Q (218, 872, [some (vR x), l1, l2, l3], vR x :: st, σ) := E_aload_n i218_871 rfl
theorem i218_872 : ins 218 872 = some (.iload_n 3, 1) := (congrArg (fun x : PTy => x.1.lookup 872) q218).trans rfl
theorem e218_872 {d : Nat} {Q : Option AV → St → Prop} {st : List AV} {σ : St} {l0 l1 l2 : Option AV} {x : Int32} : Rn (d) Q (218, 872, [l0, l1, l2, some (vI x)], st, σ) = Rn (d) Q (218, 873, [l0, l1, l2, some (vI x)], vI x :: st, σ) := E_iload_n i218_872 rfl
theorem i218_873 : ins 218 873 = some (.iconst 2, 1) := (congrArg (fun x : PTy => x.1.lookup 873) q218).trans rfl
theorem e218_873 {d : Nat} {Q : Option AV → St → Prop} {st : List AV} {σ : St} {l0 l1 l2 l3 : Option AV} : Rn (d) Q (218, 873, [l0, l1, l2, l3], st, σ) = Rn (d) Q (218, 874, [l0, l1, l2, l3], vI 2 :: st, σ) := by rw [E_iconst i218_873, ci_2]
theorem i218_874 : ins 218 874 = some (.iadd, 1) := (congrArg (fun x : PTy => x.1.lookup 874) q218).trans rfl
theorem e218_874 {d : Nat} {Q : Option AV → St → Prop} {st : List AV} {σ : St} {l0 l1 l2 l3 : Option AV} {x y : Int32} : Rn (d) Q (218, 874, [l0, l1, l2, l3], vI y :: vI x :: st, σ) = Rn (d) Q (218, 875, [l0, l1, l2, l3], vI (x + y) :: st, σ) := E_iadd i218_874
theorem i218_875 : ins 218 875 = some (.iaload, 1) := (congrArg (fun x : PTy => x.1.lookup 875) q218).trans rfl
theorem e218_875 {d : Nat} {Q : Option AV → St → Prop} {st : List AV} {σ : St} {l0 l1 l2 l3 : Option AV} {i : Nat} {j : Int32} : Rn (d) Q (218, 875, [l0, l1, l2, l3], vI j :: vR (some (13, 1, i)) :: st, σ) = (∃ n, gL σ 13 0 i = some n ∧ i < gN σ 13 ∧ (0 ≤ j.toInt ∧ j.toInt < n) ∧ Rn (d) Q (218, 876, [l0, l1, l2, l3], vI (gA σ 13 0 i j.toNatClampNeg) :: st, σ)) := E_iaload1 i218_875 rfl
theorem i218_876 : ins 218 876 = some (.invokevirtual 83, 3) := (congrArg (fun x : PTy => x.1.lookup 876) q218).trans rfl
theorem e218_876 {d : Nat} {Q : Option AV → St → Prop} {st : List AV} {σ : St} {l0 l1 l2 l3 : Option AV} {i : Nat} {a1 : Int32} {a2 : Int32} : Rn (d + 1) Q (218, 876, [l0, l1, l2, l3], vI a2 :: vI a1 :: vR (some (12, 0, i)) :: st, σ) = (i < gN σ 12 ∧ catS st ≤ 8 ∧ Rn d (fun r σ' => Rn (d + 1) Q (218, 879, [l0, l1, l2, l3], r.toList ++ st, σ')) (178, 0, [some (vR (some (12, 0, i))), some (vI a1), some (vI a2)], [], σ)) := E_invV (a := [vI a2, vI a1]) i218_876 ((congrArg (fun z => mthQ z 83) o218).trans m13_83) o178 rfl (ek178 i a1 a2) (en178 i a1 a2)
theorem i218_879 : ins 218 879 = some (.if_icmp .eq 933, 3) := (congrArg (fun x : PTy => x.1.lookup 879) q218).trans rfl
theorem e218_879 {d : Nat} {Q : Option AV → St → Prop} {st : List AV} {σ : St} {l0 l1 l2 l3 : Option AV} {x y : Int32} : Rn (d) Q (218, 879, [l0, l1, l2, l3], vI y :: vI x :: st, σ) = (if x = y then Rn (d) Q (218, 1812, [l0, l1, l2, l3], st, σ) else Rn (d) Q (218, 882, [l0, l1, l2, l3], st, σ)) := E_icmp_eq 1812 i218_879 (by decide)
theorem i218_882 : ins 218 882 = some (.iconst 0, 1) := (congrArg (fun x : PTy => x.1.lookup 882) q218).trans rfl
theorem e218_882 {d : Nat} {Q : Option AV → St → Prop} {st : List AV} {σ : St} {l0 l1 l2 l3 : Option AV} : Rn (d) Q (218, 882, [l0, l1, l2, l3], st, σ) = Rn (d) Q (218, 883, [l0, l1, l2, l3], vI 0 :: st, σ) := by rw [E_iconst i218_882, ci_0]
theorem i218_883 : ins 218 883 = some (.ireturn, 1) := (congrArg (fun x : PTy => x.1.lookup 883) q218).trans rfl
theorem e218_883 {d : Nat} {Q : Option AV → St → Prop} {st : List AV} {σ : St} {l0 l1 l2 l3 : Option AV} {x : Int32} : Rn (d) Q (218, 883, [l0, l1, l2, l3], [vI x], σ) = ((x = 0 ∨ x = 1) ∧ Q (some (vI x)) σ) := E_iretZ (st := []) i218_883 r218
theorem i218_884 : ins 218 884 = some (.aload_n 1, 1) := (congrArg (fun x : PTy => x.1.lookup 884) q218).trans rfl
theorem e218_884 {d : Nat} {Q : Option AV → St → Prop} {st : List AV} {σ : St} {l0 l2 l3 : Option AV} {x : Option (Nat × Nat × Nat)} : Rn (d) Q (218, 884, [l0, some (vR x), l2, l3], st, σ) = Rn (d) Q (218, 885, [l0, some (vR x), l2, l3], vR x :: st, σ) := E_aload_n i218_884 rfl
theorem i218_885 : ins 218 885 = some (.aload_n 0, 1) := (congrArg (fun x : PTy => x.1.lookup 885) q218).trans rfl
theorem e218_885 {d : Nat} {Q : Option AV → St → Prop} {st : List AV} {σ : St} {l1 l2 l3 : Option AV} {x : Option (Nat × Nat × Nat)} : Rn (d) Q (218, 885, [some (vR x), l1, l2, l3], st, σ) = Rn (d) Q (218, 886, [some (vR x), l1, l2, l3], vR x :: st, σ) := E_aload_n i218_885 rfl
theorem i218_886 : ins 218 886 = some (.iload_n 3, 1) := (congrArg (fun x : PTy => x.1.lookup 886) q218).trans rfl
theorem e218_886 {d : Nat} {Q : Option AV → St → Prop} {st : List AV} {σ : St} {l0 l1 l2 : Option AV} {x : Int32} : Rn (d) Q (218, 886, [l0, l1, l2, some (vI x)], st, σ) = Rn (d) Q (218, 887, [l0, l1, l2, some (vI x)], vI x :: st, σ) := E_iload_n i218_886 rfl
theorem i218_887 : ins 218 887 = some (.iconst 1, 1) := (congrArg (fun x : PTy => x.1.lookup 887) q218).trans rfl
theorem e218_887 {d : Nat} {Q : Option AV → St → Prop} {st : List AV} {σ : St} {l0 l1 l2 l3 : Option AV} : Rn (d) Q (218, 887, [l0, l1, l2, l3], st, σ) = Rn (d) Q (218, 888, [l0, l1, l2, l3], vI 1 :: st, σ) := by rw [E_iconst i218_887, ci_1]
theorem i218_888 : ins 218 888 = some (.iadd, 1) := (congrArg (fun x : PTy => x.1.lookup 888) q218).trans rfl
theorem e218_888 {d : Nat} {Q : Option AV → St → Prop} {st : List AV} {σ : St} {l0 l1 l2 l3 : Option AV} {x y : Int32} : Rn (d) Q (218, 888, [l0, l1, l2, l3], vI y :: vI x :: st, σ) = Rn (d) Q (218, 889, [l0, l1, l2, l3], vI (x + y) :: st, σ) := E_iadd i218_888
theorem i218_889 : ins 218 889 = some (.iaload, 1) := (congrArg (fun x : PTy => x.1.lookup 889) q218).trans rfl
theorem e218_889 {d : Nat} {Q : Option AV → St → Prop} {st : List AV} {σ : St} {l0 l1 l2 l3 : Option AV} {i : Nat} {j : Int32} : Rn (d) Q (218, 889, [l0, l1, l2, l3], vI j :: vR (some (13, 1, i)) :: st, σ) = (∃ n, gL σ 13 0 i = some n ∧ i < gN σ 13 ∧ (0 ≤ j.toInt ∧ j.toInt < n) ∧ Rn (d) Q (218, 890, [l0, l1, l2, l3], vI (gA σ 13 0 i j.toNatClampNeg) :: st, σ)) := E_iaload1 i218_889 rfl
theorem i218_890 : ins 218 890 = some (.aload_n 0, 1) := (congrArg (fun x : PTy => x.1.lookup 890) q218).trans rfl
theorem e218_890 {d : Nat} {Q : Option AV → St → Prop} {st : List AV} {σ : St} {l1 l2 l3 : Option AV} {x : Option (Nat × Nat × Nat)} : Rn (d) Q (218, 890, [some (vR x), l1, l2, l3], st, σ) = Rn (d) Q (218, 891, [some (vR x), l1, l2, l3], vR x :: st, σ) := E_aload_n i218_890 rfl
theorem i218_891 : ins 218 891 = some (.iload_n 3, 1) := (congrArg (fun x : PTy => x.1.lookup 891) q218).trans rfl
theorem e218_891 {d : Nat} {Q : Option AV → St → Prop} {st : List AV} {σ : St} {l0 l1 l2 : Option AV} {x : Int32} : Rn (d) Q (218, 891, [l0, l1, l2, some (vI x)], st, σ) = Rn (d) Q (218, 892, [l0, l1, l2, some (vI x)], vI x :: st, σ) := E_iload_n i218_891 rfl
theorem i218_892 : ins 218 892 = some (.iconst 2, 1) := (congrArg (fun x : PTy => x.1.lookup 892) q218).trans rfl
theorem e218_892 {d : Nat} {Q : Option AV → St → Prop} {st : List AV} {σ : St} {l0 l1 l2 l3 : Option AV} : Rn (d) Q (218, 892, [l0, l1, l2, l3], st, σ) = Rn (d) Q (218, 893, [l0, l1, l2, l3], vI 2 :: st, σ) := by rw [E_iconst i218_892, ci_2]
theorem i218_893 : ins 218 893 = some (.iadd, 1) := (congrArg (fun x : PTy => x.1.lookup 893) q218).trans rfl
theorem e218_893 {d : Nat} {Q : Option AV → St → Prop} {st : List AV} {σ : St} {l0 l1 l2 l3 : Option AV} {x y : Int32} : Rn (d) Q (218, 893, [l0, l1, l2, l3], vI y :: vI x :: st, σ) = Rn (d) Q (218, 894, [l0, l1, l2, l3], vI (x + y) :: st, σ) := E_iadd i218_893
theorem i218_894 : ins 218 894 = some (.iaload, 1) := (congrArg (fun x : PTy => x.1.lookup 894) q218).trans rfl
theorem e218_894 {d : Nat} {Q : Option AV → St → Prop} {st : List AV} {σ : St} {l0 l1 l2 l3 : Option AV} {i : Nat} {j : Int32} : Rn (d) Q (218, 894, [l0, l1, l2, l3], vI j :: vR (some (13, 1, i)) :: st, σ) = (∃ n, gL σ 13 0 i = some n ∧ i < gN σ 13 ∧ (0 ≤ j.toInt ∧ j.toInt < n) ∧ Rn (d) Q (218, 895, [l0, l1, l2, l3], vI (gA σ 13 0 i j.toNatClampNeg) :: st, σ)) := E_iaload1 i218_894 rfl
theorem i218_895 : ins 218 895 = some (.aload_n 0, 1) := (congrArg (fun x : PTy => x.1.lookup 895) q218).trans rfl
theorem e218_895 {d : Nat} {Q : Option AV → St → Prop} {st : List AV} {σ : St} {l1 l2 l3 : Option AV} {x : Option (Nat × Nat × Nat)} : Rn (d) Q (218, 895, [some (vR x), l1, l2, l3], st, σ) = Rn (d) Q (218, 896, [some (vR x), l1, l2, l3], vR x :: st, σ) := E_aload_n i218_895 rfl
theorem i218_896 : ins 218 896 = some (.iload_n 3, 1) := (congrArg (fun x : PTy => x.1.lookup 896) q218).trans rfl
theorem e218_896 {d : Nat} {Q : Option AV → St → Prop} {st : List AV} {σ : St} {l0 l1 l2 : Option AV} {x : Int32} : Rn (d) Q (218, 896, [l0, l1, l2, some (vI x)], st, σ) = Rn (d) Q (218, 897, [l0, l1, l2, some (vI x)], vI x :: st, σ) := E_iload_n i218_896 rfl
theorem i218_897 : ins 218 897 = some (.iconst 3, 1) := (congrArg (fun x : PTy => x.1.lookup 897) q218).trans rfl
theorem e218_897 {d : Nat} {Q : Option AV → St → Prop} {st : List AV} {σ : St} {l0 l1 l2 l3 : Option AV} : Rn (d) Q (218, 897, [l0, l1, l2, l3], st, σ) = Rn (d) Q (218, 898, [l0, l1, l2, l3], vI 3 :: st, σ) := by rw [E_iconst i218_897, ci_3]
theorem i218_898 : ins 218 898 = some (.iadd, 1) := (congrArg (fun x : PTy => x.1.lookup 898) q218).trans rfl
theorem e218_898 {d : Nat} {Q : Option AV → St → Prop} {st : List AV} {σ : St} {l0 l1 l2 l3 : Option AV} {x y : Int32} : Rn (d) Q (218, 898, [l0, l1, l2, l3], vI y :: vI x :: st, σ) = Rn (d) Q (218, 899, [l0, l1, l2, l3], vI (x + y) :: st, σ) := E_iadd i218_898
theorem i218_899 : ins 218 899 = some (.iaload, 1) := (congrArg (fun x : PTy => x.1.lookup 899) q218).trans rfl
theorem e218_899 {d : Nat} {Q : Option AV → St → Prop} {st : List AV} {σ : St} {l0 l1 l2 l3 : Option AV} {i : Nat} {j : Int32} : Rn (d) Q (218, 899, [l0, l1, l2, l3], vI j :: vR (some (13, 1, i)) :: st, σ) = (∃ n, gL σ 13 0 i = some n ∧ i < gN σ 13 ∧ (0 ≤ j.toInt ∧ j.toInt < n) ∧ Rn (d) Q (218, 900, [l0, l1, l2, l3], vI (gA σ 13 0 i j.toNatClampNeg) :: st, σ)) := E_iaload1 i218_899 rfl
theorem i218_900 : ins 218 900 = some (.aload_n 0, 1) := (congrArg (fun x : PTy => x.1.lookup 900) q218).trans rfl
theorem e218_900 {d : Nat} {Q : Option AV → St → Prop} {st : List AV} {σ : St} {l1 l2 l3 : Option AV} {x : Option (Nat × Nat × Nat)} : Rn (d) Q (218, 900, [some (vR x), l1, l2, l3], st, σ) = Rn (d) Q (218, 901, [some (vR x), l1, l2, l3], vR x :: st, σ) := E_aload_n i218_900 rfl
theorem i218_901 : ins 218 901 = some (.iload_n 3, 1) := (congrArg (fun x : PTy => x.1.lookup 901) q218).trans rfl
theorem e218_901 {d : Nat} {Q : Option AV → St → Prop} {st : List AV} {σ : St} {l0 l1 l2 : Option AV} {x : Int32} : Rn (d) Q (218, 901, [l0, l1, l2, some (vI x)], st, σ) = Rn (d) Q (218, 902, [l0, l1, l2, some (vI x)], vI x :: st, σ) := E_iload_n i218_901 rfl
theorem i218_902 : ins 218 902 = some (.iconst 4, 1) := (congrArg (fun x : PTy => x.1.lookup 902) q218).trans rfl
theorem e218_902 {d : Nat} {Q : Option AV → St → Prop} {st : List AV} {σ : St} {l0 l1 l2 l3 : Option AV} : Rn (d) Q (218, 902, [l0, l1, l2, l3], st, σ) = Rn (d) Q (218, 903, [l0, l1, l2, l3], vI 4 :: st, σ) := by rw [E_iconst i218_902, ci_4]
theorem i218_903 : ins 218 903 = some (.iadd, 1) := (congrArg (fun x : PTy => x.1.lookup 903) q218).trans rfl
theorem e218_903 {d : Nat} {Q : Option AV → St → Prop} {st : List AV} {σ : St} {l0 l1 l2 l3 : Option AV} {x y : Int32} : Rn (d) Q (218, 903, [l0, l1, l2, l3], vI y :: vI x :: st, σ) = Rn (d) Q (218, 904, [l0, l1, l2, l3], vI (x + y) :: st, σ) := E_iadd i218_903
theorem i218_904 : ins 218 904 = some (.iaload, 1) := (congrArg (fun x : PTy => x.1.lookup 904) q218).trans rfl
theorem e218_904 {d : Nat} {Q : Option AV → St → Prop} {st : List AV} {σ : St} {l0 l1 l2 l3 : Option AV} {i : Nat} {j : Int32} : Rn (d) Q (218, 904, [l0, l1, l2, l3], vI j :: vR (some (13, 1, i)) :: st, σ) = (∃ n, gL σ 13 0 i = some n ∧ i < gN σ 13 ∧ (0 ≤ j.toInt ∧ j.toInt < n) ∧ Rn (d) Q (218, 905, [l0, l1, l2, l3], vI (gA σ 13 0 i j.toNatClampNeg) :: st, σ)) := E_iaload1 i218_904 rfl
theorem i218_905 : ins 218 905 = some (.aload_n 0, 1) := (congrArg (fun x : PTy => x.1.lookup 905) q218).trans rfl
theorem e218_905 {d : Nat} {Q : Option AV → St → Prop} {st : List AV} {σ : St} {l1 l2 l3 : Option AV} {x : Option (Nat × Nat × Nat)} : Rn (d) Q (218, 905, [some (vR x), l1, l2, l3], st, σ) = Rn (d) Q (218, 906, [some (vR x), l1, l2, l3], vR x :: st, σ) := E_aload_n i218_905 rfl
theorem i218_906 : ins 218 906 = some (.iload_n 3, 1) := (congrArg (fun x : PTy => x.1.lookup 906) q218).trans rfl
theorem e218_906 {d : Nat} {Q : Option AV → St → Prop} {st : List AV} {σ : St} {l0 l1 l2 : Option AV} {x : Int32} : Rn (d) Q (218, 906, [l0, l1, l2, some (vI x)], st, σ) = Rn (d) Q (218, 907, [l0, l1, l2, some (vI x)], vI x :: st, σ) := E_iload_n i218_906 rfl
theorem i218_907 : ins 218 907 = some (.iconst 5, 1) := (congrArg (fun x : PTy => x.1.lookup 907) q218).trans rfl
theorem e218_907 {d : Nat} {Q : Option AV → St → Prop} {st : List AV} {σ : St} {l0 l1 l2 l3 : Option AV} : Rn (d) Q (218, 907, [l0, l1, l2, l3], st, σ) = Rn (d) Q (218, 908, [l0, l1, l2, l3], vI 5 :: st, σ) := by rw [E_iconst i218_907, ci_5]
theorem i218_908 : ins 218 908 = some (.iadd, 1) := (congrArg (fun x : PTy => x.1.lookup 908) q218).trans rfl
theorem e218_908 {d : Nat} {Q : Option AV → St → Prop} {st : List AV} {σ : St} {l0 l1 l2 l3 : Option AV} {x y : Int32} : Rn (d) Q (218, 908, [l0, l1, l2, l3], vI y :: vI x :: st, σ) = Rn (d) Q (218, 909, [l0, l1, l2, l3], vI (x + y) :: st, σ) := E_iadd i218_908
theorem i218_909 : ins 218 909 = some (.iaload, 1) := (congrArg (fun x : PTy => x.1.lookup 909) q218).trans rfl
theorem e218_909 {d : Nat} {Q : Option AV → St → Prop} {st : List AV} {σ : St} {l0 l1 l2 l3 : Option AV} {i : Nat} {j : Int32} : Rn (d) Q (218, 909, [l0, l1, l2, l3], vI j :: vR (some (13, 1, i)) :: st, σ) = (∃ n, gL σ 13 0 i = some n ∧ i < gN σ 13 ∧ (0 ≤ j.toInt ∧ j.toInt < n) ∧ Rn (d) Q (218, 910, [l0, l1, l2, l3], vI (gA σ 13 0 i j.toNatClampNeg) :: st, σ)) := E_iaload1 i218_909 rfl
theorem i218_910 : ins 218 910 = some (.invokevirtual 84, 3) := (congrArg (fun x : PTy => x.1.lookup 910) q218).trans rfl
theorem e218_910 {d : Nat} {Q : Option AV → St → Prop} {st : List AV} {σ : St} {l0 l1 l2 l3 : Option AV} {i : Nat} {a1 : Int32} {a2 : Int32} {a3 : Int32} {a4 : Int32} {a5 : Int32} : Rn (d + 1) Q (218, 910, [l0, l1, l2, l3], vI a5 :: vI a4 :: vI a3 :: vI a2 :: vI a1 :: vR (some (11, 0, i)) :: st, σ) = (i < gN σ 11 ∧ catS st ≤ 8 ∧ Rn d (fun r σ' => Rn (d + 1) Q (218, 913, [l0, l1, l2, l3], r.toList ++ st, σ')) (82, 0, [some (vR (some (11, 0, i))), some (vI a1), some (vI a2), some (vI a3), some (vI a4), some (vI a5), none], [], σ)) := E_invV (a := [vI a5, vI a4, vI a3, vI a2, vI a1]) i218_910 ((congrArg (fun z => mthQ z 84) o218).trans m13_84) o82 rfl (ek82 i a1 a2 a3 a4 a5) (en82 i a1 a2 a3 a4 a5)
theorem i218_913 : ins 218 913 = some (.aload_n 2, 1) := (congrArg (fun x : PTy => x.1.lookup 913) q218).trans rfl
theorem e218_913 {d : Nat} {Q : Option AV → St → Prop} {st : List AV} {σ : St} {l0 l1 l3 : Option AV} {x : Option (Nat × Nat × Nat)} : Rn (d) Q (218, 913, [l0, l1, some (vR x), l3], st, σ) = Rn (d) Q (218, 914, [l0, l1, some (vR x), l3], vR x :: st, σ) := E_aload_n i218_913 rfl
theorem i218_914 : ins 218 914 = some (.aload_n 0, 1) := (congrArg (fun x : PTy => x.1.lookup 914) q218).trans rfl
theorem e218_914 {d : Nat} {Q : Option AV → St → Prop} {st : List AV} {σ : St} {l1 l2 l3 : Option AV} {x : Option (Nat × Nat × Nat)} : Rn (d) Q (218, 914, [some (vR x), l1, l2, l3], st, σ) = Rn (d) Q (218, 915, [some (vR x), l1, l2, l3], vR x :: st, σ) := E_aload_n i218_914 rfl
theorem i218_915 : ins 218 915 = some (.iload_n 3, 1) := (congrArg (fun x : PTy => x.1.lookup 915) q218).trans rfl
theorem e218_915 {d : Nat} {Q : Option AV → St → Prop} {st : List AV} {σ : St} {l0 l1 l2 : Option AV} {x : Int32} : Rn (d) Q (218, 915, [l0, l1, l2, some (vI x)], st, σ) = Rn (d) Q (218, 916, [l0, l1, l2, some (vI x)], vI x :: st, σ) := E_iload_n i218_915 rfl
theorem i218_916 : ins 218 916 = some (.iconst 1, 1) := (congrArg (fun x : PTy => x.1.lookup 916) q218).trans rfl
theorem e218_916 {d : Nat} {Q : Option AV → St → Prop} {st : List AV} {σ : St} {l0 l1 l2 l3 : Option AV} : Rn (d) Q (218, 916, [l0, l1, l2, l3], st, σ) = Rn (d) Q (218, 917, [l0, l1, l2, l3], vI 1 :: st, σ) := by rw [E_iconst i218_916, ci_1]
theorem i218_917 : ins 218 917 = some (.iadd, 1) := (congrArg (fun x : PTy => x.1.lookup 917) q218).trans rfl
theorem e218_917 {d : Nat} {Q : Option AV → St → Prop} {st : List AV} {σ : St} {l0 l1 l2 l3 : Option AV} {x y : Int32} : Rn (d) Q (218, 917, [l0, l1, l2, l3], vI y :: vI x :: st, σ) = Rn (d) Q (218, 918, [l0, l1, l2, l3], vI (x + y) :: st, σ) := E_iadd i218_917
theorem i218_918 : ins 218 918 = some (.iaload, 1) := (congrArg (fun x : PTy => x.1.lookup 918) q218).trans rfl
theorem e218_918 {d : Nat} {Q : Option AV → St → Prop} {st : List AV} {σ : St} {l0 l1 l2 l3 : Option AV} {i : Nat} {j : Int32} : Rn (d) Q (218, 918, [l0, l1, l2, l3], vI j :: vR (some (13, 1, i)) :: st, σ) = (∃ n, gL σ 13 0 i = some n ∧ i < gN σ 13 ∧ (0 ≤ j.toInt ∧ j.toInt < n) ∧ Rn (d) Q (218, 919, [l0, l1, l2, l3], vI (gA σ 13 0 i j.toNatClampNeg) :: st, σ)) := E_iaload1 i218_918 rfl
theorem i218_919 : ins 218 919 = some (.aload_n 0, 1) := (congrArg (fun x : PTy => x.1.lookup 919) q218).trans rfl
theorem e218_919 {d : Nat} {Q : Option AV → St → Prop} {st : List AV} {σ : St} {l1 l2 l3 : Option AV} {x : Option (Nat × Nat × Nat)} : Rn (d) Q (218, 919, [some (vR x), l1, l2, l3], st, σ) = Rn (d) Q (218, 920, [some (vR x), l1, l2, l3], vR x :: st, σ) := E_aload_n i218_919 rfl
theorem i218_920 : ins 218 920 = some (.iload_n 3, 1) := (congrArg (fun x : PTy => x.1.lookup 920) q218).trans rfl
theorem e218_920 {d : Nat} {Q : Option AV → St → Prop} {st : List AV} {σ : St} {l0 l1 l2 : Option AV} {x : Int32} : Rn (d) Q (218, 920, [l0, l1, l2, some (vI x)], st, σ) = Rn (d) Q (218, 921, [l0, l1, l2, some (vI x)], vI x :: st, σ) := E_iload_n i218_920 rfl
theorem i218_921 : ins 218 921 = some (.iconst 2, 1) := (congrArg (fun x : PTy => x.1.lookup 921) q218).trans rfl
theorem e218_921 {d : Nat} {Q : Option AV → St → Prop} {st : List AV} {σ : St} {l0 l1 l2 l3 : Option AV} : Rn (d) Q (218, 921, [l0, l1, l2, l3], st, σ) = Rn (d) Q (218, 922, [l0, l1, l2, l3], vI 2 :: st, σ) := by rw [E_iconst i218_921, ci_2]
theorem i218_922 : ins 218 922 = some (.iadd, 1) := (congrArg (fun x : PTy => x.1.lookup 922) q218).trans rfl
theorem e218_922 {d : Nat} {Q : Option AV → St → Prop} {st : List AV} {σ : St} {l0 l1 l2 l3 : Option AV} {x y : Int32} : Rn (d) Q (218, 922, [l0, l1, l2, l3], vI y :: vI x :: st, σ) = Rn (d) Q (218, 923, [l0, l1, l2, l3], vI (x + y) :: st, σ) := E_iadd i218_922
theorem i218_923 : ins 218 923 = some (.iaload, 1) := (congrArg (fun x : PTy => x.1.lookup 923) q218).trans rfl
theorem e218_923 {d : Nat} {Q : Option AV → St → Prop} {st : List AV} {σ : St} {l0 l1 l2 l3 : Option AV} {i : Nat} {j : Int32} : Rn (d) Q (218, 923, [l0, l1, l2, l3], vI j :: vR (some (13, 1, i)) :: st, σ) = (∃ n, gL σ 13 0 i = some n ∧ i < gN σ 13 ∧ (0 ≤ j.toInt ∧ j.toInt < n) ∧ Rn (d) Q (218, 924, [l0, l1, l2, l3], vI (gA σ 13 0 i j.toNatClampNeg) :: st, σ)) := E_iaload1 i218_923 rfl
theorem i218_924 : ins 218 924 = some (.aload_n 0, 1) := (congrArg (fun x : PTy => x.1.lookup 924) q218).trans rfl
theorem e218_924 {d : Nat} {Q : Option AV → St → Prop} {st : List AV} {σ : St} {l1 l2 l3 : Option AV} {x : Option (Nat × Nat × Nat)} : Rn (d) Q (218, 924, [some (vR x), l1, l2, l3], st, σ) = Rn (d) Q (218, 925, [some (vR x), l1, l2, l3], vR x :: st, σ) := E_aload_n i218_924 rfl
theorem i218_925 : ins 218 925 = some (.iload_n 3, 1) := (congrArg (fun x : PTy => x.1.lookup 925) q218).trans rfl
theorem e218_925 {d : Nat} {Q : Option AV → St → Prop} {st : List AV} {σ : St} {l0 l1 l2 : Option AV} {x : Int32} : Rn (d) Q (218, 925, [l0, l1, l2, some (vI x)], st, σ) = Rn (d) Q (218, 926, [l0, l1, l2, some (vI x)], vI x :: st, σ) := E_iload_n i218_925 rfl
theorem i218_926 : ins 218 926 = some (.iconst 3, 1) := (congrArg (fun x : PTy => x.1.lookup 926) q218).trans rfl
theorem e218_926 {d : Nat} {Q : Option AV → St → Prop} {st : List AV} {σ : St} {l0 l1 l2 l3 : Option AV} : Rn (d) Q (218, 926, [l0, l1, l2, l3], st, σ) = Rn (d) Q (218, 927, [l0, l1, l2, l3], vI 3 :: st, σ) := by rw [E_iconst i218_926, ci_3]
theorem i218_927 : ins 218 927 = some (.iadd, 1) := (congrArg (fun x : PTy => x.1.lookup 927) q218).trans rfl
theorem e218_927 {d : Nat} {Q : Option AV → St → Prop} {st : List AV} {σ : St} {l0 l1 l2 l3 : Option AV} {x y : Int32} : Rn (d) Q (218, 927, [l0, l1, l2, l3], vI y :: vI x :: st, σ) = Rn (d) Q (218, 928, [l0, l1, l2, l3], vI (x + y) :: st, σ) := E_iadd i218_927
theorem i218_928 : ins 218 928 = some (.iaload, 1) := (congrArg (fun x : PTy => x.1.lookup 928) q218).trans rfl
theorem e218_928 {d : Nat} {Q : Option AV → St → Prop} {st : List AV} {σ : St} {l0 l1 l2 l3 : Option AV} {i : Nat} {j : Int32} : Rn (d) Q (218, 928, [l0, l1, l2, l3], vI j :: vR (some (13, 1, i)) :: st, σ) = (∃ n, gL σ 13 0 i = some n ∧ i < gN σ 13 ∧ (0 ≤ j.toInt ∧ j.toInt < n) ∧ Rn (d) Q (218, 929, [l0, l1, l2, l3], vI (gA σ 13 0 i j.toNatClampNeg) :: st, σ)) := E_iaload1 i218_928 rfl
theorem i218_929 : ins 218 929 = some (.aload_n 0, 1) := (congrArg (fun x : PTy => x.1.lookup 929) q218).trans rfl
theorem e218_929 {d : Nat} {Q : Option AV → St → Prop} {st : List AV} {σ : St} {l1 l2 l3 : Option AV} {x : Option (Nat × Nat × Nat)} : Rn (d) Q (218, 929, [some (vR x), l1, l2, l3], st, σ) = Rn (d) Q (218, 930, [some (vR x), l1, l2, l3], vR x :: st, σ) := E_aload_n i218_929 rfl
theorem i218_930 : ins 218 930 = some (.iload_n 3, 1) := (congrArg (fun x : PTy => x.1.lookup 930) q218).trans rfl
theorem e218_930 {d : Nat} {Q : Option AV → St → Prop} {st : List AV} {σ : St} {l0 l1 l2 : Option AV} {x : Int32} : Rn (d) Q (218, 930, [l0, l1, l2, some (vI x)], st, σ) = Rn (d) Q (218, 931, [l0, l1, l2, some (vI x)], vI x :: st, σ) := E_iload_n i218_930 rfl
theorem i218_931 : ins 218 931 = some (.iconst 4, 1) := (congrArg (fun x : PTy => x.1.lookup 931) q218).trans rfl
theorem e218_931 {d : Nat} {Q : Option AV → St → Prop} {st : List AV} {σ : St} {l0 l1 l2 l3 : Option AV} : Rn (d) Q (218, 931, [l0, l1, l2, l3], st, σ) = Rn (d) Q (218, 932, [l0, l1, l2, l3], vI 4 :: st, σ) := by rw [E_iconst i218_931, ci_4]
theorem i218_932 : ins 218 932 = some (.iadd, 1) := (congrArg (fun x : PTy => x.1.lookup 932) q218).trans rfl
theorem e218_932 {d : Nat} {Q : Option AV → St → Prop} {st : List AV} {σ : St} {l0 l1 l2 l3 : Option AV} {x y : Int32} : Rn (d) Q (218, 932, [l0, l1, l2, l3], vI y :: vI x :: st, σ) = Rn (d) Q (218, 933, [l0, l1, l2, l3], vI (x + y) :: st, σ) := E_iadd i218_932
theorem i218_933 : ins 218 933 = some (.iaload, 1) := (congrArg (fun x : PTy => x.1.lookup 933) q218).trans rfl
theorem e218_933 {d : Nat} {Q : Option AV → St → Prop} {st : List AV} {σ : St} {l0 l1 l2 l3 : Option AV} {i : Nat} {j : Int32} : Rn (d) Q (218, 933, [l0, l1, l2, l3], vI j :: vR (some (13, 1, i)) :: st, σ) = (∃ n, gL σ 13 0 i = some n ∧ i < gN σ 13 ∧ (0 ≤ j.toInt ∧ j.toInt < n) ∧ Rn (d) Q (218, 934, [l0, l1, l2, l3], vI (gA σ 13 0 i j.toNatClampNeg) :: st, σ)) := E_iaload1 i218_933 rfl
theorem i218_934 : ins 218 934 = some (.aload_n 0, 1) := (congrArg (fun x : PTy => x.1.lookup 934) q218).trans rfl
theorem e218_934 {d : Nat} {Q : Option AV → St → Prop} {st : List AV} {σ : St} {l1 l2 l3 : Option AV} {x : Option (Nat × Nat × Nat)} : Rn (d) Q (218, 934, [some (vR x), l1, l2, l3], st, σ) = Rn (d) Q (218, 935, [some (vR x), l1, l2, l3], vR x :: st, σ) := E_aload_n i218_934 rfl
theorem i218_935 : ins 218 935 = some (.iload_n 3, 1) := (congrArg (fun x : PTy => x.1.lookup 935) q218).trans rfl
theorem e218_935 {d : Nat} {Q : Option AV → St → Prop} {st : List AV} {σ : St} {l0 l1 l2 : Option AV} {x : Int32} : Rn (d) Q (218, 935, [l0, l1, l2, some (vI x)], st, σ) = Rn (d) Q (218, 936, [l0, l1, l2, some (vI x)], vI x :: st, σ) := E_iload_n i218_935 rfl
theorem i218_936 : ins 218 936 = some (.iconst 5, 1) := (congrArg (fun x : PTy => x.1.lookup 936) q218).trans rfl
theorem e218_936 {d : Nat} {Q : Option AV → St → Prop} {st : List AV} {σ : St} {l0 l1 l2 l3 : Option AV} : Rn (d) Q (218, 936, [l0, l1, l2, l3], st, σ) = Rn (d) Q (218, 937, [l0, l1, l2, l3], vI 5 :: st, σ) := by rw [E_iconst i218_936, ci_5]
theorem i218_937 : ins 218 937 = some (.iadd, 1) := (congrArg (fun x : PTy => x.1.lookup 937) q218).trans rfl
theorem e218_937 {d : Nat} {Q : Option AV → St → Prop} {st : List AV} {σ : St} {l0 l1 l2 l3 : Option AV} {x y : Int32} : Rn (d) Q (218, 937, [l0, l1, l2, l3], vI y :: vI x :: st, σ) = Rn (d) Q (218, 938, [l0, l1, l2, l3], vI (x + y) :: st, σ) := E_iadd i218_937
theorem i218_938 : ins 218 938 = some (.iaload, 1) := (congrArg (fun x : PTy => x.1.lookup 938) q218).trans rfl
theorem e218_938 {d : Nat} {Q : Option AV → St → Prop} {st : List AV} {σ : St} {l0 l1 l2 l3 : Option AV} {i : Nat} {j : Int32} : Rn (d) Q (218, 938, [l0, l1, l2, l3], vI j :: vR (some (13, 1, i)) :: st, σ) = (∃ n, gL σ 13 0 i = some n ∧ i < gN σ 13 ∧ (0 ≤ j.toInt ∧ j.toInt < n) ∧ Rn (d) Q (218, 939, [l0, l1, l2, l3], vI (gA σ 13 0 i j.toNatClampNeg) :: st, σ)) := E_iaload1 i218_938 rfl
theorem i218_939 : ins 218 939 = some (.invokevirtual 87, 3) := (congrArg (fun x : PTy => x.1.lookup 939) q218).trans rfl
theorem e218_939 {d : Nat} {Q : Option AV → St → Prop} {st : List AV} {σ : St} {l0 l1 l2 l3 : Option AV} {i : Nat} {a1 : Int32} {a2 : Int32} {a3 : Int32} {a4 : Int32} {a5 : Int32} : Rn (d + 1) Q (218, 939, [l0, l1, l2, l3], vI a5 :: vI a4 :: vI a3 :: vI a2 :: vI a1 :: vR (some (12, 0, i)) :: st, σ) = (i < gN σ 12 ∧ catS st ≤ 8 ∧ Rn d (fun r σ' => Rn (d + 1) Q (218, 942, [l0, l1, l2, l3], r.toList ++ st, σ')) (179, 0, [some (vR (some (12, 0, i))), some (vI a1), some (vI a2), some (vI a3), some (vI a4), some (vI a5)], [], σ)) := E_invV (a := [vI a5, vI a4, vI a3, vI a2, vI a1]) i218_939 ((congrArg (fun z => mthQ z 87) o218).trans m13_87) o179 rfl (ek179 i a1 a2 a3 a4 a5) (en179 i a1 a2 a3 a4 a5)
theorem i218_942 : ins 218 942 = some (.if_icmp .eq 870, 3) := (congrArg (fun x : PTy => x.1.lookup 942) q218).trans rfl
theorem e218_942 {d : Nat} {Q : Option AV → St → Prop} {st : List AV} {σ : St} {l0 l1 l2 l3 : Option AV} {x y : Int32} : Rn (d) Q (218, 942, [l0, l1, l2, l3], vI y :: vI x :: st, σ) = (if x = y then Rn (d) Q (218, 1812, [l0, l1, l2, l3], st, σ) else Rn (d) Q (218, 945, [l0, l1, l2, l3], st, σ)) := E_icmp_eq 1812 i218_942 (by decide)
theorem i218_945 : ins 218 945 = some (.iconst 0, 1) := (congrArg (fun x : PTy => x.1.lookup 945) q218).trans rfl
theorem e218_945 {d : Nat} {Q : Option AV → St → Prop} {st : List AV} {σ : St} {l0 l1 l2 l3 : Option AV} : Rn (d) Q (218, 945, [l0, l1, l2, l3], st, σ) = Rn (d) Q (218, 946, [l0, l1, l2, l3], vI 0 :: st, σ) := by rw [E_iconst i218_945, ci_0]
theorem i218_946 : ins 218 946 = some (.ireturn, 1) := (congrArg (fun x : PTy => x.1.lookup 946) q218).trans rfl
theorem e218_946 {d : Nat} {Q : Option AV → St → Prop} {st : List AV} {σ : St} {l0 l1 l2 l3 : Option AV} {x : Int32} : Rn (d) Q (218, 946, [l0, l1, l2, l3], [vI x], σ) = ((x = 0 ∨ x = 1) ∧ Q (some (vI x)) σ) := E_iretZ (st := []) i218_946 r218
theorem i218_947 : ins 218 947 = some (.aload_n 1, 1) := (congrArg (fun x : PTy => x.1.lookup 947) q218).trans rfl
theorem e218_947 {d : Nat} {Q : Option AV → St → Prop} {st : List AV} {σ : St} {l0 l2 l3 : Option AV} {x : Option (Nat × Nat × Nat)} : Rn (d) Q (218, 947, [l0, some (vR x), l2, l3], st, σ) = Rn (d) Q (218, 948, [l0, some (vR x), l2, l3], vR x :: st, σ) := E_aload_n i218_947 rfl
theorem i218_948 : ins 218 948 = some (.aload_n 0, 1) := (congrArg (fun x : PTy => x.1.lookup 948) q218).trans rfl
theorem e218_948 {d : Nat} {Q : Option AV → St → Prop} {st : List AV} {σ : St} {l1 l2 l3 : Option AV} {x : Option (Nat × Nat × Nat)} : Rn (d) Q (218, 948, [some (vR x), l1, l2, l3], st, σ) = Rn (d) Q (218, 949, [some (vR x), l1, l2, l3], vR x :: st, σ) := E_aload_n i218_948 rfl
theorem i218_949 : ins 218 949 = some (.iload_n 3, 1) := (congrArg (fun x : PTy => x.1.lookup 949) q218).trans rfl
theorem e218_949 {d : Nat} {Q : Option AV → St → Prop} {st : List AV} {σ : St} {l0 l1 l2 : Option AV} {x : Int32} : Rn (d) Q (218, 949, [l0, l1, l2, some (vI x)], st, σ) = Rn (d) Q (218, 950, [l0, l1, l2, some (vI x)], vI x :: st, σ) := E_iload_n i218_949 rfl
theorem i218_950 : ins 218 950 = some (.iconst 1, 1) := (congrArg (fun x : PTy => x.1.lookup 950) q218).trans rfl
theorem e218_950 {d : Nat} {Q : Option AV → St → Prop} {st : List AV} {σ : St} {l0 l1 l2 l3 : Option AV} : Rn (d) Q (218, 950, [l0, l1, l2, l3], st, σ) = Rn (d) Q (218, 951, [l0, l1, l2, l3], vI 1 :: st, σ) := by rw [E_iconst i218_950, ci_1]
theorem i218_951 : ins 218 951 = some (.iadd, 1) := (congrArg (fun x : PTy => x.1.lookup 951) q218).trans rfl
theorem e218_951 {d : Nat} {Q : Option AV → St → Prop} {st : List AV} {σ : St} {l0 l1 l2 l3 : Option AV} {x y : Int32} : Rn (d) Q (218, 951, [l0, l1, l2, l3], vI y :: vI x :: st, σ) = Rn (d) Q (218, 952, [l0, l1, l2, l3], vI (x + y) :: st, σ) := E_iadd i218_951
theorem i218_952 : ins 218 952 = some (.iaload, 1) := (congrArg (fun x : PTy => x.1.lookup 952) q218).trans rfl
theorem e218_952 {d : Nat} {Q : Option AV → St → Prop} {st : List AV} {σ : St} {l0 l1 l2 l3 : Option AV} {i : Nat} {j : Int32} : Rn (d) Q (218, 952, [l0, l1, l2, l3], vI j :: vR (some (13, 1, i)) :: st, σ) = (∃ n, gL σ 13 0 i = some n ∧ i < gN σ 13 ∧ (0 ≤ j.toInt ∧ j.toInt < n) ∧ Rn (d) Q (218, 953, [l0, l1, l2, l3], vI (gA σ 13 0 i j.toNatClampNeg) :: st, σ)) := E_iaload1 i218_952 rfl
theorem i218_953 : ins 218 953 = some (.aload_n 0, 1) := (congrArg (fun x : PTy => x.1.lookup 953) q218).trans rfl
theorem e218_953 {d : Nat} {Q : Option AV → St → Prop} {st : List AV} {σ : St} {l1 l2 l3 : Option AV} {x : Option (Nat × Nat × Nat)} : Rn (d) Q (218, 953, [some (vR x), l1, l2, l3], st, σ) = Rn (d) Q (218, 954, [some (vR x), l1, l2, l3], vR x :: st, σ) := E_aload_n i218_953 rfl
theorem i218_954 : ins 218 954 = some (.iload_n 3, 1) := (congrArg (fun x : PTy => x.1.lookup 954) q218).trans rfl
theorem e218_954 {d : Nat} {Q : Option AV → St → Prop} {st : List AV} {σ : St} {l0 l1 l2 : Option AV} {x : Int32} : Rn (d) Q (218, 954, [l0, l1, l2, some (vI x)], st, σ) = Rn (d) Q (218, 955, [l0, l1, l2, some (vI x)], vI x :: st, σ) := E_iload_n i218_954 rfl
theorem i218_955 : ins 218 955 = some (.iconst 2, 1) := (congrArg (fun x : PTy => x.1.lookup 955) q218).trans rfl
theorem e218_955 {d : Nat} {Q : Option AV → St → Prop} {st : List AV} {σ : St} {l0 l1 l2 l3 : Option AV} : Rn (d) Q (218, 955, [l0, l1, l2, l3], st, σ) = Rn (d) Q (218, 956, [l0, l1, l2, l3], vI 2 :: st, σ) := by rw [E_iconst i218_955, ci_2]
theorem i218_956 : ins 218 956 = some (.iadd, 1) := (congrArg (fun x : PTy => x.1.lookup 956) q218).trans rfl
theorem e218_956 {d : Nat} {Q : Option AV → St → Prop} {st : List AV} {σ : St} {l0 l1 l2 l3 : Option AV} {x y : Int32} : Rn (d) Q (218, 956, [l0, l1, l2, l3], vI y :: vI x :: st, σ) = Rn (d) Q (218, 957, [l0, l1, l2, l3], vI (x + y) :: st, σ) := E_iadd i218_956
theorem i218_957 : ins 218 957 = some (.iaload, 1) := (congrArg (fun x : PTy => x.1.lookup 957) q218).trans rfl
theorem e218_957 {d : Nat} {Q : Option AV → St → Prop} {st : List AV} {σ : St} {l0 l1 l2 l3 : Option AV} {i : Nat} {j : Int32} : Rn (d) Q (218, 957, [l0, l1, l2, l3], vI j :: vR (some (13, 1, i)) :: st, σ) = (∃ n, gL σ 13 0 i = some n ∧ i < gN σ 13 ∧ (0 ≤ j.toInt ∧ j.toInt < n) ∧ Rn (d) Q (218, 958, [l0, l1, l2, l3], vI (gA σ 13 0 i j.toNatClampNeg) :: st, σ)) := E_iaload1 i218_957 rfl
theorem i218_958 : ins 218 958 = some (.invokevirtual 88, 3) := (congrArg (fun x : PTy => x.1.lookup 958) q218).trans rfl
theorem e218_958 {d : Nat} {Q : Option AV → St → Prop} {st : List AV} {σ : St} {l0 l1 l2 l3 : Option AV} {i : Nat} {a1 : Int32} {a2 : Int32} : Rn (d + 1) Q (218, 958, [l0, l1, l2, l3], vI a2 :: vI a1 :: vR (some (11, 0, i)) :: st, σ) = (i < gN σ 11 ∧ catS st ≤ 8 ∧ Rn d (fun r σ' => Rn (d + 1) Q (218, 961, [l0, l1, l2, l3], r.toList ++ st, σ')) (83, 0, [some (vR (some (11, 0, i))), some (vI a1), some (vI a2), none], [], σ)) := E_invV (a := [vI a2, vI a1]) i218_958 ((congrArg (fun z => mthQ z 88) o218).trans m13_88) o83 rfl (ek83 i a1 a2) (en83 i a1 a2)
theorem i218_961 : ins 218 961 = some (.aload_n 2, 1) := (congrArg (fun x : PTy => x.1.lookup 961) q218).trans rfl
theorem e218_961 {d : Nat} {Q : Option AV → St → Prop} {st : List AV} {σ : St} {l0 l1 l3 : Option AV} {x : Option (Nat × Nat × Nat)} : Rn (d) Q (218, 961, [l0, l1, some (vR x), l3], st, σ) = Rn (d) Q (218, 962, [l0, l1, some (vR x), l3], vR x :: st, σ) := E_aload_n i218_961 rfl
theorem i218_962 : ins 218 962 = some (.aload_n 0, 1) := (congrArg (fun x : PTy => x.1.lookup 962) q218).trans rfl
theorem e218_962 {d : Nat} {Q : Option AV → St → Prop} {st : List AV} {σ : St} {l1 l2 l3 : Option AV} {x : Option (Nat × Nat × Nat)} : Rn (d) Q (218, 962, [some (vR x), l1, l2, l3], st, σ) = Rn (d) Q (218, 963, [some (vR x), l1, l2, l3], vR x :: st, σ) := E_aload_n i218_962 rfl
theorem i218_963 : ins 218 963 = some (.iload_n 3, 1) := (congrArg (fun x : PTy => x.1.lookup 963) q218).trans rfl
theorem e218_963 {d : Nat} {Q : Option AV → St → Prop} {st : List AV} {σ : St} {l0 l1 l2 : Option AV} {x : Int32} : Rn (d) Q (218, 963, [l0, l1, l2, some (vI x)], st, σ) = Rn (d) Q (218, 964, [l0, l1, l2, some (vI x)], vI x :: st, σ) := E_iload_n i218_963 rfl
theorem i218_964 : ins 218 964 = some (.iconst 1, 1) := (congrArg (fun x : PTy => x.1.lookup 964) q218).trans rfl
theorem e218_964 {d : Nat} {Q : Option AV → St → Prop} {st : List AV} {σ : St} {l0 l1 l2 l3 : Option AV} : Rn (d) Q (218, 964, [l0, l1, l2, l3], st, σ) = Rn (d) Q (218, 965, [l0, l1, l2, l3], vI 1 :: st, σ) := by rw [E_iconst i218_964, ci_1]
theorem i218_965 : ins 218 965 = some (.iadd, 1) := (congrArg (fun x : PTy => x.1.lookup 965) q218).trans rfl
theorem e218_965 {d : Nat} {Q : Option AV → St → Prop} {st : List AV} {σ : St} {l0 l1 l2 l3 : Option AV} {x y : Int32} : Rn (d) Q (218, 965, [l0, l1, l2, l3], vI y :: vI x :: st, σ) = Rn (d) Q (218, 966, [l0, l1, l2, l3], vI (x + y) :: st, σ) := E_iadd i218_965
theorem i218_966 : ins 218 966 = some (.iaload, 1) := (congrArg (fun x : PTy => x.1.lookup 966) q218).trans rfl
theorem e218_966 {d : Nat} {Q : Option AV → St → Prop} {st : List AV} {σ : St} {l0 l1 l2 l3 : Option AV} {i : Nat} {j : Int32} : Rn (d) Q (218, 966, [l0, l1, l2, l3], vI j :: vR (some (13, 1, i)) :: st, σ) = (∃ n, gL σ 13 0 i = some n ∧ i < gN σ 13 ∧ (0 ≤ j.toInt ∧ j.toInt < n) ∧ Rn (d) Q (218, 967, [l0, l1, l2, l3], vI (gA σ 13 0 i j.toNatClampNeg) :: st, σ)) := E_iaload1 i218_966 rfl
theorem i218_967 : ins 218 967 = some (.aload_n 0, 1) := (congrArg (fun x : PTy => x.1.lookup 967) q218).trans rfl
theorem e218_967 {d : Nat} {Q : Option AV → St → Prop} {st : List AV} {σ : St} {l1 l2 l3 : Option AV} {x : Option (Nat × Nat × Nat)} : Rn (d) Q (218, 967, [some (vR x), l1, l2, l3], st, σ) = Rn (d) Q (218, 968, [some (vR x), l1, l2, l3], vR x :: st, σ) := E_aload_n i218_967 rfl
theorem i218_968 : ins 218 968 = some (.iload_n 3, 1) := (congrArg (fun x : PTy => x.1.lookup 968) q218).trans rfl
theorem e218_968 {d : Nat} {Q : Option AV → St → Prop} {st : List AV} {σ : St} {l0 l1 l2 : Option AV} {x : Int32} : Rn (d) Q (218, 968, [l0, l1, l2, some (vI x)], st, σ) = Rn (d) Q (218, 969, [l0, l1, l2, some (vI x)], vI x :: st, σ) := E_iload_n i218_968 rfl
theorem i218_969 : ins 218 969 = some (.iconst 2, 1) := (congrArg (fun x : PTy => x.1.lookup 969) q218).trans rfl
theorem e218_969 {d : Nat} {Q : Option AV → St → Prop} {st : List AV} {σ : St} {l0 l1 l2 l3 : Option AV} : Rn (d) Q (218, 969, [l0, l1, l2, l3], st, σ) = Rn (d) Q (218, 970, [l0, l1, l2, l3], vI 2 :: st, σ) := by rw [E_iconst i218_969, ci_2]
theorem i218_970 : ins 218 970 = some (.iadd, 1) := (congrArg (fun x : PTy => x.1.lookup 970) q218).trans rfl
theorem e218_970 {d : Nat} {Q : Option AV → St → Prop} {st : List AV} {σ : St} {l0 l1 l2 l3 : Option AV} {x y : Int32} : Rn (d) Q (218, 970, [l0, l1, l2, l3], vI y :: vI x :: st, σ) = Rn (d) Q (218, 971, [l0, l1, l2, l3], vI (x + y) :: st, σ) := E_iadd i218_970
theorem i218_971 : ins 218 971 = some (.iaload, 1) := (congrArg (fun x : PTy => x.1.lookup 971) q218).trans rfl
theorem e218_971 {d : Nat} {Q : Option AV → St → Prop} {st : List AV} {σ : St} {l0 l1 l2 l3 : Option AV} {i : Nat} {j : Int32} : Rn (d) Q (218, 971, [l0, l1, l2, l3], vI j :: vR (some (13, 1, i)) :: st, σ) = (∃ n, gL σ 13 0 i = some n ∧ i < gN σ 13 ∧ (0 ≤ j.toInt ∧ j.toInt < n) ∧ Rn (d) Q (218, 972, [l0, l1, l2, l3], vI (gA σ 13 0 i j.toNatClampNeg) :: st, σ)) := E_iaload1 i218_971 rfl
theorem i218_972 : ins 218 972 = some (.invokevirtual 91, 3) := (congrArg (fun x : PTy => x.1.lookup 972) q218).trans rfl
theorem e218_972 {d : Nat} {Q : Option AV → St → Prop} {st : List AV} {σ : St} {l0 l1 l2 l3 : Option AV} {i : Nat} {a1 : Int32} {a2 : Int32} : Rn (d + 1) Q (218, 972, [l0, l1, l2, l3], vI a2 :: vI a1 :: vR (some (12, 0, i)) :: st, σ) = (i < gN σ 12 ∧ catS st ≤ 8 ∧ Rn d (fun r σ' => Rn (d + 1) Q (218, 975, [l0, l1, l2, l3], r.toList ++ st, σ')) (180, 0, [some (vR (some (12, 0, i))), some (vI a1), some (vI a2)], [], σ)) := E_invV (a := [vI a2, vI a1]) i218_972 ((congrArg (fun z => mthQ z 91) o218).trans m13_91) o180 rfl (ek180 i a1 a2) (en180 i a1 a2)
theorem i218_975 : ins 218 975 = some (.if_icmp .eq 837, 3) := (congrArg (fun x : PTy => x.1.lookup 975) q218).trans rfl
theorem e218_975 {d : Nat} {Q : Option AV → St → Prop} {st : List AV} {σ : St} {l0 l1 l2 l3 : Option AV} {x y : Int32} : Rn (d) Q (218, 975, [l0, l1, l2, l3], vI y :: vI x :: st, σ) = (if x = y then Rn (d) Q (218, 1812, [l0, l1, l2, l3], st, σ) else Rn (d) Q (218, 978, [l0, l1, l2, l3], st, σ)) := E_icmp_eq 1812 i218_975 (by decide)
theorem i218_978 : ins 218 978 = some (.iconst 0, 1) := (congrArg (fun x : PTy => x.1.lookup 978) q218).trans rfl
theorem e218_978 {d : Nat} {Q : Option AV → St → Prop} {st : List AV} {σ : St} {l0 l1 l2 l3 : Option AV} : Rn (d) Q (218, 978, [l0, l1, l2, l3], st, σ) = Rn (d) Q (218, 979, [l0, l1, l2, l3], vI 0 :: st, σ) := by rw [E_iconst i218_978, ci_0]
theorem i218_979 : ins 218 979 = some (.ireturn, 1) := (congrArg (fun x : PTy => x.1.lookup 979) q218).trans rfl
theorem e218_979 {d : Nat} {Q : Option AV → St → Prop} {st : List AV} {σ : St} {l0 l1 l2 l3 : Option AV} {x : Int32} : Rn (d) Q (218, 979, [l0, l1, l2, l3], [vI x], σ) = ((x = 0 ∨ x = 1) ∧ Q (some (vI x)) σ) := E_iretZ (st := []) i218_979 r218
theorem i218_980 : ins 218 980 = some (.aload_n 1, 1) := (congrArg (fun x : PTy => x.1.lookup 980) q218).trans rfl
theorem e218_980 {d : Nat} {Q : Option AV → St → Prop} {st : List AV} {σ : St} {l0 l2 l3 : Option AV} {x : Option (Nat × Nat × Nat)} : Rn (d) Q (218, 980, [l0, some (vR x), l2, l3], st, σ) = Rn (d) Q (218, 981, [l0, some (vR x), l2, l3], vR x :: st, σ) := E_aload_n i218_980 rfl
theorem i218_981 : ins 218 981 = some (.aload_n 0, 1) := (congrArg (fun x : PTy => x.1.lookup 981) q218).trans rfl
theorem e218_981 {d : Nat} {Q : Option AV → St → Prop} {st : List AV} {σ : St} {l1 l2 l3 : Option AV} {x : Option (Nat × Nat × Nat)} : Rn (d) Q (218, 981, [some (vR x), l1, l2, l3], st, σ) = Rn (d) Q (218, 982, [some (vR x), l1, l2, l3], vR x :: st, σ) := E_aload_n i218_981 rfl
theorem i218_982 : ins 218 982 = some (.iload_n 3, 1) := (congrArg (fun x : PTy => x.1.lookup 982) q218).trans rfl
theorem e218_982 {d : Nat} {Q : Option AV → St → Prop} {st : List AV} {σ : St} {l0 l1 l2 : Option AV} {x : Int32} : Rn (d) Q (218, 982, [l0, l1, l2, some (vI x)], st, σ) = Rn (d) Q (218, 983, [l0, l1, l2, some (vI x)], vI x :: st, σ) := E_iload_n i218_982 rfl
theorem i218_983 : ins 218 983 = some (.iconst 1, 1) := (congrArg (fun x : PTy => x.1.lookup 983) q218).trans rfl
theorem e218_983 {d : Nat} {Q : Option AV → St → Prop} {st : List AV} {σ : St} {l0 l1 l2 l3 : Option AV} : Rn (d) Q (218, 983, [l0, l1, l2, l3], st, σ) = Rn (d) Q (218, 984, [l0, l1, l2, l3], vI 1 :: st, σ) := by rw [E_iconst i218_983, ci_1]
theorem i218_984 : ins 218 984 = some (.iadd, 1) := (congrArg (fun x : PTy => x.1.lookup 984) q218).trans rfl
theorem e218_984 {d : Nat} {Q : Option AV → St → Prop} {st : List AV} {σ : St} {l0 l1 l2 l3 : Option AV} {x y : Int32} : Rn (d) Q (218, 984, [l0, l1, l2, l3], vI y :: vI x :: st, σ) = Rn (d) Q (218, 985, [l0, l1, l2, l3], vI (x + y) :: st, σ) := E_iadd i218_984
theorem i218_985 : ins 218 985 = some (.iaload, 1) := (congrArg (fun x : PTy => x.1.lookup 985) q218).trans rfl
theorem e218_985 {d : Nat} {Q : Option AV → St → Prop} {st : List AV} {σ : St} {l0 l1 l2 l3 : Option AV} {i : Nat} {j : Int32} : Rn (d) Q (218, 985, [l0, l1, l2, l3], vI j :: vR (some (13, 1, i)) :: st, σ) = (∃ n, gL σ 13 0 i = some n ∧ i < gN σ 13 ∧ (0 ≤ j.toInt ∧ j.toInt < n) ∧ Rn (d) Q (218, 986, [l0, l1, l2, l3], vI (gA σ 13 0 i j.toNatClampNeg) :: st, σ)) := E_iaload1 i218_985 rfl
theorem i218_986 : ins 218 986 = some (.aload_n 0, 1) := (congrArg (fun x : PTy => x.1.lookup 986) q218).trans rfl
theorem e218_986 {d : Nat} {Q : Option AV → St → Prop} {st : List AV} {σ : St} {l1 l2 l3 : Option AV} {x : Option (Nat × Nat × Nat)} : Rn (d) Q (218, 986, [some (vR x), l1, l2, l3], st, σ) = Rn (d) Q (218, 987, [some (vR x), l1, l2, l3], vR x :: st, σ) := E_aload_n i218_986 rfl
theorem i218_987 : ins 218 987 = some (.iload_n 3, 1) := (congrArg (fun x : PTy => x.1.lookup 987) q218).trans rfl
theorem e218_987 {d : Nat} {Q : Option AV → St → Prop} {st : List AV} {σ : St} {l0 l1 l2 : Option AV} {x : Int32} : Rn (d) Q (218, 987, [l0, l1, l2, some (vI x)], st, σ) = Rn (d) Q (218, 988, [l0, l1, l2, some (vI x)], vI x :: st, σ) := E_iload_n i218_987 rfl
theorem i218_988 : ins 218 988 = some (.iconst 2, 1) := (congrArg (fun x : PTy => x.1.lookup 988) q218).trans rfl
theorem e218_988 {d : Nat} {Q : Option AV → St → Prop} {st : List AV} {σ : St} {l0 l1 l2 l3 : Option AV} : Rn (d) Q (218, 988, [l0, l1, l2, l3], st, σ) = Rn (d) Q (218, 989, [l0, l1, l2, l3], vI 2 :: st, σ) := by rw [E_iconst i218_988, ci_2]
theorem i218_989 : ins 218 989 = some (.iadd, 1) := (congrArg (fun x : PTy => x.1.lookup 989) q218).trans rfl
theorem e218_989 {d : Nat} {Q : Option AV → St → Prop} {st : List AV} {σ : St} {l0 l1 l2 l3 : Option AV} {x y : Int32} : Rn (d) Q (218, 989, [l0, l1, l2, l3], vI y :: vI x :: st, σ) = Rn (d) Q (218, 990, [l0, l1, l2, l3], vI (x + y) :: st, σ) := E_iadd i218_989
theorem i218_990 : ins 218 990 = some (.iaload, 1) := (congrArg (fun x : PTy => x.1.lookup 990) q218).trans rfl
theorem e218_990 {d : Nat} {Q : Option AV → St → Prop} {st : List AV} {σ : St} {l0 l1 l2 l3 : Option AV} {i : Nat} {j : Int32} : Rn (d) Q (218, 990, [l0, l1, l2, l3], vI j :: vR (some (13, 1, i)) :: st, σ) = (∃ n, gL σ 13 0 i = some n ∧ i < gN σ 13 ∧ (0 ≤ j.toInt ∧ j.toInt < n) ∧ Rn (d) Q (218, 991, [l0, l1, l2, l3], vI (gA σ 13 0 i j.toNatClampNeg) :: st, σ)) := E_iaload1 i218_990 rfl
theorem i218_991 : ins 218 991 = some (.invokevirtual 92, 3) := (congrArg (fun x : PTy => x.1.lookup 991) q218).trans rfl
theorem e218_991 {d : Nat} {Q : Option AV → St → Prop} {st : List AV} {σ : St} {l0 l1 l2 l3 : Option AV} {i : Nat} {a1 : Int32} {a2 : Int32} : Rn (d + 1) Q (218, 991, [l0, l1, l2, l3], vI a2 :: vI a1 :: vR (some (11, 0, i)) :: st, σ) = (i < gN σ 11 ∧ catS st ≤ 8 ∧ Rn d (fun r σ' => Rn (d + 1) Q (218, 994, [l0, l1, l2, l3], r.toList ++ st, σ')) (84, 0, [some (vR (some (11, 0, i))), some (vI a1), some (vI a2), none], [], σ)) := E_invV (a := [vI a2, vI a1]) i218_991 ((congrArg (fun z => mthQ z 92) o218).trans m13_92) o84 rfl (ek84 i a1 a2) (en84 i a1 a2)
theorem i218_994 : ins 218 994 = some (.aload_n 2, 1) := (congrArg (fun x : PTy => x.1.lookup 994) q218).trans rfl
theorem e218_994 {d : Nat} {Q : Option AV → St → Prop} {st : List AV} {σ : St} {l0 l1 l3 : Option AV} {x : Option (Nat × Nat × Nat)} : Rn (d) Q (218, 994, [l0, l1, some (vR x), l3], st, σ) = Rn (d) Q (218, 995, [l0, l1, some (vR x), l3], vR x :: st, σ) := E_aload_n i218_994 rfl
theorem i218_995 : ins 218 995 = some (.aload_n 0, 1) := (congrArg (fun x : PTy => x.1.lookup 995) q218).trans rfl
theorem e218_995 {d : Nat} {Q : Option AV → St → Prop} {st : List AV} {σ : St} {l1 l2 l3 : Option AV} {x : Option (Nat × Nat × Nat)} : Rn (d) Q (218, 995, [some (vR x), l1, l2, l3], st, σ) = Rn (d) Q (218, 996, [some (vR x), l1, l2, l3], vR x :: st, σ) := E_aload_n i218_995 rfl
theorem i218_996 : ins 218 996 = some (.iload_n 3, 1) := (congrArg (fun x : PTy => x.1.lookup 996) q218).trans rfl
theorem e218_996 {d : Nat} {Q : Option AV → St → Prop} {st : List AV} {σ : St} {l0 l1 l2 : Option AV} {x : Int32} : Rn (d) Q (218, 996, [l0, l1, l2, some (vI x)], st, σ) = Rn (d) Q (218, 997, [l0, l1, l2, some (vI x)], vI x :: st, σ) := E_iload_n i218_996 rfl
theorem i218_997 : ins 218 997 = some (.iconst 1, 1) := (congrArg (fun x : PTy => x.1.lookup 997) q218).trans rfl
theorem e218_997 {d : Nat} {Q : Option AV → St → Prop} {st : List AV} {σ : St} {l0 l1 l2 l3 : Option AV} : Rn (d) Q (218, 997, [l0, l1, l2, l3], st, σ) = Rn (d) Q (218, 998, [l0, l1, l2, l3], vI 1 :: st, σ) := by rw [E_iconst i218_997, ci_1]
theorem i218_998 : ins 218 998 = some (.iadd, 1) := (congrArg (fun x : PTy => x.1.lookup 998) q218).trans rfl
theorem e218_998 {d : Nat} {Q : Option AV → St → Prop} {st : List AV} {σ : St} {l0 l1 l2 l3 : Option AV} {x y : Int32} : Rn (d) Q (218, 998, [l0, l1, l2, l3], vI y :: vI x :: st, σ) = Rn (d) Q (218, 999, [l0, l1, l2, l3], vI (x + y) :: st, σ) := E_iadd i218_998
theorem i218_999 : ins 218 999 = some (.iaload, 1) := (congrArg (fun x : PTy => x.1.lookup 999) q218).trans rfl
theorem e218_999 {d : Nat} {Q : Option AV → St → Prop} {st : List AV} {σ : St} {l0 l1 l2 l3 : Option AV} {i : Nat} {j : Int32} : Rn (d) Q (218, 999, [l0, l1, l2, l3], vI j :: vR (some (13, 1, i)) :: st, σ) = (∃ n, gL σ 13 0 i = some n ∧ i < gN σ 13 ∧ (0 ≤ j.toInt ∧ j.toInt < n) ∧ Rn (d) Q (218, 1000, [l0, l1, l2, l3], vI (gA σ 13 0 i j.toNatClampNeg) :: st, σ)) := E_iaload1 i218_999 rfl
theorem i218_1000 : ins 218 1000 = some (.aload_n 0, 1) := (congrArg (fun x : PTy => x.1.lookup 1000) q218).trans rfl
theorem e218_1000 {d : Nat} {Q : Option AV → St → Prop} {st : List AV} {σ : St} {l1 l2 l3 : Option AV} {x : Option (Nat × Nat × Nat)} : Rn (d) Q (218, 1000, [some (vR x), l1, l2, l3], st, σ) = Rn (d) Q (218, 1001, [some (vR x), l1, l2, l3], vR x :: st, σ) := E_aload_n i218_1000 rfl
theorem i218_1001 : ins 218 1001 = some (.iload_n 3, 1) := (congrArg (fun x : PTy => x.1.lookup 1001) q218).trans rfl
theorem e218_1001 {d : Nat} {Q : Option AV → St → Prop} {st : List AV} {σ : St} {l0 l1 l2 : Option AV} {x : Int32} : Rn (d) Q (218, 1001, [l0, l1, l2, some (vI x)], st, σ) = Rn (d) Q (218, 1002, [l0, l1, l2, some (vI x)], vI x :: st, σ) := E_iload_n i218_1001 rfl
theorem i218_1002 : ins 218 1002 = some (.iconst 2, 1) := (congrArg (fun x : PTy => x.1.lookup 1002) q218).trans rfl
theorem e218_1002 {d : Nat} {Q : Option AV → St → Prop} {st : List AV} {σ : St} {l0 l1 l2 l3 : Option AV} : Rn (d) Q (218, 1002, [l0, l1, l2, l3], st, σ) = Rn (d) Q (218, 1003, [l0, l1, l2, l3], vI 2 :: st, σ) := by rw [E_iconst i218_1002, ci_2]
theorem i218_1003 : ins 218 1003 = some (.iadd, 1) := (congrArg (fun x : PTy => x.1.lookup 1003) q218).trans rfl
theorem e218_1003 {d : Nat} {Q : Option AV → St → Prop} {st : List AV} {σ : St} {l0 l1 l2 l3 : Option AV} {x y : Int32} : Rn (d) Q (218, 1003, [l0, l1, l2, l3], vI y :: vI x :: st, σ) = Rn (d) Q (218, 1004, [l0, l1, l2, l3], vI (x + y) :: st, σ) := E_iadd i218_1003
theorem i218_1004 : ins 218 1004 = some (.iaload, 1) := (congrArg (fun x : PTy => x.1.lookup 1004) q218).trans rfl
theorem e218_1004 {d : Nat} {Q : Option AV → St → Prop} {st : List AV} {σ : St} {l0 l1 l2 l3 : Option AV} {i : Nat} {j : Int32} : Rn (d) Q (218, 1004, [l0, l1, l2, l3], vI j :: vR (some (13, 1, i)) :: st, σ) = (∃ n, gL σ 13 0 i = some n ∧ i < gN σ 13 ∧ (0 ≤ j.toInt ∧ j.toInt < n) ∧ Rn (d) Q (218, 1005, [l0, l1, l2, l3], vI (gA σ 13 0 i j.toNatClampNeg) :: st, σ)) := E_iaload1 i218_1004 rfl
theorem i218_1005 : ins 218 1005 = some (.invokevirtual 95, 3) := (congrArg (fun x : PTy => x.1.lookup 1005) q218).trans rfl
theorem e218_1005 {d : Nat} {Q : Option AV → St → Prop} {st : List AV} {σ : St} {l0 l1 l2 l3 : Option AV} {i : Nat} {a1 : Int32} {a2 : Int32} : Rn (d + 1) Q (218, 1005, [l0, l1, l2, l3], vI a2 :: vI a1 :: vR (some (12, 0, i)) :: st, σ) = (i < gN σ 12 ∧ catS st ≤ 8 ∧ Rn d (fun r σ' => Rn (d + 1) Q (218, 1008, [l0, l1, l2, l3], r.toList ++ st, σ')) (182, 0, [some (vR (some (12, 0, i))), some (vI a1), some (vI a2)], [], σ)) := E_invV (a := [vI a2, vI a1]) i218_1005 ((congrArg (fun z => mthQ z 95) o218).trans m13_95) o182 rfl (ek182 i a1 a2) (en182 i a1 a2)
theorem i218_1008 : ins 218 1008 = some (.if_icmp .eq 804, 3) := (congrArg (fun x : PTy => x.1.lookup 1008) q218).trans rfl
theorem e218_1008 {d : Nat} {Q : Option AV → St → Prop} {st : List AV} {σ : St} {l0 l1 l2 l3 : Option AV} {x y : Int32} : Rn (d) Q (218, 1008, [l0, l1, l2, l3], vI y :: vI x :: st, σ) = (if x = y then Rn (d) Q (218, 1812, [l0, l1, l2, l3], st, σ) else Rn (d) Q (218, 1011, [l0, l1, l2, l3], st, σ)) := E_icmp_eq 1812 i218_1008 (by decide)
theorem i218_1011 : ins 218 1011 = some (.iconst 0, 1) := (congrArg (fun x : PTy => x.1.lookup 1011) q218).trans rfl
theorem e218_1011 {d : Nat} {Q : Option AV → St → Prop} {st : List AV} {σ : St} {l0 l1 l2 l3 : Option AV} : Rn (d) Q (218, 1011, [l0, l1, l2, l3], st, σ) = Rn (d) Q (218, 1012, [l0, l1, l2, l3], vI 0 :: st, σ) := by rw [E_iconst i218_1011, ci_0]
theorem i218_1012 : ins 218 1012 = some (.ireturn, 1) := (congrArg (fun x : PTy => x.1.lookup 1012) q218).trans rfl
theorem e218_1012 {d : Nat} {Q : Option AV → St → Prop} {st : List AV} {σ : St} {l0 l1 l2 l3 : Option AV} {x : Int32} : Rn (d) Q (218, 1012, [l0, l1, l2, l3], [vI x], σ) = ((x = 0 ∨ x = 1) ∧ Q (some (vI x)) σ) := E_iretZ (st := []) i218_1012 r218
theorem i218_1013 : ins 218 1013 = some (.aload_n 1, 1) := (congrArg (fun x : PTy => x.1.lookup 1013) q218).trans rfl
theorem e218_1013 {d : Nat} {Q : Option AV → St → Prop} {st : List AV} {σ : St} {l0 l2 l3 : Option AV} {x : Option (Nat × Nat × Nat)} : Rn (d) Q (218, 1013, [l0, some (vR x), l2, l3], st, σ) = Rn (d) Q (218, 1014, [l0, some (vR x), l2, l3], vR x :: st, σ) := E_aload_n i218_1013 rfl
theorem i218_1014 : ins 218 1014 = some (.aload_n 0, 1) := (congrArg (fun x : PTy => x.1.lookup 1014) q218).trans rfl
theorem e218_1014 {d : Nat} {Q : Option AV → St → Prop} {st : List AV} {σ : St} {l1 l2 l3 : Option AV} {x : Option (Nat × Nat × Nat)} : Rn (d) Q (218, 1014, [some (vR x), l1, l2, l3], st, σ) = Rn (d) Q (218, 1015, [some (vR x), l1, l2, l3], vR x :: st, σ) := E_aload_n i218_1014 rfl
theorem i218_1015 : ins 218 1015 = some (.iload_n 3, 1) := (congrArg (fun x : PTy => x.1.lookup 1015) q218).trans rfl
theorem e218_1015 {d : Nat} {Q : Option AV → St → Prop} {st : List AV} {σ : St} {l0 l1 l2 : Option AV} {x : Int32} : Rn (d) Q (218, 1015, [l0, l1, l2, some (vI x)], st, σ) = Rn (d) Q (218, 1016, [l0, l1, l2, some (vI x)], vI x :: st, σ) := E_iload_n i218_1015 rfl
theorem i218_1016 : ins 218 1016 = some (.iconst 1, 1) := (congrArg (fun x : PTy => x.1.lookup 1016) q218).trans rfl
theorem e218_1016 {d : Nat} {Q : Option AV → St → Prop} {st : List AV} {σ : St} {l0 l1 l2 l3 : Option AV} : Rn (d) Q (218, 1016, [l0, l1, l2, l3], st, σ) = Rn (d) Q (218, 1017, [l0, l1, l2, l3], vI 1 :: st, σ) := by rw [E_iconst i218_1016, ci_1]
theorem i218_1017 : ins 218 1017 = some (.iadd, 1) := (congrArg (fun x : PTy => x.1.lookup 1017) q218).trans rfl
theorem e218_1017 {d : Nat} {Q : Option AV → St → Prop} {st : List AV} {σ : St} {l0 l1 l2 l3 : Option AV} {x y : Int32} : Rn (d) Q (218, 1017, [l0, l1, l2, l3], vI y :: vI x :: st, σ) = Rn (d) Q (218, 1018, [l0, l1, l2, l3], vI (x + y) :: st, σ) := E_iadd i218_1017
theorem i218_1018 : ins 218 1018 = some (.iaload, 1) := (congrArg (fun x : PTy => x.1.lookup 1018) q218).trans rfl
theorem e218_1018 {d : Nat} {Q : Option AV → St → Prop} {st : List AV} {σ : St} {l0 l1 l2 l3 : Option AV} {i : Nat} {j : Int32} : Rn (d) Q (218, 1018, [l0, l1, l2, l3], vI j :: vR (some (13, 1, i)) :: st, σ) = (∃ n, gL σ 13 0 i = some n ∧ i < gN σ 13 ∧ (0 ≤ j.toInt ∧ j.toInt < n) ∧ Rn (d) Q (218, 1019, [l0, l1, l2, l3], vI (gA σ 13 0 i j.toNatClampNeg) :: st, σ)) := E_iaload1 i218_1018 rfl
theorem i218_1019 : ins 218 1019 = some (.invokevirtual 96, 3) := (congrArg (fun x : PTy => x.1.lookup 1019) q218).trans rfl
theorem e218_1019 {d : Nat} {Q : Option AV → St → Prop} {st : List AV} {σ : St} {l0 l1 l2 l3 : Option AV} {i : Nat} {a1 : Int32} : Rn (d + 1) Q (218, 1019, [l0, l1, l2, l3], vI a1 :: vR (some (11, 0, i)) :: st, σ) = (i < gN σ 11 ∧ catS st ≤ 8 ∧ Rn d (fun r σ' => Rn (d + 1) Q (218, 1022, [l0, l1, l2, l3], r.toList ++ st, σ')) (85, 0, [some (vR (some (11, 0, i))), some (vI a1), none, none], [], σ)) := E_invV (a := [vI a1]) i218_1019 ((congrArg (fun z => mthQ z 96) o218).trans m13_96) o85 rfl (ek85 i a1) (en85 i a1)
theorem i218_1022 : ins 218 1022 = some (.aload_n 2, 1) := (congrArg (fun x : PTy => x.1.lookup 1022) q218).trans rfl
theorem e218_1022 {d : Nat} {Q : Option AV → St → Prop} {st : List AV} {σ : St} {l0 l1 l3 : Option AV} {x : Option (Nat × Nat × Nat)} : Rn (d) Q (218, 1022, [l0, l1, some (vR x), l3], st, σ) = Rn (d) Q (218, 1023, [l0, l1, some (vR x), l3], vR x :: st, σ) := E_aload_n i218_1022 rfl
theorem i218_1023 : ins 218 1023 = some (.aload_n 0, 1) := (congrArg (fun x : PTy => x.1.lookup 1023) q218).trans rfl
theorem e218_1023 {d : Nat} {Q : Option AV → St → Prop} {st : List AV} {σ : St} {l1 l2 l3 : Option AV} {x : Option (Nat × Nat × Nat)} : Rn (d) Q (218, 1023, [some (vR x), l1, l2, l3], st, σ) = Rn (d) Q (218, 1024, [some (vR x), l1, l2, l3], vR x :: st, σ) := E_aload_n i218_1023 rfl
theorem i218_1024 : ins 218 1024 = some (.iload_n 3, 1) := (congrArg (fun x : PTy => x.1.lookup 1024) q218).trans rfl
theorem e218_1024 {d : Nat} {Q : Option AV → St → Prop} {st : List AV} {σ : St} {l0 l1 l2 : Option AV} {x : Int32} : Rn (d) Q (218, 1024, [l0, l1, l2, some (vI x)], st, σ) = Rn (d) Q (218, 1025, [l0, l1, l2, some (vI x)], vI x :: st, σ) := E_iload_n i218_1024 rfl
theorem i218_1025 : ins 218 1025 = some (.iconst 1, 1) := (congrArg (fun x : PTy => x.1.lookup 1025) q218).trans rfl
theorem e218_1025 {d : Nat} {Q : Option AV → St → Prop} {st : List AV} {σ : St} {l0 l1 l2 l3 : Option AV} : Rn (d) Q (218, 1025, [l0, l1, l2, l3], st, σ) = Rn (d) Q (218, 1026, [l0, l1, l2, l3], vI 1 :: st, σ) := by rw [E_iconst i218_1025, ci_1]
theorem i218_1026 : ins 218 1026 = some (.iadd, 1) := (congrArg (fun x : PTy => x.1.lookup 1026) q218).trans rfl
theorem e218_1026 {d : Nat} {Q : Option AV → St → Prop} {st : List AV} {σ : St} {l0 l1 l2 l3 : Option AV} {x y : Int32} : Rn (d) Q (218, 1026, [l0, l1, l2, l3], vI y :: vI x :: st, σ) = Rn (d) Q (218, 1027, [l0, l1, l2, l3], vI (x + y) :: st, σ) := E_iadd i218_1026
theorem i218_1027 : ins 218 1027 = some (.iaload, 1) := (congrArg (fun x : PTy => x.1.lookup 1027) q218).trans rfl
theorem e218_1027 {d : Nat} {Q : Option AV → St → Prop} {st : List AV} {σ : St} {l0 l1 l2 l3 : Option AV} {i : Nat} {j : Int32} : Rn (d) Q (218, 1027, [l0, l1, l2, l3], vI j :: vR (some (13, 1, i)) :: st, σ) = (∃ n, gL σ 13 0 i = some n ∧ i < gN σ 13 ∧ (0 ≤ j.toInt ∧ j.toInt < n) ∧ Rn (d) Q (218, 1028, [l0, l1, l2, l3], vI (gA σ 13 0 i j.toNatClampNeg) :: st, σ)) := E_iaload1 i218_1027 rfl
theorem i218_1028 : ins 218 1028 = some (.invokevirtual 100, 3) := (congrArg (fun x : PTy => x.1.lookup 1028) q218).trans rfl
theorem e218_1028 {d : Nat} {Q : Option AV → St → Prop} {st : List AV} {σ : St} {l0 l1 l2 l3 : Option AV} {i : Nat} {a1 : Int32} : Rn (d + 1) Q (218, 1028, [l0, l1, l2, l3], vI a1 :: vR (some (12, 0, i)) :: st, σ) = (i < gN σ 12 ∧ catS st ≤ 8 ∧ Rn d (fun r σ' => Rn (d + 1) Q (218, 1031, [l0, l1, l2, l3], r.toList ++ st, σ')) (183, 0, [some (vR (some (12, 0, i))), some (vI a1), none, none], [], σ)) := E_invV (a := [vI a1]) i218_1028 ((congrArg (fun z => mthQ z 100) o218).trans m13_100) o183 rfl (ek183 i a1) (en183 i a1)
theorem i218_1031 : ins 218 1031 = some (.if_icmp .eq 781, 3) := (congrArg (fun x : PTy => x.1.lookup 1031) q218).trans rfl
theorem e218_1031 {d : Nat} {Q : Option AV → St → Prop} {st : List AV} {σ : St} {l0 l1 l2 l3 : Option AV} {x y : Int32} : Rn (d) Q (218, 1031, [l0, l1, l2, l3], vI y :: vI x :: st, σ) = (if x = y then Rn (d) Q (218, 1812, [l0, l1, l2, l3], st, σ) else Rn (d) Q (218, 1034, [l0, l1, l2, l3], st, σ)) := E_icmp_eq 1812 i218_1031 (by decide)
theorem i218_1034 : ins 218 1034 = some (.iconst 0, 1) := (congrArg (fun x : PTy => x.1.lookup 1034) q218).trans rfl
theorem e218_1034 {d : Nat} {Q : Option AV → St → Prop} {st : List AV} {σ : St} {l0 l1 l2 l3 : Option AV} : Rn (d) Q (218, 1034, [l0, l1, l2, l3], st, σ) = Rn (d) Q (218, 1035, [l0, l1, l2, l3], vI 0 :: st, σ) := by rw [E_iconst i218_1034, ci_0]
theorem i218_1035 : ins 218 1035 = some (.ireturn, 1) := (congrArg (fun x : PTy => x.1.lookup 1035) q218).trans rfl
theorem e218_1035 {d : Nat} {Q : Option AV → St → Prop} {st : List AV} {σ : St} {l0 l1 l2 l3 : Option AV} {x : Int32} : Rn (d) Q (218, 1035, [l0, l1, l2, l3], [vI x], σ) = ((x = 0 ∨ x = 1) ∧ Q (some (vI x)) σ) := E_iretZ (st := []) i218_1035 r218
theorem i218_1036 : ins 218 1036 = some (.aload_n 1, 1) := (congrArg (fun x : PTy => x.1.lookup 1036) q218).trans rfl
theorem e218_1036 {d : Nat} {Q : Option AV → St → Prop} {st : List AV} {σ : St} {l0 l2 l3 : Option AV} {x : Option (Nat × Nat × Nat)} : Rn (d) Q (218, 1036, [l0, some (vR x), l2, l3], st, σ) = Rn (d) Q (218, 1037, [l0, some (vR x), l2, l3], vR x :: st, σ) := E_aload_n i218_1036 rfl
theorem i218_1037 : ins 218 1037 = some (.aload_n 0, 1) := (congrArg (fun x : PTy => x.1.lookup 1037) q218).trans rfl
theorem e218_1037 {d : Nat} {Q : Option AV → St → Prop} {st : List AV} {σ : St} {l1 l2 l3 : Option AV} {x : Option (Nat × Nat × Nat)} : Rn (d) Q (218, 1037, [some (vR x), l1, l2, l3], st, σ) = Rn (d) Q (218, 1038, [some (vR x), l1, l2, l3], vR x :: st, σ) := E_aload_n i218_1037 rfl
theorem i218_1038 : ins 218 1038 = some (.iload_n 3, 1) := (congrArg (fun x : PTy => x.1.lookup 1038) q218).trans rfl
theorem e218_1038 {d : Nat} {Q : Option AV → St → Prop} {st : List AV} {σ : St} {l0 l1 l2 : Option AV} {x : Int32} : Rn (d) Q (218, 1038, [l0, l1, l2, some (vI x)], st, σ) = Rn (d) Q (218, 1039, [l0, l1, l2, some (vI x)], vI x :: st, σ) := E_iload_n i218_1038 rfl
theorem i218_1039 : ins 218 1039 = some (.iconst 1, 1) := (congrArg (fun x : PTy => x.1.lookup 1039) q218).trans rfl
theorem e218_1039 {d : Nat} {Q : Option AV → St → Prop} {st : List AV} {σ : St} {l0 l1 l2 l3 : Option AV} : Rn (d) Q (218, 1039, [l0, l1, l2, l3], st, σ) = Rn (d) Q (218, 1040, [l0, l1, l2, l3], vI 1 :: st, σ) := by rw [E_iconst i218_1039, ci_1]
theorem i218_1040 : ins 218 1040 = some (.iadd, 1) := (congrArg (fun x : PTy => x.1.lookup 1040) q218).trans rfl
theorem e218_1040 {d : Nat} {Q : Option AV → St → Prop} {st : List AV} {σ : St} {l0 l1 l2 l3 : Option AV} {x y : Int32} : Rn (d) Q (218, 1040, [l0, l1, l2, l3], vI y :: vI x :: st, σ) = Rn (d) Q (218, 1041, [l0, l1, l2, l3], vI (x + y) :: st, σ) := E_iadd i218_1040
theorem i218_1041 : ins 218 1041 = some (.iaload, 1) := (congrArg (fun x : PTy => x.1.lookup 1041) q218).trans rfl
theorem e218_1041 {d : Nat} {Q : Option AV → St → Prop} {st : List AV} {σ : St} {l0 l1 l2 l3 : Option AV} {i : Nat} {j : Int32} : Rn (d) Q (218, 1041, [l0, l1, l2, l3], vI j :: vR (some (13, 1, i)) :: st, σ) = (∃ n, gL σ 13 0 i = some n ∧ i < gN σ 13 ∧ (0 ≤ j.toInt ∧ j.toInt < n) ∧ Rn (d) Q (218, 1042, [l0, l1, l2, l3], vI (gA σ 13 0 i j.toNatClampNeg) :: st, σ)) := E_iaload1 i218_1041 rfl
theorem i218_1042 : ins 218 1042 = some (.aload_n 0, 1) := (congrArg (fun x : PTy => x.1.lookup 1042) q218).trans rfl
theorem e218_1042 {d : Nat} {Q : Option AV → St → Prop} {st : List AV} {σ : St} {l1 l2 l3 : Option AV} {x : Option (Nat × Nat × Nat)} : Rn (d) Q (218, 1042, [some (vR x), l1, l2, l3], st, σ) = Rn (d) Q (218, 1043, [some (vR x), l1, l2, l3], vR x :: st, σ) := E_aload_n i218_1042 rfl
theorem i218_1043 : ins 218 1043 = some (.iload_n 3, 1) := (congrArg (fun x : PTy => x.1.lookup 1043) q218).trans rfl
theorem e218_1043 {d : Nat} {Q : Option AV → St → Prop} {st : List AV} {σ : St} {l0 l1 l2 : Option AV} {x : Int32} : Rn (d) Q (218, 1043, [l0, l1, l2, some (vI x)], st, σ) = Rn (d) Q (218, 1044, [l0, l1, l2, some (vI x)], vI x :: st, σ) := E_iload_n i218_1043 rfl
theorem i218_1044 : ins 218 1044 = some (.iconst 2, 1) := (congrArg (fun x : PTy => x.1.lookup 1044) q218).trans rfl
theorem e218_1044 {d : Nat} {Q : Option AV → St → Prop} {st : List AV} {σ : St} {l0 l1 l2 l3 : Option AV} : Rn (d) Q (218, 1044, [l0, l1, l2, l3], st, σ) = Rn (d) Q (218, 1045, [l0, l1, l2, l3], vI 2 :: st, σ) := by rw [E_iconst i218_1044, ci_2]
theorem i218_1045 : ins 218 1045 = some (.iadd, 1) := (congrArg (fun x : PTy => x.1.lookup 1045) q218).trans rfl
theorem e218_1045 {d : Nat} {Q : Option AV → St → Prop} {st : List AV} {σ : St} {l0 l1 l2 l3 : Option AV} {x y : Int32} : Rn (d) Q (218, 1045, [l0, l1, l2, l3], vI y :: vI x :: st, σ) = Rn (d) Q (218, 1046, [l0, l1, l2, l3], vI (x + y) :: st, σ) := E_iadd i218_1045
theorem i218_1046 : ins 218 1046 = some (.iaload, 1) := (congrArg (fun x : PTy => x.1.lookup 1046) q218).trans rfl
theorem e218_1046 {d : Nat} {Q : Option AV → St → Prop} {st : List AV} {σ : St} {l0 l1 l2 l3 : Option AV} {i : Nat} {j : Int32} : Rn (d) Q (218, 1046, [l0, l1, l2, l3], vI j :: vR (some (13, 1, i)) :: st, σ) = (∃ n, gL σ 13 0 i = some n ∧ i < gN σ 13 ∧ (0 ≤ j.toInt ∧ j.toInt < n) ∧ Rn (d) Q (218, 1047, [l0, l1, l2, l3], vI (gA σ 13 0 i j.toNatClampNeg) :: st, σ)) := E_iaload1 i218_1046 rfl
theorem i218_1047 : ins 218 1047 = some (.invokevirtual 101, 3) := (congrArg (fun x : PTy => x.1.lookup 1047) q218).trans rfl
theorem e218_1047 {d : Nat} {Q : Option AV → St → Prop} {st : List AV} {σ : St} {l0 l1 l2 l3 : Option AV} {i : Nat} {a1 : Int32} {a2 : Int32} : Rn (d + 1) Q (218, 1047, [l0, l1, l2, l3], vI a2 :: vI a1 :: vR (some (11, 0, i)) :: st, σ) = (i < gN σ 11 ∧ catS st ≤ 8 ∧ Rn d (fun r σ' => Rn (d + 1) Q (218, 1050, [l0, l1, l2, l3], r.toList ++ st, σ')) (86, 0, [some (vR (some (11, 0, i))), some (vI a1), some (vI a2)], [], σ)) := E_invV (a := [vI a2, vI a1]) i218_1047 ((congrArg (fun z => mthQ z 101) o218).trans m13_101) o86 rfl (ek86 i a1 a2) (en86 i a1 a2)
theorem i218_1050 : ins 218 1050 = some (.aload_n 2, 1) := (congrArg (fun x : PTy => x.1.lookup 1050) q218).trans rfl
theorem e218_1050 {d : Nat} {Q : Option AV → St → Prop} {st : List AV} {σ : St} {l0 l1 l3 : Option AV} {x : Option (Nat × Nat × Nat)} : Rn (d) Q (218, 1050, [l0, l1, some (vR x), l3], st, σ) = Rn (d) Q (218, 1051, [l0, l1, some (vR x), l3], vR x :: st, σ) := E_aload_n i218_1050 rfl
theorem i218_1051 : ins 218 1051 = some (.aload_n 0, 1) := (congrArg (fun x : PTy => x.1.lookup 1051) q218).trans rfl
theorem e218_1051 {d : Nat} {Q : Option AV → St → Prop} {st : List AV} {σ : St} {l1 l2 l3 : Option AV} {x : Option (Nat × Nat × Nat)} : Rn (d) Q (218, 1051, [some (vR x), l1, l2, l3], st, σ) = Rn (d) Q (218, 1052, [some (vR x), l1, l2, l3], vR x :: st, σ) := E_aload_n i218_1051 rfl
theorem i218_1052 : ins 218 1052 = some (.iload_n 3, 1) := (congrArg (fun x : PTy => x.1.lookup 1052) q218).trans rfl
theorem e218_1052 {d : Nat} {Q : Option AV → St → Prop} {st : List AV} {σ : St} {l0 l1 l2 : Option AV} {x : Int32} : Rn (d) Q (218, 1052, [l0, l1, l2, some (vI x)], st, σ) = Rn (d) Q (218, 1053, [l0, l1, l2, some (vI x)], vI x :: st, σ) := E_iload_n i218_1052 rfl
theorem i218_1053 : ins 218 1053 = some (.iconst 1, 1) := (congrArg (fun x : PTy => x.1.lookup 1053) q218).trans rfl
theorem e218_1053 {d : Nat} {Q : Option AV → St → Prop} {st : List AV} {σ : St} {l0 l1 l2 l3 : Option AV} : Rn (d) Q (218, 1053, [l0, l1, l2, l3], st, σ) = Rn (d) Q (218, 1054, [l0, l1, l2, l3], vI 1 :: st, σ) := by rw [E_iconst i218_1053, ci_1]
theorem i218_1054 : ins 218 1054 = some (.iadd, 1) := (congrArg (fun x : PTy => x.1.lookup 1054) q218).trans rfl
theorem e218_1054 {d : Nat} {Q : Option AV → St → Prop} {st : List AV} {σ : St} {l0 l1 l2 l3 : Option AV} {x y : Int32} : Rn (d) Q (218, 1054, [l0, l1, l2, l3], vI y :: vI x :: st, σ) = Rn (d) Q (218, 1055, [l0, l1, l2, l3], vI (x + y) :: st, σ) := E_iadd i218_1054
theorem i218_1055 : ins 218 1055 = some (.iaload, 1) := (congrArg (fun x : PTy => x.1.lookup 1055) q218).trans rfl
theorem e218_1055 {d : Nat} {Q : Option AV → St → Prop} {st : List AV} {σ : St} {l0 l1 l2 l3 : Option AV} {i : Nat} {j : Int32} : Rn (d) Q (218, 1055, [l0, l1, l2, l3], vI j :: vR (some (13, 1, i)) :: st, σ) = (∃ n, gL σ 13 0 i = some n ∧ i < gN σ 13 ∧ (0 ≤ j.toInt ∧ j.toInt < n) ∧ Rn (d) Q (218, 1056, [l0, l1, l2, l3], vI (gA σ 13 0 i j.toNatClampNeg) :: st, σ)) := E_iaload1 i218_1055 rfl
theorem i218_1056 : ins 218 1056 = some (.aload_n 0, 1) := (congrArg (fun x : PTy => x.1.lookup 1056) q218).trans rfl
theorem e218_1056 {d : Nat} {Q : Option AV → St → Prop} {st : List AV} {σ : St} {l1 l2 l3 : Option AV} {x : Option (Nat × Nat × Nat)} : Rn (d) Q (218, 1056, [some (vR x), l1, l2, l3], st, σ) = Rn (d) Q (218, 1057, [some (vR x), l1, l2, l3], vR x :: st, σ) := E_aload_n i218_1056 rfl
theorem i218_1057 : ins 218 1057 = some (.iload_n 3, 1) := (congrArg (fun x : PTy => x.1.lookup 1057) q218).trans rfl
theorem e218_1057 {d : Nat} {Q : Option AV → St → Prop} {st : List AV} {σ : St} {l0 l1 l2 : Option AV} {x : Int32} : Rn (d) Q (218, 1057, [l0, l1, l2, some (vI x)], st, σ) = Rn (d) Q (218, 1058, [l0, l1, l2, some (vI x)], vI x :: st, σ) := E_iload_n i218_1057 rfl
theorem i218_1058 : ins 218 1058 = some (.iconst 2, 1) := (congrArg (fun x : PTy => x.1.lookup 1058) q218).trans rfl
theorem e218_1058 {d : Nat} {Q : Option AV → St → Prop} {st : List AV} {σ : St} {l0 l1 l2 l3 : Option AV} : Rn (d) Q (218, 1058, [l0, l1, l2, l3], st, σ) = Rn (d) Q (218, 1059, [l0, l1, l2, l3], vI 2 :: st, σ) := by rw [E_iconst i218_1058, ci_2]
theorem i218_1059 : ins 218 1059 = some (.iadd, 1) := (congrArg (fun x : PTy => x.1.lookup 1059) q218).trans rfl
theorem e218_1059 {d : Nat} {Q : Option AV → St → Prop} {st : List AV} {σ : St} {l0 l1 l2 l3 : Option AV} {x y : Int32} : Rn (d) Q (218, 1059, [l0, l1, l2, l3], vI y :: vI x :: st, σ) = Rn (d) Q (218, 1060, [l0, l1, l2, l3], vI (x + y) :: st, σ) := E_iadd i218_1059
theorem i218_1060 : ins 218 1060 = some (.iaload, 1) := (congrArg (fun x : PTy => x.1.lookup 1060) q218).trans rfl
theorem e218_1060 {d : Nat} {Q : Option AV → St → Prop} {st : List AV} {σ : St} {l0 l1 l2 l3 : Option AV} {i : Nat} {j : Int32} : Rn (d) Q (218, 1060, [l0, l1, l2, l3], vI j :: vR (some (13, 1, i)) :: st, σ) = (∃ n, gL σ 13 0 i = some n ∧ i < gN σ 13 ∧ (0 ≤ j.toInt ∧ j.toInt < n) ∧ Rn (d) Q (218, 1061, [l0, l1, l2, l3], vI (gA σ 13 0 i j.toNatClampNeg) :: st, σ)) := E_iaload1 i218_1060 rfl
theorem i218_1061 : ins 218 1061 = some (.invokevirtual 104, 3) := (congrArg (fun x : PTy => x.1.lookup 1061) q218).trans rfl
theorem e218_1061 {d : Nat} {Q : Option AV → St → Prop} {st : List AV} {σ : St} {l0 l1 l2 l3 : Option AV} {i : Nat} {a1 : Int32} {a2 : Int32} : Rn (d + 1) Q (218, 1061, [l0, l1, l2, l3], vI a2 :: vI a1 :: vR (some (12, 0, i)) :: st, σ) = (i < gN σ 12 ∧ catS st ≤ 8 ∧ Rn d (fun r σ' => Rn (d + 1) Q (218, 1064, [l0, l1, l2, l3], r.toList ++ st, σ')) (184, 0, [some (vR (some (12, 0, i))), some (vI a1), some (vI a2)], [], σ)) := E_invV (a := [vI a2, vI a1]) i218_1061 ((congrArg (fun z => mthQ z 104) o218).trans m13_104) o184 rfl (ek184 i a1 a2) (en184 i a1 a2)
theorem i218_1064 : ins 218 1064 = some (.if_icmp .eq 748, 3) := (congrArg (fun x : PTy => x.1.lookup 1064) q218).trans rfl
theorem e218_1064 {d : Nat} {Q : Option AV → St → Prop} {st : List AV} {σ : St} {l0 l1 l2 l3 : Option AV} {x y : Int32} : Rn (d) Q (218, 1064, [l0, l1, l2, l3], vI y :: vI x :: st, σ) = (if x = y then Rn (d) Q (218, 1812, [l0, l1, l2, l3], st, σ) else Rn (d) Q (218, 1067, [l0, l1, l2, l3], st, σ)) := E_icmp_eq 1812 i218_1064 (by decide)
theorem i218_1067 : ins 218 1067 = some (.iconst 0, 1) := (congrArg (fun x : PTy => x.1.lookup 1067) q218).trans rfl
theorem e218_1067 {d : Nat} {Q : Option AV → St → Prop} {st : List AV} {σ : St} {l0 l1 l2 l3 : Option AV} : Rn (d) Q (218, 1067, [l0, l1, l2, l3], st, σ) = Rn (d) Q (218, 1068, [l0, l1, l2, l3], vI 0 :: st, σ) := by rw [E_iconst i218_1067, ci_0]
theorem i218_1068 : ins 218 1068 = some (.ireturn, 1) := (congrArg (fun x : PTy => x.1.lookup 1068) q218).trans rfl
theorem e218_1068 {d : Nat} {Q : Option AV → St → Prop} {st : List AV} {σ : St} {l0 l1 l2 l3 : Option AV} {x : Int32} : Rn (d) Q (218, 1068, [l0, l1, l2, l3], [vI x], σ) = ((x = 0 ∨ x = 1) ∧ Q (some (vI x)) σ) := E_iretZ (st := []) i218_1068 r218
theorem i218_1069 : ins 218 1069 = some (.aload_n 1, 1) := (congrArg (fun x : PTy => x.1.lookup 1069) q218).trans rfl
theorem e218_1069 {d : Nat} {Q : Option AV → St → Prop} {st : List AV} {σ : St} {l0 l2 l3 : Option AV} {x : Option (Nat × Nat × Nat)} : Rn (d) Q (218, 1069, [l0, some (vR x), l2, l3], st, σ) = Rn (d) Q (218, 1070, [l0, some (vR x), l2, l3], vR x :: st, σ) := E_aload_n i218_1069 rfl
theorem i218_1070 : ins 218 1070 = some (.aload_n 0, 1) := (congrArg (fun x : PTy => x.1.lookup 1070) q218).trans rfl
theorem e218_1070 {d : Nat} {Q : Option AV → St → Prop} {st : List AV} {σ : St} {l1 l2 l3 : Option AV} {x : Option (Nat × Nat × Nat)} : Rn (d) Q (218, 1070, [some (vR x), l1, l2, l3], st, σ) = Rn (d) Q (218, 1071, [some (vR x), l1, l2, l3], vR x :: st, σ) := E_aload_n i218_1070 rfl
theorem i218_1071 : ins 218 1071 = some (.iload_n 3, 1) := (congrArg (fun x : PTy => x.1.lookup 1071) q218).trans rfl
theorem e218_1071 {d : Nat} {Q : Option AV → St → Prop} {st : List AV} {σ : St} {l0 l1 l2 : Option AV} {x : Int32} : Rn (d) Q (218, 1071, [l0, l1, l2, some (vI x)], st, σ) = Rn (d) Q (218, 1072, [l0, l1, l2, some (vI x)], vI x :: st, σ) := E_iload_n i218_1071 rfl
theorem i218_1072 : ins 218 1072 = some (.iconst 1, 1) := (congrArg (fun x : PTy => x.1.lookup 1072) q218).trans rfl
theorem e218_1072 {d : Nat} {Q : Option AV → St → Prop} {st : List AV} {σ : St} {l0 l1 l2 l3 : Option AV} : Rn (d) Q (218, 1072, [l0, l1, l2, l3], st, σ) = Rn (d) Q (218, 1073, [l0, l1, l2, l3], vI 1 :: st, σ) := by rw [E_iconst i218_1072, ci_1]
theorem i218_1073 : ins 218 1073 = some (.iadd, 1) := (congrArg (fun x : PTy => x.1.lookup 1073) q218).trans rfl
theorem e218_1073 {d : Nat} {Q : Option AV → St → Prop} {st : List AV} {σ : St} {l0 l1 l2 l3 : Option AV} {x y : Int32} : Rn (d) Q (218, 1073, [l0, l1, l2, l3], vI y :: vI x :: st, σ) = Rn (d) Q (218, 1074, [l0, l1, l2, l3], vI (x + y) :: st, σ) := E_iadd i218_1073
theorem i218_1074 : ins 218 1074 = some (.iaload, 1) := (congrArg (fun x : PTy => x.1.lookup 1074) q218).trans rfl
theorem e218_1074 {d : Nat} {Q : Option AV → St → Prop} {st : List AV} {σ : St} {l0 l1 l2 l3 : Option AV} {i : Nat} {j : Int32} : Rn (d) Q (218, 1074, [l0, l1, l2, l3], vI j :: vR (some (13, 1, i)) :: st, σ) = (∃ n, gL σ 13 0 i = some n ∧ i < gN σ 13 ∧ (0 ≤ j.toInt ∧ j.toInt < n) ∧ Rn (d) Q (218, 1075, [l0, l1, l2, l3], vI (gA σ 13 0 i j.toNatClampNeg) :: st, σ)) := E_iaload1 i218_1074 rfl
theorem i218_1075 : ins 218 1075 = some (.aload_n 0, 1) := (congrArg (fun x : PTy => x.1.lookup 1075) q218).trans rfl
theorem e218_1075 {d : Nat} {Q : Option AV → St → Prop} {st : List AV} {σ : St} {l1 l2 l3 : Option AV} {x : Option (Nat × Nat × Nat)} : Rn (d) Q (218, 1075, [some (vR x), l1, l2, l3], st, σ) = Rn (d) Q (218, 1076, [some (vR x), l1, l2, l3], vR x :: st, σ) := E_aload_n i218_1075 rfl
theorem i218_1076 : ins 218 1076 = some (.iload_n 3, 1) := (congrArg (fun x : PTy => x.1.lookup 1076) q218).trans rfl
theorem e218_1076 {d : Nat} {Q : Option AV → St → Prop} {st : List AV} {σ : St} {l0 l1 l2 : Option AV} {x : Int32} : Rn (d) Q (218, 1076, [l0, l1, l2, some (vI x)], st, σ) = Rn (d) Q (218, 1077, [l0, l1, l2, some (vI x)], vI x :: st, σ) := E_iload_n i218_1076 rfl
theorem i218_1077 : ins 218 1077 = some (.iconst 2, 1) := (congrArg (fun x : PTy => x.1.lookup 1077) q218).trans rfl
theorem e218_1077 {d : Nat} {Q : Option AV → St → Prop} {st : List AV} {σ : St} {l0 l1 l2 l3 : Option AV} : Rn (d) Q (218, 1077, [l0, l1, l2, l3], st, σ) = Rn (d) Q (218, 1078, [l0, l1, l2, l3], vI 2 :: st, σ) := by rw [E_iconst i218_1077, ci_2]
theorem i218_1078 : ins 218 1078 = some (.iadd, 1) := (congrArg (fun x : PTy => x.1.lookup 1078) q218).trans rfl
theorem e218_1078 {d : Nat} {Q : Option AV → St → Prop} {st : List AV} {σ : St} {l0 l1 l2 l3 : Option AV} {x y : Int32} : Rn (d) Q (218, 1078, [l0, l1, l2, l3], vI y :: vI x :: st, σ) = Rn (d) Q (218, 1079, [l0, l1, l2, l3], vI (x + y) :: st, σ) := E_iadd i218_1078
theorem i218_1079 : ins 218 1079 = some (.iaload, 1) := (congrArg (fun x : PTy => x.1.lookup 1079) q218).trans rfl
theorem e218_1079 {d : Nat} {Q : Option AV → St → Prop} {st : List AV} {σ : St} {l0 l1 l2 l3 : Option AV} {i : Nat} {j : Int32} : Rn (d) Q (218, 1079, [l0, l1, l2, l3], vI j :: vR (some (13, 1, i)) :: st, σ) = (∃ n, gL σ 13 0 i = some n ∧ i < gN σ 13 ∧ (0 ≤ j.toInt ∧ j.toInt < n) ∧ Rn (d) Q (218, 1080, [l0, l1, l2, l3], vI (gA σ 13 0 i j.toNatClampNeg) :: st, σ)) := E_iaload1 i218_1079 rfl
theorem i218_1080 : ins 218 1080 = some (.invokevirtual 105, 3) := (congrArg (fun x : PTy => x.1.lookup 1080) q218).trans rfl
theorem e218_1080 {d : Nat} {Q : Option AV → St → Prop} {st : List AV} {σ : St} {l0 l1 l2 l3 : Option AV} {i : Nat} {a1 : Int32} {a2 : Int32} : Rn (d + 1) Q (218, 1080, [l0, l1, l2, l3], vI a2 :: vI a1 :: vR (some (11, 0, i)) :: st, σ) = (i < gN σ 11 ∧ catS st ≤ 8 ∧ Rn d (fun r σ' => Rn (d + 1) Q (218, 1083, [l0, l1, l2, l3], r.toList ++ st, σ')) (87, 0, [some (vR (some (11, 0, i))), some (vI a1), some (vI a2), none, none], [], σ)) := E_invV (a := [vI a2, vI a1]) i218_1080 ((congrArg (fun z => mthQ z 105) o218).trans m13_105) o87 rfl (ek87 i a1 a2) (en87 i a1 a2)
theorem i218_1083 : ins 218 1083 = some (.aload_n 2, 1) := (congrArg (fun x : PTy => x.1.lookup 1083) q218).trans rfl
theorem e218_1083 {d : Nat} {Q : Option AV → St → Prop} {st : List AV} {σ : St} {l0 l1 l3 : Option AV} {x : Option (Nat × Nat × Nat)} : Rn (d) Q (218, 1083, [l0, l1, some (vR x), l3], st, σ) = Rn (d) Q (218, 1084, [l0, l1, some (vR x), l3], vR x :: st, σ) := E_aload_n i218_1083 rfl
theorem i218_1084 : ins 218 1084 = some (.aload_n 0, 1) := (congrArg (fun x : PTy => x.1.lookup 1084) q218).trans rfl
theorem e218_1084 {d : Nat} {Q : Option AV → St → Prop} {st : List AV} {σ : St} {l1 l2 l3 : Option AV} {x : Option (Nat × Nat × Nat)} : Rn (d) Q (218, 1084, [some (vR x), l1, l2, l3], st, σ) = Rn (d) Q (218, 1085, [some (vR x), l1, l2, l3], vR x :: st, σ) := E_aload_n i218_1084 rfl
theorem i218_1085 : ins 218 1085 = some (.iload_n 3, 1) := (congrArg (fun x : PTy => x.1.lookup 1085) q218).trans rfl
theorem e218_1085 {d : Nat} {Q : Option AV → St → Prop} {st : List AV} {σ : St} {l0 l1 l2 : Option AV} {x : Int32} : Rn (d) Q (218, 1085, [l0, l1, l2, some (vI x)], st, σ) = Rn (d) Q (218, 1086, [l0, l1, l2, some (vI x)], vI x :: st, σ) := E_iload_n i218_1085 rfl
theorem i218_1086 : ins 218 1086 = some (.iconst 1, 1) := (congrArg (fun x : PTy => x.1.lookup 1086) q218).trans rfl
theorem e218_1086 {d : Nat} {Q : Option AV → St → Prop} {st : List AV} {σ : St} {l0 l1 l2 l3 : Option AV} : Rn (d) Q (218, 1086, [l0, l1, l2, l3], st, σ) = Rn (d) Q (218, 1087, [l0, l1, l2, l3], vI 1 :: st, σ) := by rw [E_iconst i218_1086, ci_1]
theorem i218_1087 : ins 218 1087 = some (.iadd, 1) := (congrArg (fun x : PTy => x.1.lookup 1087) q218).trans rfl
theorem e218_1087 {d : Nat} {Q : Option AV → St → Prop} {st : List AV} {σ : St} {l0 l1 l2 l3 : Option AV} {x y : Int32} : Rn (d) Q (218, 1087, [l0, l1, l2, l3], vI y :: vI x :: st, σ) = Rn (d) Q (218, 1088, [l0, l1, l2, l3], vI (x + y) :: st, σ) := E_iadd i218_1087
theorem i218_1088 : ins 218 1088 = some (.iaload, 1) := (congrArg (fun x : PTy => x.1.lookup 1088) q218).trans rfl
theorem e218_1088 {d : Nat} {Q : Option AV → St → Prop} {st : List AV} {σ : St} {l0 l1 l2 l3 : Option AV} {i : Nat} {j : Int32} : Rn (d) Q (218, 1088, [l0, l1, l2, l3], vI j :: vR (some (13, 1, i)) :: st, σ) = (∃ n, gL σ 13 0 i = some n ∧ i < gN σ 13 ∧ (0 ≤ j.toInt ∧ j.toInt < n) ∧ Rn (d) Q (218, 1089, [l0, l1, l2, l3], vI (gA σ 13 0 i j.toNatClampNeg) :: st, σ)) := E_iaload1 i218_1088 rfl
theorem i218_1089 : ins 218 1089 = some (.aload_n 0, 1) := (congrArg (fun x : PTy => x.1.lookup 1089) q218).trans rfl
theorem e218_1089 {d : Nat} {Q : Option AV → St → Prop} {st : List AV} {σ : St} {l1 l2 l3 : Option AV} {x : Option (Nat × Nat × Nat)} : Rn (d) Q (218, 1089, [some (vR x), l1, l2, l3], st, σ) = Rn (d) Q (218, 1090, [some (vR x), l1, l2, l3], vR x :: st, σ) := E_aload_n i218_1089 rfl
theorem i218_1090 : ins 218 1090 = some (.iload_n 3, 1) := (congrArg (fun x : PTy => x.1.lookup 1090) q218).trans rfl
theorem e218_1090 {d : Nat} {Q : Option AV → St → Prop} {st : List AV} {σ : St} {l0 l1 l2 : Option AV} {x : Int32} : Rn (d) Q (218, 1090, [l0, l1, l2, some (vI x)], st, σ) = Rn (d) Q (218, 1091, [l0, l1, l2, some (vI x)], vI x :: st, σ) := E_iload_n i218_1090 rfl
theorem i218_1091 : ins 218 1091 = some (.iconst 2, 1) := (congrArg (fun x : PTy => x.1.lookup 1091) q218).trans rfl
theorem e218_1091 {d : Nat} {Q : Option AV → St → Prop} {st : List AV} {σ : St} {l0 l1 l2 l3 : Option AV} : Rn (d) Q (218, 1091, [l0, l1, l2, l3], st, σ) = Rn (d) Q (218, 1092, [l0, l1, l2, l3], vI 2 :: st, σ) := by rw [E_iconst i218_1091, ci_2]
theorem i218_1092 : ins 218 1092 = some (.iadd, 1) := (congrArg (fun x : PTy => x.1.lookup 1092) q218).trans rfl
theorem e218_1092 {d : Nat} {Q : Option AV → St → Prop} {st : List AV} {σ : St} {l0 l1 l2 l3 : Option AV} {x y : Int32} : Rn (d) Q (218, 1092, [l0, l1, l2, l3], vI y :: vI x :: st, σ) = Rn (d) Q (218, 1093, [l0, l1, l2, l3], vI (x + y) :: st, σ) := E_iadd i218_1092
theorem i218_1093 : ins 218 1093 = some (.iaload, 1) := (congrArg (fun x : PTy => x.1.lookup 1093) q218).trans rfl
theorem e218_1093 {d : Nat} {Q : Option AV → St → Prop} {st : List AV} {σ : St} {l0 l1 l2 l3 : Option AV} {i : Nat} {j : Int32} : Rn (d) Q (218, 1093, [l0, l1, l2, l3], vI j :: vR (some (13, 1, i)) :: st, σ) = (∃ n, gL σ 13 0 i = some n ∧ i < gN σ 13 ∧ (0 ≤ j.toInt ∧ j.toInt < n) ∧ Rn (d) Q (218, 1094, [l0, l1, l2, l3], vI (gA σ 13 0 i j.toNatClampNeg) :: st, σ)) := E_iaload1 i218_1093 rfl
theorem i218_1094 : ins 218 1094 = some (.invokevirtual 108, 3) := (congrArg (fun x : PTy => x.1.lookup 1094) q218).trans rfl
theorem e218_1094 {d : Nat} {Q : Option AV → St → Prop} {st : List AV} {σ : St} {l0 l1 l2 l3 : Option AV} {i : Nat} {a1 : Int32} {a2 : Int32} : Rn (d + 1) Q (218, 1094, [l0, l1, l2, l3], vI a2 :: vI a1 :: vR (some (12, 0, i)) :: st, σ) = (i < gN σ 12 ∧ catS st ≤ 8 ∧ Rn d (fun r σ' => Rn (d + 1) Q (218, 1097, [l0, l1, l2, l3], r.toList ++ st, σ')) (186, 0, [some (vR (some (12, 0, i))), some (vI a1), some (vI a2), none], [], σ)) := E_invV (a := [vI a2, vI a1]) i218_1094 ((congrArg (fun z => mthQ z 108) o218).trans m13_108) o186 rfl (ek186 i a1 a2) (en186 i a1 a2)
theorem i218_1097 : ins 218 1097 = some (.if_icmp .eq 715, 3) := (congrArg (fun x : PTy => x.1.lookup 1097) q218).trans rfl
theorem e218_1097 {d : Nat} {Q : Option AV → St → Prop} {st : List AV} {σ : St} {l0 l1 l2 l3 : Option AV} {x y : Int32} : Rn (d) Q (218, 1097, [l0, l1, l2, l3], vI y :: vI x :: st, σ) = (if x = y then Rn (d) Q (218, 1812, [l0, l1, l2, l3], st, σ) else Rn (d) Q (218, 1100, [l0, l1, l2, l3], st, σ)) := E_icmp_eq 1812 i218_1097 (by decide)
theorem i218_1100 : ins 218 1100 = some (.iconst 0, 1) := (congrArg (fun x : PTy => x.1.lookup 1100) q218).trans rfl
theorem e218_1100 {d : Nat} {Q : Option AV → St → Prop} {st : List AV} {σ : St} {l0 l1 l2 l3 : Option AV} : Rn (d) Q (218, 1100, [l0, l1, l2, l3], st, σ) = Rn (d) Q (218, 1101, [l0, l1, l2, l3], vI 0 :: st, σ) := by rw [E_iconst i218_1100, ci_0]
theorem i218_1101 : ins 218 1101 = some (.ireturn, 1) := (congrArg (fun x : PTy => x.1.lookup 1101) q218).trans rfl
theorem e218_1101 {d : Nat} {Q : Option AV → St → Prop} {st : List AV} {σ : St} {l0 l1 l2 l3 : Option AV} {x : Int32} : Rn (d) Q (218, 1101, [l0, l1, l2, l3], [vI x], σ) = ((x = 0 ∨ x = 1) ∧ Q (some (vI x)) σ) := E_iretZ (st := []) i218_1101 r218
theorem i218_1102 : ins 218 1102 = some (.aload_n 1, 1) := (congrArg (fun x : PTy => x.1.lookup 1102) q218).trans rfl
theorem e218_1102 {d : Nat} {Q : Option AV → St → Prop} {st : List AV} {σ : St} {l0 l2 l3 : Option AV} {x : Option (Nat × Nat × Nat)} : Rn (d) Q (218, 1102, [l0, some (vR x), l2, l3], st, σ) = Rn (d) Q (218, 1103, [l0, some (vR x), l2, l3], vR x :: st, σ) := E_aload_n i218_1102 rfl
theorem i218_1103 : ins 218 1103 = some (.aload_n 0, 1) := (congrArg (fun x : PTy => x.1.lookup 1103) q218).trans rfl
theorem e218_1103 {d : Nat} {Q : Option AV → St → Prop} {st : List AV} {σ : St} {l1 l2 l3 : Option AV} {x : Option (Nat × Nat × Nat)} : Rn (d) Q (218, 1103, [some (vR x), l1, l2, l3], st, σ) = Rn (d) Q (218, 1104, [some (vR x), l1, l2, l3], vR x :: st, σ) := E_aload_n i218_1103 rfl
theorem i218_1104 : ins 218 1104 = some (.iload_n 3, 1) := (congrArg (fun x : PTy => x.1.lookup 1104) q218).trans rfl
theorem e218_1104 {d : Nat} {Q : Option AV → St → Prop} {st : List AV} {σ : St} {l0 l1 l2 : Option AV} {x : Int32} : Rn (d) Q (218, 1104, [l0, l1, l2, some (vI x)], st, σ) = Rn (d) Q (218, 1105, [l0, l1, l2, some (vI x)], vI x :: st, σ) := E_iload_n i218_1104 rfl
theorem i218_1105 : ins 218 1105 = some (.iconst 1, 1) := (congrArg (fun x : PTy => x.1.lookup 1105) q218).trans rfl
theorem e218_1105 {d : Nat} {Q : Option AV → St → Prop} {st : List AV} {σ : St} {l0 l1 l2 l3 : Option AV} : Rn (d) Q (218, 1105, [l0, l1, l2, l3], st, σ) = Rn (d) Q (218, 1106, [l0, l1, l2, l3], vI 1 :: st, σ) := by rw [E_iconst i218_1105, ci_1]
theorem i218_1106 : ins 218 1106 = some (.iadd, 1) := (congrArg (fun x : PTy => x.1.lookup 1106) q218).trans rfl
theorem e218_1106 {d : Nat} {Q : Option AV → St → Prop} {st : List AV} {σ : St} {l0 l1 l2 l3 : Option AV} {x y : Int32} : Rn (d) Q (218, 1106, [l0, l1, l2, l3], vI y :: vI x :: st, σ) = Rn (d) Q (218, 1107, [l0, l1, l2, l3], vI (x + y) :: st, σ) := E_iadd i218_1106
theorem i218_1107 : ins 218 1107 = some (.iaload, 1) := (congrArg (fun x : PTy => x.1.lookup 1107) q218).trans rfl
theorem e218_1107 {d : Nat} {Q : Option AV → St → Prop} {st : List AV} {σ : St} {l0 l1 l2 l3 : Option AV} {i : Nat} {j : Int32} : Rn (d) Q (218, 1107, [l0, l1, l2, l3], vI j :: vR (some (13, 1, i)) :: st, σ) = (∃ n, gL σ 13 0 i = some n ∧ i < gN σ 13 ∧ (0 ≤ j.toInt ∧ j.toInt < n) ∧ Rn (d) Q (218, 1108, [l0, l1, l2, l3], vI (gA σ 13 0 i j.toNatClampNeg) :: st, σ)) := E_iaload1 i218_1107 rfl
theorem i218_1108 : ins 218 1108 = some (.invokevirtual 109, 3) := (congrArg (fun x : PTy => x.1.lookup 1108) q218).trans rfl
theorem e218_1108 {d : Nat} {Q : Option AV → St → Prop} {st : List AV} {σ : St} {l0 l1 l2 l3 : Option AV} {i : Nat} {a1 : Int32} : Rn (d + 1) Q (218, 1108, [l0, l1, l2, l3], vI a1 :: vR (some (11, 0, i)) :: st, σ) = (i < gN σ 11 ∧ catS st ≤ 8 ∧ Rn d (fun r σ' => Rn (d + 1) Q (218, 1111, [l0, l1, l2, l3], r.toList ++ st, σ')) (88, 0, [some (vR (some (11, 0, i))), some (vI a1), none], [], σ)) := E_invV (a := [vI a1]) i218_1108 ((congrArg (fun z => mthQ z 109) o218).trans m13_109) o88 rfl (ek88 i a1) (en88 i a1)
theorem i218_1111 : ins 218 1111 = some (.aload_n 2, 1) := (congrArg (fun x : PTy => x.1.lookup 1111) q218).trans rfl
theorem e218_1111 {d : Nat} {Q : Option AV → St → Prop} {st : List AV} {σ : St} {l0 l1 l3 : Option AV} {x : Option (Nat × Nat × Nat)} : Rn (d) Q (218, 1111, [l0, l1, some (vR x), l3], st, σ) = Rn (d) Q (218, 1112, [l0, l1, some (vR x), l3], vR x :: st, σ) := E_aload_n i218_1111 rfl
theorem i218_1112 : ins 218 1112 = some (.aload_n 0, 1) := (congrArg (fun x : PTy => x.1.lookup 1112) q218).trans rfl
theorem e218_1112 {d : Nat} {Q : Option AV → St → Prop} {st : List AV} {σ : St} {l1 l2 l3 : Option AV} {x : Option (Nat × Nat × Nat)} : Rn (d) Q (218, 1112, [some (vR x), l1, l2, l3], st, σ) = Rn (d) Q (218, 1113, [some (vR x), l1, l2, l3], vR x :: st, σ) := E_aload_n i218_1112 rfl
theorem i218_1113 : ins 218 1113 = some (.iload_n 3, 1) := (congrArg (fun x : PTy => x.1.lookup 1113) q218).trans rfl
theorem e218_1113 {d : Nat} {Q : Option AV → St → Prop} {st : List AV} {σ : St} {l0 l1 l2 : Option AV} {x : Int32} : Rn (d) Q (218, 1113, [l0, l1, l2, some (vI x)], st, σ) = Rn (d) Q (218, 1114, [l0, l1, l2, some (vI x)], vI x :: st, σ) := E_iload_n i218_1113 rfl
theorem i218_1114 : ins 218 1114 = some (.iconst 1, 1) := (congrArg (fun x : PTy => x.1.lookup 1114) q218).trans rfl
theorem e218_1114 {d : Nat} {Q : Option AV → St → Prop} {st : List AV} {σ : St} {l0 l1 l2 l3 : Option AV} : Rn (d) Q (218, 1114, [l0, l1, l2, l3], st, σ) = Rn (d) Q (218, 1115, [l0, l1, l2, l3], vI 1 :: st, σ) := by rw [E_iconst i218_1114, ci_1]
theorem i218_1115 : ins 218 1115 = some (.iadd, 1) := (congrArg (fun x : PTy => x.1.lookup 1115) q218).trans rfl
theorem e218_1115 {d : Nat} {Q : Option AV → St → Prop} {st : List AV} {σ : St} {l0 l1 l2 l3 : Option AV} {x y : Int32} : Rn (d) Q (218, 1115, [l0, l1, l2, l3], vI y :: vI x :: st, σ) = Rn (d) Q (218, 1116, [l0, l1, l2, l3], vI (x + y) :: st, σ) := E_iadd i218_1115
theorem i218_1116 : ins 218 1116 = some (.iaload, 1) := (congrArg (fun x : PTy => x.1.lookup 1116) q218).trans rfl
theorem e218_1116 {d : Nat} {Q : Option AV → St → Prop} {st : List AV} {σ : St} {l0 l1 l2 l3 : Option AV} {i : Nat} {j : Int32} : Rn (d) Q (218, 1116, [l0, l1, l2, l3], vI j :: vR (some (13, 1, i)) :: st, σ) = (∃ n, gL σ 13 0 i = some n ∧ i < gN σ 13 ∧ (0 ≤ j.toInt ∧ j.toInt < n) ∧ Rn (d) Q (218, 1117, [l0, l1, l2, l3], vI (gA σ 13 0 i j.toNatClampNeg) :: st, σ)) := E_iaload1 i218_1116 rfl
theorem i218_1117 : ins 218 1117 = some (.invokevirtual 112, 3) := (congrArg (fun x : PTy => x.1.lookup 1117) q218).trans rfl
theorem e218_1117 {d : Nat} {Q : Option AV → St → Prop} {st : List AV} {σ : St} {l0 l1 l2 l3 : Option AV} {i : Nat} {a1 : Int32} : Rn (d + 1) Q (218, 1117, [l0, l1, l2, l3], vI a1 :: vR (some (12, 0, i)) :: st, σ) = (i < gN σ 12 ∧ catS st ≤ 8 ∧ Rn d (fun r σ' => Rn (d + 1) Q (218, 1120, [l0, l1, l2, l3], r.toList ++ st, σ')) (187, 0, [some (vR (some (12, 0, i))), some (vI a1)], [], σ)) := E_invV (a := [vI a1]) i218_1117 ((congrArg (fun z => mthQ z 112) o218).trans m13_112) o187 rfl (ek187 i a1) (en187 i a1)
theorem i218_1120 : ins 218 1120 = some (.if_icmp .eq 692, 3) := (congrArg (fun x : PTy => x.1.lookup 1120) q218).trans rfl
theorem e218_1120 {d : Nat} {Q : Option AV → St → Prop} {st : List AV} {σ : St} {l0 l1 l2 l3 : Option AV} {x y : Int32} : Rn (d) Q (218, 1120, [l0, l1, l2, l3], vI y :: vI x :: st, σ) = (if x = y then Rn (d) Q (218, 1812, [l0, l1, l2, l3], st, σ) else Rn (d) Q (218, 1123, [l0, l1, l2, l3], st, σ)) := E_icmp_eq 1812 i218_1120 (by decide)
theorem i218_1123 : ins 218 1123 = some (.iconst 0, 1) := (congrArg (fun x : PTy => x.1.lookup 1123) q218).trans rfl
theorem e218_1123 {d : Nat} {Q : Option AV → St → Prop} {st : List AV} {σ : St} {l0 l1 l2 l3 : Option AV} : Rn (d) Q (218, 1123, [l0, l1, l2, l3], st, σ) = Rn (d) Q (218, 1124, [l0, l1, l2, l3], vI 0 :: st, σ) := by rw [E_iconst i218_1123, ci_0]
theorem i218_1124 : ins 218 1124 = some (.ireturn, 1) := (congrArg (fun x : PTy => x.1.lookup 1124) q218).trans rfl
theorem e218_1124 {d : Nat} {Q : Option AV → St → Prop} {st : List AV} {σ : St} {l0 l1 l2 l3 : Option AV} {x : Int32} : Rn (d) Q (218, 1124, [l0, l1, l2, l3], [vI x], σ) = ((x = 0 ∨ x = 1) ∧ Q (some (vI x)) σ) := E_iretZ (st := []) i218_1124 r218
theorem i218_1125 : ins 218 1125 = some (.aload_n 1, 1) := (congrArg (fun x : PTy => x.1.lookup 1125) q218).trans rfl
theorem e218_1125 {d : Nat} {Q : Option AV → St → Prop} {st : List AV} {σ : St} {l0 l2 l3 : Option AV} {x : Option (Nat × Nat × Nat)} : Rn (d) Q (218, 1125, [l0, some (vR x), l2, l3], st, σ) = Rn (d) Q (218, 1126, [l0, some (vR x), l2, l3], vR x :: st, σ) := E_aload_n i218_1125 rfl
theorem i218_1126 : ins 218 1126 = some (.aload_n 0, 1) := (congrArg (fun x : PTy => x.1.lookup 1126) q218).trans rfl
theorem e218_1126 {d : Nat} {Q : Option AV → St → Prop} {st : List AV} {σ : St} {l1 l2 l3 : Option AV} {x : Option (Nat × Nat × Nat)} : Rn (d) Q (218, 1126, [some (vR x), l1, l2, l3], st, σ) = Rn (d) Q (218, 1127, [some (vR x), l1, l2, l3], vR x :: st, σ) := E_aload_n i218_1126 rfl
theorem i218_1127 : ins 218 1127 = some (.iload_n 3, 1) := (congrArg (fun x : PTy => x.1.lookup 1127) q218).trans rfl
theorem e218_1127 {d : Nat} {Q : Option AV → St → Prop} {st : List AV} {σ : St} {l0 l1 l2 : Option AV} {x : Int32} : Rn (d) Q (218, 1127, [l0, l1, l2, some (vI x)], st, σ) = Rn (d) Q (218, 1128, [l0, l1, l2, some (vI x)], vI x :: st, σ) := E_iload_n i218_1127 rfl
theorem i218_1128 : ins 218 1128 = some (.iconst 1, 1) := (congrArg (fun x : PTy => x.1.lookup 1128) q218).trans rfl
theorem e218_1128 {d : Nat} {Q : Option AV → St → Prop} {st : List AV} {σ : St} {l0 l1 l2 l3 : Option AV} : Rn (d) Q (218, 1128, [l0, l1, l2, l3], st, σ) = Rn (d) Q (218, 1129, [l0, l1, l2, l3], vI 1 :: st, σ) := by rw [E_iconst i218_1128, ci_1]
theorem i218_1129 : ins 218 1129 = some (.iadd, 1) := (congrArg (fun x : PTy => x.1.lookup 1129) q218).trans rfl
theorem e218_1129 {d : Nat} {Q : Option AV → St → Prop} {st : List AV} {σ : St} {l0 l1 l2 l3 : Option AV} {x y : Int32} : Rn (d) Q (218, 1129, [l0, l1, l2, l3], vI y :: vI x :: st, σ) = Rn (d) Q (218, 1130, [l0, l1, l2, l3], vI (x + y) :: st, σ) := E_iadd i218_1129
theorem i218_1130 : ins 218 1130 = some (.iaload, 1) := (congrArg (fun x : PTy => x.1.lookup 1130) q218).trans rfl
theorem e218_1130 {d : Nat} {Q : Option AV → St → Prop} {st : List AV} {σ : St} {l0 l1 l2 l3 : Option AV} {i : Nat} {j : Int32} : Rn (d) Q (218, 1130, [l0, l1, l2, l3], vI j :: vR (some (13, 1, i)) :: st, σ) = (∃ n, gL σ 13 0 i = some n ∧ i < gN σ 13 ∧ (0 ≤ j.toInt ∧ j.toInt < n) ∧ Rn (d) Q (218, 1131, [l0, l1, l2, l3], vI (gA σ 13 0 i j.toNatClampNeg) :: st, σ)) := E_iaload1 i218_1130 rfl
theorem i218_1131 : ins 218 1131 = some (.aload_n 0, 1) := (congrArg (fun x : PTy => x.1.lookup 1131) q218).trans rfl
theorem e218_1131 {d : Nat} {Q : Option AV → St → Prop} {st : List AV} {σ : St} {l1 l2 l3 : Option AV} {x : Option (Nat × Nat × Nat)} : Rn (d) Q (218, 1131, [some (vR x), l1, l2, l3], st, σ) = Rn (d) Q (218, 1132, [some (vR x), l1, l2, l3], vR x :: st, σ) := E_aload_n i218_1131 rfl
theorem i218_1132 : ins 218 1132 = some (.iload_n 3, 1) := (congrArg (fun x : PTy => x.1.lookup 1132) q218).trans rfl
theorem e218_1132 {d : Nat} {Q : Option AV → St → Prop} {st : List AV} {σ : St} {l0 l1 l2 : Option AV} {x : Int32} : Rn (d) Q (218, 1132, [l0, l1, l2, some (vI x)], st, σ) = Rn (d) Q (218, 1133, [l0, l1, l2, some (vI x)], vI x :: st, σ) := E_iload_n i218_1132 rfl
theorem i218_1133 : ins 218 1133 = some (.iconst 2, 1) := (congrArg (fun x : PTy => x.1.lookup 1133) q218).trans rfl
theorem e218_1133 {d : Nat} {Q : Option AV → St → Prop} {st : List AV} {σ : St} {l0 l1 l2 l3 : Option AV} : Rn (d) Q (218, 1133, [l0, l1, l2, l3], st, σ) = Rn (d) Q (218, 1134, [l0, l1, l2, l3], vI 2 :: st, σ) := by rw [E_iconst i218_1133, ci_2]
theorem i218_1134 : ins 218 1134 = some (.iadd, 1) := (congrArg (fun x : PTy => x.1.lookup 1134) q218).trans rfl
theorem e218_1134 {d : Nat} {Q : Option AV → St → Prop} {st : List AV} {σ : St} {l0 l1 l2 l3 : Option AV} {x y : Int32} : Rn (d) Q (218, 1134, [l0, l1, l2, l3], vI y :: vI x :: st, σ) = Rn (d) Q (218, 1135, [l0, l1, l2, l3], vI (x + y) :: st, σ) := E_iadd i218_1134
theorem i218_1135 : ins 218 1135 = some (.iaload, 1) := (congrArg (fun x : PTy => x.1.lookup 1135) q218).trans rfl
theorem e218_1135 {d : Nat} {Q : Option AV → St → Prop} {st : List AV} {σ : St} {l0 l1 l2 l3 : Option AV} {i : Nat} {j : Int32} : Rn (d) Q (218, 1135, [l0, l1, l2, l3], vI j :: vR (some (13, 1, i)) :: st, σ) = (∃ n, gL σ 13 0 i = some n ∧ i < gN σ 13 ∧ (0 ≤ j.toInt ∧ j.toInt < n) ∧ Rn (d) Q (218, 1136, [l0, l1, l2, l3], vI (gA σ 13 0 i j.toNatClampNeg) :: st, σ)) := E_iaload1 i218_1135 rfl
theorem i218_1136 : ins 218 1136 = some (.invokevirtual 113, 3) := (congrArg (fun x : PTy => x.1.lookup 1136) q218).trans rfl
theorem e218_1136 {d : Nat} {Q : Option AV → St → Prop} {st : List AV} {σ : St} {l0 l1 l2 l3 : Option AV} {i : Nat} {a1 : Int32} {a2 : Int32} : Rn (d + 1) Q (218, 1136, [l0, l1, l2, l3], vI a2 :: vI a1 :: vR (some (11, 0, i)) :: st, σ) = (i < gN σ 11 ∧ catS st ≤ 8 ∧ Rn d (fun r σ' => Rn (d + 1) Q (218, 1139, [l0, l1, l2, l3], r.toList ++ st, σ')) (89, 0, [some (vR (some (11, 0, i))), some (vI a1), some (vI a2), none, none], [], σ)) := E_invV (a := [vI a2, vI a1]) i218_1136 ((congrArg (fun z => mthQ z 113) o218).trans m13_113) o89 rfl (ek89 i a1 a2) (en89 i a1 a2)
theorem i218_1139 : ins 218 1139 = some (.aload_n 2, 1) := (congrArg (fun x : PTy => x.1.lookup 1139) q218).trans rfl
theorem e218_1139 {d : Nat} {Q : Option AV → St → Prop} {st : List AV} {σ : St} {l0 l1 l3 : Option AV} {x : Option (Nat × Nat × Nat)} : Rn (d) Q (218, 1139, [l0, l1, some (vR x), l3], st, σ) = Rn (d) Q (218, 1140, [l0, l1, some (vR x), l3], vR x :: st, σ) := E_aload_n i218_1139 rfl
theorem i218_1140 : ins 218 1140 = some (.aload_n 0, 1) := (congrArg (fun x : PTy => x.1.lookup 1140) q218).trans rfl
theorem e218_1140 {d : Nat} {Q : Option AV → St → Prop} {st : List AV} {σ : St} {l1 l2 l3 : Option AV} {x : Option (Nat × Nat × Nat)} : Rn (d) Q (218, 1140, [some (vR x), l1, l2, l3], st, σ) = Rn (d) Q (218, 1141, [some (vR x), l1, l2, l3], vR x :: st, σ) := E_aload_n i218_1140 rfl
theorem i218_1141 : ins 218 1141 = some (.iload_n 3, 1) := (congrArg (fun x : PTy => x.1.lookup 1141) q218).trans rfl
theorem e218_1141 {d : Nat} {Q : Option AV → St → Prop} {st : List AV} {σ : St} {l0 l1 l2 : Option AV} {x : Int32} : Rn (d) Q (218, 1141, [l0, l1, l2, some (vI x)], st, σ) = Rn (d) Q (218, 1142, [l0, l1, l2, some (vI x)], vI x :: st, σ) := E_iload_n i218_1141 rfl
theorem i218_1142 : ins 218 1142 = some (.iconst 1, 1) := (congrArg (fun x : PTy => x.1.lookup 1142) q218).trans rfl
theorem e218_1142 {d : Nat} {Q : Option AV → St → Prop} {st : List AV} {σ : St} {l0 l1 l2 l3 : Option AV} : Rn (d) Q (218, 1142, [l0, l1, l2, l3], st, σ) = Rn (d) Q (218, 1143, [l0, l1, l2, l3], vI 1 :: st, σ) := by rw [E_iconst i218_1142, ci_1]
theorem i218_1143 : ins 218 1143 = some (.iadd, 1) := (congrArg (fun x : PTy => x.1.lookup 1143) q218).trans rfl
theorem e218_1143 {d : Nat} {Q : Option AV → St → Prop} {st : List AV} {σ : St} {l0 l1 l2 l3 : Option AV} {x y : Int32} : Rn (d) Q (218, 1143, [l0, l1, l2, l3], vI y :: vI x :: st, σ) = Rn (d) Q (218, 1144, [l0, l1, l2, l3], vI (x + y) :: st, σ) := E_iadd i218_1143
theorem i218_1144 : ins 218 1144 = some (.iaload, 1) := (congrArg (fun x : PTy => x.1.lookup 1144) q218).trans rfl
theorem e218_1144 {d : Nat} {Q : Option AV → St → Prop} {st : List AV} {σ : St} {l0 l1 l2 l3 : Option AV} {i : Nat} {j : Int32} : Rn (d) Q (218, 1144, [l0, l1, l2, l3], vI j :: vR (some (13, 1, i)) :: st, σ) = (∃ n, gL σ 13 0 i = some n ∧ i < gN σ 13 ∧ (0 ≤ j.toInt ∧ j.toInt < n) ∧ Rn (d) Q (218, 1145, [l0, l1, l2, l3], vI (gA σ 13 0 i j.toNatClampNeg) :: st, σ)) := E_iaload1 i218_1144 rfl
theorem i218_1145 : ins 218 1145 = some (.aload_n 0, 1) := (congrArg (fun x : PTy => x.1.lookup 1145) q218).trans rfl
theorem e218_1145 {d : Nat} {Q : Option AV → St → Prop} {st : List AV} {σ : St} {l1 l2 l3 : Option AV} {x : Option (Nat × Nat × Nat)} : Rn (d) Q (218, 1145, [some (vR x), l1, l2, l3], st, σ) = Rn (d) Q (218, 1146, [some (vR x), l1, l2, l3], vR x :: st, σ) := E_aload_n i218_1145 rfl
theorem i218_1146 : ins 218 1146 = some (.iload_n 3, 1) := (congrArg (fun x : PTy => x.1.lookup 1146) q218).trans rfl
theorem e218_1146 {d : Nat} {Q : Option AV → St → Prop} {st : List AV} {σ : St} {l0 l1 l2 : Option AV} {x : Int32} : Rn (d) Q (218, 1146, [l0, l1, l2, some (vI x)], st, σ) = Rn (d) Q (218, 1147, [l0, l1, l2, some (vI x)], vI x :: st, σ) := E_iload_n i218_1146 rfl
theorem i218_1147 : ins 218 1147 = some (.iconst 2, 1) := (congrArg (fun x : PTy => x.1.lookup 1147) q218).trans rfl
theorem e218_1147 {d : Nat} {Q : Option AV → St → Prop} {st : List AV} {σ : St} {l0 l1 l2 l3 : Option AV} : Rn (d) Q (218, 1147, [l0, l1, l2, l3], st, σ) = Rn (d) Q (218, 1148, [l0, l1, l2, l3], vI 2 :: st, σ) := by rw [E_iconst i218_1147, ci_2]
theorem i218_1148 : ins 218 1148 = some (.iadd, 1) := (congrArg (fun x : PTy => x.1.lookup 1148) q218).trans rfl
theorem e218_1148 {d : Nat} {Q : Option AV → St → Prop} {st : List AV} {σ : St} {l0 l1 l2 l3 : Option AV} {x y : Int32} : Rn (d) Q (218, 1148, [l0, l1, l2, l3], vI y :: vI x :: st, σ) = Rn (d) Q (218, 1149, [l0, l1, l2, l3], vI (x + y) :: st, σ) := E_iadd i218_1148
theorem i218_1149 : ins 218 1149 = some (.iaload, 1) := (congrArg (fun x : PTy => x.1.lookup 1149) q218).trans rfl
theorem e218_1149 {d : Nat} {Q : Option AV → St → Prop} {st : List AV} {σ : St} {l0 l1 l2 l3 : Option AV} {i : Nat} {j : Int32} : Rn (d) Q (218, 1149, [l0, l1, l2, l3], vI j :: vR (some (13, 1, i)) :: st, σ) = (∃ n, gL σ 13 0 i = some n ∧ i < gN σ 13 ∧ (0 ≤ j.toInt ∧ j.toInt < n) ∧ Rn (d) Q (218, 1150, [l0, l1, l2, l3], vI (gA σ 13 0 i j.toNatClampNeg) :: st, σ)) := E_iaload1 i218_1149 rfl
theorem i218_1150 : ins 218 1150 = some (.invokevirtual 116, 3) := (congrArg (fun x : PTy => x.1.lookup 1150) q218).trans rfl
theorem e218_1150 {d : Nat} {Q : Option AV → St → Prop} {st : List AV} {σ : St} {l0 l1 l2 l3 : Option AV} {i : Nat} {a1 : Int32} {a2 : Int32} : Rn (d + 1) Q (218, 1150, [l0, l1, l2, l3], vI a2 :: vI a1 :: vR (some (12, 0, i)) :: st, σ) = (i < gN σ 12 ∧ catS st ≤ 8 ∧ Rn d (fun r σ' => Rn (d + 1) Q (218, 1153, [l0, l1, l2, l3], r.toList ++ st, σ')) (189, 0, [some (vR (some (12, 0, i))), some (vI a1), some (vI a2)], [], σ)) := E_invV (a := [vI a2, vI a1]) i218_1150 ((congrArg (fun z => mthQ z 116) o218).trans m13_116) o189 rfl (ek189 i a1 a2) (en189 i a1 a2)
theorem i218_1153 : ins 218 1153 = some (.if_icmp .eq 659, 3) := (congrArg (fun x : PTy => x.1.lookup 1153) q218).trans rfl
theorem e218_1153 {d : Nat} {Q : Option AV → St → Prop} {st : List AV} {σ : St} {l0 l1 l2 l3 : Option AV} {x y : Int32} : Rn (d) Q (218, 1153, [l0, l1, l2, l3], vI y :: vI x :: st, σ) = (if x = y then Rn (d) Q (218, 1812, [l0, l1, l2, l3], st, σ) else Rn (d) Q (218, 1156, [l0, l1, l2, l3], st, σ)) := E_icmp_eq 1812 i218_1153 (by decide)
theorem i218_1156 : ins 218 1156 = some (.iconst 0, 1) := (congrArg (fun x : PTy => x.1.lookup 1156) q218).trans rfl
theorem e218_1156 {d : Nat} {Q : Option AV → St → Prop} {st : List AV} {σ : St} {l0 l1 l2 l3 : Option AV} : Rn (d) Q (218, 1156, [l0, l1, l2, l3], st, σ) = Rn (d) Q (218, 1157, [l0, l1, l2, l3], vI 0 :: st, σ) := by rw [E_iconst i218_1156, ci_0]
theorem i218_1157 : ins 218 1157 = some (.ireturn, 1) := (congrArg (fun x : PTy => x.1.lookup 1157) q218).trans rfl
theorem e218_1157 {d : Nat} {Q : Option AV → St → Prop} {st : List AV} {σ : St} {l0 l1 l2 l3 : Option AV} {x : Int32} : Rn (d) Q (218, 1157, [l0, l1, l2, l3], [vI x], σ) = ((x = 0 ∨ x = 1) ∧ Q (some (vI x)) σ) := E_iretZ (st := []) i218_1157 r218
theorem i218_1158 : ins 218 1158 = some (.aload_n 1, 1) := (congrArg (fun x : PTy => x.1.lookup 1158) q218).trans rfl
theorem e218_1158 {d : Nat} {Q : Option AV → St → Prop} {st : List AV} {σ : St} {l0 l2 l3 : Option AV} {x : Option (Nat × Nat × Nat)} : Rn (d) Q (218, 1158, [l0, some (vR x), l2, l3], st, σ) = Rn (d) Q (218, 1159, [l0, some (vR x), l2, l3], vR x :: st, σ) := E_aload_n i218_1158 rfl
theorem i218_1159 : ins 218 1159 = some (.aload_n 0, 1) := (congrArg (fun x : PTy => x.1.lookup 1159) q218).trans rfl
theorem e218_1159 {d : Nat} {Q : Option AV → St → Prop} {st : List AV} {σ : St} {l1 l2 l3 : Option AV} {x : Option (Nat × Nat × Nat)} : Rn (d) Q (218, 1159, [some (vR x), l1, l2, l3], st, σ) = Rn (d) Q (218, 1160, [some (vR x), l1, l2, l3], vR x :: st, σ) := E_aload_n i218_1159 rfl
theorem i218_1160 : ins 218 1160 = some (.iload_n 3, 1) := (congrArg (fun x : PTy => x.1.lookup 1160) q218).trans rfl
theorem e218_1160 {d : Nat} {Q : Option AV → St → Prop} {st : List AV} {σ : St} {l0 l1 l2 : Option AV} {x : Int32} : Rn (d) Q (218, 1160, [l0, l1, l2, some (vI x)], st, σ) = Rn (d) Q (218, 1161, [l0, l1, l2, some (vI x)], vI x :: st, σ) := E_iload_n i218_1160 rfl
theorem i218_1161 : ins 218 1161 = some (.iconst 1, 1) := (congrArg (fun x : PTy => x.1.lookup 1161) q218).trans rfl
theorem e218_1161 {d : Nat} {Q : Option AV → St → Prop} {st : List AV} {σ : St} {l0 l1 l2 l3 : Option AV} : Rn (d) Q (218, 1161, [l0, l1, l2, l3], st, σ) = Rn (d) Q (218, 1162, [l0, l1, l2, l3], vI 1 :: st, σ) := by rw [E_iconst i218_1161, ci_1]
theorem i218_1162 : ins 218 1162 = some (.iadd, 1) := (congrArg (fun x : PTy => x.1.lookup 1162) q218).trans rfl
theorem e218_1162 {d : Nat} {Q : Option AV → St → Prop} {st : List AV} {σ : St} {l0 l1 l2 l3 : Option AV} {x y : Int32} : Rn (d) Q (218, 1162, [l0, l1, l2, l3], vI y :: vI x :: st, σ) = Rn (d) Q (218, 1163, [l0, l1, l2, l3], vI (x + y) :: st, σ) := E_iadd i218_1162
theorem i218_1163 : ins 218 1163 = some (.iaload, 1) := (congrArg (fun x : PTy => x.1.lookup 1163) q218).trans rfl
theorem e218_1163 {d : Nat} {Q : Option AV → St → Prop} {st : List AV} {σ : St} {l0 l1 l2 l3 : Option AV} {i : Nat} {j : Int32} : Rn (d) Q (218, 1163, [l0, l1, l2, l3], vI j :: vR (some (13, 1, i)) :: st, σ) = (∃ n, gL σ 13 0 i = some n ∧ i < gN σ 13 ∧ (0 ≤ j.toInt ∧ j.toInt < n) ∧ Rn (d) Q (218, 1164, [l0, l1, l2, l3], vI (gA σ 13 0 i j.toNatClampNeg) :: st, σ)) := E_iaload1 i218_1163 rfl
theorem i218_1164 : ins 218 1164 = some (.invokevirtual 117, 3) := (congrArg (fun x : PTy => x.1.lookup 1164) q218).trans rfl
theorem e218_1164 {d : Nat} {Q : Option AV → St → Prop} {st : List AV} {σ : St} {l0 l1 l2 l3 : Option AV} {i : Nat} {a1 : Int32} : Rn (d + 1) Q (218, 1164, [l0, l1, l2, l3], vI a1 :: vR (some (11, 0, i)) :: st, σ) = (i < gN σ 11 ∧ catS st ≤ 8 ∧ Rn d (fun r σ' => Rn (d + 1) Q (218, 1167, [l0, l1, l2, l3], r.toList ++ st, σ')) (90, 0, [some (vR (some (11, 0, i))), some (vI a1), none], [], σ)) := E_invV (a := [vI a1]) i218_1164 ((congrArg (fun z => mthQ z 117) o218).trans m13_117) o90 rfl (ek90 i a1) (en90 i a1)
theorem i218_1167 : ins 218 1167 = some (.aload_n 2, 1) := (congrArg (fun x : PTy => x.1.lookup 1167) q218).trans rfl
theorem e218_1167 {d : Nat} {Q : Option AV → St → Prop} {st : List AV} {σ : St} {l0 l1 l3 : Option AV} {x : Option (Nat × Nat × Nat)} : Rn (d) Q (218, 1167, [l0, l1, some (vR x), l3], st, σ) = Rn (d) Q (218, 1168, [l0, l1, some (vR x), l3], vR x :: st, σ) := E_aload_n i218_1167 rfl
theorem i218_1168 : ins 218 1168 = some (.aload_n 0, 1) := (congrArg (fun x : PTy => x.1.lookup 1168) q218).trans rfl
theorem e218_1168 {d : Nat} {Q : Option AV → St → Prop} {st : List AV} {σ : St} {l1 l2 l3 : Option AV} {x : Option (Nat × Nat × Nat)} : Rn (d) Q (218, 1168, [some (vR x), l1, l2, l3], st, σ) = Rn (d) Q (218, 1169, [some (vR x), l1, l2, l3], vR x :: st, σ) := E_aload_n i218_1168 rfl
theorem i218_1169 : ins 218 1169 = some (.iload_n 3, 1) := (congrArg (fun x : PTy => x.1.lookup 1169) q218).trans rfl
theorem e218_1169 {d : Nat} {Q : Option AV → St → Prop} {st : List AV} {σ : St} {l0 l1 l2 : Option AV} {x : Int32} : Rn (d) Q (218, 1169, [l0, l1, l2, some (vI x)], st, σ) = Rn (d) Q (218, 1170, [l0, l1, l2, some (vI x)], vI x :: st, σ) := E_iload_n i218_1169 rfl
theorem i218_1170 : ins 218 1170 = some (.iconst 1, 1) := (congrArg (fun x : PTy => x.1.lookup 1170) q218).trans rfl
theorem e218_1170 {d : Nat} {Q : Option AV → St → Prop} {st : List AV} {σ : St} {l0 l1 l2 l3 : Option AV} : Rn (d) Q (218, 1170, [l0, l1, l2, l3], st, σ) = Rn (d) Q (218, 1171, [l0, l1, l2, l3], vI 1 :: st, σ) := by rw [E_iconst i218_1170, ci_1]
theorem i218_1171 : ins 218 1171 = some (.iadd, 1) := (congrArg (fun x : PTy => x.1.lookup 1171) q218).trans rfl
theorem e218_1171 {d : Nat} {Q : Option AV → St → Prop} {st : List AV} {σ : St} {l0 l1 l2 l3 : Option AV} {x y : Int32} : Rn (d) Q (218, 1171, [l0, l1, l2, l3], vI y :: vI x :: st, σ) = Rn (d) Q (218, 1172, [l0, l1, l2, l3], vI (x + y) :: st, σ) := E_iadd i218_1171
theorem i218_1172 : ins 218 1172 = some (.iaload, 1) := (congrArg (fun x : PTy => x.1.lookup 1172) q218).trans rfl
theorem e218_1172 {d : Nat} {Q : Option AV → St → Prop} {st : List AV} {σ : St} {l0 l1 l2 l3 : Option AV} {i : Nat} {j : Int32} : Rn (d) Q (218, 1172, [l0, l1, l2, l3], vI j :: vR (some (13, 1, i)) :: st, σ) = (∃ n, gL σ 13 0 i = some n ∧ i < gN σ 13 ∧ (0 ≤ j.toInt ∧ j.toInt < n) ∧ Rn (d) Q (218, 1173, [l0, l1, l2, l3], vI (gA σ 13 0 i j.toNatClampNeg) :: st, σ)) := E_iaload1 i218_1172 rfl
theorem i218_1173 : ins 218 1173 = some (.invokevirtual 120, 3) := (congrArg (fun x : PTy => x.1.lookup 1173) q218).trans rfl
theorem e218_1173 {d : Nat} {Q : Option AV → St → Prop} {st : List AV} {σ : St} {l0 l1 l2 l3 : Option AV} {i : Nat} {a1 : Int32} : Rn (d + 1) Q (218, 1173, [l0, l1, l2, l3], vI a1 :: vR (some (12, 0, i)) :: st, σ) = (i < gN σ 12 ∧ catS st ≤ 8 ∧ Rn d (fun r σ' => Rn (d + 1) Q (218, 1176, [l0, l1, l2, l3], r.toList ++ st, σ')) (190, 0, [some (vR (some (12, 0, i))), some (vI a1)], [], σ)) := E_invV (a := [vI a1]) i218_1173 ((congrArg (fun z => mthQ z 120) o218).trans m13_120) o190 rfl (ek190 i a1) (en190 i a1)
theorem i218_1176 : ins 218 1176 = some (.if_icmp .eq 636, 3) := (congrArg (fun x : PTy => x.1.lookup 1176) q218).trans rfl
theorem e218_1176 {d : Nat} {Q : Option AV → St → Prop} {st : List AV} {σ : St} {l0 l1 l2 l3 : Option AV} {x y : Int32} : Rn (d) Q (218, 1176, [l0, l1, l2, l3], vI y :: vI x :: st, σ) = (if x = y then Rn (d) Q (218, 1812, [l0, l1, l2, l3], st, σ) else Rn (d) Q (218, 1179, [l0, l1, l2, l3], st, σ)) := E_icmp_eq 1812 i218_1176 (by decide)
theorem i218_1179 : ins 218 1179 = some (.iconst 0, 1) := (congrArg (fun x : PTy => x.1.lookup 1179) q218).trans rfl
theorem e218_1179 {d : Nat} {Q : Option AV → St → Prop} {st : List AV} {σ : St} {l0 l1 l2 l3 : Option AV} : Rn (d) Q (218, 1179, [l0, l1, l2, l3], st, σ) = Rn (d) Q (218, 1180, [l0, l1, l2, l3], vI 0 :: st, σ) := by rw [E_iconst i218_1179, ci_0]
theorem i218_1180 : ins 218 1180 = some (.ireturn, 1) := (congrArg (fun x : PTy => x.1.lookup 1180) q218).trans rfl
theorem e218_1180 {d : Nat} {Q : Option AV → St → Prop} {st : List AV} {σ : St} {l0 l1 l2 l3 : Option AV} {x : Int32} : Rn (d) Q (218, 1180, [l0, l1, l2, l3], [vI x], σ) = ((x = 0 ∨ x = 1) ∧ Q (some (vI x)) σ) := E_iretZ (st := []) i218_1180 r218
theorem i218_1181 : ins 218 1181 = some (.aload_n 1, 1) := (congrArg (fun x : PTy => x.1.lookup 1181) q218).trans rfl
theorem e218_1181 {d : Nat} {Q : Option AV → St → Prop} {st : List AV} {σ : St} {l0 l2 l3 : Option AV} {x : Option (Nat × Nat × Nat)} : Rn (d) Q (218, 1181, [l0, some (vR x), l2, l3], st, σ) = Rn (d) Q (218, 1182, [l0, some (vR x), l2, l3], vR x :: st, σ) := E_aload_n i218_1181 rfl
theorem i218_1182 : ins 218 1182 = some (.aload_n 0, 1) := (congrArg (fun x : PTy => x.1.lookup 1182) q218).trans rfl
theorem e218_1182 {d : Nat} {Q : Option AV → St → Prop} {st : List AV} {σ : St} {l1 l2 l3 : Option AV} {x : Option (Nat × Nat × Nat)} : Rn (d) Q (218, 1182, [some (vR x), l1, l2, l3], st, σ) = Rn (d) Q (218, 1183, [some (vR x), l1, l2, l3], vR x :: st, σ) := E_aload_n i218_1182 rfl
theorem i218_1183 : ins 218 1183 = some (.iload_n 3, 1) := (congrArg (fun x : PTy => x.1.lookup 1183) q218).trans rfl
theorem e218_1183 {d : Nat} {Q : Option AV → St → Prop} {st : List AV} {σ : St} {l0 l1 l2 : Option AV} {x : Int32} : Rn (d) Q (218, 1183, [l0, l1, l2, some (vI x)], st, σ) = Rn (d) Q (218, 1184, [l0, l1, l2, some (vI x)], vI x :: st, σ) := E_iload_n i218_1183 rfl
theorem i218_1184 : ins 218 1184 = some (.iconst 1, 1) := (congrArg (fun x : PTy => x.1.lookup 1184) q218).trans rfl
theorem e218_1184 {d : Nat} {Q : Option AV → St → Prop} {st : List AV} {σ : St} {l0 l1 l2 l3 : Option AV} : Rn (d) Q (218, 1184, [l0, l1, l2, l3], st, σ) = Rn (d) Q (218, 1185, [l0, l1, l2, l3], vI 1 :: st, σ) := by rw [E_iconst i218_1184, ci_1]
theorem i218_1185 : ins 218 1185 = some (.iadd, 1) := (congrArg (fun x : PTy => x.1.lookup 1185) q218).trans rfl
theorem e218_1185 {d : Nat} {Q : Option AV → St → Prop} {st : List AV} {σ : St} {l0 l1 l2 l3 : Option AV} {x y : Int32} : Rn (d) Q (218, 1185, [l0, l1, l2, l3], vI y :: vI x :: st, σ) = Rn (d) Q (218, 1186, [l0, l1, l2, l3], vI (x + y) :: st, σ) := E_iadd i218_1185
theorem i218_1186 : ins 218 1186 = some (.iaload, 1) := (congrArg (fun x : PTy => x.1.lookup 1186) q218).trans rfl
theorem e218_1186 {d : Nat} {Q : Option AV → St → Prop} {st : List AV} {σ : St} {l0 l1 l2 l3 : Option AV} {i : Nat} {j : Int32} : Rn (d) Q (218, 1186, [l0, l1, l2, l3], vI j :: vR (some (13, 1, i)) :: st, σ) = (∃ n, gL σ 13 0 i = some n ∧ i < gN σ 13 ∧ (0 ≤ j.toInt ∧ j.toInt < n) ∧ Rn (d) Q (218, 1187, [l0, l1, l2, l3], vI (gA σ 13 0 i j.toNatClampNeg) :: st, σ)) := E_iaload1 i218_1186 rfl
theorem i218_1187 : ins 218 1187 = some (.aload_n 0, 1) := (congrArg (fun x : PTy => x.1.lookup 1187) q218).trans rfl
theorem e218_1187 {d : Nat} {Q : Option AV → St → Prop} {st : List AV} {σ : St} {l1 l2 l3 : Option AV} {x : Option (Nat × Nat × Nat)} : Rn (d) Q (218, 1187, [some (vR x), l1, l2, l3], st, σ) = Rn (d) Q (218, 1188, [some (vR x), l1, l2, l3], vR x :: st, σ) := E_aload_n i218_1187 rfl
theorem i218_1188 : ins 218 1188 = some (.iload_n 3, 1) := (congrArg (fun x : PTy => x.1.lookup 1188) q218).trans rfl
theorem e218_1188 {d : Nat} {Q : Option AV → St → Prop} {st : List AV} {σ : St} {l0 l1 l2 : Option AV} {x : Int32} : Rn (d) Q (218, 1188, [l0, l1, l2, some (vI x)], st, σ) = Rn (d) Q (218, 1189, [l0, l1, l2, some (vI x)], vI x :: st, σ) := E_iload_n i218_1188 rfl
theorem i218_1189 : ins 218 1189 = some (.iconst 2, 1) := (congrArg (fun x : PTy => x.1.lookup 1189) q218).trans rfl
theorem e218_1189 {d : Nat} {Q : Option AV → St → Prop} {st : List AV} {σ : St} {l0 l1 l2 l3 : Option AV} : Rn (d) Q (218, 1189, [l0, l1, l2, l3], st, σ) = Rn (d) Q (218, 1190, [l0, l1, l2, l3], vI 2 :: st, σ) := by rw [E_iconst i218_1189, ci_2]
theorem i218_1190 : ins 218 1190 = some (.iadd, 1) := (congrArg (fun x : PTy => x.1.lookup 1190) q218).trans rfl
theorem e218_1190 {d : Nat} {Q : Option AV → St → Prop} {st : List AV} {σ : St} {l0 l1 l2 l3 : Option AV} {x y : Int32} : Rn (d) Q (218, 1190, [l0, l1, l2, l3], vI y :: vI x :: st, σ) = Rn (d) Q (218, 1191, [l0, l1, l2, l3], vI (x + y) :: st, σ) := E_iadd i218_1190
theorem i218_1191 : ins 218 1191 = some (.iaload, 1) := (congrArg (fun x : PTy => x.1.lookup 1191) q218).trans rfl
theorem e218_1191 {d : Nat} {Q : Option AV → St → Prop} {st : List AV} {σ : St} {l0 l1 l2 l3 : Option AV} {i : Nat} {j : Int32} : Rn (d) Q (218, 1191, [l0, l1, l2, l3], vI j :: vR (some (13, 1, i)) :: st, σ) = (∃ n, gL σ 13 0 i = some n ∧ i < gN σ 13 ∧ (0 ≤ j.toInt ∧ j.toInt < n) ∧ Rn (d) Q (218, 1192, [l0, l1, l2, l3], vI (gA σ 13 0 i j.toNatClampNeg) :: st, σ)) := E_iaload1 i218_1191 rfl
theorem i218_1192 : ins 218 1192 = some (.invokevirtual 121, 3) := (congrArg (fun x : PTy => x.1.lookup 1192) q218).trans rfl
theorem e218_1192 {d : Nat} {Q : Option AV → St → Prop} {st : List AV} {σ : St} {l0 l1 l2 l3 : Option AV} {i : Nat} {a1 : Int32} {a2 : Int32} : Rn (d + 1) Q (218, 1192, [l0, l1, l2, l3], vI a2 :: vI a1 :: vR (some (11, 0, i)) :: st, σ) = (i < gN σ 11 ∧ catS st ≤ 8 ∧ Rn d (fun r σ' => Rn (d + 1) Q (218, 1195, [l0, l1, l2, l3], r.toList ++ st, σ')) (91, 0, [some (vR (some (11, 0, i))), some (vI a1), some (vI a2)], [], σ)) := E_invV (a := [vI a2, vI a1]) i218_1192 ((congrArg (fun z => mthQ z 121) o218).trans m13_121) o91 rfl (ek91 i a1 a2) (en91 i a1 a2)
theorem i218_1195 : ins 218 1195 = some (.aload_n 2, 1) := (congrArg (fun x : PTy => x.1.lookup 1195) q218).trans rfl
theorem e218_1195 {d : Nat} {Q : Option AV → St → Prop} {st : List AV} {σ : St} {l0 l1 l3 : Option AV} {x : Option (Nat × Nat × Nat)} : Rn (d) Q (218, 1195, [l0, l1, some (vR x), l3], st, σ) = Rn (d) Q (218, 1196, [l0, l1, some (vR x), l3], vR x :: st, σ) := E_aload_n i218_1195 rfl
theorem i218_1196 : ins 218 1196 = some (.aload_n 0, 1) := (congrArg (fun x : PTy => x.1.lookup 1196) q218).trans rfl
theorem e218_1196 {d : Nat} {Q : Option AV → St → Prop} {st : List AV} {σ : St} {l1 l2 l3 : Option AV} {x : Option (Nat × Nat × Nat)} : Rn (d) Q (218, 1196, [some (vR x), l1, l2, l3], st, σ) = Rn (d) Q (218, 1197, [some (vR x), l1, l2, l3], vR x :: st, σ) := E_aload_n i218_1196 rfl
theorem i218_1197 : ins 218 1197 = some (.iload_n 3, 1) := (congrArg (fun x : PTy => x.1.lookup 1197) q218).trans rfl
theorem e218_1197 {d : Nat} {Q : Option AV → St → Prop} {st : List AV} {σ : St} {l0 l1 l2 : Option AV} {x : Int32} : Rn (d) Q (218, 1197, [l0, l1, l2, some (vI x)], st, σ) = Rn (d) Q (218, 1198, [l0, l1, l2, some (vI x)], vI x :: st, σ) := E_iload_n i218_1197 rfl
theorem i218_1198 : ins 218 1198 = some (.iconst 1, 1) := (congrArg (fun x : PTy => x.1.lookup 1198) q218).trans rfl
theorem e218_1198 {d : Nat} {Q : Option AV → St → Prop} {st : List AV} {σ : St} {l0 l1 l2 l3 : Option AV} : Rn (d) Q (218, 1198, [l0, l1, l2, l3], st, σ) = Rn (d) Q (218, 1199, [l0, l1, l2, l3], vI 1 :: st, σ) := by rw [E_iconst i218_1198, ci_1]
theorem i218_1199 : ins 218 1199 = some (.iadd, 1) := (congrArg (fun x : PTy => x.1.lookup 1199) q218).trans rfl
theorem e218_1199 {d : Nat} {Q : Option AV → St → Prop} {st : List AV} {σ : St} {l0 l1 l2 l3 : Option AV} {x y : Int32} : Rn (d) Q (218, 1199, [l0, l1, l2, l3], vI y :: vI x :: st, σ) = Rn (d) Q (218, 1200, [l0, l1, l2, l3], vI (x + y) :: st, σ) := E_iadd i218_1199
theorem i218_1200 : ins 218 1200 = some (.iaload, 1) := (congrArg (fun x : PTy => x.1.lookup 1200) q218).trans rfl
theorem e218_1200 {d : Nat} {Q : Option AV → St → Prop} {st : List AV} {σ : St} {l0 l1 l2 l3 : Option AV} {i : Nat} {j : Int32} : Rn (d) Q (218, 1200, [l0, l1, l2, l3], vI j :: vR (some (13, 1, i)) :: st, σ) = (∃ n, gL σ 13 0 i = some n ∧ i < gN σ 13 ∧ (0 ≤ j.toInt ∧ j.toInt < n) ∧ Rn (d) Q (218, 1201, [l0, l1, l2, l3], vI (gA σ 13 0 i j.toNatClampNeg) :: st, σ)) := E_iaload1 i218_1200 rfl
theorem i218_1201 : ins 218 1201 = some (.aload_n 0, 1) := (congrArg (fun x : PTy => x.1.lookup 1201) q218).trans rfl
theorem e218_1201 {d : Nat} {Q : Option AV → St → Prop} {st : List AV} {σ : St} {l1 l2 l3 : Option AV} {x : Option (Nat × Nat × Nat)} : Rn (d) Q (218, 1201, [some (vR x), l1, l2, l3], st, σ) = Rn (d) Q (218, 1202, [some (vR x), l1, l2, l3], vR x :: st, σ) := E_aload_n i218_1201 rfl
theorem i218_1202 : ins 218 1202 = some (.iload_n 3, 1) := (congrArg (fun x : PTy => x.1.lookup 1202) q218).trans rfl
theorem e218_1202 {d : Nat} {Q : Option AV → St → Prop} {st : List AV} {σ : St} {l0 l1 l2 : Option AV} {x : Int32} : Rn (d) Q (218, 1202, [l0, l1, l2, some (vI x)], st, σ) = Rn (d) Q (218, 1203, [l0, l1, l2, some (vI x)], vI x :: st, σ) := E_iload_n i218_1202 rfl
theorem i218_1203 : ins 218 1203 = some (.iconst 2, 1) := (congrArg (fun x : PTy => x.1.lookup 1203) q218).trans rfl
theorem e218_1203 {d : Nat} {Q : Option AV → St → Prop} {st : List AV} {σ : St} {l0 l1 l2 l3 : Option AV} : Rn (d) Q (218, 1203, [l0, l1, l2, l3], st, σ) = Rn (d) Q (218, 1204, [l0, l1, l2, l3], vI 2 :: st, σ) := by rw [E_iconst i218_1203, ci_2]
theorem i218_1204 : ins 218 1204 = some (.iadd, 1) := (congrArg (fun x : PTy => x.1.lookup 1204) q218).trans rfl
theorem e218_1204 {d : Nat} {Q : Option AV → St → Prop} {st : List AV} {σ : St} {l0 l1 l2 l3 : Option AV} {x y : Int32} : Rn (d) Q (218, 1204, [l0, l1, l2, l3], vI y :: vI x :: st, σ) = Rn (d) Q (218, 1205, [l0, l1, l2, l3], vI (x + y) :: st, σ) := E_iadd i218_1204
theorem i218_1205 : ins 218 1205 = some (.iaload, 1) := (congrArg (fun x : PTy => x.1.lookup 1205) q218).trans rfl
theorem e218_1205 {d : Nat} {Q : Option AV → St → Prop} {st : List AV} {σ : St} {l0 l1 l2 l3 : Option AV} {i : Nat} {j : Int32} : Rn (d) Q (218, 1205, [l0, l1, l2, l3], vI j :: vR (some (13, 1, i)) :: st, σ) = (∃ n, gL σ 13 0 i = some n ∧ i < gN σ 13 ∧ (0 ≤ j.toInt ∧ j.toInt < n) ∧ Rn (d) Q (218, 1206, [l0, l1, l2, l3], vI (gA σ 13 0 i j.toNatClampNeg) :: st, σ)) := E_iaload1 i218_1205 rfl
theorem i218_1206 : ins 218 1206 = some (.invokevirtual 124, 3) := (congrArg (fun x : PTy => x.1.lookup 1206) q218).trans rfl
theorem e218_1206 {d : Nat} {Q : Option AV → St → Prop} {st : List AV} {σ : St} {l0 l1 l2 l3 : Option AV} {i : Nat} {a1 : Int32} {a2 : Int32} : Rn (d + 1) Q (218, 1206, [l0, l1, l2, l3], vI a2 :: vI a1 :: vR (some (12, 0, i)) :: st, σ) = (i < gN σ 12 ∧ catS st ≤ 8 ∧ Rn d (fun r σ' => Rn (d + 1) Q (218, 1209, [l0, l1, l2, l3], r.toList ++ st, σ')) (194, 0, [some (vR (some (12, 0, i))), some (vI a1), some (vI a2)], [], σ)) := E_invV (a := [vI a2, vI a1]) i218_1206 ((congrArg (fun z => mthQ z 124) o218).trans m13_124) o194 rfl (ek194 i a1 a2) (en194 i a1 a2)
theorem i218_1209 : ins 218 1209 = some (.if_icmp .eq 603, 3) := (congrArg (fun x : PTy => x.1.lookup 1209) q218).trans rfl
theorem e218_1209 {d : Nat} {Q : Option AV → St → Prop} {st : List AV} {σ : St} {l0 l1 l2 l3 : Option AV} {x y : Int32} : Rn (d) Q (218, 1209, [l0, l1, l2, l3], vI y :: vI x :: st, σ) = (if x = y then Rn (d) Q (218, 1812, [l0, l1, l2, l3], st, σ) else Rn (d) Q (218, 1212, [l0, l1, l2, l3], st, σ)) := E_icmp_eq 1812 i218_1209 (by decide)
theorem i218_1212 : ins 218 1212 = some (.iconst 0, 1) := (congrArg (fun x : PTy => x.1.lookup 1212) q218).trans rfl
theorem e218_1212 {d : Nat} {Q : Option AV → St → Prop} {st : List AV} {σ : St} {l0 l1 l2 l3 : Option AV} : Rn (d) Q (218, 1212, [l0, l1, l2, l3], st, σ) = Rn (d) Q (218, 1213, [l0, l1, l2, l3], vI 0 :: st, σ) := by rw [E_iconst i218_1212, ci_0]
theorem i218_1213 : ins 218 1213 = some (.ireturn, 1) := (congrArg (fun x : PTy => x.1.lookup 1213) q218).trans rfl
theorem e218_1213 {d : Nat} {Q : Option AV → St → Prop} {st : List AV} {σ : St} {l0 l1 l2 l3 : Option AV} {x : Int32} : Rn (d) Q (218, 1213, [l0, l1, l2, l3], [vI x], σ) = ((x = 0 ∨ x = 1) ∧ Q (some (vI x)) σ) := E_iretZ (st := []) i218_1213 r218
theorem i218_1214 : ins 218 1214 = some (.aload_n 1, 1) := (congrArg (fun x : PTy => x.1.lookup 1214) q218).trans rfl
theorem e218_1214 {d : Nat} {Q : Option AV → St → Prop} {st : List AV} {σ : St} {l0 l2 l3 : Option AV} {x : Option (Nat × Nat × Nat)} : Rn (d) Q (218, 1214, [l0, some (vR x), l2, l3], st, σ) = Rn (d) Q (218, 1215, [l0, some (vR x), l2, l3], vR x :: st, σ) := E_aload_n i218_1214 rfl
theorem i218_1215 : ins 218 1215 = some (.aload_n 0, 1) := (congrArg (fun x : PTy => x.1.lookup 1215) q218).trans rfl
theorem e218_1215 {d : Nat} {Q : Option AV → St → Prop} {st : List AV} {σ : St} {l1 l2 l3 : Option AV} {x : Option (Nat × Nat × Nat)} : Rn (d) Q (218, 1215, [some (vR x), l1, l2, l3], st, σ) = Rn (d) Q (218, 1216, [some (vR x), l1, l2, l3], vR x :: st, σ) := E_aload_n i218_1215 rfl
theorem i218_1216 : ins 218 1216 = some (.iload_n 3, 1) := (congrArg (fun x : PTy => x.1.lookup 1216) q218).trans rfl
theorem e218_1216 {d : Nat} {Q : Option AV → St → Prop} {st : List AV} {σ : St} {l0 l1 l2 : Option AV} {x : Int32} : Rn (d) Q (218, 1216, [l0, l1, l2, some (vI x)], st, σ) = Rn (d) Q (218, 1217, [l0, l1, l2, some (vI x)], vI x :: st, σ) := E_iload_n i218_1216 rfl
theorem i218_1217 : ins 218 1217 = some (.iconst 1, 1) := (congrArg (fun x : PTy => x.1.lookup 1217) q218).trans rfl
theorem e218_1217 {d : Nat} {Q : Option AV → St → Prop} {st : List AV} {σ : St} {l0 l1 l2 l3 : Option AV} : Rn (d) Q (218, 1217, [l0, l1, l2, l3], st, σ) = Rn (d) Q (218, 1218, [l0, l1, l2, l3], vI 1 :: st, σ) := by rw [E_iconst i218_1217, ci_1]
theorem i218_1218 : ins 218 1218 = some (.iadd, 1) := (congrArg (fun x : PTy => x.1.lookup 1218) q218).trans rfl
theorem e218_1218 {d : Nat} {Q : Option AV → St → Prop} {st : List AV} {σ : St} {l0 l1 l2 l3 : Option AV} {x y : Int32} : Rn (d) Q (218, 1218, [l0, l1, l2, l3], vI y :: vI x :: st, σ) = Rn (d) Q (218, 1219, [l0, l1, l2, l3], vI (x + y) :: st, σ) := E_iadd i218_1218
theorem i218_1219 : ins 218 1219 = some (.iaload, 1) := (congrArg (fun x : PTy => x.1.lookup 1219) q218).trans rfl
theorem e218_1219 {d : Nat} {Q : Option AV → St → Prop} {st : List AV} {σ : St} {l0 l1 l2 l3 : Option AV} {i : Nat} {j : Int32} : Rn (d) Q (218, 1219, [l0, l1, l2, l3], vI j :: vR (some (13, 1, i)) :: st, σ) = (∃ n, gL σ 13 0 i = some n ∧ i < gN σ 13 ∧ (0 ≤ j.toInt ∧ j.toInt < n) ∧ Rn (d) Q (218, 1220, [l0, l1, l2, l3], vI (gA σ 13 0 i j.toNatClampNeg) :: st, σ)) := E_iaload1 i218_1219 rfl
theorem i218_1220 : ins 218 1220 = some (.aload_n 0, 1) := (congrArg (fun x : PTy => x.1.lookup 1220) q218).trans rfl
theorem e218_1220 {d : Nat} {Q : Option AV → St → Prop} {st : List AV} {σ : St} {l1 l2 l3 : Option AV} {x : Option (Nat × Nat × Nat)} : Rn (d) Q (218, 1220, [some (vR x), l1, l2, l3], st, σ) = Rn (d) Q (218, 1221, [some (vR x), l1, l2, l3], vR x :: st, σ) := E_aload_n i218_1220 rfl
theorem i218_1221 : ins 218 1221 = some (.iload_n 3, 1) := (congrArg (fun x : PTy => x.1.lookup 1221) q218).trans rfl
theorem e218_1221 {d : Nat} {Q : Option AV → St → Prop} {st : List AV} {σ : St} {l0 l1 l2 : Option AV} {x : Int32} : Rn (d) Q (218, 1221, [l0, l1, l2, some (vI x)], st, σ) = Rn (d) Q (218, 1222, [l0, l1, l2, some (vI x)], vI x :: st, σ) := E_iload_n i218_1221 rfl
theorem i218_1222 : ins 218 1222 = some (.iconst 2, 1) := (congrArg (fun x : PTy => x.1.lookup 1222) q218).trans rfl
theorem e218_1222 {d : Nat} {Q : Option AV → St → Prop} {st : List AV} {σ : St} {l0 l1 l2 l3 : Option AV} : Rn (d) Q (218, 1222, [l0, l1, l2, l3], st, σ) = Rn (d) Q (218, 1223, [l0, l1, l2, l3], vI 2 :: st, σ) := by rw [E_iconst i218_1222, ci_2]
theorem i218_1223 : ins 218 1223 = some (.iadd, 1) := (congrArg (fun x : PTy => x.1.lookup 1223) q218).trans rfl
theorem e218_1223 {d : Nat} {Q : Option AV → St → Prop} {st : List AV} {σ : St} {l0 l1 l2 l3 : Option AV} {x y : Int32} : Rn (d) Q (218, 1223, [l0, l1, l2, l3], vI y :: vI x :: st, σ) = Rn (d) Q (218, 1224, [l0, l1, l2, l3], vI (x + y) :: st, σ) := E_iadd i218_1223
theorem i218_1224 : ins 218 1224 = some (.iaload, 1) := (congrArg (fun x : PTy => x.1.lookup 1224) q218).trans rfl
theorem e218_1224 {d : Nat} {Q : Option AV → St → Prop} {st : List AV} {σ : St} {l0 l1 l2 l3 : Option AV} {i : Nat} {j : Int32} : Rn (d) Q (218, 1224, [l0, l1, l2, l3], vI j :: vR (some (13, 1, i)) :: st, σ) = (∃ n, gL σ 13 0 i = some n ∧ i < gN σ 13 ∧ (0 ≤ j.toInt ∧ j.toInt < n) ∧ Rn (d) Q (218, 1225, [l0, l1, l2, l3], vI (gA σ 13 0 i j.toNatClampNeg) :: st, σ)) := E_iaload1 i218_1224 rfl
theorem i218_1225 : ins 218 1225 = some (.invokevirtual 125, 3) := (congrArg (fun x : PTy => x.1.lookup 1225) q218).trans rfl
theorem e218_1225 {d : Nat} {Q : Option AV → St → Prop} {st : List AV} {σ : St} {l0 l1 l2 l3 : Option AV} {i : Nat} {a1 : Int32} {a2 : Int32} : Rn (d + 1) Q (218, 1225, [l0, l1, l2, l3], vI a2 :: vI a1 :: vR (some (11, 0, i)) :: st, σ) = (i < gN σ 11 ∧ catS st ≤ 8 ∧ Rn d (fun r σ' => Rn (d + 1) Q (218, 1228, [l0, l1, l2, l3], r.toList ++ st, σ')) (92, 0, [some (vR (some (11, 0, i))), some (vI a1), some (vI a2)], [], σ)) := E_invV (a := [vI a2, vI a1]) i218_1225 ((congrArg (fun z => mthQ z 125) o218).trans m13_125) o92 rfl (ek92 i a1 a2) (en92 i a1 a2)
theorem i218_1228 : ins 218 1228 = some (.aload_n 2, 1) := (congrArg (fun x : PTy => x.1.lookup 1228) q218).trans rfl
theorem e218_1228 {d : Nat} {Q : Option AV → St → Prop} {st : List AV} {σ : St} {l0 l1 l3 : Option AV} {x : Option (Nat × Nat × Nat)} : Rn (d) Q (218, 1228, [l0, l1, some (vR x), l3], st, σ) = Rn (d) Q (218, 1229, [l0, l1, some (vR x), l3], vR x :: st, σ) := E_aload_n i218_1228 rfl
theorem i218_1229 : ins 218 1229 = some (.aload_n 0, 1) := (congrArg (fun x : PTy => x.1.lookup 1229) q218).trans rfl
theorem e218_1229 {d : Nat} {Q : Option AV → St → Prop} {st : List AV} {σ : St} {l1 l2 l3 : Option AV} {x : Option (Nat × Nat × Nat)} : Rn (d) Q (218, 1229, [some (vR x), l1, l2, l3], st, σ) = Rn (d) Q (218, 1230, [some (vR x), l1, l2, l3], vR x :: st, σ) := E_aload_n i218_1229 rfl
theorem i218_1230 : ins 218 1230 = some (.iload_n 3, 1) := (congrArg (fun x : PTy => x.1.lookup 1230) q218).trans rfl
theorem e218_1230 {d : Nat} {Q : Option AV → St → Prop} {st : List AV} {σ : St} {l0 l1 l2 : Option AV} {x : Int32} : Rn (d) Q (218, 1230, [l0, l1, l2, some (vI x)], st, σ) = Rn (d) Q (218, 1231, [l0, l1, l2, some (vI x)], vI x :: st, σ) := E_iload_n i218_1230 rfl
theorem i218_1231 : ins 218 1231 = some (.iconst 1, 1) := (congrArg (fun x : PTy => x.1.lookup 1231) q218).trans rfl
theorem e218_1231 {d : Nat} {Q : Option AV → St → Prop} {st : List AV} {σ : St} {l0 l1 l2 l3 : Option AV} : Rn (d) Q (218, 1231, [l0, l1, l2, l3], st, σ) = Rn (d) Q (218, 1232, [l0, l1, l2, l3], vI 1 :: st, σ) := by rw [E_iconst i218_1231, ci_1]
theorem i218_1232 : ins 218 1232 = some (.iadd, 1) := (congrArg (fun x : PTy => x.1.lookup 1232) q218).trans rfl
theorem e218_1232 {d : Nat} {Q : Option AV → St → Prop} {st : List AV} {σ : St} {l0 l1 l2 l3 : Option AV} {x y : Int32} : Rn (d) Q (218, 1232, [l0, l1, l2, l3], vI y :: vI x :: st, σ) = Rn (d) Q (218, 1233, [l0, l1, l2, l3], vI (x + y) :: st, σ) := E_iadd i218_1232
theorem i218_1233 : ins 218 1233 = some (.iaload, 1) := (congrArg (fun x : PTy => x.1.lookup 1233) q218).trans rfl
theorem e218_1233 {d : Nat} {Q : Option AV → St → Prop} {st : List AV} {σ : St} {l0 l1 l2 l3 : Option AV} {i : Nat} {j : Int32} : Rn (d) Q (218, 1233, [l0, l1, l2, l3], vI j :: vR (some (13, 1, i)) :: st, σ) = (∃ n, gL σ 13 0 i = some n ∧ i < gN σ 13 ∧ (0 ≤ j.toInt ∧ j.toInt < n) ∧ Rn (d) Q (218, 1234, [l0, l1, l2, l3], vI (gA σ 13 0 i j.toNatClampNeg) :: st, σ)) := E_iaload1 i218_1233 rfl
theorem i218_1234 : ins 218 1234 = some (.aload_n 0, 1) := (congrArg (fun x : PTy => x.1.lookup 1234) q218).trans rfl
theorem e218_1234 {d : Nat} {Q : Option AV → St → Prop} {st : List AV} {σ : St} {l1 l2 l3 : Option AV} {x : Option (Nat × Nat × Nat)} : Rn (d) Q (218, 1234, [some (vR x), l1, l2, l3], st, σ) = Rn (d) Q (218, 1235, [some (vR x), l1, l2, l3], vR x :: st, σ) := E_aload_n i218_1234 rfl
theorem i218_1235 : ins 218 1235 = some (.iload_n 3, 1) := (congrArg (fun x : PTy => x.1.lookup 1235) q218).trans rfl
theorem e218_1235 {d : Nat} {Q : Option AV → St → Prop} {st : List AV} {σ : St} {l0 l1 l2 : Option AV} {x : Int32} : Rn (d) Q (218, 1235, [l0, l1, l2, some (vI x)], st, σ) = Rn (d) Q (218, 1236, [l0, l1, l2, some (vI x)], vI x :: st, σ) := E_iload_n i218_1235 rfl
theorem i218_1236 : ins 218 1236 = some (.iconst 2, 1) := (congrArg (fun x : PTy => x.1.lookup 1236) q218).trans rfl
theorem e218_1236 {d : Nat} {Q : Option AV → St → Prop} {st : List AV} {σ : St} {l0 l1 l2 l3 : Option AV} : Rn (d) Q (218, 1236, [l0, l1, l2, l3], st, σ) = Rn (d) Q (218, 1237, [l0, l1, l2, l3], vI 2 :: st, σ) := by rw [E_iconst i218_1236, ci_2]
theorem i218_1237 : ins 218 1237 = some (.iadd, 1) := (congrArg (fun x : PTy => x.1.lookup 1237) q218).trans rfl
theorem e218_1237 {d : Nat} {Q : Option AV → St → Prop} {st : List AV} {σ : St} {l0 l1 l2 l3 : Option AV} {x y : Int32} : Rn (d) Q (218, 1237, [l0, l1, l2, l3], vI y :: vI x :: st, σ) = Rn (d) Q (218, 1238, [l0, l1, l2, l3], vI (x + y) :: st, σ) := E_iadd i218_1237
theorem i218_1238 : ins 218 1238 = some (.iaload, 1) := (congrArg (fun x : PTy => x.1.lookup 1238) q218).trans rfl
theorem e218_1238 {d : Nat} {Q : Option AV → St → Prop} {st : List AV} {σ : St} {l0 l1 l2 l3 : Option AV} {i : Nat} {j : Int32} : Rn (d) Q (218, 1238, [l0, l1, l2, l3], vI j :: vR (some (13, 1, i)) :: st, σ) = (∃ n, gL σ 13 0 i = some n ∧ i < gN σ 13 ∧ (0 ≤ j.toInt ∧ j.toInt < n) ∧ Rn (d) Q (218, 1239, [l0, l1, l2, l3], vI (gA σ 13 0 i j.toNatClampNeg) :: st, σ)) := E_iaload1 i218_1238 rfl
theorem i218_1239 : ins 218 1239 = some (.invokevirtual 128, 3) := (congrArg (fun x : PTy => x.1.lookup 1239) q218).trans rfl
theorem e218_1239 {d : Nat} {Q : Option AV → St → Prop} {st : List AV} {σ : St} {l0 l1 l2 l3 : Option AV} {i : Nat} {a1 : Int32} {a2 : Int32} : Rn (d + 1) Q (218, 1239, [l0, l1, l2, l3], vI a2 :: vI a1 :: vR (some (12, 0, i)) :: st, σ) = (i < gN σ 12 ∧ catS st ≤ 8 ∧ Rn d (fun r σ' => Rn (d + 1) Q (218, 1242, [l0, l1, l2, l3], r.toList ++ st, σ')) (195, 0, [some (vR (some (12, 0, i))), some (vI a1), some (vI a2), none, none], [], σ)) := E_invV (a := [vI a2, vI a1]) i218_1239 ((congrArg (fun z => mthQ z 128) o218).trans m13_128) o195 rfl (ek195 i a1 a2) (en195 i a1 a2)
theorem i218_1242 : ins 218 1242 = some (.if_icmp .eq 570, 3) := (congrArg (fun x : PTy => x.1.lookup 1242) q218).trans rfl
theorem e218_1242 {d : Nat} {Q : Option AV → St → Prop} {st : List AV} {σ : St} {l0 l1 l2 l3 : Option AV} {x y : Int32} : Rn (d) Q (218, 1242, [l0, l1, l2, l3], vI y :: vI x :: st, σ) = (if x = y then Rn (d) Q (218, 1812, [l0, l1, l2, l3], st, σ) else Rn (d) Q (218, 1245, [l0, l1, l2, l3], st, σ)) := E_icmp_eq 1812 i218_1242 (by decide)
theorem i218_1245 : ins 218 1245 = some (.iconst 0, 1) := (congrArg (fun x : PTy => x.1.lookup 1245) q218).trans rfl
theorem e218_1245 {d : Nat} {Q : Option AV → St → Prop} {st : List AV} {σ : St} {l0 l1 l2 l3 : Option AV} : Rn (d) Q (218, 1245, [l0, l1, l2, l3], st, σ) = Rn (d) Q (218, 1246, [l0, l1, l2, l3], vI 0 :: st, σ) := by rw [E_iconst i218_1245, ci_0]
theorem i218_1246 : ins 218 1246 = some (.ireturn, 1) := (congrArg (fun x : PTy => x.1.lookup 1246) q218).trans rfl
theorem e218_1246 {d : Nat} {Q : Option AV → St → Prop} {st : List AV} {σ : St} {l0 l1 l2 l3 : Option AV} {x : Int32} : Rn (d) Q (218, 1246, [l0, l1, l2, l3], [vI x], σ) = ((x = 0 ∨ x = 1) ∧ Q (some (vI x)) σ) := E_iretZ (st := []) i218_1246 r218
theorem i218_1247 : ins 218 1247 = some (.aload_n 1, 1) := (congrArg (fun x : PTy => x.1.lookup 1247) q218).trans rfl
theorem e218_1247 {d : Nat} {Q : Option AV → St → Prop} {st : List AV} {σ : St} {l0 l2 l3 : Option AV} {x : Option (Nat × Nat × Nat)} : Rn (d) Q (218, 1247, [l0, some (vR x), l2, l3], st, σ) = Rn (d) Q (218, 1248, [l0, some (vR x), l2, l3], vR x :: st, σ) := E_aload_n i218_1247 rfl
theorem i218_1248 : ins 218 1248 = some (.aload_n 0, 1) := (congrArg (fun x : PTy => x.1.lookup 1248) q218).trans rfl
theorem e218_1248 {d : Nat} {Q : Option AV → St → Prop} {st : List AV} {σ : St} {l1 l2 l3 : Option AV} {x : Option (Nat × Nat × Nat)} : Rn (d) Q (218, 1248, [some (vR x), l1, l2, l3], st, σ) = Rn (d) Q (218, 1249, [some (vR x), l1, l2, l3], vR x :: st, σ) := E_aload_n i218_1248 rfl
theorem i218_1249 : ins 218 1249 = some (.iload_n 3, 1) := (congrArg (fun x : PTy => x.1.lookup 1249) q218).trans rfl
theorem e218_1249 {d : Nat} {Q : Option AV → St → Prop} {st : List AV} {σ : St} {l0 l1 l2 : Option AV} {x : Int32} : Rn (d) Q (218, 1249, [l0, l1, l2, some (vI x)], st, σ) = Rn (d) Q (218, 1250, [l0, l1, l2, some (vI x)], vI x :: st, σ) := E_iload_n i218_1249 rfl
theorem i218_1250 : ins 218 1250 = some (.iconst 1, 1) := (congrArg (fun x : PTy => x.1.lookup 1250) q218).trans rfl
theorem e218_1250 {d : Nat} {Q : Option AV → St → Prop} {st : List AV} {σ : St} {l0 l1 l2 l3 : Option AV} : Rn (d) Q (218, 1250, [l0, l1, l2, l3], st, σ) = Rn (d) Q (218, 1251, [l0, l1, l2, l3], vI 1 :: st, σ) := by rw [E_iconst i218_1250, ci_1]
theorem i218_1251 : ins 218 1251 = some (.iadd, 1) := (congrArg (fun x : PTy => x.1.lookup 1251) q218).trans rfl
theorem e218_1251 {d : Nat} {Q : Option AV → St → Prop} {st : List AV} {σ : St} {l0 l1 l2 l3 : Option AV} {x y : Int32} : Rn (d) Q (218, 1251, [l0, l1, l2, l3], vI y :: vI x :: st, σ) = Rn (d) Q (218, 1252, [l0, l1, l2, l3], vI (x + y) :: st, σ) := E_iadd i218_1251
theorem i218_1252 : ins 218 1252 = some (.iaload, 1) := (congrArg (fun x : PTy => x.1.lookup 1252) q218).trans rfl
theorem e218_1252 {d : Nat} {Q : Option AV → St → Prop} {st : List AV} {σ : St} {l0 l1 l2 l3 : Option AV} {i : Nat} {j : Int32} : Rn (d) Q (218, 1252, [l0, l1, l2, l3], vI j :: vR (some (13, 1, i)) :: st, σ) = (∃ n, gL σ 13 0 i = some n ∧ i < gN σ 13 ∧ (0 ≤ j.toInt ∧ j.toInt < n) ∧ Rn (d) Q (218, 1253, [l0, l1, l2, l3], vI (gA σ 13 0 i j.toNatClampNeg) :: st, σ)) := E_iaload1 i218_1252 rfl
theorem i218_1253 : ins 218 1253 = some (.aload_n 0, 1) := (congrArg (fun x : PTy => x.1.lookup 1253) q218).trans rfl
theorem e218_1253 {d : Nat} {Q : Option AV → St → Prop} {st : List AV} {σ : St} {l1 l2 l3 : Option AV} {x : Option (Nat × Nat × Nat)} : Rn (d) Q (218, 1253, [some (vR x), l1, l2, l3], st, σ) = Rn (d) Q (218, 1254, [some (vR x), l1, l2, l3], vR x :: st, σ) := E_aload_n i218_1253 rfl
theorem i218_1254 : ins 218 1254 = some (.iload_n 3, 1) := (congrArg (fun x : PTy => x.1.lookup 1254) q218).trans rfl
theorem e218_1254 {d : Nat} {Q : Option AV → St → Prop} {st : List AV} {σ : St} {l0 l1 l2 : Option AV} {x : Int32} : Rn (d) Q (218, 1254, [l0, l1, l2, some (vI x)], st, σ) = Rn (d) Q (218, 1255, [l0, l1, l2, some (vI x)], vI x :: st, σ) := E_iload_n i218_1254 rfl
theorem i218_1255 : ins 218 1255 = some (.iconst 2, 1) := (congrArg (fun x : PTy => x.1.lookup 1255) q218).trans rfl
theorem e218_1255 {d : Nat} {Q : Option AV → St → Prop} {st : List AV} {σ : St} {l0 l1 l2 l3 : Option AV} : Rn (d) Q (218, 1255, [l0, l1, l2, l3], st, σ) = Rn (d) Q (218, 1256, [l0, l1, l2, l3], vI 2 :: st, σ) := by rw [E_iconst i218_1255, ci_2]
theorem i218_1256 : ins 218 1256 = some (.iadd, 1) := (congrArg (fun x : PTy => x.1.lookup 1256) q218).trans rfl
theorem e218_1256 {d : Nat} {Q : Option AV → St → Prop} {st : List AV} {σ : St} {l0 l1 l2 l3 : Option AV} {x y : Int32} : Rn (d) Q (218, 1256, [l0, l1, l2, l3], vI y :: vI x :: st, σ) = Rn (d) Q (218, 1257, [l0, l1, l2, l3], vI (x + y) :: st, σ) := E_iadd i218_1256
theorem i218_1257 : ins 218 1257 = some (.iaload, 1) := (congrArg (fun x : PTy => x.1.lookup 1257) q218).trans rfl
theorem e218_1257 {d : Nat} {Q : Option AV → St → Prop} {st : List AV} {σ : St} {l0 l1 l2 l3 : Option AV} {i : Nat} {j : Int32} : Rn (d) Q (218, 1257, [l0, l1, l2, l3], vI j :: vR (some (13, 1, i)) :: st, σ) = (∃ n, gL σ 13 0 i = some n ∧ i < gN σ 13 ∧ (0 ≤ j.toInt ∧ j.toInt < n) ∧ Rn (d) Q (218, 1258, [l0, l1, l2, l3], vI (gA σ 13 0 i j.toNatClampNeg) :: st, σ)) := E_iaload1 i218_1257 rfl
theorem i218_1258 : ins 218 1258 = some (.aload_n 0, 1) := (congrArg (fun x : PTy => x.1.lookup 1258) q218).trans rfl
theorem e218_1258 {d : Nat} {Q : Option AV → St → Prop} {st : List AV} {σ : St} {l1 l2 l3 : Option AV} {x : Option (Nat × Nat × Nat)} : Rn (d) Q (218, 1258, [some (vR x), l1, l2, l3], st, σ) = Rn (d) Q (218, 1259, [some (vR x), l1, l2, l3], vR x :: st, σ) := E_aload_n i218_1258 rfl
theorem i218_1259 : ins 218 1259 = some (.iload_n 3, 1) := (congrArg (fun x : PTy => x.1.lookup 1259) q218).trans rfl
theorem e218_1259 {d : Nat} {Q : Option AV → St → Prop} {st : List AV} {σ : St} {l0 l1 l2 : Option AV} {x : Int32} : Rn (d) Q (218, 1259, [l0, l1, l2, some (vI x)], st, σ) = Rn (d) Q (218, 1260, [l0, l1, l2, some (vI x)], vI x :: st, σ) := E_iload_n i218_1259 rfl
theorem i218_1260 : ins 218 1260 = some (.iconst 3, 1) := (congrArg (fun x : PTy => x.1.lookup 1260) q218).trans rfl
theorem e218_1260 {d : Nat} {Q : Option AV → St → Prop} {st : List AV} {σ : St} {l0 l1 l2 l3 : Option AV} : Rn (d) Q (218, 1260, [l0, l1, l2, l3], st, σ) = Rn (d) Q (218, 1261, [l0, l1, l2, l3], vI 3 :: st, σ) := by rw [E_iconst i218_1260, ci_3]
theorem i218_1261 : ins 218 1261 = some (.iadd, 1) := (congrArg (fun x : PTy => x.1.lookup 1261) q218).trans rfl
theorem e218_1261 {d : Nat} {Q : Option AV → St → Prop} {st : List AV} {σ : St} {l0 l1 l2 l3 : Option AV} {x y : Int32} : Rn (d) Q (218, 1261, [l0, l1, l2, l3], vI y :: vI x :: st, σ) = Rn (d) Q (218, 1262, [l0, l1, l2, l3], vI (x + y) :: st, σ) := E_iadd i218_1261
theorem i218_1262 : ins 218 1262 = some (.iaload, 1) := (congrArg (fun x : PTy => x.1.lookup 1262) q218).trans rfl
theorem e218_1262 {d : Nat} {Q : Option AV → St → Prop} {st : List AV} {σ : St} {l0 l1 l2 l3 : Option AV} {i : Nat} {j : Int32} : Rn (d) Q (218, 1262, [l0, l1, l2, l3], vI j :: vR (some (13, 1, i)) :: st, σ) = (∃ n, gL σ 13 0 i = some n ∧ i < gN σ 13 ∧ (0 ≤ j.toInt ∧ j.toInt < n) ∧ Rn (d) Q (218, 1263, [l0, l1, l2, l3], vI (gA σ 13 0 i j.toNatClampNeg) :: st, σ)) := E_iaload1 i218_1262 rfl
theorem i218_1263 : ins 218 1263 = some (.invokevirtual 129, 3) := (congrArg (fun x : PTy => x.1.lookup 1263) q218).trans rfl
theorem e218_1263 {d : Nat} {Q : Option AV → St → Prop} {st : List AV} {σ : St} {l0 l1 l2 l3 : Option AV} {i : Nat} {a1 : Int32} {a2 : Int32} {a3 : Int32} : Rn (d + 1) Q (218, 1263, [l0, l1, l2, l3], vI a3 :: vI a2 :: vI a1 :: vR (some (11, 0, i)) :: st, σ) = (i < gN σ 11 ∧ catS st ≤ 8 ∧ Rn d (fun r σ' => Rn (d + 1) Q (218, 1266, [l0, l1, l2, l3], r.toList ++ st, σ')) (93, 0, [some (vR (some (11, 0, i))), some (vI a1), some (vI a2), some (vI a3), none, none, none, none, none, none, none], [], σ)) := E_invV (a := [vI a3, vI a2, vI a1]) i218_1263 ((congrArg (fun z => mthQ z 129) o218).trans m13_129) o93 rfl (ek93 i a1 a2 a3) (en93 i a1 a2 a3)
theorem i218_1266 : ins 218 1266 = some (.aload_n 2, 1) := (congrArg (fun x : PTy => x.1.lookup 1266) q218).trans rfl
theorem e218_1266 {d : Nat} {Q : Option AV → St → Prop} {st : List AV} {σ : St} {l0 l1 l3 : Option AV} {x : Option (Nat × Nat × Nat)} : Rn (d) Q (218, 1266, [l0, l1, some (vR x), l3], st, σ) = Rn (d) Q (218, 1267, [l0, l1, some (vR x), l3], vR x :: st, σ) := E_aload_n i218_1266 rfl
theorem i218_1267 : ins 218 1267 = some (.aload_n 0, 1) := (congrArg (fun x : PTy => x.1.lookup 1267) q218).trans rfl
theorem e218_1267 {d : Nat} {Q : Option AV → St → Prop} {st : List AV} {σ : St} {l1 l2 l3 : Option AV} {x : Option (Nat × Nat × Nat)} : Rn (d) Q (218, 1267, [some (vR x), l1, l2, l3], st, σ) = Rn (d) Q (218, 1268, [some (vR x), l1, l2, l3], vR x :: st, σ) := E_aload_n i218_1267 rfl
theorem i218_1268 : ins 218 1268 = some (.iload_n 3, 1) := (congrArg (fun x : PTy => x.1.lookup 1268) q218).trans rfl
theorem e218_1268 {d : Nat} {Q : Option AV → St → Prop} {st : List AV} {σ : St} {l0 l1 l2 : Option AV} {x : Int32} : Rn (d) Q (218, 1268, [l0, l1, l2, some (vI x)], st, σ) = Rn (d) Q (218, 1269, [l0, l1, l2, some (vI x)], vI x :: st, σ) := E_iload_n i218_1268 rfl
theorem i218_1269 : ins 218 1269 = some (.iconst 1, 1) := (congrArg (fun x : PTy => x.1.lookup 1269) q218).trans rfl
theorem e218_1269 {d : Nat} {Q : Option AV → St → Prop} {st : List AV} {σ : St} {l0 l1 l2 l3 : Option AV} : Rn (d) Q (218, 1269, [l0, l1, l2, l3], st, σ) = Rn (d) Q (218, 1270, [l0, l1, l2, l3], vI 1 :: st, σ) := by rw [E_iconst i218_1269, ci_1]
theorem i218_1270 : ins 218 1270 = some (.iadd, 1) := (congrArg (fun x : PTy => x.1.lookup 1270) q218).trans rfl
theorem e218_1270 {d : Nat} {Q : Option AV → St → Prop} {st : List AV} {σ : St} {l0 l1 l2 l3 : Option AV} {x y : Int32} : Rn (d) Q (218, 1270, [l0, l1, l2, l3], vI y :: vI x :: st, σ) = Rn (d) Q (218, 1271, [l0, l1, l2, l3], vI (x + y) :: st, σ) := E_iadd i218_1270
theorem i218_1271 : ins 218 1271 = some (.iaload, 1) := (congrArg (fun x : PTy => x.1.lookup 1271) q218).trans rfl
theorem e218_1271 {d : Nat} {Q : Option AV → St → Prop} {st : List AV} {σ : St} {l0 l1 l2 l3 : Option AV} {i : Nat} {j : Int32} : Rn (d) Q (218, 1271, [l0, l1, l2, l3], vI j :: vR (some (13, 1, i)) :: st, σ) = (∃ n, gL σ 13 0 i = some n ∧ i < gN σ 13 ∧ (0 ≤ j.toInt ∧ j.toInt < n) ∧ Rn (d) Q (218, 1272, [l0, l1, l2, l3], vI (gA σ 13 0 i j.toNatClampNeg) :: st, σ)) := E_iaload1 i218_1271 rfl
theorem i218_1272 : ins 218 1272 = some (.aload_n 0, 1) := (congrArg (fun x : PTy => x.1.lookup 1272) q218).trans rfl
theorem e218_1272 {d : Nat} {Q : Option AV → St → Prop} {st : List AV} {σ : St} {l1 l2 l3 : Option AV} {x : Option (Nat × Nat × Nat)} : Rn (d) Q (218, 1272, [some (vR x), l1, l2, l3], st, σ) = Rn (d) Q (218, 1273, [some (vR x), l1, l2, l3], vR x :: st, σ) := E_aload_n i218_1272 rfl
theorem i218_1273 : ins 218 1273 = some (.iload_n 3, 1) := (congrArg (fun x : PTy => x.1.lookup 1273) q218).trans rfl
theorem e218_1273 {d : Nat} {Q : Option AV → St → Prop} {st : List AV} {σ : St} {l0 l1 l2 : Option AV} {x : Int32} : Rn (d) Q (218, 1273, [l0, l1, l2, some (vI x)], st, σ) = Rn (d) Q (218, 1274, [l0, l1, l2, some (vI x)], vI x :: st, σ) := E_iload_n i218_1273 rfl
theorem i218_1274 : ins 218 1274 = some (.iconst 2, 1) := (congrArg (fun x : PTy => x.1.lookup 1274) q218).trans rfl
theorem e218_1274 {d : Nat} {Q : Option AV → St → Prop} {st : List AV} {σ : St} {l0 l1 l2 l3 : Option AV} : Rn (d) Q (218, 1274, [l0, l1, l2, l3], st, σ) = Rn (d) Q (218, 1275, [l0, l1, l2, l3], vI 2 :: st, σ) := by rw [E_iconst i218_1274, ci_2]
theorem i218_1275 : ins 218 1275 = some (.iadd, 1) := (congrArg (fun x : PTy => x.1.lookup 1275) q218).trans rfl
theorem e218_1275 {d : Nat} {Q : Option AV → St → Prop} {st : List AV} {σ : St} {l0 l1 l2 l3 : Option AV} {x y : Int32} : Rn (d) Q (218, 1275, [l0, l1, l2, l3], vI y :: vI x :: st, σ) = Rn (d) Q (218, 1276, [l0, l1, l2, l3], vI (x + y) :: st, σ) := E_iadd i218_1275
theorem i218_1276 : ins 218 1276 = some (.iaload, 1) := (congrArg (fun x : PTy => x.1.lookup 1276) q218).trans rfl
theorem e218_1276 {d : Nat} {Q : Option AV → St → Prop} {st : List AV} {σ : St} {l0 l1 l2 l3 : Option AV} {i : Nat} {j : Int32} : Rn (d) Q (218, 1276, [l0, l1, l2, l3], vI j :: vR (some (13, 1, i)) :: st, σ) = (∃ n, gL σ 13 0 i = some n ∧ i < gN σ 13 ∧ (0 ≤ j.toInt ∧ j.toInt < n) ∧ Rn (d) Q (218, 1277, [l0, l1, l2, l3], vI (gA σ 13 0 i j.toNatClampNeg) :: st, σ)) := E_iaload1 i218_1276 rfl
theorem i218_1277 : ins 218 1277 = some (.aload_n 0, 1) := (congrArg (fun x : PTy => x.1.lookup 1277) q218).trans rfl
theorem e218_1277 {d : Nat} {Q : Option AV → St → Prop} {st : List AV} {σ : St} {l1 l2 l3 : Option AV} {x : Option (Nat × Nat × Nat)} : Rn (d) Q (218, 1277, [some (vR x), l1, l2, l3], st, σ) = Rn (d) Q (218, 1278, [some (vR x), l1, l2, l3], vR x :: st, σ) := E_aload_n i218_1277 rfl
theorem i218_1278 : ins 218 1278 = some (.iload_n 3, 1) := (congrArg (fun x : PTy => x.1.lookup 1278) q218).trans rfl
theorem e218_1278 {d : Nat} {Q : Option AV → St → Prop} {st : List AV} {σ : St} {l0 l1 l2 : Option AV} {x : Int32} : Rn (d) Q (218, 1278, [l0, l1, l2, some (vI x)], st, σ) = Rn (d) Q (218, 1279, [l0, l1, l2, some (vI x)], vI x :: st, σ) := E_iload_n i218_1278 rfl
theorem i218_1279 : ins 218 1279 = some (.iconst 3, 1) := (congrArg (fun x : PTy => x.1.lookup 1279) q218).trans rfl
theorem e218_1279 {d : Nat} {Q : Option AV → St → Prop} {st : List AV} {σ : St} {l0 l1 l2 l3 : Option AV} : Rn (d) Q (218, 1279, [l0, l1, l2, l3], st, σ) = Rn (d) Q (218, 1280, [l0, l1, l2, l3], vI 3 :: st, σ) := by rw [E_iconst i218_1279, ci_3]
theorem i218_1280 : ins 218 1280 = some (.iadd, 1) := (congrArg (fun x : PTy => x.1.lookup 1280) q218).trans rfl
theorem e218_1280 {d : Nat} {Q : Option AV → St → Prop} {st : List AV} {σ : St} {l0 l1 l2 l3 : Option AV} {x y : Int32} : Rn (d) Q (218, 1280, [l0, l1, l2, l3], vI y :: vI x :: st, σ) = Rn (d) Q (218, 1281, [l0, l1, l2, l3], vI (x + y) :: st, σ) := E_iadd i218_1280
theorem i218_1281 : ins 218 1281 = some (.iaload, 1) := (congrArg (fun x : PTy => x.1.lookup 1281) q218).trans rfl
theorem e218_1281 {d : Nat} {Q : Option AV → St → Prop} {st : List AV} {σ : St} {l0 l1 l2 l3 : Option AV} {i : Nat} {j : Int32} : Rn (d) Q (218, 1281, [l0, l1, l2, l3], vI j :: vR (some (13, 1, i)) :: st, σ) = (∃ n, gL σ 13 0 i = some n ∧ i < gN σ 13 ∧ (0 ≤ j.toInt ∧ j.toInt < n) ∧ Rn (d) Q (218, 1282, [l0, l1, l2, l3], vI (gA σ 13 0 i j.toNatClampNeg) :: st, σ)) := E_iaload1 i218_1281 rfl
theorem i218_1282 : ins 218 1282 = some (.invokevirtual 132, 3) := (congrArg (fun x : PTy => x.1.lookup 1282) q218).trans rfl
theorem e218_1282 {d : Nat} {Q : Option AV → St → Prop} {st : List AV} {σ : St} {l0 l1 l2 l3 : Option AV} {i : Nat} {a1 : Int32} {a2 : Int32} {a3 : Int32} : Rn (d + 1) Q (218, 1282, [l0, l1, l2, l3], vI a3 :: vI a2 :: vI a1 :: vR (some (12, 0, i)) :: st, σ) = (i < gN σ 12 ∧ catS st ≤ 8 ∧ Rn d (fun r σ' => Rn (d + 1) Q (218, 1285, [l0, l1, l2, l3], r.toList ++ st, σ')) (196, 0, [some (vR (some (12, 0, i))), some (vI a1), some (vI a2), some (vI a3), none, none, none, none, none, none, none, none], [], σ)) := E_invV (a := [vI a3, vI a2, vI a1]) i218_1282 ((congrArg (fun z => mthQ z 132) o218).trans m13_132) o196 rfl (ek196 i a1 a2 a3) (en196 i a1 a2 a3)
theorem i218_1285 : ins 218 1285 = some (.if_icmp .eq 527, 3) := (congrArg (fun x : PTy => x.1.lookup 1285) q218).trans rfl
theorem e218_1285 {d : Nat} {Q : Option AV → St → Prop} {st : List AV} {σ : St} {l0 l1 l2 l3 : Option AV} {x y : Int32} : Rn (d) Q (218, 1285, [l0, l1, l2, l3], vI y :: vI x :: st, σ) = (if x = y then Rn (d) Q (218, 1812, [l0, l1, l2, l3], st, σ) else Rn (d) Q (218, 1288, [l0, l1, l2, l3], st, σ)) := E_icmp_eq 1812 i218_1285 (by decide)
theorem i218_1288 : ins 218 1288 = some (.iconst 0, 1) := (congrArg (fun x : PTy => x.1.lookup 1288) q218).trans rfl
theorem e218_1288 {d : Nat} {Q : Option AV → St → Prop} {st : List AV} {σ : St} {l0 l1 l2 l3 : Option AV} : Rn (d) Q (218, 1288, [l0, l1, l2, l3], st, σ) = Rn (d) Q (218, 1289, [l0, l1, l2, l3], vI 0 :: st, σ) := by rw [E_iconst i218_1288, ci_0]
theorem i218_1289 : ins 218 1289 = some (.ireturn, 1) := (congrArg (fun x : PTy => x.1.lookup 1289) q218).trans rfl
theorem e218_1289 {d : Nat} {Q : Option AV → St → Prop} {st : List AV} {σ : St} {l0 l1 l2 l3 : Option AV} {x : Int32} : Rn (d) Q (218, 1289, [l0, l1, l2, l3], [vI x], σ) = ((x = 0 ∨ x = 1) ∧ Q (some (vI x)) σ) := E_iretZ (st := []) i218_1289 r218
theorem i218_1290 : ins 218 1290 = some (.aload_n 1, 1) := (congrArg (fun x : PTy => x.1.lookup 1290) q218).trans rfl
theorem e218_1290 {d : Nat} {Q : Option AV → St → Prop} {st : List AV} {σ : St} {l0 l2 l3 : Option AV} {x : Option (Nat × Nat × Nat)} : Rn (d) Q (218, 1290, [l0, some (vR x), l2, l3], st, σ) = Rn (d) Q (218, 1291, [l0, some (vR x), l2, l3], vR x :: st, σ) := E_aload_n i218_1290 rfl
theorem i218_1291 : ins 218 1291 = some (.aload_n 0, 1) := (congrArg (fun x : PTy => x.1.lookup 1291) q218).trans rfl
theorem e218_1291 {d : Nat} {Q : Option AV → St → Prop} {st : List AV} {σ : St} {l1 l2 l3 : Option AV} {x : Option (Nat × Nat × Nat)} : Rn (d) Q (218, 1291, [some (vR x), l1, l2, l3], st, σ) = Rn (d) Q (218, 1292, [some (vR x), l1, l2, l3], vR x :: st, σ) := E_aload_n i218_1291 rfl
theorem i218_1292 : ins 218 1292 = some (.iload_n 3, 1) := (congrArg (fun x : PTy => x.1.lookup 1292) q218).trans rfl
theorem e218_1292 {d : Nat} {Q : Option AV → St → Prop} {st : List AV} {σ : St} {l0 l1 l2 : Option AV} {x : Int32} : Rn (d) Q (218, 1292, [l0, l1, l2, some (vI x)], st, σ) = Rn (d) Q (218, 1293, [l0, l1, l2, some (vI x)], vI x :: st, σ) := E_iload_n i218_1292 rfl
theorem i218_1293 : ins 218 1293 = some (.iconst 1, 1) := (congrArg (fun x : PTy => x.1.lookup 1293) q218).trans rfl
theorem e218_1293 {d : Nat} {Q : Option AV → St → Prop} {st : List AV} {σ : St} {l0 l1 l2 l3 : Option AV} : Rn (d) Q (218, 1293, [l0, l1, l2, l3], st, σ) = Rn (d) Q (218, 1294, [l0, l1, l2, l3], vI 1 :: st, σ) := by rw [E_iconst i218_1293, ci_1]
theorem i218_1294 : ins 218 1294 = some (.iadd, 1) := (congrArg (fun x : PTy => x.1.lookup 1294) q218).trans rfl
theorem e218_1294 {d : Nat} {Q : Option AV → St → Prop} {st : List AV} {σ : St} {l0 l1 l2 l3 : Option AV} {x y : Int32} : Rn (d) Q (218, 1294, [l0, l1, l2, l3], vI y :: vI x :: st, σ) = Rn (d) Q (218, 1295, [l0, l1, l2, l3], vI (x + y) :: st, σ) := E_iadd i218_1294
theorem i218_1295 : ins 218 1295 = some (.iaload, 1) := (congrArg (fun x : PTy => x.1.lookup 1295) q218).trans rfl
theorem e218_1295 {d : Nat} {Q : Option AV → St → Prop} {st : List AV} {σ : St} {l0 l1 l2 l3 : Option AV} {i : Nat} {j : Int32} : Rn (d) Q (218, 1295, [l0, l1, l2, l3], vI j :: vR (some (13, 1, i)) :: st, σ) = (∃ n, gL σ 13 0 i = some n ∧ i < gN σ 13 ∧ (0 ≤ j.toInt ∧ j.toInt < n) ∧ Rn (d) Q (218, 1296, [l0, l1, l2, l3], vI (gA σ 13 0 i j.toNatClampNeg) :: st, σ)) := E_iaload1 i218_1295 rfl
theorem i218_1296 : ins 218 1296 = some (.aload_n 0, 1) := (congrArg (fun x : PTy => x.1.lookup 1296) q218).trans rfl
theorem e218_1296 {d : Nat} {Q : Option AV → St → Prop} {st : List AV} {σ : St} {l1 l2 l3 : Option AV} {x : Option (Nat × Nat × Nat)} : Rn (d) Q (218, 1296, [some (vR x), l1, l2, l3], st, σ) = Rn (d) Q (218, 1297, [some (vR x), l1, l2, l3], vR x :: st, σ) := E_aload_n i218_1296 rfl
theorem i218_1297 : ins 218 1297 = some (.iload_n 3, 1) := (congrArg (fun x : PTy => x.1.lookup 1297) q218).trans rfl
theorem e218_1297 {d : Nat} {Q : Option AV → St → Prop} {st : List AV} {σ : St} {l0 l1 l2 : Option AV} {x : Int32} : Rn (d) Q (218, 1297, [l0, l1, l2, some (vI x)], st, σ) = Rn (d) Q (218, 1298, [l0, l1, l2, some (vI x)], vI x :: st, σ) := E_iload_n i218_1297 rfl
theorem i218_1298 : ins 218 1298 = some (.iconst 2, 1) := (congrArg (fun x : PTy => x.1.lookup 1298) q218).trans rfl
theorem e218_1298 {d : Nat} {Q : Option AV → St → Prop} {st : List AV} {σ : St} {l0 l1 l2 l3 : Option AV} : Rn (d) Q (218, 1298, [l0, l1, l2, l3], st, σ) = Rn (d) Q (218, 1299, [l0, l1, l2, l3], vI 2 :: st, σ) := by rw [E_iconst i218_1298, ci_2]
theorem i218_1299 : ins 218 1299 = some (.iadd, 1) := (congrArg (fun x : PTy => x.1.lookup 1299) q218).trans rfl
theorem e218_1299 {d : Nat} {Q : Option AV → St → Prop} {st : List AV} {σ : St} {l0 l1 l2 l3 : Option AV} {x y : Int32} : Rn (d) Q (218, 1299, [l0, l1, l2, l3], vI y :: vI x :: st, σ) = Rn (d) Q (218, 1300, [l0, l1, l2, l3], vI (x + y) :: st, σ) := E_iadd i218_1299
theorem i218_1300 : ins 218 1300 = some (.iaload, 1) := (congrArg (fun x : PTy => x.1.lookup 1300) q218).trans rfl
theorem e218_1300 {d : Nat} {Q : Option AV → St → Prop} {st : List AV} {σ : St} {l0 l1 l2 l3 : Option AV} {i : Nat} {j : Int32} : Rn (d) Q (218, 1300, [l0, l1, l2, l3], vI j :: vR (some (13, 1, i)) :: st, σ) = (∃ n, gL σ 13 0 i = some n ∧ i < gN σ 13 ∧ (0 ≤ j.toInt ∧ j.toInt < n) ∧ Rn (d) Q (218, 1301, [l0, l1, l2, l3], vI (gA σ 13 0 i j.toNatClampNeg) :: st, σ)) := E_iaload1 i218_1300 rfl
theorem i218_1301 : ins 218 1301 = some (.aload_n 0, 1) := (congrArg (fun x : PTy => x.1.lookup 1301) q218).trans rfl
theorem e218_1301 {d : Nat} {Q : Option AV → St → Prop} {st : List AV} {σ : St} {l1 l2 l3 : Option AV} {x : Option (Nat × Nat × Nat)} : Rn (d) Q (218, 1301, [some (vR x), l1, l2, l3], st, σ) = Rn (d) Q (218, 1302, [some (vR x), l1, l2, l3], vR x :: st, σ) := E_aload_n i218_1301 rfl
theorem i218_1302 : ins 218 1302 = some (.iload_n 3, 1) := (congrArg (fun x : PTy => x.1.lookup 1302) q218).trans rfl
theorem e218_1302 {d : Nat} {Q : Option AV → St → Prop} {st : List AV} {σ : St} {l0 l1 l2 : Option AV} {x : Int32} : Rn (d) Q (218, 1302, [l0, l1, l2, some (vI x)], st, σ) = Rn (d) Q (218, 1303, [l0, l1, l2, some (vI x)], vI x :: st, σ) := E_iload_n i218_1302 rfl
theorem i218_1303 : ins 218 1303 = some (.iconst 3, 1) := (congrArg (fun x : PTy => x.1.lookup 1303) q218).trans rfl
theorem e218_1303 {d : Nat} {Q : Option AV → St → Prop} {st : List AV} {σ : St} {l0 l1 l2 l3 : Option AV} : Rn (d) Q (218, 1303, [l0, l1, l2, l3], st, σ) = Rn (d) Q (218, 1304, [l0, l1, l2, l3], vI 3 :: st, σ) := by rw [E_iconst i218_1303, ci_3]
theorem i218_1304 : ins 218 1304 = some (.iadd, 1) := (congrArg (fun x : PTy => x.1.lookup 1304) q218).trans rfl
theorem e218_1304 {d : Nat} {Q : Option AV → St → Prop} {st : List AV} {σ : St} {l0 l1 l2 l3 : Option AV} {x y : Int32} : Rn (d) Q (218, 1304, [l0, l1, l2, l3], vI y :: vI x :: st, σ) = Rn (d) Q (218, 1305, [l0, l1, l2, l3], vI (x + y) :: st, σ) := E_iadd i218_1304
theorem i218_1305 : ins 218 1305 = some (.iaload, 1) := (congrArg (fun x : PTy => x.1.lookup 1305) q218).trans rfl
theorem e218_1305 {d : Nat} {Q : Option AV → St → Prop} {st : List AV} {σ : St} {l0 l1 l2 l3 : Option AV} {i : Nat} {j : Int32} : Rn (d) Q (218, 1305, [l0, l1, l2, l3], vI j :: vR (some (13, 1, i)) :: st, σ) = (∃ n, gL σ 13 0 i = some n ∧ i < gN σ 13 ∧ (0 ≤ j.toInt ∧ j.toInt < n) ∧ Rn (d) Q (218, 1306, [l0, l1, l2, l3], vI (gA σ 13 0 i j.toNatClampNeg) :: st, σ)) := E_iaload1 i218_1305 rfl
theorem i218_1306 : ins 218 1306 = some (.invokevirtual 133, 3) := (congrArg (fun x : PTy => x.1.lookup 1306) q218).trans rfl
theorem e218_1306 {d : Nat} {Q : Option AV → St → Prop} {st : List AV} {σ : St} {l0 l1 l2 l3 : Option AV} {i : Nat} {a1 : Int32} {a2 : Int32} {a3 : Int32} : Rn (d + 1) Q (218, 1306, [l0, l1, l2, l3], vI a3 :: vI a2 :: vI a1 :: vR (some (11, 0, i)) :: st, σ) = (i < gN σ 11 ∧ catS st ≤ 8 ∧ Rn d (fun r σ' => Rn (d + 1) Q (218, 1309, [l0, l1, l2, l3], r.toList ++ st, σ')) (94, 0, [some (vR (some (11, 0, i))), some (vI a1), some (vI a2), some (vI a3), none], [], σ)) := E_invV (a := [vI a3, vI a2, vI a1]) i218_1306 ((congrArg (fun z => mthQ z 133) o218).trans m13_133) o94 rfl (ek94 i a1 a2 a3) (en94 i a1 a2 a3)
theorem i218_1309 : ins 218 1309 = some (.aload_n 2, 1) := (congrArg (fun x : PTy => x.1.lookup 1309) q218).trans rfl
theorem e218_1309 {d : Nat} {Q : Option AV → St → Prop} {st : List AV} {σ : St} {l0 l1 l3 : Option AV} {x : Option (Nat × Nat × Nat)} : Rn (d) Q (218, 1309, [l0, l1, some (vR x), l3], st, σ) = Rn (d) Q (218, 1310, [l0, l1, some (vR x), l3], vR x :: st, σ) := E_aload_n i218_1309 rfl
theorem i218_1310 : ins 218 1310 = some (.aload_n 0, 1) := (congrArg (fun x : PTy => x.1.lookup 1310) q218).trans rfl
theorem e218_1310 {d : Nat} {Q : Option AV → St → Prop} {st : List AV} {σ : St} {l1 l2 l3 : Option AV} {x : Option (Nat × Nat × Nat)} : Rn (d) Q (218, 1310, [some (vR x), l1, l2, l3], st, σ) = Rn (d) Q (218, 1311, [some (vR x), l1, l2, l3], vR x :: st, σ) := E_aload_n i218_1310 rfl
theorem i218_1311 : ins 218 1311 = some (.iload_n 3, 1) := (congrArg (fun x : PTy => x.1.lookup 1311) q218).trans rfl
theorem e218_1311 {d : Nat} {Q : Option AV → St → Prop} {st : List AV} {σ : St} {l0 l1 l2 : Option AV} {x : Int32} : Rn (d) Q (218, 1311, [l0, l1, l2, some (vI x)], st, σ) = Rn (d) Q (218, 1312, [l0, l1, l2, some (vI x)], vI x :: st, σ) := E_iload_n i218_1311 rfl
theorem i218_1312 : ins 218 1312 = some (.iconst 1, 1) := (congrArg (fun x : PTy => x.1.lookup 1312) q218).trans rfl
theorem e218_1312 {d : Nat} {Q : Option AV → St → Prop} {st : List AV} {σ : St} {l0 l1 l2 l3 : Option AV} : Rn (d) Q (218, 1312, [l0, l1, l2, l3], st, σ) = Rn (d) Q (218, 1313, [l0, l1, l2, l3], vI 1 :: st, σ) := by rw [E_iconst i218_1312, ci_1]
theorem i218_1313 : ins 218 1313 = some (.iadd, 1) := (congrArg (fun x : PTy => x.1.lookup 1313) q218).trans rfl
theorem e218_1313 {d : Nat} {Q : Option AV → St → Prop} {st : List AV} {σ : St} {l0 l1 l2 l3 : Option AV} {x y : Int32} : Rn (d) Q (218, 1313, [l0, l1, l2, l3], vI y :: vI x :: st, σ) = Rn (d) Q (218, 1314, [l0, l1, l2, l3], vI (x + y) :: st, σ) := E_iadd i218_1313
theorem i218_1314 : ins 218 1314 = some (.iaload, 1) := (congrArg (fun x : PTy => x.1.lookup 1314) q218).trans rfl
theorem e218_1314 {d : Nat} {Q : Option AV → St → Prop} {st : List AV} {σ : St} {l0 l1 l2 l3 : Option AV} {i : Nat} {j : Int32} : Rn (d) Q (218, 1314, [l0, l1, l2, l3], vI j :: vR (some (13, 1, i)) :: st, σ) = (∃ n, gL σ 13 0 i = some n ∧ i < gN σ 13 ∧ (0 ≤ j.toInt ∧ j.toInt < n) ∧ Rn (d) Q (218, 1315, [l0, l1, l2, l3], vI (gA σ 13 0 i j.toNatClampNeg) :: st, σ)) := E_iaload1 i218_1314 rfl
theorem i218_1315 : ins 218 1315 = some (.aload_n 0, 1) := (congrArg (fun x : PTy => x.1.lookup 1315) q218).trans rfl
theorem e218_1315 {d : Nat} {Q : Option AV → St → Prop} {st : List AV} {σ : St} {l1 l2 l3 : Option AV} {x : Option (Nat × Nat × Nat)} : Rn (d) Q (218, 1315, [some (vR x), l1, l2, l3], st, σ) = Rn (d) Q (218, 1316, [some (vR x), l1, l2, l3], vR x :: st, σ) := E_aload_n i218_1315 rfl
theorem i218_1316 : ins 218 1316 = some (.iload_n 3, 1) := (congrArg (fun x : PTy => x.1.lookup 1316) q218).trans rfl
theorem e218_1316 {d : Nat} {Q : Option AV → St → Prop} {st : List AV} {σ : St} {l0 l1 l2 : Option AV} {x : Int32} : Rn (d) Q (218, 1316, [l0, l1, l2, some (vI x)], st, σ) = Rn (d) Q (218, 1317, [l0, l1, l2, some (vI x)], vI x :: st, σ) := E_iload_n i218_1316 rfl
theorem i218_1317 : ins 218 1317 = some (.iconst 2, 1) := (congrArg (fun x : PTy => x.1.lookup 1317) q218).trans rfl
theorem e218_1317 {d : Nat} {Q : Option AV → St → Prop} {st : List AV} {σ : St} {l0 l1 l2 l3 : Option AV} : Rn (d) Q (218, 1317, [l0, l1, l2, l3], st, σ) = Rn (d) Q (218, 1318, [l0, l1, l2, l3], vI 2 :: st, σ) := by rw [E_iconst i218_1317, ci_2]
theorem i218_1318 : ins 218 1318 = some (.iadd, 1) := (congrArg (fun x : PTy => x.1.lookup 1318) q218).trans rfl
theorem e218_1318 {d : Nat} {Q : Option AV → St → Prop} {st : List AV} {σ : St} {l0 l1 l2 l3 : Option AV} {x y : Int32} : Rn (d) Q (218, 1318, [l0, l1, l2, l3], vI y :: vI x :: st, σ) = Rn (d) Q (218, 1319, [l0, l1, l2, l3], vI (x + y) :: st, σ) := E_iadd i218_1318
theorem i218_1319 : ins 218 1319 = some (.iaload, 1) := (congrArg (fun x : PTy => x.1.lookup 1319) q218).trans rfl
theorem e218_1319 {d : Nat} {Q : Option AV → St → Prop} {st : List AV} {σ : St} {l0 l1 l2 l3 : Option AV} {i : Nat} {j : Int32} : Rn (d) Q (218, 1319, [l0, l1, l2, l3], vI j :: vR (some (13, 1, i)) :: st, σ) = (∃ n, gL σ 13 0 i = some n ∧ i < gN σ 13 ∧ (0 ≤ j.toInt ∧ j.toInt < n) ∧ Rn (d) Q (218, 1320, [l0, l1, l2, l3], vI (gA σ 13 0 i j.toNatClampNeg) :: st, σ)) := E_iaload1 i218_1319 rfl
theorem i218_1320 : ins 218 1320 = some (.aload_n 0, 1) := (congrArg (fun x : PTy => x.1.lookup 1320) q218).trans rfl
theorem e218_1320 {d : Nat} {Q : Option AV → St → Prop} {st : List AV} {σ : St} {l1 l2 l3 : Option AV} {x : Option (Nat × Nat × Nat)} : Rn (d) Q (218, 1320, [some (vR x), l1, l2, l3], st, σ) = Rn (d) Q (218, 1321, [some (vR x), l1, l2, l3], vR x :: st, σ) := E_aload_n i218_1320 rfl
theorem i218_1321 : ins 218 1321 = some (.iload_n 3, 1) := (congrArg (fun x : PTy => x.1.lookup 1321) q218).trans rfl
theorem e218_1321 {d : Nat} {Q : Option AV → St → Prop} {st : List AV} {σ : St} {l0 l1 l2 : Option AV} {x : Int32} : Rn (d) Q (218, 1321, [l0, l1, l2, some (vI x)], st, σ) = Rn (d) Q (218, 1322, [l0, l1, l2, some (vI x)], vI x :: st, σ) := E_iload_n i218_1321 rfl
theorem i218_1322 : ins 218 1322 = some (.iconst 3, 1) := (congrArg (fun x : PTy => x.1.lookup 1322) q218).trans rfl
theorem e218_1322 {d : Nat} {Q : Option AV → St → Prop} {st : List AV} {σ : St} {l0 l1 l2 l3 : Option AV} : Rn (d) Q (218, 1322, [l0, l1, l2, l3], st, σ) = Rn (d) Q (218, 1323, [l0, l1, l2, l3], vI 3 :: st, σ) := by rw [E_iconst i218_1322, ci_3]
theorem i218_1323 : ins 218 1323 = some (.iadd, 1) := (congrArg (fun x : PTy => x.1.lookup 1323) q218).trans rfl
theorem e218_1323 {d : Nat} {Q : Option AV → St → Prop} {st : List AV} {σ : St} {l0 l1 l2 l3 : Option AV} {x y : Int32} : Rn (d) Q (218, 1323, [l0, l1, l2, l3], vI y :: vI x :: st, σ) = Rn (d) Q (218, 1324, [l0, l1, l2, l3], vI (x + y) :: st, σ) := E_iadd i218_1323
theorem i218_1324 : ins 218 1324 = some (.iaload, 1) := (congrArg (fun x : PTy => x.1.lookup 1324) q218).trans rfl
theorem e218_1324 {d : Nat} {Q : Option AV → St → Prop} {st : List AV} {σ : St} {l0 l1 l2 l3 : Option AV} {i : Nat} {j : Int32} : Rn (d) Q (218, 1324, [l0, l1, l2, l3], vI j :: vR (some (13, 1, i)) :: st, σ) = (∃ n, gL σ 13 0 i = some n ∧ i < gN σ 13 ∧ (0 ≤ j.toInt ∧ j.toInt < n) ∧ Rn (d) Q (218, 1325, [l0, l1, l2, l3], vI (gA σ 13 0 i j.toNatClampNeg) :: st, σ)) := E_iaload1 i218_1324 rfl
theorem i218_1325 : ins 218 1325 = some (.invokevirtual 136, 3) := (congrArg (fun x : PTy => x.1.lookup 1325) q218).trans rfl
theorem e218_1325 {d : Nat} {Q : Option AV → St → Prop} {st : List AV} {σ : St} {l0 l1 l2 l3 : Option AV} {i : Nat} {a1 : Int32} {a2 : Int32} {a3 : Int32} : Rn (d + 1) Q (218, 1325, [l0, l1, l2, l3], vI a3 :: vI a2 :: vI a1 :: vR (some (12, 0, i)) :: st, σ) = (i < gN σ 12 ∧ catS st ≤ 8 ∧ Rn d (fun r σ' => Rn (d + 1) Q (218, 1328, [l0, l1, l2, l3], r.toList ++ st, σ')) (197, 0, [some (vR (some (12, 0, i))), some (vI a1), some (vI a2), some (vI a3), none], [], σ)) := E_invV (a := [vI a3, vI a2, vI a1]) i218_1325 ((congrArg (fun z => mthQ z 136) o218).trans m13_136) o197 rfl (ek197 i a1 a2 a3) (en197 i a1 a2 a3)
theorem i218_1328 : ins 218 1328 = some (.if_icmp .eq 484, 3) := (congrArg (fun x : PTy => x.1.lookup 1328) q218).trans rfl
theorem e218_1328 {d : Nat} {Q : Option AV → St → Prop} {st : List AV} {σ : St} {l0 l1 l2 l3 : Option AV} {x y : Int32} : Rn (d) Q (218, 1328, [l0, l1, l2, l3], vI y :: vI x :: st, σ) = (if x = y then Rn (d) Q (218, 1812, [l0, l1, l2, l3], st, σ) else Rn (d) Q (218, 1331, [l0, l1, l2, l3], st, σ)) := E_icmp_eq 1812 i218_1328 (by decide)
theorem i218_1331 : ins 218 1331 = some (.iconst 0, 1) := (congrArg (fun x : PTy => x.1.lookup 1331) q218).trans rfl
theorem e218_1331 {d : Nat} {Q : Option AV → St → Prop} {st : List AV} {σ : St} {l0 l1 l2 l3 : Option AV} : Rn (d) Q (218, 1331, [l0, l1, l2, l3], st, σ) = Rn (d) Q (218, 1332, [l0, l1, l2, l3], vI 0 :: st, σ) := by rw [E_iconst i218_1331, ci_0]
theorem i218_1332 : ins 218 1332 = some (.ireturn, 1) := (congrArg (fun x : PTy => x.1.lookup 1332) q218).trans rfl
theorem e218_1332 {d : Nat} {Q : Option AV → St → Prop} {st : List AV} {σ : St} {l0 l1 l2 l3 : Option AV} {x : Int32} : Rn (d) Q (218, 1332, [l0, l1, l2, l3], [vI x], σ) = ((x = 0 ∨ x = 1) ∧ Q (some (vI x)) σ) := E_iretZ (st := []) i218_1332 r218
theorem i218_1333 : ins 218 1333 = some (.aload_n 1, 1) := (congrArg (fun x : PTy => x.1.lookup 1333) q218).trans rfl
theorem e218_1333 {d : Nat} {Q : Option AV → St → Prop} {st : List AV} {σ : St} {l0 l2 l3 : Option AV} {x : Option (Nat × Nat × Nat)} : Rn (d) Q (218, 1333, [l0, some (vR x), l2, l3], st, σ) = Rn (d) Q (218, 1334, [l0, some (vR x), l2, l3], vR x :: st, σ) := E_aload_n i218_1333 rfl
theorem i218_1334 : ins 218 1334 = some (.aload_n 0, 1) := (congrArg (fun x : PTy => x.1.lookup 1334) q218).trans rfl
theorem e218_1334 {d : Nat} {Q : Option AV → St → Prop} {st : List AV} {σ : St} {l1 l2 l3 : Option AV} {x : Option (Nat × Nat × Nat)} : Rn (d) Q (218, 1334, [some (vR x), l1, l2, l3], st, σ) = Rn (d) Q (218, 1335, [some (vR x), l1, l2, l3], vR x :: st, σ) := E_aload_n i218_1334 rfl
theorem i218_1335 : ins 218 1335 = some (.iload_n 3, 1) := (congrArg (fun x : PTy => x.1.lookup 1335) q218).trans rfl
theorem e218_1335 {d : Nat} {Q : Option AV → St → Prop} {st : List AV} {σ : St} {l0 l1 l2 : Option AV} {x : Int32} : Rn (d) Q (218, 1335, [l0, l1, l2, some (vI x)], st, σ) = Rn (d) Q (218, 1336, [l0, l1, l2, some (vI x)], vI x :: st, σ) := E_iload_n i218_1335 rfl
theorem i218_1336 : ins 218 1336 = some (.iconst 1, 1) := (congrArg (fun x : PTy => x.1.lookup 1336) q218).trans rfl
theorem e218_1336 {d : Nat} {Q : Option AV → St → Prop} {st : List AV} {σ : St} {l0 l1 l2 l3 : Option AV} : Rn (d) Q (218, 1336, [l0, l1, l2, l3], st, σ) = Rn (d) Q (218, 1337, [l0, l1, l2, l3], vI 1 :: st, σ) := by rw [E_iconst i218_1336, ci_1]
theorem i218_1337 : ins 218 1337 = some (.iadd, 1) := (congrArg (fun x : PTy => x.1.lookup 1337) q218).trans rfl
theorem e218_1337 {d : Nat} {Q : Option AV → St → Prop} {st : List AV} {σ : St} {l0 l1 l2 l3 : Option AV} {x y : Int32} : Rn (d) Q (218, 1337, [l0, l1, l2, l3], vI y :: vI x :: st, σ) = Rn (d) Q (218, 1338, [l0, l1, l2, l3], vI (x + y) :: st, σ) := E_iadd i218_1337
theorem i218_1338 : ins 218 1338 = some (.iaload, 1) := (congrArg (fun x : PTy => x.1.lookup 1338) q218).trans rfl
theorem e218_1338 {d : Nat} {Q : Option AV → St → Prop} {st : List AV} {σ : St} {l0 l1 l2 l3 : Option AV} {i : Nat} {j : Int32} : Rn (d) Q (218, 1338, [l0, l1, l2, l3], vI j :: vR (some (13, 1, i)) :: st, σ) = (∃ n, gL σ 13 0 i = some n ∧ i < gN σ 13 ∧ (0 ≤ j.toInt ∧ j.toInt < n) ∧ Rn (d) Q (218, 1339, [l0, l1, l2, l3], vI (gA σ 13 0 i j.toNatClampNeg) :: st, σ)) := E_iaload1 i218_1338 rfl
theorem i218_1339 : ins 218 1339 = some (.aload_n 0, 1) := (congrArg (fun x : PTy => x.1.lookup 1339) q218).trans rfl
theorem e218_1339 {d : Nat} {Q : Option AV → St → Prop} {st : List AV} {σ : St} {l1 l2 l3 : Option AV} {x : Option (Nat × Nat × Nat)} : Rn (d) Q (218, 1339, [some (vR x), l1, l2, l3], st, σ) = Rn (d) Q (218, 1340, [some (vR x), l1, l2, l3], vR x :: st, σ) := E_aload_n i218_1339 rfl
theorem i218_1340 : ins 218 1340 = some (.iload_n 3, 1) := (congrArg (fun x : PTy => x.1.lookup 1340) q218).trans rfl
theorem e218_1340 {d : Nat} {Q : Option AV → St → Prop} {st : List AV} {σ : St} {l0 l1 l2 : Option AV} {x : Int32} : Rn (d) Q (218, 1340, [l0, l1, l2, some (vI x)], st, σ) = Rn (d) Q (218, 1341, [l0, l1, l2, some (vI x)], vI x :: st, σ) := E_iload_n i218_1340 rfl
theorem i218_1341 : ins 218 1341 = some (.iconst 2, 1) := (congrArg (fun x : PTy => x.1.lookup 1341) q218).trans rfl
theorem e218_1341 {d : Nat} {Q : Option AV → St → Prop} {st : List AV} {σ : St} {l0 l1 l2 l3 : Option AV} : Rn (d) Q (218, 1341, [l0, l1, l2, l3], st, σ) = Rn (d) Q (218, 1342, [l0, l1, l2, l3], vI 2 :: st, σ) := by rw [E_iconst i218_1341, ci_2]
theorem i218_1342 : ins 218 1342 = some (.iadd, 1) := (congrArg (fun x : PTy => x.1.lookup 1342) q218).trans rfl
theorem e218_1342 {d : Nat} {Q : Option AV → St → Prop} {st : List AV} {σ : St} {l0 l1 l2 l3 : Option AV} {x y : Int32} : Rn (d) Q (218, 1342, [l0, l1, l2, l3], vI y :: vI x :: st, σ) = Rn (d) Q (218, 1343, [l0, l1, l2, l3], vI (x + y) :: st, σ) := E_iadd i218_1342
theorem i218_1343 : ins 218 1343 = some (.iaload, 1) := (congrArg (fun x : PTy => x.1.lookup 1343) q218).trans rfl
theorem e218_1343 {d : Nat} {Q : Option AV → St → Prop} {st : List AV} {σ : St} {l0 l1 l2 l3 : Option AV} {i : Nat} {j : Int32} : Rn (d) Q (218, 1343, [l0, l1, l2, l3], vI j :: vR (some (13, 1, i)) :: st, σ) = (∃ n, gL σ 13 0 i = some n ∧ i < gN σ 13 ∧ (0 ≤ j.toInt ∧ j.toInt < n) ∧ Rn (d) Q (218, 1344, [l0, l1, l2, l3], vI (gA σ 13 0 i j.toNatClampNeg) :: st, σ)) := E_iaload1 i218_1343 rfl
theorem i218_1344 : ins 218 1344 = some (.aload_n 0, 1) := (congrArg (fun x : PTy => x.1.lookup 1344) q218).trans rfl
theorem e218_1344 {d : Nat} {Q : Option AV → St → Prop} {st : List AV} {σ : St} {l1 l2 l3 : Option AV} {x : Option (Nat × Nat × Nat)} : Rn (d) Q (218, 1344, [some (vR x), l1, l2, l3], st, σ) = Rn (d) Q (218, 1345, [some (vR x), l1, l2, l3], vR x :: st, σ) := E_aload_n i218_1344 rfl
theorem i218_1345 : ins 218 1345 = some (.iload_n 3, 1) := (congrArg (fun x : PTy => x.1.lookup 1345) q218).trans rfl
theorem e218_1345 {d : Nat} {Q : Option AV → St → Prop} {st : List AV} {σ : St} {l0 l1 l2 : Option AV} {x : Int32} : Rn (d) Q (218, 1345, [l0, l1, l2, some (vI x)], st, σ) = Rn (d) Q (218, 1346, [l0, l1, l2, some (vI x)], vI x :: st, σ) := E_iload_n i218_1345 rfl
theorem i218_1346 : ins 218 1346 = some (.iconst 3, 1) := (congrArg (fun x : PTy => x.1.lookup 1346) q218).trans rfl
theorem e218_1346 {d : Nat} {Q : Option AV → St → Prop} {st : List AV} {σ : St} {l0 l1 l2 l3 : Option AV} : Rn (d) Q (218, 1346, [l0, l1, l2, l3], st, σ) = Rn (d) Q (218, 1347, [l0, l1, l2, l3], vI 3 :: st, σ) := by rw [E_iconst i218_1346, ci_3]
theorem i218_1347 : ins 218 1347 = some (.iadd, 1) := (congrArg (fun x : PTy => x.1.lookup 1347) q218).trans rfl
theorem e218_1347 {d : Nat} {Q : Option AV → St → Prop} {st : List AV} {σ : St} {l0 l1 l2 l3 : Option AV} {x y : Int32} : Rn (d) Q (218, 1347, [l0, l1, l2, l3], vI y :: vI x :: st, σ) = Rn (d) Q (218, 1348, [l0, l1, l2, l3], vI (x + y) :: st, σ) := E_iadd i218_1347
theorem i218_1348 : ins 218 1348 = some (.iaload, 1) := (congrArg (fun x : PTy => x.1.lookup 1348) q218).trans rfl
theorem e218_1348 {d : Nat} {Q : Option AV → St → Prop} {st : List AV} {σ : St} {l0 l1 l2 l3 : Option AV} {i : Nat} {j : Int32} : Rn (d) Q (218, 1348, [l0, l1, l2, l3], vI j :: vR (some (13, 1, i)) :: st, σ) = (∃ n, gL σ 13 0 i = some n ∧ i < gN σ 13 ∧ (0 ≤ j.toInt ∧ j.toInt < n) ∧ Rn (d) Q (218, 1349, [l0, l1, l2, l3], vI (gA σ 13 0 i j.toNatClampNeg) :: st, σ)) := E_iaload1 i218_1348 rfl
theorem i218_1349 : ins 218 1349 = some (.invokevirtual 137, 3) := (congrArg (fun x : PTy => x.1.lookup 1349) q218).trans rfl
theorem e218_1349 {d : Nat} {Q : Option AV → St → Prop} {st : List AV} {σ : St} {l0 l1 l2 l3 : Option AV} {i : Nat} {a1 : Int32} {a2 : Int32} {a3 : Int32} : Rn (d + 1) Q (218, 1349, [l0, l1, l2, l3], vI a3 :: vI a2 :: vI a1 :: vR (some (11, 0, i)) :: st, σ) = (i < gN σ 11 ∧ catS st ≤ 8 ∧ Rn d (fun r σ' => Rn (d + 1) Q (218, 1352, [l0, l1, l2, l3], r.toList ++ st, σ')) (95, 0, [some (vR (some (11, 0, i))), some (vI a1), some (vI a2), some (vI a3), none, none], [], σ)) := E_invV (a := [vI a3, vI a2, vI a1]) i218_1349 ((congrArg (fun z => mthQ z 137) o218).trans m13_137) o95 rfl (ek95 i a1 a2 a3) (en95 i a1 a2 a3)
theorem i218_1352 : ins 218 1352 = some (.aload_n 2, 1) := (congrArg (fun x : PTy => x.1.lookup 1352) q218).trans rfl
theorem e218_1352 {d : Nat} {Q : Option AV → St → Prop} {st : List AV} {σ : St} {l0 l1 l3 : Option AV} {x : Option (Nat × Nat × Nat)} : Rn (d) Q (218, 1352, [l0, l1, some (vR x), l3], st, σ) = Rn (d) Q (218, 1353, [l0, l1, some (vR x), l3], vR x :: st, σ) := E_aload_n i218_1352 rfl
theorem i218_1353 : ins 218 1353 = some (.aload_n 0, 1) := (congrArg (fun x : PTy => x.1.lookup 1353) q218).trans rfl
theorem e218_1353 {d : Nat} {Q : Option AV → St → Prop} {st : List AV} {σ : St} {l1 l2 l3 : Option AV} {x : Option (Nat × Nat × Nat)} : Rn (d) Q (218, 1353, [some (vR x), l1, l2, l3], st, σ) = Rn (d) Q (218, 1354, [some (vR x), l1, l2, l3], vR x :: st, σ) := E_aload_n i218_1353 rfl
theorem i218_1354 : ins 218 1354 = some (.iload_n 3, 1) := (congrArg (fun x : PTy => x.1.lookup 1354) q218).trans rfl
theorem e218_1354 {d : Nat} {Q : Option AV → St → Prop} {st : List AV} {σ : St} {l0 l1 l2 : Option AV} {x : Int32} : Rn (d) Q (218, 1354, [l0, l1, l2, some (vI x)], st, σ) = Rn (d) Q (218, 1355, [l0, l1, l2, some (vI x)], vI x :: st, σ) := E_iload_n i218_1354 rfl
theorem i218_1355 : ins 218 1355 = some (.iconst 1, 1) := (congrArg (fun x : PTy => x.1.lookup 1355) q218).trans rfl
theorem e218_1355 {d : Nat} {Q : Option AV → St → Prop} {st : List AV} {σ : St} {l0 l1 l2 l3 : Option AV} : Rn (d) Q (218, 1355, [l0, l1, l2, l3], st, σ) = Rn (d) Q (218, 1356, [l0, l1, l2, l3], vI 1 :: st, σ) := by rw [E_iconst i218_1355, ci_1]
theorem i218_1356 : ins 218 1356 = some (.iadd, 1) := (congrArg (fun x : PTy => x.1.lookup 1356) q218).trans rfl
theorem e218_1356 {d : Nat} {Q : Option AV → St → Prop} {st : List AV} {σ : St} {l0 l1 l2 l3 : Option AV} {x y : Int32} : Rn (d) Q (218, 1356, [l0, l1, l2, l3], vI y :: vI x :: st, σ) = Rn (d) Q (218, 1357, [l0, l1, l2, l3], vI (x + y) :: st, σ) := E_iadd i218_1356
theorem i218_1357 : ins 218 1357 = some (.iaload, 1) := (congrArg (fun x : PTy => x.1.lookup 1357) q218).trans rfl
theorem e218_1357 {d : Nat} {Q : Option AV → St → Prop} {st : List AV} {σ : St} {l0 l1 l2 l3 : Option AV} {i : Nat} {j : Int32} : Rn (d) Q (218, 1357, [l0, l1, l2, l3], vI j :: vR (some (13, 1, i)) :: st, σ) = (∃ n, gL σ 13 0 i = some n ∧ i < gN σ 13 ∧ (0 ≤ j.toInt ∧ j.toInt < n) ∧ Rn (d) Q (218, 1358, [l0, l1, l2, l3], vI (gA σ 13 0 i j.toNatClampNeg) :: st, σ)) := E_iaload1 i218_1357 rfl
theorem i218_1358 : ins 218 1358 = some (.aload_n 0, 1) := (congrArg (fun x : PTy => x.1.lookup 1358) q218).trans rfl
theorem e218_1358 {d : Nat} {Q : Option AV → St → Prop} {st : List AV} {σ : St} {l1 l2 l3 : Option AV} {x : Option (Nat × Nat × Nat)} : Rn (d) Q (218, 1358, [some (vR x), l1, l2, l3], st, σ) = Rn (d) Q (218, 1359, [some (vR x), l1, l2, l3], vR x :: st, σ) := E_aload_n i218_1358 rfl
theorem i218_1359 : ins 218 1359 = some (.iload_n 3, 1) := (congrArg (fun x : PTy => x.1.lookup 1359) q218).trans rfl
theorem e218_1359 {d : Nat} {Q : Option AV → St → Prop} {st : List AV} {σ : St} {l0 l1 l2 : Option AV} {x : Int32} : Rn (d) Q (218, 1359, [l0, l1, l2, some (vI x)], st, σ) = Rn (d) Q (218, 1360, [l0, l1, l2, some (vI x)], vI x :: st, σ) := E_iload_n i218_1359 rfl
theorem i218_1360 : ins 218 1360 = some (.iconst 2, 1) := (congrArg (fun x : PTy => x.1.lookup 1360) q218).trans rfl
theorem e218_1360 {d : Nat} {Q : Option AV → St → Prop} {st : List AV} {σ : St} {l0 l1 l2 l3 : Option AV} : Rn (d) Q (218, 1360, [l0, l1, l2, l3], st, σ) = Rn (d) Q (218, 1361, [l0, l1, l2, l3], vI 2 :: st, σ) := by rw [E_iconst i218_1360, ci_2]
theorem i218_1361 : ins 218 1361 = some (.iadd, 1) := (congrArg (fun x : PTy => x.1.lookup 1361) q218).trans rfl
theorem e218_1361 {d : Nat} {Q : Option AV → St → Prop} {st : List AV} {σ : St} {l0 l1 l2 l3 : Option AV} {x y : Int32} : Rn (d) Q (218, 1361, [l0, l1, l2, l3], vI y :: vI x :: st, σ) = Rn (d) Q (218, 1362, [l0, l1, l2, l3], vI (x + y) :: st, σ) := E_iadd i218_1361
theorem i218_1362 : ins 218 1362 = some (.iaload, 1) := (congrArg (fun x : PTy => x.1.lookup 1362) q218).trans rfl
theorem e218_1362 {d : Nat} {Q : Option AV → St → Prop} {st : List AV} {σ : St} {l0 l1 l2 l3 : Option AV} {i : Nat} {j : Int32} : Rn (d) Q (218, 1362, [l0, l1, l2, l3], vI j :: vR (some (13, 1, i)) :: st, σ) = (∃ n, gL σ 13 0 i = some n ∧ i < gN σ 13 ∧ (0 ≤ j.toInt ∧ j.toInt < n) ∧ Rn (d) Q (218, 1363, [l0, l1, l2, l3], vI (gA σ 13 0 i j.toNatClampNeg) :: st, σ)) := E_iaload1 i218_1362 rfl
theorem i218_1363 : ins 218 1363 = some (.aload_n 0, 1) := (congrArg (fun x : PTy => x.1.lookup 1363) q218).trans rfl
theorem e218_1363 {d : Nat} {Q : Option AV → St → Prop} {st : List AV} {σ : St} {l1 l2 l3 : Option AV} {x : Option (Nat × Nat × Nat)} : Rn (d) Q (218, 1363, [some (vR x), l1, l2, l3], st, σ) = Rn (d) Q (218, 1364, [some (vR x), l1, l2, l3], vR x :: st, σ) := E_aload_n i218_1363 rfl
theorem i218_1364 : ins 218 1364 = some (.iload_n 3, 1) := (congrArg (fun x : PTy => x.1.lookup 1364) q218).trans rfl
theorem e218_1364 {d : Nat} {Q : Option AV → St → Prop} {st : List AV} {σ : St} {l0 l1 l2 : Option AV} {x : Int32} : Rn (d) Q (218, 1364, [l0, l1, l2, some (vI x)], st, σ) = Rn (d) Q (218, 1365, [l0, l1, l2, some (vI x)], vI x :: st, σ) := E_iload_n i218_1364 rfl
theorem i218_1365 : ins 218 1365 = some (.iconst 3, 1) := (congrArg (fun x : PTy => x.1.lookup 1365) q218).trans rfl
theorem e218_1365 {d : Nat} {Q : Option AV → St → Prop} {st : List AV} {σ : St} {l0 l1 l2 l3 : Option AV} : Rn (d) Q (218, 1365, [l0, l1, l2, l3], st, σ) = Rn (d) Q (218, 1366, [l0, l1, l2, l3], vI 3 :: st, σ) := by rw [E_iconst i218_1365, ci_3]
theorem i218_1366 : ins 218 1366 = some (.iadd, 1) := (congrArg (fun x : PTy => x.1.lookup 1366) q218).trans rfl
theorem e218_1366 {d : Nat} {Q : Option AV → St → Prop} {st : List AV} {σ : St} {l0 l1 l2 l3 : Option AV} {x y : Int32} : Rn (d) Q (218, 1366, [l0, l1, l2, l3], vI y :: vI x :: st, σ) = Rn (d) Q (218, 1367, [l0, l1, l2, l3], vI (x + y) :: st, σ) := E_iadd i218_1366
theorem i218_1367 : ins 218 1367 = some (.iaload, 1) := (congrArg (fun x : PTy => x.1.lookup 1367) q218).trans rfl
theorem e218_1367 {d : Nat} {Q : Option AV → St → Prop} {st : List AV} {σ : St} {l0 l1 l2 l3 : Option AV} {i : Nat} {j : Int32} : Rn (d) Q (218, 1367, [l0, l1, l2, l3], vI j :: vR (some (13, 1, i)) :: st, σ) = (∃ n, gL σ 13 0 i = some n ∧ i < gN σ 13 ∧ (0 ≤ j.toInt ∧ j.toInt < n) ∧ Rn (d) Q (218, 1368, [l0, l1, l2, l3], vI (gA σ 13 0 i j.toNatClampNeg) :: st, σ)) := E_iaload1 i218_1367 rfl
theorem i218_1368 : ins 218 1368 = some (.invokevirtual 140, 3) := (congrArg (fun x : PTy => x.1.lookup 1368) q218).trans rfl
theorem e218_1368 {d : Nat} {Q : Option AV → St → Prop} {st : List AV} {σ : St} {l0 l1 l2 l3 : Option AV} {i : Nat} {a1 : Int32} {a2 : Int32} {a3 : Int32} : Rn (d + 1) Q (218, 1368, [l0, l1, l2, l3], vI a3 :: vI a2 :: vI a1 :: vR (some (12, 0, i)) :: st, σ) = (i < gN σ 12 ∧ catS st ≤ 8 ∧ Rn d (fun r σ' => Rn (d + 1) Q (218, 1371, [l0, l1, l2, l3], r.toList ++ st, σ')) (198, 0, [some (vR (some (12, 0, i))), some (vI a1), some (vI a2), some (vI a3), none], [], σ)) := E_invV (a := [vI a3, vI a2, vI a1]) i218_1368 ((congrArg (fun z => mthQ z 140) o218).trans m13_140) o198 rfl (ek198 i a1 a2 a3) (en198 i a1 a2 a3)
theorem i218_1371 : ins 218 1371 = some (.if_icmp .eq 441, 3) := (congrArg (fun x : PTy => x.1.lookup 1371) q218).trans rfl
theorem e218_1371 {d : Nat} {Q : Option AV → St → Prop} {st : List AV} {σ : St} {l0 l1 l2 l3 : Option AV} {x y : Int32} : Rn (d) Q (218, 1371, [l0, l1, l2, l3], vI y :: vI x :: st, σ) = (if x = y then Rn (d) Q (218, 1812, [l0, l1, l2, l3], st, σ) else Rn (d) Q (218, 1374, [l0, l1, l2, l3], st, σ)) := E_icmp_eq 1812 i218_1371 (by decide)
theorem i218_1374 : ins 218 1374 = some (.iconst 0, 1) := (congrArg (fun x : PTy => x.1.lookup 1374) q218).trans rfl
theorem e218_1374 {d : Nat} {Q : Option AV → St → Prop} {st : List AV} {σ : St} {l0 l1 l2 l3 : Option AV} : Rn (d) Q (218, 1374, [l0, l1, l2, l3], st, σ) = Rn (d) Q (218, 1375, [l0, l1, l2, l3], vI 0 :: st, σ) := by rw [E_iconst i218_1374, ci_0]
theorem i218_1375 : ins 218 1375 = some (.ireturn, 1) := (congrArg (fun x : PTy => x.1.lookup 1375) q218).trans rfl
theorem e218_1375 {d : Nat} {Q : Option AV → St → Prop} {st : List AV} {σ : St} {l0 l1 l2 l3 : Option AV} {x : Int32} : Rn (d) Q (218, 1375, [l0, l1, l2, l3], [vI x], σ) = ((x = 0 ∨ x = 1) ∧ Q (some (vI x)) σ) := E_iretZ (st := []) i218_1375 r218
theorem i218_1376 : ins 218 1376 = some (.aload_n 1, 1) := (congrArg (fun x : PTy => x.1.lookup 1376) q218).trans rfl
theorem e218_1376 {d : Nat} {Q : Option AV → St → Prop} {st : List AV} {σ : St} {l0 l2 l3 : Option AV} {x : Option (Nat × Nat × Nat)} : Rn (d) Q (218, 1376, [l0, some (vR x), l2, l3], st, σ) = Rn (d) Q (218, 1377, [l0, some (vR x), l2, l3], vR x :: st, σ) := E_aload_n i218_1376 rfl
theorem i218_1377 : ins 218 1377 = some (.aload_n 0, 1) := (congrArg (fun x : PTy => x.1.lookup 1377) q218).trans rfl
theorem e218_1377 {d : Nat} {Q : Option AV → St → Prop} {st : List AV} {σ : St} {l1 l2 l3 : Option AV} {x : Option (Nat × Nat × Nat)} : Rn (d) Q (218, 1377, [some (vR x), l1, l2, l3], st, σ) = Rn (d) Q (218, 1378, [some (vR x), l1, l2, l3], vR x :: st, σ) := E_aload_n i218_1377 rfl
theorem i218_1378 : ins 218 1378 = some (.iload_n 3, 1) := (congrArg (fun x : PTy => x.1.lookup 1378) q218).trans rfl
theorem e218_1378 {d : Nat} {Q : Option AV → St → Prop} {st : List AV} {σ : St} {l0 l1 l2 : Option AV} {x : Int32} : Rn (d) Q (218, 1378, [l0, l1, l2, some (vI x)], st, σ) = Rn (d) Q (218, 1379, [l0, l1, l2, some (vI x)], vI x :: st, σ) := E_iload_n i218_1378 rfl
theorem i218_1379 : ins 218 1379 = some (.iconst 1, 1) := (congrArg (fun x : PTy => x.1.lookup 1379) q218).trans rfl
theorem e218_1379 {d : Nat} {Q : Option AV → St → Prop} {st : List AV} {σ : St} {l0 l1 l2 l3 : Option AV} : Rn (d) Q (218, 1379, [l0, l1, l2, l3], st, σ) = Rn (d) Q (218, 1380, [l0, l1, l2, l3], vI 1 :: st, σ) := by rw [E_iconst i218_1379, ci_1]
theorem i218_1380 : ins 218 1380 = some (.iadd, 1) := (congrArg (fun x : PTy => x.1.lookup 1380) q218).trans rfl
theorem e218_1380 {d : Nat} {Q : Option AV → St → Prop} {st : List AV} {σ : St} {l0 l1 l2 l3 : Option AV} {x y : Int32} : Rn (d) Q (218, 1380, [l0, l1, l2, l3], vI y :: vI x :: st, σ) = Rn (d) Q (218, 1381, [l0, l1, l2, l3], vI (x + y) :: st, σ) := E_iadd i218_1380
theorem i218_1381 : ins 218 1381 = some (.iaload, 1) := (congrArg (fun x : PTy => x.1.lookup 1381) q218).trans rfl
theorem e218_1381 {d : Nat} {Q : Option AV → St → Prop} {st : List AV} {σ : St} {l0 l1 l2 l3 : Option AV} {i : Nat} {j : Int32} : Rn (d) Q (218, 1381, [l0, l1, l2, l3], vI j :: vR (some (13, 1, i)) :: st, σ) = (∃ n, gL σ 13 0 i = some n ∧ i < gN σ 13 ∧ (0 ≤ j.toInt ∧ j.toInt < n) ∧ Rn (d) Q (218, 1382, [l0, l1, l2, l3], vI (gA σ 13 0 i j.toNatClampNeg) :: st, σ)) := E_iaload1 i218_1381 rfl
theorem i218_1382 : ins 218 1382 = some (.aload_n 0, 1) := (congrArg (fun x : PTy => x.1.lookup 1382) q218).trans rfl
theorem e218_1382 {d : Nat} {Q : Option AV → St → Prop} {st : List AV} {σ : St} {l1 l2 l3 : Option AV} {x : Option (Nat × Nat × Nat)} : Rn (d) Q (218, 1382, [some (vR x), l1, l2, l3], st, σ) = Rn (d) Q (218, 1383, [some (vR x), l1, l2, l3], vR x :: st, σ) := E_aload_n i218_1382 rfl
theorem i218_1383 : ins 218 1383 = some (.iload_n 3, 1) := (congrArg (fun x : PTy => x.1.lookup 1383) q218).trans rfl
theorem e218_1383 {d : Nat} {Q : Option AV → St → Prop} {st : List AV} {σ : St} {l0 l1 l2 : Option AV} {x : Int32} : Rn (d) Q (218, 1383, [l0, l1, l2, some (vI x)], st, σ) = Rn (d) Q (218, 1384, [l0, l1, l2, some (vI x)], vI x :: st, σ) := E_iload_n i218_1383 rfl
theorem i218_1384 : ins 218 1384 = some (.iconst 2, 1) := (congrArg (fun x : PTy => x.1.lookup 1384) q218).trans rfl
theorem e218_1384 {d : Nat} {Q : Option AV → St → Prop} {st : List AV} {σ : St} {l0 l1 l2 l3 : Option AV} : Rn (d) Q (218, 1384, [l0, l1, l2, l3], st, σ) = Rn (d) Q (218, 1385, [l0, l1, l2, l3], vI 2 :: st, σ) := by rw [E_iconst i218_1384, ci_2]
theorem i218_1385 : ins 218 1385 = some (.iadd, 1) := (congrArg (fun x : PTy => x.1.lookup 1385) q218).trans rfl
theorem e218_1385 {d : Nat} {Q : Option AV → St → Prop} {st : List AV} {σ : St} {l0 l1 l2 l3 : Option AV} {x y : Int32} : Rn (d) Q (218, 1385, [l0, l1, l2, l3], vI y :: vI x :: st, σ) = Rn (d) Q (218, 1386, [l0, l1, l2, l3], vI (x + y) :: st, σ) := E_iadd i218_1385
theorem i218_1386 : ins 218 1386 = some (.iaload, 1) := (congrArg (fun x : PTy => x.1.lookup 1386) q218).trans rfl
theorem e218_1386 {d : Nat} {Q : Option AV → St → Prop} {st : List AV} {σ : St} {l0 l1 l2 l3 : Option AV} {i : Nat} {j : Int32} : Rn (d) Q (218, 1386, [l0, l1, l2, l3], vI j :: vR (some (13, 1, i)) :: st, σ) = (∃ n, gL σ 13 0 i = some n ∧ i < gN σ 13 ∧ (0 ≤ j.toInt ∧ j.toInt < n) ∧ Rn (d) Q (218, 1387, [l0, l1, l2, l3], vI (gA σ 13 0 i j.toNatClampNeg) :: st, σ)) := E_iaload1 i218_1386 rfl
theorem i218_1387 : ins 218 1387 = some (.invokevirtual 141, 3) := (congrArg (fun x : PTy => x.1.lookup 1387) q218).trans rfl
theorem e218_1387 {d : Nat} {Q : Option AV → St → Prop} {st : List AV} {σ : St} {l0 l1 l2 l3 : Option AV} {i : Nat} {a1 : Int32} {a2 : Int32} : Rn (d + 1) Q (218, 1387, [l0, l1, l2, l3], vI a2 :: vI a1 :: vR (some (11, 0, i)) :: st, σ) = (i < gN σ 11 ∧ catS st ≤ 8 ∧ Rn d (fun r σ' => Rn (d + 1) Q (218, 1390, [l0, l1, l2, l3], r.toList ++ st, σ')) (96, 0, [some (vR (some (11, 0, i))), some (vI a1), some (vI a2), none, none], [], σ)) := E_invV (a := [vI a2, vI a1]) i218_1387 ((congrArg (fun z => mthQ z 141) o218).trans m13_141) o96 rfl (ek96 i a1 a2) (en96 i a1 a2)
theorem i218_1390 : ins 218 1390 = some (.aload_n 2, 1) := (congrArg (fun x : PTy => x.1.lookup 1390) q218).trans rfl
theorem e218_1390 {d : Nat} {Q : Option AV → St → Prop} {st : List AV} {σ : St} {l0 l1 l3 : Option AV} {x : Option (Nat × Nat × Nat)} : Rn (d) Q (218, 1390, [l0, l1, some (vR x), l3], st, σ) = Rn (d) Q (218, 1391, [l0, l1, some (vR x), l3], vR x :: st, σ) := E_aload_n i218_1390 rfl
theorem i218_1391 : ins 218 1391 = some (.aload_n 0, 1) := (congrArg (fun x : PTy => x.1.lookup 1391) q218).trans rfl
theorem e218_1391 {d : Nat} {Q : Option AV → St → Prop} {st : List AV} {σ : St} {l1 l2 l3 : Option AV} {x : Option (Nat × Nat × Nat)} : Rn (d) Q (218, 1391, [some (vR x), l1, l2, l3], st, σ) = Rn (d) Q (218, 1392, [some (vR x), l1, l2, l3], vR x :: st, σ) := E_aload_n i218_1391 rfl
theorem i218_1392 : ins 218 1392 = some (.iload_n 3, 1) := (congrArg (fun x : PTy => x.1.lookup 1392) q218).trans rfl
theorem e218_1392 {d : Nat} {Q : Option AV → St → Prop} {st : List AV} {σ : St} {l0 l1 l2 : Option AV} {x : Int32} : Rn (d) Q (218, 1392, [l0, l1, l2, some (vI x)], st, σ) = Rn (d) Q (218, 1393, [l0, l1, l2, some (vI x)], vI x :: st, σ) := E_iload_n i218_1392 rfl
theorem i218_1393 : ins 218 1393 = some (.iconst 1, 1) := (congrArg (fun x : PTy => x.1.lookup 1393) q218).trans rfl
theorem e218_1393 {d : Nat} {Q : Option AV → St → Prop} {st : List AV} {σ : St} {l0 l1 l2 l3 : Option AV} : Rn (d) Q (218, 1393, [l0, l1, l2, l3], st, σ) = Rn (d) Q (218, 1394, [l0, l1, l2, l3], vI 1 :: st, σ) := by rw [E_iconst i218_1393, ci_1]
theorem i218_1394 : ins 218 1394 = some (.iadd, 1) := (congrArg (fun x : PTy => x.1.lookup 1394) q218).trans rfl
theorem e218_1394 {d : Nat} {Q : Option AV → St → Prop} {st : List AV} {σ : St} {l0 l1 l2 l3 : Option AV} {x y : Int32} : Rn (d) Q (218, 1394, [l0, l1, l2, l3], vI y :: vI x :: st, σ) = Rn (d) Q (218, 1395, [l0, l1, l2, l3], vI (x + y) :: st, σ) := E_iadd i218_1394
theorem i218_1395 : ins 218 1395 = some (.iaload, 1) := (congrArg (fun x : PTy => x.1.lookup 1395) q218).trans rfl
theorem e218_1395 {d : Nat} {Q : Option AV → St → Prop} {st : List AV} {σ : St} {l0 l1 l2 l3 : Option AV} {i : Nat} {j : Int32} : Rn (d) Q (218, 1395, [l0, l1, l2, l3], vI j :: vR (some (13, 1, i)) :: st, σ) = (∃ n, gL σ 13 0 i = some n ∧ i < gN σ 13 ∧ (0 ≤ j.toInt ∧ j.toInt < n) ∧ Rn (d) Q (218, 1396, [l0, l1, l2, l3], vI (gA σ 13 0 i j.toNatClampNeg) :: st, σ)) := E_iaload1 i218_1395 rfl
theorem i218_1396 : ins 218 1396 = some (.aload_n 0, 1) := (congrArg (fun x : PTy => x.1.lookup 1396) q218).trans rfl
theorem e218_1396 {d : Nat} {Q : Option AV → St → Prop} {st : List AV} {σ : St} {l1 l2 l3 : Option AV} {x : Option (Nat × Nat × Nat)} : Rn (d) Q (218, 1396, [some (vR x), l1, l2, l3], st, σ) = Rn (d) Q (218, 1397, [some (vR x), l1, l2, l3], vR x :: st, σ) := E_aload_n i218_1396 rfl
theorem i218_1397 : ins 218 1397 = some (.iload_n 3, 1) := (congrArg (fun x : PTy => x.1.lookup 1397) q218).trans rfl
theorem e218_1397 {d : Nat} {Q : Option AV → St → Prop} {st : List AV} {σ : St} {l0 l1 l2 : Option AV} {x : Int32} : Rn (d) Q (218, 1397, [l0, l1, l2, some (vI x)], st, σ) = Rn (d) Q (218, 1398, [l0, l1, l2, some (vI x)], vI x :: st, σ) := E_iload_n i218_1397 rfl
theorem i218_1398 : ins 218 1398 = some (.iconst 2, 1) := (congrArg (fun x : PTy => x.1.lookup 1398) q218).trans rfl
theorem e218_1398 {d : Nat} {Q : Option AV → St → Prop} {st : List AV} {σ : St} {l0 l1 l2 l3 : Option AV} : Rn (d) Q (218, 1398, [l0, l1, l2, l3], st, σ) = Rn (d) Q (218, 1399, [l0, l1, l2, l3], vI 2 :: st, σ) := by rw [E_iconst i218_1398, ci_2]
theorem i218_1399 : ins 218 1399 = some (.iadd, 1) := (congrArg (fun x : PTy => x.1.lookup 1399) q218).trans rfl
theorem e218_1399 {d : Nat} {Q : Option AV → St → Prop} {st : List AV} {σ : St} {l0 l1 l2 l3 : Option AV} {x y : Int32} : Rn (d) Q (218, 1399, [l0, l1, l2, l3], vI y :: vI x :: st, σ) = Rn (d) Q (218, 1400, [l0, l1, l2, l3], vI (x + y) :: st, σ) := E_iadd i218_1399
theorem i218_1400 : ins 218 1400 = some (.iaload, 1) := (congrArg (fun x : PTy => x.1.lookup 1400) q218).trans rfl
theorem e218_1400 {d : Nat} {Q : Option AV → St → Prop} {st : List AV} {σ : St} {l0 l1 l2 l3 : Option AV} {i : Nat} {j : Int32} : Rn (d) Q (218, 1400, [l0, l1, l2, l3], vI j :: vR (some (13, 1, i)) :: st, σ) = (∃ n, gL σ 13 0 i = some n ∧ i < gN σ 13 ∧ (0 ≤ j.toInt ∧ j.toInt < n) ∧ Rn (d) Q (218, 1401, [l0, l1, l2, l3], vI (gA σ 13 0 i j.toNatClampNeg) :: st, σ)) := E_iaload1 i218_1400 rfl
theorem i218_1401 : ins 218 1401 = some (.invokevirtual 144, 3) := (congrArg (fun x : PTy => x.1.lookup 1401) q218).trans rfl
theorem e218_1401 {d : Nat} {Q : Option AV → St → Prop} {st : List AV} {σ : St} {l0 l1 l2 l3 : Option AV} {i : Nat} {a1 : Int32} {a2 : Int32} : Rn (d + 1) Q (218, 1401, [l0, l1, l2, l3], vI a2 :: vI a1 :: vR (some (12, 0, i)) :: st, σ) = (i < gN σ 12 ∧ catS st ≤ 8 ∧ Rn d (fun r σ' => Rn (d + 1) Q (218, 1404, [l0, l1, l2, l3], r.toList ++ st, σ')) (200, 0, [some (vR (some (12, 0, i))), some (vI a1), some (vI a2)], [], σ)) := E_invV (a := [vI a2, vI a1]) i218_1401 ((congrArg (fun z => mthQ z 144) o218).trans m13_144) o200 rfl (ek200 i a1 a2) (en200 i a1 a2)
theorem i218_1404 : ins 218 1404 = some (.if_icmp .eq 408, 3) := (congrArg (fun x : PTy => x.1.lookup 1404) q218).trans rfl
theorem e218_1404 {d : Nat} {Q : Option AV → St → Prop} {st : List AV} {σ : St} {l0 l1 l2 l3 : Option AV} {x y : Int32} : Rn (d) Q (218, 1404, [l0, l1, l2, l3], vI y :: vI x :: st, σ) = (if x = y then Rn (d) Q (218, 1812, [l0, l1, l2, l3], st, σ) else Rn (d) Q (218, 1407, [l0, l1, l2, l3], st, σ)) := E_icmp_eq 1812 i218_1404 (by decide)
theorem i218_1407 : ins 218 1407 = some (.iconst 0, 1) := (congrArg (fun x : PTy => x.1.lookup 1407) q218).trans rfl
theorem e218_1407 {d : Nat} {Q : Option AV → St → Prop} {st : List AV} {σ : St} {l0 l1 l2 l3 : Option AV} : Rn (d) Q (218, 1407, [l0, l1, l2, l3], st, σ) = Rn (d) Q (218, 1408, [l0, l1, l2, l3], vI 0 :: st, σ) := by rw [E_iconst i218_1407, ci_0]
theorem i218_1408 : ins 218 1408 = some (.ireturn, 1) := (congrArg (fun x : PTy => x.1.lookup 1408) q218).trans rfl
theorem e218_1408 {d : Nat} {Q : Option AV → St → Prop} {st : List AV} {σ : St} {l0 l1 l2 l3 : Option AV} {x : Int32} : Rn (d) Q (218, 1408, [l0, l1, l2, l3], [vI x], σ) = ((x = 0 ∨ x = 1) ∧ Q (some (vI x)) σ) := E_iretZ (st := []) i218_1408 r218
theorem i218_1409 : ins 218 1409 = some (.aload_n 1, 1) := (congrArg (fun x : PTy => x.1.lookup 1409) q218).trans rfl
theorem e218_1409 {d : Nat} {Q : Option AV → St → Prop} {st : List AV} {σ : St} {l0 l2 l3 : Option AV} {x : Option (Nat × Nat × Nat)} : Rn (d) Q (218, 1409, [l0, some (vR x), l2, l3], st, σ) = Rn (d) Q (218, 1410, [l0, some (vR x), l2, l3], vR x :: st, σ) := E_aload_n i218_1409 rfl
theorem i218_1410 : ins 218 1410 = some (.aload_n 0, 1) := (congrArg (fun x : PTy => x.1.lookup 1410) q218).trans rfl
theorem e218_1410 {d : Nat} {Q : Option AV → St → Prop} {st : List AV} {σ : St} {l1 l2 l3 : Option AV} {x : Option (Nat × Nat × Nat)} : Rn (d) Q (218, 1410, [some (vR x), l1, l2, l3], st, σ) = Rn (d) Q (218, 1411, [some (vR x), l1, l2, l3], vR x :: st, σ) := E_aload_n i218_1410 rfl
theorem i218_1411 : ins 218 1411 = some (.iload_n 3, 1) := (congrArg (fun x : PTy => x.1.lookup 1411) q218).trans rfl
theorem e218_1411 {d : Nat} {Q : Option AV → St → Prop} {st : List AV} {σ : St} {l0 l1 l2 : Option AV} {x : Int32} : Rn (d) Q (218, 1411, [l0, l1, l2, some (vI x)], st, σ) = Rn (d) Q (218, 1412, [l0, l1, l2, some (vI x)], vI x :: st, σ) := E_iload_n i218_1411 rfl
theorem i218_1412 : ins 218 1412 = some (.iconst 1, 1) := (congrArg (fun x : PTy => x.1.lookup 1412) q218).trans rfl
theorem e218_1412 {d : Nat} {Q : Option AV → St → Prop} {st : List AV} {σ : St} {l0 l1 l2 l3 : Option AV} : Rn (d) Q (218, 1412, [l0, l1, l2, l3], st, σ) = Rn (d) Q (218, 1413, [l0, l1, l2, l3], vI 1 :: st, σ) := by rw [E_iconst i218_1412, ci_1]
theorem i218_1413 : ins 218 1413 = some (.iadd, 1) := (congrArg (fun x : PTy => x.1.lookup 1413) q218).trans rfl
theorem e218_1413 {d : Nat} {Q : Option AV → St → Prop} {st : List AV} {σ : St} {l0 l1 l2 l3 : Option AV} {x y : Int32} : Rn (d) Q (218, 1413, [l0, l1, l2, l3], vI y :: vI x :: st, σ) = Rn (d) Q (218, 1414, [l0, l1, l2, l3], vI (x + y) :: st, σ) := E_iadd i218_1413
theorem i218_1414 : ins 218 1414 = some (.iaload, 1) := (congrArg (fun x : PTy => x.1.lookup 1414) q218).trans rfl
theorem e218_1414 {d : Nat} {Q : Option AV → St → Prop} {st : List AV} {σ : St} {l0 l1 l2 l3 : Option AV} {i : Nat} {j : Int32} : Rn (d) Q (218, 1414, [l0, l1, l2, l3], vI j :: vR (some (13, 1, i)) :: st, σ) = (∃ n, gL σ 13 0 i = some n ∧ i < gN σ 13 ∧ (0 ≤ j.toInt ∧ j.toInt < n) ∧ Rn (d) Q (218, 1415, [l0, l1, l2, l3], vI (gA σ 13 0 i j.toNatClampNeg) :: st, σ)) := E_iaload1 i218_1414 rfl
theorem i218_1415 : ins 218 1415 = some (.invokevirtual 145, 3) := (congrArg (fun x : PTy => x.1.lookup 1415) q218).trans rfl
theorem e218_1415 {d : Nat} {Q : Option AV → St → Prop} {st : List AV} {σ : St} {l0 l1 l2 l3 : Option AV} {i : Nat} {a1 : Int32} : Rn (d + 1) Q (218, 1415, [l0, l1, l2, l3], vI a1 :: vR (some (11, 0, i)) :: st, σ) = (i < gN σ 11 ∧ catS st ≤ 8 ∧ Rn d (fun r σ' => Rn (d + 1) Q (218, 1418, [l0, l1, l2, l3], r.toList ++ st, σ')) (97, 0, [some (vR (some (11, 0, i))), some (vI a1), none], [], σ)) := E_invV (a := [vI a1]) i218_1415 ((congrArg (fun z => mthQ z 145) o218).trans m13_145) o97 rfl (ek97 i a1) (en97 i a1)
theorem i218_1418 : ins 218 1418 = some (.aload_n 2, 1) := (congrArg (fun x : PTy => x.1.lookup 1418) q218).trans rfl
theorem e218_1418 {d : Nat} {Q : Option AV → St → Prop} {st : List AV} {σ : St} {l0 l1 l3 : Option AV} {x : Option (Nat × Nat × Nat)} : Rn (d) Q (218, 1418, [l0, l1, some (vR x), l3], st, σ) = Rn (d) Q (218, 1419, [l0, l1, some (vR x), l3], vR x :: st, σ) := E_aload_n i218_1418 rfl
theorem i218_1419 : ins 218 1419 = some (.aload_n 0, 1) := (congrArg (fun x : PTy => x.1.lookup 1419) q218).trans rfl
theorem e218_1419 {d : Nat} {Q : Option AV → St → Prop} {st : List AV} {σ : St} {l1 l2 l3 : Option AV} {x : Option (Nat × Nat × Nat)} : Rn (d) Q (218, 1419, [some (vR x), l1, l2, l3], st, σ) = Rn (d) Q (218, 1420, [some (vR x), l1, l2, l3], vR x :: st, σ) := E_aload_n i218_1419 rfl
theorem i218_1420 : ins 218 1420 = some (.iload_n 3, 1) := (congrArg (fun x : PTy => x.1.lookup 1420) q218).trans rfl
theorem e218_1420 {d : Nat} {Q : Option AV → St → Prop} {st : List AV} {σ : St} {l0 l1 l2 : Option AV} {x : Int32} : Rn (d) Q (218, 1420, [l0, l1, l2, some (vI x)], st, σ) = Rn (d) Q (218, 1421, [l0, l1, l2, some (vI x)], vI x :: st, σ) := E_iload_n i218_1420 rfl
theorem i218_1421 : ins 218 1421 = some (.iconst 1, 1) := (congrArg (fun x : PTy => x.1.lookup 1421) q218).trans rfl
theorem e218_1421 {d : Nat} {Q : Option AV → St → Prop} {st : List AV} {σ : St} {l0 l1 l2 l3 : Option AV} : Rn (d) Q (218, 1421, [l0, l1, l2, l3], st, σ) = Rn (d) Q (218, 1422, [l0, l1, l2, l3], vI 1 :: st, σ) := by rw [E_iconst i218_1421, ci_1]
theorem i218_1422 : ins 218 1422 = some (.iadd, 1) := (congrArg (fun x : PTy => x.1.lookup 1422) q218).trans rfl
theorem e218_1422 {d : Nat} {Q : Option AV → St → Prop} {st : List AV} {σ : St} {l0 l1 l2 l3 : Option AV} {x y : Int32} : Rn (d) Q (218, 1422, [l0, l1, l2, l3], vI y :: vI x :: st, σ) = Rn (d) Q (218, 1423, [l0, l1, l2, l3], vI (x + y) :: st, σ) := E_iadd i218_1422
theorem i218_1423 : ins 218 1423 = some (.iaload, 1) := (congrArg (fun x : PTy => x.1.lookup 1423) q218).trans rfl
theorem e218_1423 {d : Nat} {Q : Option AV → St → Prop} {st : List AV} {σ : St} {l0 l1 l2 l3 : Option AV} {i : Nat} {j : Int32} : Rn (d) Q (218, 1423, [l0, l1, l2, l3], vI j :: vR (some (13, 1, i)) :: st, σ) = (∃ n, gL σ 13 0 i = some n ∧ i < gN σ 13 ∧ (0 ≤ j.toInt ∧ j.toInt < n) ∧ Rn (d) Q (218, 1424, [l0, l1, l2, l3], vI (gA σ 13 0 i j.toNatClampNeg) :: st, σ)) := E_iaload1 i218_1423 rfl
theorem i218_1424 : ins 218 1424 = some (.invokevirtual 148, 3) := (congrArg (fun x : PTy => x.1.lookup 1424) q218).trans rfl
theorem e218_1424 {d : Nat} {Q : Option AV → St → Prop} {st : List AV} {σ : St} {l0 l1 l2 l3 : Option AV} {i : Nat} {a1 : Int32} : Rn (d + 1) Q (218, 1424, [l0, l1, l2, l3], vI a1 :: vR (some (12, 0, i)) :: st, σ) = (i < gN σ 12 ∧ catS st ≤ 8 ∧ Rn d (fun r σ' => Rn (d + 1) Q (218, 1427, [l0, l1, l2, l3], r.toList ++ st, σ')) (201, 0, [some (vR (some (12, 0, i))), some (vI a1), none], [], σ)) := E_invV (a := [vI a1]) i218_1424 ((congrArg (fun z => mthQ z 148) o218).trans m13_148) o201 rfl (ek201 i a1) (en201 i a1)
theorem i218_1427 : ins 218 1427 = some (.if_icmp .eq 385, 3) := (congrArg (fun x : PTy => x.1.lookup 1427) q218).trans rfl
theorem e218_1427 {d : Nat} {Q : Option AV → St → Prop} {st : List AV} {σ : St} {l0 l1 l2 l3 : Option AV} {x y : Int32} : Rn (d) Q (218, 1427, [l0, l1, l2, l3], vI y :: vI x :: st, σ) = (if x = y then Rn (d) Q (218, 1812, [l0, l1, l2, l3], st, σ) else Rn (d) Q (218, 1430, [l0, l1, l2, l3], st, σ)) := E_icmp_eq 1812 i218_1427 (by decide)
theorem i218_1430 : ins 218 1430 = some (.iconst 0, 1) := (congrArg (fun x : PTy => x.1.lookup 1430) q218).trans rfl
theorem e218_1430 {d : Nat} {Q : Option AV → St → Prop} {st : List AV} {σ : St} {l0 l1 l2 l3 : Option AV} : Rn (d) Q (218, 1430, [l0, l1, l2, l3], st, σ) = Rn (d) Q (218, 1431, [l0, l1, l2, l3], vI 0 :: st, σ) := by rw [E_iconst i218_1430, ci_0]
theorem i218_1431 : ins 218 1431 = some (.ireturn, 1) := (congrArg (fun x : PTy => x.1.lookup 1431) q218).trans rfl
theorem e218_1431 {d : Nat} {Q : Option AV → St → Prop} {st : List AV} {σ : St} {l0 l1 l2 l3 : Option AV} {x : Int32} : Rn (d) Q (218, 1431, [l0, l1, l2, l3], [vI x], σ) = ((x = 0 ∨ x = 1) ∧ Q (some (vI x)) σ) := E_iretZ (st := []) i218_1431 r218
theorem i218_1432 : ins 218 1432 = some (.aload_n 1, 1) := (congrArg (fun x : PTy => x.1.lookup 1432) q218).trans rfl
theorem e218_1432 {d : Nat} {Q : Option AV → St → Prop} {st : List AV} {σ : St} {l0 l2 l3 : Option AV} {x : Option (Nat × Nat × Nat)} : Rn (d) Q (218, 1432, [l0, some (vR x), l2, l3], st, σ) = Rn (d) Q (218, 1433, [l0, some (vR x), l2, l3], vR x :: st, σ) := E_aload_n i218_1432 rfl
theorem i218_1433 : ins 218 1433 = some (.aload_n 0, 1) := (congrArg (fun x : PTy => x.1.lookup 1433) q218).trans rfl
theorem e218_1433 {d : Nat} {Q : Option AV → St → Prop} {st : List AV} {σ : St} {l1 l2 l3 : Option AV} {x : Option (Nat × Nat × Nat)} : Rn (d) Q (218, 1433, [some (vR x), l1, l2, l3], st, σ) = Rn (d) Q (218, 1434, [some (vR x), l1, l2, l3], vR x :: st, σ) := E_aload_n i218_1433 rfl
theorem i218_1434 : ins 218 1434 = some (.iload_n 3, 1) := (congrArg (fun x : PTy => x.1.lookup 1434) q218).trans rfl
theorem e218_1434 {d : Nat} {Q : Option AV → St → Prop} {st : List AV} {σ : St} {l0 l1 l2 : Option AV} {x : Int32} : Rn (d) Q (218, 1434, [l0, l1, l2, some (vI x)], st, σ) = Rn (d) Q (218, 1435, [l0, l1, l2, some (vI x)], vI x :: st, σ) := E_iload_n i218_1434 rfl
theorem i218_1435 : ins 218 1435 = some (.iconst 1, 1) := (congrArg (fun x : PTy => x.1.lookup 1435) q218).trans rfl
theorem e218_1435 {d : Nat} {Q : Option AV → St → Prop} {st : List AV} {σ : St} {l0 l1 l2 l3 : Option AV} : Rn (d) Q (218, 1435, [l0, l1, l2, l3], st, σ) = Rn (d) Q (218, 1436, [l0, l1, l2, l3], vI 1 :: st, σ) := by rw [E_iconst i218_1435, ci_1]
theorem i218_1436 : ins 218 1436 = some (.iadd, 1) := (congrArg (fun x : PTy => x.1.lookup 1436) q218).trans rfl
theorem e218_1436 {d : Nat} {Q : Option AV → St → Prop} {st : List AV} {σ : St} {l0 l1 l2 l3 : Option AV} {x y : Int32} : Rn (d) Q (218, 1436, [l0, l1, l2, l3], vI y :: vI x :: st, σ) = Rn (d) Q (218, 1437, [l0, l1, l2, l3], vI (x + y) :: st, σ) := E_iadd i218_1436
theorem i218_1437 : ins 218 1437 = some (.iaload, 1) := (congrArg (fun x : PTy => x.1.lookup 1437) q218).trans rfl
theorem e218_1437 {d : Nat} {Q : Option AV → St → Prop} {st : List AV} {σ : St} {l0 l1 l2 l3 : Option AV} {i : Nat} {j : Int32} : Rn (d) Q (218, 1437, [l0, l1, l2, l3], vI j :: vR (some (13, 1, i)) :: st, σ) = (∃ n, gL σ 13 0 i = some n ∧ i < gN σ 13 ∧ (0 ≤ j.toInt ∧ j.toInt < n) ∧ Rn (d) Q (218, 1438, [l0, l1, l2, l3], vI (gA σ 13 0 i j.toNatClampNeg) :: st, σ)) := E_iaload1 i218_1437 rfl
theorem i218_1438 : ins 218 1438 = some (.invokevirtual 149, 3) := (congrArg (fun x : PTy => x.1.lookup 1438) q218).trans rfl
theorem e218_1438 {d : Nat} {Q : Option AV → St → Prop} {st : List AV} {σ : St} {l0 l1 l2 l3 : Option AV} {i : Nat} {a1 : Int32} : Rn (d + 1) Q (218, 1438, [l0, l1, l2, l3], vI a1 :: vR (some (11, 0, i)) :: st, σ) = (i < gN σ 11 ∧ catS st ≤ 8 ∧ Rn d (fun r σ' => Rn (d + 1) Q (218, 1441, [l0, l1, l2, l3], r.toList ++ st, σ')) (98, 0, [some (vR (some (11, 0, i))), some (vI a1), none, none, none], [], σ)) := E_invV (a := [vI a1]) i218_1438 ((congrArg (fun z => mthQ z 149) o218).trans m13_149) o98 rfl (ek98 i a1) (en98 i a1)
theorem i218_1441 : ins 218 1441 = some (.aload_n 2, 1) := (congrArg (fun x : PTy => x.1.lookup 1441) q218).trans rfl
theorem e218_1441 {d : Nat} {Q : Option AV → St → Prop} {st : List AV} {σ : St} {l0 l1 l3 : Option AV} {x : Option (Nat × Nat × Nat)} : Rn (d) Q (218, 1441, [l0, l1, some (vR x), l3], st, σ) = Rn (d) Q (218, 1442, [l0, l1, some (vR x), l3], vR x :: st, σ) := E_aload_n i218_1441 rfl
theorem i218_1442 : ins 218 1442 = some (.aload_n 0, 1) := (congrArg (fun x : PTy => x.1.lookup 1442) q218).trans rfl
theorem e218_1442 {d : Nat} {Q : Option AV → St → Prop} {st : List AV} {σ : St} {l1 l2 l3 : Option AV} {x : Option (Nat × Nat × Nat)} : Rn (d) Q (218, 1442, [some (vR x), l1, l2, l3], st, σ) = Rn (d) Q (218, 1443, [some (vR x), l1, l2, l3], vR x :: st, σ) := E_aload_n i218_1442 rfl
theorem i218_1443 : ins 218 1443 = some (.iload_n 3, 1) := (congrArg (fun x : PTy => x.1.lookup 1443) q218).trans rfl
theorem e218_1443 {d : Nat} {Q : Option AV → St → Prop} {st : List AV} {σ : St} {l0 l1 l2 : Option AV} {x : Int32} : Rn (d) Q (218, 1443, [l0, l1, l2, some (vI x)], st, σ) = Rn (d) Q (218, 1444, [l0, l1, l2, some (vI x)], vI x :: st, σ) := E_iload_n i218_1443 rfl
theorem i218_1444 : ins 218 1444 = some (.iconst 1, 1) := (congrArg (fun x : PTy => x.1.lookup 1444) q218).trans rfl
theorem e218_1444 {d : Nat} {Q : Option AV → St → Prop} {st : List AV} {σ : St} {l0 l1 l2 l3 : Option AV} : Rn (d) Q (218, 1444, [l0, l1, l2, l3], st, σ) = Rn (d) Q (218, 1445, [l0, l1, l2, l3], vI 1 :: st, σ) := by rw [E_iconst i218_1444, ci_1]
theorem i218_1445 : ins 218 1445 = some (.iadd, 1) := (congrArg (fun x : PTy => x.1.lookup 1445) q218).trans rfl
theorem e218_1445 {d : Nat} {Q : Option AV → St → Prop} {st : List AV} {σ : St} {l0 l1 l2 l3 : Option AV} {x y : Int32} : Rn (d) Q (218, 1445, [l0, l1, l2, l3], vI y :: vI x :: st, σ) = Rn (d) Q (218, 1446, [l0, l1, l2, l3], vI (x + y) :: st, σ) := E_iadd i218_1445
theorem i218_1446 : ins 218 1446 = some (.iaload, 1) := (congrArg (fun x : PTy => x.1.lookup 1446) q218).trans rfl
theorem e218_1446 {d : Nat} {Q : Option AV → St → Prop} {st : List AV} {σ : St} {l0 l1 l2 l3 : Option AV} {i : Nat} {j : Int32} : Rn (d) Q (218, 1446, [l0, l1, l2, l3], vI j :: vR (some (13, 1, i)) :: st, σ) = (∃ n, gL σ 13 0 i = some n ∧ i < gN σ 13 ∧ (0 ≤ j.toInt ∧ j.toInt < n) ∧ Rn (d) Q (218, 1447, [l0, l1, l2, l3], vI (gA σ 13 0 i j.toNatClampNeg) :: st, σ)) := E_iaload1 i218_1446 rfl
theorem i218_1447 : ins 218 1447 = some (.invokevirtual 152, 3) := (congrArg (fun x : PTy => x.1.lookup 1447) q218).trans rfl
theorem e218_1447 {d : Nat} {Q : Option AV → St → Prop} {st : List AV} {σ : St} {l0 l1 l2 l3 : Option AV} {i : Nat} {a1 : Int32} : Rn (d + 1) Q (218, 1447, [l0, l1, l2, l3], vI a1 :: vR (some (12, 0, i)) :: st, σ) = (i < gN σ 12 ∧ catS st ≤ 8 ∧ Rn d (fun r σ' => Rn (d + 1) Q (218, 1450, [l0, l1, l2, l3], r.toList ++ st, σ')) (202, 0, [some (vR (some (12, 0, i))), some (vI a1), none, none, none], [], σ)) := E_invV (a := [vI a1]) i218_1447 ((congrArg (fun z => mthQ z 152) o218).trans m13_152) o202 rfl (ek202 i a1) (en202 i a1)
theorem i218_1450 : ins 218 1450 = some (.if_icmp .eq 362, 3) := (congrArg (fun x : PTy => x.1.lookup 1450) q218).trans rfl
theorem e218_1450 {d : Nat} {Q : Option AV → St → Prop} {st : List AV} {σ : St} {l0 l1 l2 l3 : Option AV} {x y : Int32} : Rn (d) Q (218, 1450, [l0, l1, l2, l3], vI y :: vI x :: st, σ) = (if x = y then Rn (d) Q (218, 1812, [l0, l1, l2, l3], st, σ) else Rn (d) Q (218, 1453, [l0, l1, l2, l3], st, σ)) := E_icmp_eq 1812 i218_1450 (by decide)
theorem i218_1453 : ins 218 1453 = some (.iconst 0, 1) := (congrArg (fun x : PTy => x.1.lookup 1453) q218).trans rfl
theorem e218_1453 {d : Nat} {Q : Option AV → St → Prop} {st : List AV} {σ : St} {l0 l1 l2 l3 : Option AV} : Rn (d) Q (218, 1453, [l0, l1, l2, l3], st, σ) = Rn (d) Q (218, 1454, [l0, l1, l2, l3], vI 0 :: st, σ) := by rw [E_iconst i218_1453, ci_0]
theorem i218_1454 : ins 218 1454 = some (.ireturn, 1) := (congrArg (fun x : PTy => x.1.lookup 1454) q218).trans rfl
theorem e218_1454 {d : Nat} {Q : Option AV → St → Prop} {st : List AV} {σ : St} {l0 l1 l2 l3 : Option AV} {x : Int32} : Rn (d) Q (218, 1454, [l0, l1, l2, l3], [vI x], σ) = ((x = 0 ∨ x = 1) ∧ Q (some (vI x)) σ) := E_iretZ (st := []) i218_1454 r218
theorem i218_1455 : ins 218 1455 = some (.aload_n 1, 1) := (congrArg (fun x : PTy => x.1.lookup 1455) q218).trans rfl
theorem e218_1455 {d : Nat} {Q : Option AV → St → Prop} {st : List AV} {σ : St} {l0 l2 l3 : Option AV} {x : Option (Nat × Nat × Nat)} : Rn (d) Q (218, 1455, [l0, some (vR x), l2, l3], st, σ) = Rn (d) Q (218, 1456, [l0, some (vR x), l2, l3], vR x :: st, σ) := E_aload_n i218_1455 rfl
theorem i218_1456 : ins 218 1456 = some (.aload_n 0, 1) := (congrArg (fun x : PTy => x.1.lookup 1456) q218).trans rfl
theorem e218_1456 {d : Nat} {Q : Option AV → St → Prop} {st : List AV} {σ : St} {l1 l2 l3 : Option AV} {x : Option (Nat × Nat × Nat)} : Rn (d) Q (218, 1456, [some (vR x), l1, l2, l3], st, σ) = Rn (d) Q (218, 1457, [some (vR x), l1, l2, l3], vR x :: st, σ) := E_aload_n i218_1456 rfl
theorem i218_1457 : ins 218 1457 = some (.iload_n 3, 1) := (congrArg (fun x : PTy => x.1.lookup 1457) q218).trans rfl
theorem e218_1457 {d : Nat} {Q : Option AV → St → Prop} {st : List AV} {σ : St} {l0 l1 l2 : Option AV} {x : Int32} : Rn (d) Q (218, 1457, [l0, l1, l2, some (vI x)], st, σ) = Rn (d) Q (218, 1458, [l0, l1, l2, some (vI x)], vI x :: st, σ) := E_iload_n i218_1457 rfl
theorem i218_1458 : ins 218 1458 = some (.iconst 1, 1) := (congrArg (fun x : PTy => x.1.lookup 1458) q218).trans rfl
theorem e218_1458 {d : Nat} {Q : Option AV → St → Prop} {st : List AV} {σ : St} {l0 l1 l2 l3 : Option AV} : Rn (d) Q (218, 1458, [l0, l1, l2, l3], st, σ) = Rn (d) Q (218, 1459, [l0, l1, l2, l3], vI 1 :: st, σ) := by rw [E_iconst i218_1458, ci_1]
theorem i218_1459 : ins 218 1459 = some (.iadd, 1) := (congrArg (fun x : PTy => x.1.lookup 1459) q218).trans rfl
theorem e218_1459 {d : Nat} {Q : Option AV → St → Prop} {st : List AV} {σ : St} {l0 l1 l2 l3 : Option AV} {x y : Int32} : Rn (d) Q (218, 1459, [l0, l1, l2, l3], vI y :: vI x :: st, σ) = Rn (d) Q (218, 1460, [l0, l1, l2, l3], vI (x + y) :: st, σ) := E_iadd i218_1459
theorem i218_1460 : ins 218 1460 = some (.iaload, 1) := (congrArg (fun x : PTy => x.1.lookup 1460) q218).trans rfl
theorem e218_1460 {d : Nat} {Q : Option AV → St → Prop} {st : List AV} {σ : St} {l0 l1 l2 l3 : Option AV} {i : Nat} {j : Int32} : Rn (d) Q (218, 1460, [l0, l1, l2, l3], vI j :: vR (some (13, 1, i)) :: st, σ) = (∃ n, gL σ 13 0 i = some n ∧ i < gN σ 13 ∧ (0 ≤ j.toInt ∧ j.toInt < n) ∧ Rn (d) Q (218, 1461, [l0, l1, l2, l3], vI (gA σ 13 0 i j.toNatClampNeg) :: st, σ)) := E_iaload1 i218_1460 rfl
theorem i218_1461 : ins 218 1461 = some (.invokevirtual 153, 3) := (congrArg (fun x : PTy => x.1.lookup 1461) q218).trans rfl
theorem e218_1461 {d : Nat} {Q : Option AV → St → Prop} {st : List AV} {σ : St} {l0 l1 l2 l3 : Option AV} {i : Nat} {a1 : Int32} : Rn (d + 1) Q (218, 1461, [l0, l1, l2, l3], vI a1 :: vR (some (11, 0, i)) :: st, σ) = (i < gN σ 11 ∧ catS st ≤ 8 ∧ Rn d (fun r σ' => Rn (d + 1) Q (218, 1464, [l0, l1, l2, l3], r.toList ++ st, σ')) (99, 0, [some (vR (some (11, 0, i))), some (vI a1), none, none], [], σ)) := E_invV (a := [vI a1]) i218_1461 ((congrArg (fun z => mthQ z 153) o218).trans m13_153) o99 rfl (ek99 i a1) (en99 i a1)
theorem i218_1464 : ins 218 1464 = some (.aload_n 2, 1) := (congrArg (fun x : PTy => x.1.lookup 1464) q218).trans rfl
theorem e218_1464 {d : Nat} {Q : Option AV → St → Prop} {st : List AV} {σ : St} {l0 l1 l3 : Option AV} {x : Option (Nat × Nat × Nat)} : Rn (d) Q (218, 1464, [l0, l1, some (vR x), l3], st, σ) = Rn (d) Q (218, 1465, [l0, l1, some (vR x), l3], vR x :: st, σ) := E_aload_n i218_1464 rfl
theorem i218_1465 : ins 218 1465 = some (.aload_n 0, 1) := (congrArg (fun x : PTy => x.1.lookup 1465) q218).trans rfl
theorem e218_1465 {d : Nat} {Q : Option AV → St → Prop} {st : List AV} {σ : St} {l1 l2 l3 : Option AV} {x : Option (Nat × Nat × Nat)} : Rn (d) Q (218, 1465, [some (vR x), l1, l2, l3], st, σ) = Rn (d) Q (218, 1466, [some (vR x), l1, l2, l3], vR x :: st, σ) := E_aload_n i218_1465 rfl
theorem i218_1466 : ins 218 1466 = some (.iload_n 3, 1) := (congrArg (fun x : PTy => x.1.lookup 1466) q218).trans rfl
theorem e218_1466 {d : Nat} {Q : Option AV → St → Prop} {st : List AV} {σ : St} {l0 l1 l2 : Option AV} {x : Int32} : Rn (d) Q (218, 1466, [l0, l1, l2, some (vI x)], st, σ) = Rn (d) Q (218, 1467, [l0, l1, l2, some (vI x)], vI x :: st, σ) := E_iload_n i218_1466 rfl
theorem i218_1467 : ins 218 1467 = some (.iconst 1, 1) := (congrArg (fun x : PTy => x.1.lookup 1467) q218).trans rfl
theorem e218_1467 {d : Nat} {Q : Option AV → St → Prop} {st : List AV} {σ : St} {l0 l1 l2 l3 : Option AV} : Rn (d) Q (218, 1467, [l0, l1, l2, l3], st, σ) = Rn (d) Q (218, 1468, [l0, l1, l2, l3], vI 1 :: st, σ) := by rw [E_iconst i218_1467, ci_1]
theorem i218_1468 : ins 218 1468 = some (.iadd, 1) := (congrArg (fun x : PTy => x.1.lookup 1468) q218).trans rfl
theorem e218_1468 {d : Nat} {Q : Option AV → St → Prop} {st : List AV} {σ : St} {l0 l1 l2 l3 : Option AV} {x y : Int32} : Rn (d) Q (218, 1468, [l0, l1, l2, l3], vI y :: vI x :: st, σ) = Rn (d) Q (218, 1469, [l0, l1, l2, l3], vI (x + y) :: st, σ) := E_iadd i218_1468
theorem i218_1469 : ins 218 1469 = some (.iaload, 1) := (congrArg (fun x : PTy => x.1.lookup 1469) q218).trans rfl
theorem e218_1469 {d : Nat} {Q : Option AV → St → Prop} {st : List AV} {σ : St} {l0 l1 l2 l3 : Option AV} {i : Nat} {j : Int32} : Rn (d) Q (218, 1469, [l0, l1, l2, l3], vI j :: vR (some (13, 1, i)) :: st, σ) = (∃ n, gL σ 13 0 i = some n ∧ i < gN σ 13 ∧ (0 ≤ j.toInt ∧ j.toInt < n) ∧ Rn (d) Q (218, 1470, [l0, l1, l2, l3], vI (gA σ 13 0 i j.toNatClampNeg) :: st, σ)) := E_iaload1 i218_1469 rfl
theorem i218_1470 : ins 218 1470 = some (.invokevirtual 156, 3) := (congrArg (fun x : PTy => x.1.lookup 1470) q218).trans rfl
theorem e218_1470 {d : Nat} {Q : Option AV → St → Prop} {st : List AV} {σ : St} {l0 l1 l2 l3 : Option AV} {i : Nat} {a1 : Int32} : Rn (d + 1) Q (218, 1470, [l0, l1, l2, l3], vI a1 :: vR (some (12, 0, i)) :: st, σ) = (i < gN σ 12 ∧ catS st ≤ 8 ∧ Rn d (fun r σ' => Rn (d + 1) Q (218, 1473, [l0, l1, l2, l3], r.toList ++ st, σ')) (204, 0, [some (vR (some (12, 0, i))), some (vI a1), none, none], [], σ)) := E_invV (a := [vI a1]) i218_1470 ((congrArg (fun z => mthQ z 156) o218).trans m13_156) o204 rfl (ek204 i a1) (en204 i a1)
theorem i218_1473 : ins 218 1473 = some (.if_icmp .eq 339, 3) := (congrArg (fun x : PTy => x.1.lookup 1473) q218).trans rfl
theorem e218_1473 {d : Nat} {Q : Option AV → St → Prop} {st : List AV} {σ : St} {l0 l1 l2 l3 : Option AV} {x y : Int32} : Rn (d) Q (218, 1473, [l0, l1, l2, l3], vI y :: vI x :: st, σ) = (if x = y then Rn (d) Q (218, 1812, [l0, l1, l2, l3], st, σ) else Rn (d) Q (218, 1476, [l0, l1, l2, l3], st, σ)) := E_icmp_eq 1812 i218_1473 (by decide)
theorem i218_1476 : ins 218 1476 = some (.iconst 0, 1) := (congrArg (fun x : PTy => x.1.lookup 1476) q218).trans rfl
theorem e218_1476 {d : Nat} {Q : Option AV → St → Prop} {st : List AV} {σ : St} {l0 l1 l2 l3 : Option AV} : Rn (d) Q (218, 1476, [l0, l1, l2, l3], st, σ) = Rn (d) Q (218, 1477, [l0, l1, l2, l3], vI 0 :: st, σ) := by rw [E_iconst i218_1476, ci_0]
theorem i218_1477 : ins 218 1477 = some (.ireturn, 1) := (congrArg (fun x : PTy => x.1.lookup 1477) q218).trans rfl
theorem e218_1477 {d : Nat} {Q : Option AV → St → Prop} {st : List AV} {σ : St} {l0 l1 l2 l3 : Option AV} {x : Int32} : Rn (d) Q (218, 1477, [l0, l1, l2, l3], [vI x], σ) = ((x = 0 ∨ x = 1) ∧ Q (some (vI x)) σ) := E_iretZ (st := []) i218_1477 r218
theorem i218_1478 : ins 218 1478 = some (.aload_n 1, 1) := (congrArg (fun x : PTy => x.1.lookup 1478) q218).trans rfl
theorem e218_1478 {d : Nat} {Q : Option AV → St → Prop} {st : List AV} {σ : St} {l0 l2 l3 : Option AV} {x : Option (Nat × Nat × Nat)} : Rn (d) Q (218, 1478, [l0, some (vR x), l2, l3], st, σ) = Rn (d) Q (218, 1479, [l0, some (vR x), l2, l3], vR x :: st, σ) := E_aload_n i218_1478 rfl
theorem i218_1479 : ins 218 1479 = some (.aload_n 0, 1) := (congrArg (fun x : PTy => x.1.lookup 1479) q218).trans rfl
theorem e218_1479 {d : Nat} {Q : Option AV → St → Prop} {st : List AV} {σ : St} {l1 l2 l3 : Option AV} {x : Option (Nat × Nat × Nat)} : Rn (d) Q (218, 1479, [some (vR x), l1, l2, l3], st, σ) = Rn (d) Q (218, 1480, [some (vR x), l1, l2, l3], vR x :: st, σ) := E_aload_n i218_1479 rfl
theorem i218_1480 : ins 218 1480 = some (.iload_n 3, 1) := (congrArg (fun x : PTy => x.1.lookup 1480) q218).trans rfl
theorem e218_1480 {d : Nat} {Q : Option AV → St → Prop} {st : List AV} {σ : St} {l0 l1 l2 : Option AV} {x : Int32} : Rn (d) Q (218, 1480, [l0, l1, l2, some (vI x)], st, σ) = Rn (d) Q (218, 1481, [l0, l1, l2, some (vI x)], vI x :: st, σ) := E_iload_n i218_1480 rfl
theorem i218_1481 : ins 218 1481 = some (.iconst 1, 1) := (congrArg (fun x : PTy => x.1.lookup 1481) q218).trans rfl
theorem e218_1481 {d : Nat} {Q : Option AV → St → Prop} {st : List AV} {σ : St} {l0 l1 l2 l3 : Option AV} : Rn (d) Q (218, 1481, [l0, l1, l2, l3], st, σ) = Rn (d) Q (218, 1482, [l0, l1, l2, l3], vI 1 :: st, σ) := by rw [E_iconst i218_1481, ci_1]
theorem i218_1482 : ins 218 1482 = some (.iadd, 1) := (congrArg (fun x : PTy => x.1.lookup 1482) q218).trans rfl
theorem e218_1482 {d : Nat} {Q : Option AV → St → Prop} {st : List AV} {σ : St} {l0 l1 l2 l3 : Option AV} {x y : Int32} : Rn (d) Q (218, 1482, [l0, l1, l2, l3], vI y :: vI x :: st, σ) = Rn (d) Q (218, 1483, [l0, l1, l2, l3], vI (x + y) :: st, σ) := E_iadd i218_1482
theorem i218_1483 : ins 218 1483 = some (.iaload, 1) := (congrArg (fun x : PTy => x.1.lookup 1483) q218).trans rfl
theorem e218_1483 {d : Nat} {Q : Option AV → St → Prop} {st : List AV} {σ : St} {l0 l1 l2 l3 : Option AV} {i : Nat} {j : Int32} : Rn (d) Q (218, 1483, [l0, l1, l2, l3], vI j :: vR (some (13, 1, i)) :: st, σ) = (∃ n, gL σ 13 0 i = some n ∧ i < gN σ 13 ∧ (0 ≤ j.toInt ∧ j.toInt < n) ∧ Rn (d) Q (218, 1484, [l0, l1, l2, l3], vI (gA σ 13 0 i j.toNatClampNeg) :: st, σ)) := E_iaload1 i218_1483 rfl
theorem i218_1484 : ins 218 1484 = some (.aload_n 0, 1) := (congrArg (fun x : PTy => x.1.lookup 1484) q218).trans rfl
theorem e218_1484 {d : Nat} {Q : Option AV → St → Prop} {st : List AV} {σ : St} {l1 l2 l3 : Option AV} {x : Option (Nat × Nat × Nat)} : Rn (d) Q (218, 1484, [some (vR x), l1, l2, l3], st, σ) = Rn (d) Q (218, 1485, [some (vR x), l1, l2, l3], vR x :: st, σ) := E_aload_n i218_1484 rfl
theorem i218_1485 : ins 218 1485 = some (.iload_n 3, 1) := (congrArg (fun x : PTy => x.1.lookup 1485) q218).trans rfl
theorem e218_1485 {d : Nat} {Q : Option AV → St → Prop} {st : List AV} {σ : St} {l0 l1 l2 : Option AV} {x : Int32} : Rn (d) Q (218, 1485, [l0, l1, l2, some (vI x)], st, σ) = Rn (d) Q (218, 1486, [l0, l1, l2, some (vI x)], vI x :: st, σ) := E_iload_n i218_1485 rfl
theorem i218_1486 : ins 218 1486 = some (.iconst 2, 1) := (congrArg (fun x : PTy => x.1.lookup 1486) q218).trans rfl
theorem e218_1486 {d : Nat} {Q : Option AV → St → Prop} {st : List AV} {σ : St} {l0 l1 l2 l3 : Option AV} : Rn (d) Q (218, 1486, [l0, l1, l2, l3], st, σ) = Rn (d) Q (218, 1487, [l0, l1, l2, l3], vI 2 :: st, σ) := by rw [E_iconst i218_1486, ci_2]
theorem i218_1487 : ins 218 1487 = some (.iadd, 1) := (congrArg (fun x : PTy => x.1.lookup 1487) q218).trans rfl
theorem e218_1487 {d : Nat} {Q : Option AV → St → Prop} {st : List AV} {σ : St} {l0 l1 l2 l3 : Option AV} {x y : Int32} : Rn (d) Q (218, 1487, [l0, l1, l2, l3], vI y :: vI x :: st, σ) = Rn (d) Q (218, 1488, [l0, l1, l2, l3], vI (x + y) :: st, σ) := E_iadd i218_1487
theorem i218_1488 : ins 218 1488 = some (.iaload, 1) := (congrArg (fun x : PTy => x.1.lookup 1488) q218).trans rfl
theorem e218_1488 {d : Nat} {Q : Option AV → St → Prop} {st : List AV} {σ : St} {l0 l1 l2 l3 : Option AV} {i : Nat} {j : Int32} : Rn (d) Q (218, 1488, [l0, l1, l2, l3], vI j :: vR (some (13, 1, i)) :: st, σ) = (∃ n, gL σ 13 0 i = some n ∧ i < gN σ 13 ∧ (0 ≤ j.toInt ∧ j.toInt < n) ∧ Rn (d) Q (218, 1489, [l0, l1, l2, l3], vI (gA σ 13 0 i j.toNatClampNeg) :: st, σ)) := E_iaload1 i218_1488 rfl
theorem i218_1489 : ins 218 1489 = some (.aload_n 0, 1) := (congrArg (fun x : PTy => x.1.lookup 1489) q218).trans rfl
theorem e218_1489 {d : Nat} {Q : Option AV → St → Prop} {st : List AV} {σ : St} {l1 l2 l3 : Option AV} {x : Option (Nat × Nat × Nat)} : Rn (d) Q (218, 1489, [some (vR x), l1, l2, l3], st, σ) = Rn (d) Q (218, 1490, [some (vR x), l1, l2, l3], vR x :: st, σ) := E_aload_n i218_1489 rfl
theorem i218_1490 : ins 218 1490 = some (.iload_n 3, 1) := (congrArg (fun x : PTy => x.1.lookup 1490) q218).trans rfl
theorem e218_1490 {d : Nat} {Q : Option AV → St → Prop} {st : List AV} {σ : St} {l0 l1 l2 : Option AV} {x : Int32} : Rn (d) Q (218, 1490, [l0, l1, l2, some (vI x)], st, σ) = Rn (d) Q (218, 1491, [l0, l1, l2, some (vI x)], vI x :: st, σ) := E_iload_n i218_1490 rfl
theorem i218_1491 : ins 218 1491 = some (.iconst 3, 1) := (congrArg (fun x : PTy => x.1.lookup 1491) q218).trans rfl
theorem e218_1491 {d : Nat} {Q : Option AV → St → Prop} {st : List AV} {σ : St} {l0 l1 l2 l3 : Option AV} : Rn (d) Q (218, 1491, [l0, l1, l2, l3], st, σ) = Rn (d) Q (218, 1492, [l0, l1, l2, l3], vI 3 :: st, σ) := by rw [E_iconst i218_1491, ci_3]
theorem i218_1492 : ins 218 1492 = some (.iadd, 1) := (congrArg (fun x : PTy => x.1.lookup 1492) q218).trans rfl
theorem e218_1492 {d : Nat} {Q : Option AV → St → Prop} {st : List AV} {σ : St} {l0 l1 l2 l3 : Option AV} {x y : Int32} : Rn (d) Q (218, 1492, [l0, l1, l2, l3], vI y :: vI x :: st, σ) = Rn (d) Q (218, 1493, [l0, l1, l2, l3], vI (x + y) :: st, σ) := E_iadd i218_1492
theorem i218_1493 : ins 218 1493 = some (.iaload, 1) := (congrArg (fun x : PTy => x.1.lookup 1493) q218).trans rfl
theorem e218_1493 {d : Nat} {Q : Option AV → St → Prop} {st : List AV} {σ : St} {l0 l1 l2 l3 : Option AV} {i : Nat} {j : Int32} : Rn (d) Q (218, 1493, [l0, l1, l2, l3], vI j :: vR (some (13, 1, i)) :: st, σ) = (∃ n, gL σ 13 0 i = some n ∧ i < gN σ 13 ∧ (0 ≤ j.toInt ∧ j.toInt < n) ∧ Rn (d) Q (218, 1494, [l0, l1, l2, l3], vI (gA σ 13 0 i j.toNatClampNeg) :: st, σ)) := E_iaload1 i218_1493 rfl
theorem i218_1494 : ins 218 1494 = some (.invokevirtual 157, 3) := (congrArg (fun x : PTy => x.1.lookup 1494) q218).trans rfl
theorem e218_1494 {d : Nat} {Q : Option AV → St → Prop} {st : List AV} {σ : St} {l0 l1 l2 l3 : Option AV} {i : Nat} {a1 : Int32} {a2 : Int32} {a3 : Int32} : Rn (d + 1) Q (218, 1494, [l0, l1, l2, l3], vI a3 :: vI a2 :: vI a1 :: vR (some (11, 0, i)) :: st, σ) = (i < gN σ 11 ∧ catS st ≤ 8 ∧ Rn d (fun r σ' => Rn (d + 1) Q (218, 1497, [l0, l1, l2, l3], r.toList ++ st, σ')) (100, 0, [some (vR (some (11, 0, i))), some (vI a1), some (vI a2), some (vI a3), none], [], σ)) := E_invV (a := [vI a3, vI a2, vI a1]) i218_1494 ((congrArg (fun z => mthQ z 157) o218).trans m13_157) o100 rfl (ek100 i a1 a2 a3) (en100 i a1 a2 a3)
theorem i218_1497 : ins 218 1497 = some (.aload_n 2, 1) := (congrArg (fun x : PTy => x.1.lookup 1497) q218).trans rfl
theorem e218_1497 {d : Nat} {Q : Option AV → St → Prop} {st : List AV} {σ : St} {l0 l1 l3 : Option AV} {x : Option (Nat × Nat × Nat)} : Rn (d) Q (218, 1497, [l0, l1, some (vR x), l3], st, σ) = Rn (d) Q (218, 1498, [l0, l1, some (vR x), l3], vR x :: st, σ) := E_aload_n i218_1497 rfl
theorem i218_1498 : ins 218 1498 = some (.aload_n 0, 1) := (congrArg (fun x : PTy => x.1.lookup 1498) q218).trans rfl
theorem e218_1498 {d : Nat} {Q : Option AV → St → Prop} {st : List AV} {σ : St} {l1 l2 l3 : Option AV} {x : Option (Nat × Nat × Nat)} : Rn (d) Q (218, 1498, [some (vR x), l1, l2, l3], st, σ) = Rn (d) Q (218, 1499, [some (vR x), l1, l2, l3], vR x :: st, σ) := E_aload_n i218_1498 rfl
theorem i218_1499 : ins 218 1499 = some (.iload_n 3, 1) := (congrArg (fun x : PTy => x.1.lookup 1499) q218).trans rfl
theorem e218_1499 {d : Nat} {Q : Option AV → St → Prop} {st : List AV} {σ : St} {l0 l1 l2 : Option AV} {x : Int32} : Rn (d) Q (218, 1499, [l0, l1, l2, some (vI x)], st, σ) = Rn (d) Q (218, 1500, [l0, l1, l2, some (vI x)], vI x :: st, σ) := E_iload_n i218_1499 rfl
theorem i218_1500 : ins 218 1500 = some (.iconst 1, 1) := (congrArg (fun x : PTy => x.1.lookup 1500) q218).trans rfl
theorem e218_1500 {d : Nat} {Q : Option AV → St → Prop} {st : List AV} {σ : St} {l0 l1 l2 l3 : Option AV} : Rn (d) Q (218, 1500, [l0, l1, l2, l3], st, σ) = Rn (d) Q (218, 1501, [l0, l1, l2, l3], vI 1 :: st, σ) := by rw [E_iconst i218_1500, ci_1]
theorem i218_1501 : ins 218 1501 = some (.iadd, 1) := (congrArg (fun x : PTy => x.1.lookup 1501) q218).trans rfl
theorem e218_1501 {d : Nat} {Q : Option AV → St → Prop} {st : List AV} {σ : St} {l0 l1 l2 l3 : Option AV} {x y : Int32} : Rn (d) Q (218, 1501, [l0, l1, l2, l3], vI y :: vI x :: st, σ) = Rn (d) Q (218, 1502, [l0, l1, l2, l3], vI (x + y) :: st, σ) := E_iadd i218_1501
theorem i218_1502 : ins 218 1502 = some (.iaload, 1) := (congrArg (fun x : PTy => x.1.lookup 1502) q218).trans rfl
theorem e218_1502 {d : Nat} {Q : Option AV → St → Prop} {st : List AV} {σ : St} {l0 l1 l2 l3 : Option AV} {i : Nat} {j : Int32} : Rn (d) Q (218, 1502, [l0, l1, l2, l3], vI j :: vR (some (13, 1, i)) :: st, σ) = (∃ n, gL σ 13 0 i = some n ∧ i < gN σ 13 ∧ (0 ≤ j.toInt ∧ j.toInt < n) ∧ Rn (d) Q (218, 1503, [l0, l1, l2, l3], vI (gA σ 13 0 i j.toNatClampNeg) :: st, σ)) := E_iaload1 i218_1502 rfl
theorem i218_1503 : ins 218 1503 = some (.aload_n 0, 1) := (congrArg (fun x : PTy => x.1.lookup 1503) q218).trans rfl
theorem e218_1503 {d : Nat} {Q : Option AV → St → Prop} {st : List AV} {σ : St} {l1 l2 l3 : Option AV} {x : Option (Nat × Nat × Nat)} : Rn (d) Q (218, 1503, [some (vR x), l1, l2, l3], st, σ) = Rn (d) Q (218, 1504, [some (vR x), l1, l2, l3], vR x :: st, σ) := E_aload_n i218_1503 rfl
theorem i218_1504 : ins 218 1504 = some (.iload_n 3, 1) := (congrArg (fun x : PTy => x.1.lookup 1504) q218).trans rfl
theorem e218_1504 {d : Nat} {Q : Option AV → St → Prop} {st : List AV} {σ : St} {l0 l1 l2 : Option AV} {x : Int32} : Rn (d) Q (218, 1504, [l0, l1, l2, some (vI x)], st, σ) = Rn (d) Q (218, 1505, [l0, l1, l2, some (vI x)], vI x :: st, σ) := E_iload_n i218_1504 rfl
theorem i218_1505 : ins 218 1505 = some (.iconst 2, 1) := (congrArg (fun x : PTy => x.1.lookup 1505) q218).trans rfl
theorem e218_1505 {d : Nat} {Q : Option AV → St → Prop} {st : List AV} {σ : St} {l0 l1 l2 l3 : Option AV} : Rn (d) Q (218, 1505, [l0, l1, l2, l3], st, σ) = Rn (d) Q (218, 1506, [l0, l1, l2, l3], vI 2 :: st, σ) := by rw [E_iconst i218_1505, ci_2]
theorem i218_1506 : ins 218 1506 = some (.iadd, 1) := (congrArg (fun x : PTy => x.1.lookup 1506) q218).trans rfl
theorem e218_1506 {d : Nat} {Q : Option AV → St → Prop} {st : List AV} {σ : St} {l0 l1 l2 l3 : Option AV} {x y : Int32} : Rn (d) Q (218, 1506, [l0, l1, l2, l3], vI y :: vI x :: st, σ) = Rn (d) Q (218, 1507, [l0, l1, l2, l3], vI (x + y) :: st, σ) := E_iadd i218_1506
theorem i218_1507 : ins 218 1507 = some (.iaload, 1) := (congrArg (fun x : PTy => x.1.lookup 1507) q218).trans rfl
theorem e218_1507 {d : Nat} {Q : Option AV → St → Prop} {st : List AV} {σ : St} {l0 l1 l2 l3 : Option AV} {i : Nat} {j : Int32} : Rn (d) Q (218, 1507, [l0, l1, l2, l3], vI j :: vR (some (13, 1, i)) :: st, σ) = (∃ n, gL σ 13 0 i = some n ∧ i < gN σ 13 ∧ (0 ≤ j.toInt ∧ j.toInt < n) ∧ Rn (d) Q (218, 1508, [l0, l1, l2, l3], vI (gA σ 13 0 i j.toNatClampNeg) :: st, σ)) := E_iaload1 i218_1507 rfl
theorem i218_1508 : ins 218 1508 = some (.aload_n 0, 1) := (congrArg (fun x : PTy => x.1.lookup 1508) q218).trans rfl
theorem e218_1508 {d : Nat} {Q : Option AV → St → Prop} {st : List AV} {σ : St} {l1 l2 l3 : Option AV} {x : Option (Nat × Nat × Nat)} : Rn (d) Q (218, 1508, [some (vR x), l1, l2, l3], st, σ) = Rn (d) Q (218, 1509, [some (vR x), l1, l2, l3], vR x :: st, σ) := E_aload_n i218_1508 rfl
theorem i218_1509 : ins 218 1509 = some (.iload_n 3, 1) := (congrArg (fun x : PTy => x.1.lookup 1509) q218).trans rfl
theorem e218_1509 {d : Nat} {Q : Option AV → St → Prop} {st : List AV} {σ : St} {l0 l1 l2 : Option AV} {x : Int32} : Rn (d) Q (218, 1509, [l0, l1, l2, some (vI x)], st, σ) = Rn (d) Q (218, 1510, [l0, l1, l2, some (vI x)], vI x :: st, σ) := E_iload_n i218_1509 rfl
theorem i218_1510 : ins 218 1510 = some (.iconst 3, 1) := (congrArg (fun x : PTy => x.1.lookup 1510) q218).trans rfl
theorem e218_1510 {d : Nat} {Q : Option AV → St → Prop} {st : List AV} {σ : St} {l0 l1 l2 l3 : Option AV} : Rn (d) Q (218, 1510, [l0, l1, l2, l3], st, σ) = Rn (d) Q (218, 1511, [l0, l1, l2, l3], vI 3 :: st, σ) := by rw [E_iconst i218_1510, ci_3]
theorem i218_1511 : ins 218 1511 = some (.iadd, 1) := (congrArg (fun x : PTy => x.1.lookup 1511) q218).trans rfl
theorem e218_1511 {d : Nat} {Q : Option AV → St → Prop} {st : List AV} {σ : St} {l0 l1 l2 l3 : Option AV} {x y : Int32} : Rn (d) Q (218, 1511, [l0, l1, l2, l3], vI y :: vI x :: st, σ) = Rn (d) Q (218, 1512, [l0, l1, l2, l3], vI (x + y) :: st, σ) := E_iadd i218_1511
theorem i218_1512 : ins 218 1512 = some (.iaload, 1) := (congrArg (fun x : PTy => x.1.lookup 1512) q218).trans rfl
theorem e218_1512 {d : Nat} {Q : Option AV → St → Prop} {st : List AV} {σ : St} {l0 l1 l2 l3 : Option AV} {i : Nat} {j : Int32} : Rn (d) Q (218, 1512, [l0, l1, l2, l3], vI j :: vR (some (13, 1, i)) :: st, σ) = (∃ n, gL σ 13 0 i = some n ∧ i < gN σ 13 ∧ (0 ≤ j.toInt ∧ j.toInt < n) ∧ Rn (d) Q (218, 1513, [l0, l1, l2, l3], vI (gA σ 13 0 i j.toNatClampNeg) :: st, σ)) := E_iaload1 i218_1512 rfl
theorem i218_1513 : ins 218 1513 = some (.invokevirtual 160, 3) := (congrArg (fun x : PTy => x.1.lookup 1513) q218).trans rfl
theorem e218_1513 {d : Nat} {Q : Option AV → St → Prop} {st : List AV} {σ : St} {l0 l1 l2 l3 : Option AV} {i : Nat} {a1 : Int32} {a2 : Int32} {a3 : Int32} : Rn (d + 1) Q (218, 1513, [l0, l1, l2, l3], vI a3 :: vI a2 :: vI a1 :: vR (some (12, 0, i)) :: st, σ) = (i < gN σ 12 ∧ catS st ≤ 8 ∧ Rn d (fun r σ' => Rn (d + 1) Q (218, 1516, [l0, l1, l2, l3], r.toList ++ st, σ')) (205, 0, [some (vR (some (12, 0, i))), some (vI a1), some (vI a2), some (vI a3)], [], σ)) := E_invV (a := [vI a3, vI a2, vI a1]) i218_1513 ((congrArg (fun z => mthQ z 160) o218).trans m13_160) o205 rfl (ek205 i a1 a2 a3) (en205 i a1 a2 a3)
theorem i218_1516 : ins 218 1516 = some (.if_icmp .eq 296, 3) := (congrArg (fun x : PTy => x.1.lookup 1516) q218).trans rfl
theorem e218_1516 {d : Nat} {Q : Option AV → St → Prop} {st : List AV} {σ : St} {l0 l1 l2 l3 : Option AV} {x y : Int32} : Rn (d) Q (218, 1516, [l0, l1, l2, l3], vI y :: vI x :: st, σ) = (if x = y then Rn (d) Q (218, 1812, [l0, l1, l2, l3], st, σ) else Rn (d) Q (218, 1519, [l0, l1, l2, l3], st, σ)) := E_icmp_eq 1812 i218_1516 (by decide)
theorem i218_1519 : ins 218 1519 = some (.iconst 0, 1) := (congrArg (fun x : PTy => x.1.lookup 1519) q218).trans rfl
theorem e218_1519 {d : Nat} {Q : Option AV → St → Prop} {st : List AV} {σ : St} {l0 l1 l2 l3 : Option AV} : Rn (d) Q (218, 1519, [l0, l1, l2, l3], st, σ) = Rn (d) Q (218, 1520, [l0, l1, l2, l3], vI 0 :: st, σ) := by rw [E_iconst i218_1519, ci_0]
theorem i218_1520 : ins 218 1520 = some (.ireturn, 1) := (congrArg (fun x : PTy => x.1.lookup 1520) q218).trans rfl
theorem e218_1520 {d : Nat} {Q : Option AV → St → Prop} {st : List AV} {σ : St} {l0 l1 l2 l3 : Option AV} {x : Int32} : Rn (d) Q (218, 1520, [l0, l1, l2, l3], [vI x], σ) = ((x = 0 ∨ x = 1) ∧ Q (some (vI x)) σ) := E_iretZ (st := []) i218_1520 r218
theorem i218_1521 : ins 218 1521 = some (.aload_n 1, 1) := (congrArg (fun x : PTy => x.1.lookup 1521) q218).trans rfl
theorem e218_1521 {d : Nat} {Q : Option AV → St → Prop} {st : List AV} {σ : St} {l0 l2 l3 : Option AV} {x : Option (Nat × Nat × Nat)} : Rn (d) Q (218, 1521, [l0, some (vR x), l2, l3], st, σ) = Rn (d) Q (218, 1522, [l0, some (vR x), l2, l3], vR x :: st, σ) := E_aload_n i218_1521 rfl
theorem i218_1522 : ins 218 1522 = some (.aload_n 0, 1) := (congrArg (fun x : PTy => x.1.lookup 1522) q218).trans rfl
theorem e218_1522 {d : Nat} {Q : Option AV → St → Prop} {st : List AV} {σ : St} {l1 l2 l3 : Option AV} {x : Option (Nat × Nat × Nat)} : Rn (d) Q (218, 1522, [some (vR x), l1, l2, l3], st, σ) = Rn (d) Q (218, 1523, [some (vR x), l1, l2, l3], vR x :: st, σ) := E_aload_n i218_1522 rfl
theorem i218_1523 : ins 218 1523 = some (.iload_n 3, 1) := (congrArg (fun x : PTy => x.1.lookup 1523) q218).trans rfl
theorem e218_1523 {d : Nat} {Q : Option AV → St → Prop} {st : List AV} {σ : St} {l0 l1 l2 : Option AV} {x : Int32} : Rn (d) Q (218, 1523, [l0, l1, l2, some (vI x)], st, σ) = Rn (d) Q (218, 1524, [l0, l1, l2, some (vI x)], vI x :: st, σ) := E_iload_n i218_1523 rfl
theorem i218_1524 : ins 218 1524 = some (.iconst 1, 1) := (congrArg (fun x : PTy => x.1.lookup 1524) q218).trans rfl
theorem e218_1524 {d : Nat} {Q : Option AV → St → Prop} {st : List AV} {σ : St} {l0 l1 l2 l3 : Option AV} : Rn (d) Q (218, 1524, [l0, l1, l2, l3], st, σ) = Rn (d) Q (218, 1525, [l0, l1, l2, l3], vI 1 :: st, σ) := by rw [E_iconst i218_1524, ci_1]
theorem i218_1525 : ins 218 1525 = some (.iadd, 1) := (congrArg (fun x : PTy => x.1.lookup 1525) q218).trans rfl
theorem e218_1525 {d : Nat} {Q : Option AV → St → Prop} {st : List AV} {σ : St} {l0 l1 l2 l3 : Option AV} {x y : Int32} : Rn (d) Q (218, 1525, [l0, l1, l2, l3], vI y :: vI x :: st, σ) = Rn (d) Q (218, 1526, [l0, l1, l2, l3], vI (x + y) :: st, σ) := E_iadd i218_1525
theorem i218_1526 : ins 218 1526 = some (.iaload, 1) := (congrArg (fun x : PTy => x.1.lookup 1526) q218).trans rfl
theorem e218_1526 {d : Nat} {Q : Option AV → St → Prop} {st : List AV} {σ : St} {l0 l1 l2 l3 : Option AV} {i : Nat} {j : Int32} : Rn (d) Q (218, 1526, [l0, l1, l2, l3], vI j :: vR (some (13, 1, i)) :: st, σ) = (∃ n, gL σ 13 0 i = some n ∧ i < gN σ 13 ∧ (0 ≤ j.toInt ∧ j.toInt < n) ∧ Rn (d) Q (218, 1527, [l0, l1, l2, l3], vI (gA σ 13 0 i j.toNatClampNeg) :: st, σ)) := E_iaload1 i218_1526 rfl
theorem i218_1527 : ins 218 1527 = some (.aload_n 0, 1) := (congrArg (fun x : PTy => x.1.lookup 1527) q218).trans rfl
theorem e218_1527 {d : Nat} {Q : Option AV → St → Prop} {st : List AV} {σ : St} {l1 l2 l3 : Option AV} {x : Option (Nat × Nat × Nat)} : Rn (d) Q (218, 1527, [some (vR x), l1, l2, l3], st, σ) = Rn (d) Q (218, 1528, [some (vR x), l1, l2, l3], vR x :: st, σ) := E_aload_n i218_1527 rfl
theorem i218_1528 : ins 218 1528 = some (.iload_n 3, 1) := (congrArg (fun x : PTy => x.1.lookup 1528) q218).trans rfl
theorem e218_1528 {d : Nat} {Q : Option AV → St → Prop} {st : List AV} {σ : St} {l0 l1 l2 : Option AV} {x : Int32} : Rn (d) Q (218, 1528, [l0, l1, l2, some (vI x)], st, σ) = Rn (d) Q (218, 1529, [l0, l1, l2, some (vI x)], vI x :: st, σ) := E_iload_n i218_1528 rfl
theorem i218_1529 : ins 218 1529 = some (.iconst 2, 1) := (congrArg (fun x : PTy => x.1.lookup 1529) q218).trans rfl
theorem e218_1529 {d : Nat} {Q : Option AV → St → Prop} {st : List AV} {σ : St} {l0 l1 l2 l3 : Option AV} : Rn (d) Q (218, 1529, [l0, l1, l2, l3], st, σ) = Rn (d) Q (218, 1530, [l0, l1, l2, l3], vI 2 :: st, σ) := by rw [E_iconst i218_1529, ci_2]
theorem i218_1530 : ins 218 1530 = some (.iadd, 1) := (congrArg (fun x : PTy => x.1.lookup 1530) q218).trans rfl
theorem e218_1530 {d : Nat} {Q : Option AV → St → Prop} {st : List AV} {σ : St} {l0 l1 l2 l3 : Option AV} {x y : Int32} : Rn (d) Q (218, 1530, [l0, l1, l2, l3], vI y :: vI x :: st, σ) = Rn (d) Q (218, 1531, [l0, l1, l2, l3], vI (x + y) :: st, σ) := E_iadd i218_1530
theorem i218_1531 : ins 218 1531 = some (.iaload, 1) := (congrArg (fun x : PTy => x.1.lookup 1531) q218).trans rfl
theorem e218_1531 {d : Nat} {Q : Option AV → St → Prop} {st : List AV} {σ : St} {l0 l1 l2 l3 : Option AV} {i : Nat} {j : Int32} : Rn (d) Q (218, 1531, [l0, l1, l2, l3], vI j :: vR (some (13, 1, i)) :: st, σ) = (∃ n, gL σ 13 0 i = some n ∧ i < gN σ 13 ∧ (0 ≤ j.toInt ∧ j.toInt < n) ∧ Rn (d) Q (218, 1532, [l0, l1, l2, l3], vI (gA σ 13 0 i j.toNatClampNeg) :: st, σ)) := E_iaload1 i218_1531 rfl
theorem i218_1532 : ins 218 1532 = some (.invokevirtual 161, 3) := (congrArg (fun x : PTy => x.1.lookup 1532) q218).trans rfl
theorem e218_1532 {d : Nat} {Q : Option AV → St → Prop} {st : List AV} {σ : St} {l0 l1 l2 l3 : Option AV} {i : Nat} {a1 : Int32} {a2 : Int32} : Rn (d + 1) Q (218, 1532, [l0, l1, l2, l3], vI a2 :: vI a1 :: vR (some (11, 0, i)) :: st, σ) = (i < gN σ 11 ∧ catS st ≤ 8 ∧ Rn d (fun r σ' => Rn (d + 1) Q (218, 1535, [l0, l1, l2, l3], r.toList ++ st, σ')) (101, 0, [some (vR (some (11, 0, i))), some (vI a1), some (vI a2), none], [], σ)) := E_invV (a := [vI a2, vI a1]) i218_1532 ((congrArg (fun z => mthQ z 161) o218).trans m13_161) o101 rfl (ek101 i a1 a2) (en101 i a1 a2)
theorem i218_1535 : ins 218 1535 = some (.aload_n 2, 1) := (congrArg (fun x : PTy => x.1.lookup 1535) q218).trans rfl
theorem e218_1535 {d : Nat} {Q : Option AV → St → Prop} {st : List AV} {σ : St} {l0 l1 l3 : Option AV} {x : Option (Nat × Nat × Nat)} : Rn (d) Q (218, 1535, [l0, l1, some (vR x), l3], st, σ) = Rn (d) Q (218, 1536, [l0, l1, some (vR x), l3], vR x :: st, σ) := E_aload_n i218_1535 rfl
theorem i218_1536 : ins 218 1536 = some (.aload_n 0, 1) := (congrArg (fun x : PTy => x.1.lookup 1536) q218).trans rfl
theorem e218_1536 {d : Nat} {Q : Option AV → St → Prop} {st : List AV} {σ : St} {l1 l2 l3 : Option AV} {x : Option (Nat × Nat × Nat)} : Rn (d) Q (218, 1536, [some (vR x), l1, l2, l3], st, σ) = Rn (d) Q (218, 1537, [some (vR x), l1, l2, l3], vR x :: st, σ) := E_aload_n i218_1536 rfl
theorem i218_1537 : ins 218 1537 = some (.iload_n 3, 1) := (congrArg (fun x : PTy => x.1.lookup 1537) q218).trans rfl
theorem e218_1537 {d : Nat} {Q : Option AV → St → Prop} {st : List AV} {σ : St} {l0 l1 l2 : Option AV} {x : Int32} : Rn (d) Q (218, 1537, [l0, l1, l2, some (vI x)], st, σ) = Rn (d) Q (218, 1538, [l0, l1, l2, some (vI x)], vI x :: st, σ) := E_iload_n i218_1537 rfl
theorem i218_1538 : ins 218 1538 = some (.iconst 1, 1) := (congrArg (fun x : PTy => x.1.lookup 1538) q218).trans rfl
theorem e218_1538 {d : Nat} {Q : Option AV → St → Prop} {st : List AV} {σ : St} {l0 l1 l2 l3 : Option AV} : Rn (d) Q (218, 1538, [l0, l1, l2, l3], st, σ) = Rn (d) Q (218, 1539, [l0, l1, l2, l3], vI 1 :: st, σ) := by rw [E_iconst i218_1538, ci_1]
theorem i218_1539 : ins 218 1539 = some (.iadd, 1) := (congrArg (fun x : PTy => x.1.lookup 1539) q218).trans rfl
theorem e218_1539 {d : Nat} {Q : Option AV → St → Prop} {st : List AV} {σ : St} {l0 l1 l2 l3 : Option AV} {x y : Int32} : Rn (d) Q (218, 1539, [l0, l1, l2, l3], vI y :: vI x :: st, σ) = Rn (d) Q (218, 1540, [l0, l1, l2, l3], vI (x + y) :: st, σ) := E_iadd i218_1539
theorem i218_1540 : ins 218 1540 = some (.iaload, 1) := (congrArg (fun x : PTy => x.1.lookup 1540) q218).trans rfl
theorem e218_1540 {d : Nat} {Q : Option AV → St → Prop} {st : List AV} {σ : St} {l0 l1 l2 l3 : Option AV} {i : Nat} {j : Int32} : Rn (d) Q (218, 1540, [l0, l1, l2, l3], vI j :: vR (some (13, 1, i)) :: st, σ) = (∃ n, gL σ 13 0 i = some n ∧ i < gN σ 13 ∧ (0 ≤ j.toInt ∧ j.toInt < n) ∧ Rn (d) Q (218, 1541, [l0, l1, l2, l3], vI (gA σ 13 0 i j.toNatClampNeg) :: st, σ)) := E_iaload1 i218_1540 rfl
theorem i218_1541 : ins 218 1541 = some (.aload_n 0, 1) := (congrArg (fun x : PTy => x.1.lookup 1541) q218).trans rfl
theorem e218_1541 {d : Nat} {Q : Option AV → St → Prop} {st : List AV} {σ : St} {l1 l2 l3 : Option AV} {x : Option (Nat × Nat × Nat)} : Rn (d) Q (218, 1541, [some (vR x), l1, l2, l3], st, σ) = Rn (d) Q (218, 1542, [some (vR x), l1, l2, l3], vR x :: st, σ) := E_aload_n i218_1541 rfl
theorem i218_1542 : ins 218 1542 = some (.iload_n 3, 1) := (congrArg (fun x : PTy => x.1.lookup 1542) q218).trans rfl
theorem e218_1542 {d : Nat} {Q : Option AV → St → Prop} {st : List AV} {σ : St} {l0 l1 l2 : Option AV} {x : Int32} : Rn (d) Q (218, 1542, [l0, l1, l2, some (vI x)], st, σ) = Rn (d) Q (218, 1543, [l0, l1, l2, some (vI x)], vI x :: st, σ) := E_iload_n i218_1542 rfl
theorem i218_1543 : ins 218 1543 = some (.iconst 2, 1) := (congrArg (fun x : PTy => x.1.lookup 1543) q218).trans rfl
theorem e218_1543 {d : Nat} {Q : Option AV → St → Prop} {st : List AV} {σ : St} {l0 l1 l2 l3 : Option AV} : Rn (d) Q (218, 1543, [l0, l1, l2, l3], st, σ) = Rn (d) Q (218, 1544, [l0, l1, l2, l3], vI 2 :: st, σ) := by rw [E_iconst i218_1543, ci_2]
theorem i218_1544 : ins 218 1544 = some (.iadd, 1) := (congrArg (fun x : PTy => x.1.lookup 1544) q218).trans rfl
theorem e218_1544 {d : Nat} {Q : Option AV → St → Prop} {st : List AV} {σ : St} {l0 l1 l2 l3 : Option AV} {x y : Int32} : Rn (d) Q (218, 1544, [l0, l1, l2, l3], vI y :: vI x :: st, σ) = Rn (d) Q (218, 1545, [l0, l1, l2, l3], vI (x + y) :: st, σ) := E_iadd i218_1544
theorem i218_1545 : ins 218 1545 = some (.iaload, 1) := (congrArg (fun x : PTy => x.1.lookup 1545) q218).trans rfl
theorem e218_1545 {d : Nat} {Q : Option AV → St → Prop} {st : List AV} {σ : St} {l0 l1 l2 l3 : Option AV} {i : Nat} {j : Int32} : Rn (d) Q (218, 1545, [l0, l1, l2, l3], vI j :: vR (some (13, 1, i)) :: st, σ) = (∃ n, gL σ 13 0 i = some n ∧ i < gN σ 13 ∧ (0 ≤ j.toInt ∧ j.toInt < n) ∧ Rn (d) Q (218, 1546, [l0, l1, l2, l3], vI (gA σ 13 0 i j.toNatClampNeg) :: st, σ)) := E_iaload1 i218_1545 rfl
theorem i218_1546 : ins 218 1546 = some (.invokevirtual 164, 3) := (congrArg (fun x : PTy => x.1.lookup 1546) q218).trans rfl
theorem e218_1546 {d : Nat} {Q : Option AV → St → Prop} {st : List AV} {σ : St} {l0 l1 l2 l3 : Option AV} {i : Nat} {a1 : Int32} {a2 : Int32} : Rn (d + 1) Q (218, 1546, [l0, l1, l2, l3], vI a2 :: vI a1 :: vR (some (12, 0, i)) :: st, σ) = (i < gN σ 12 ∧ catS st ≤ 8 ∧ Rn d (fun r σ' => Rn (d + 1) Q (218, 1549, [l0, l1, l2, l3], r.toList ++ st, σ')) (207, 0, [some (vR (some (12, 0, i))), some (vI a1), some (vI a2), none, none, none, none], [], σ)) := E_invV (a := [vI a2, vI a1]) i218_1546 ((congrArg (fun z => mthQ z 164) o218).trans m13_164) o207 rfl (ek207 i a1 a2) (en207 i a1 a2)
theorem i218_1549 : ins 218 1549 = some (.if_icmp .eq 263, 3) := (congrArg (fun x : PTy => x.1.lookup 1549) q218).trans rfl
theorem e218_1549 {d : Nat} {Q : Option AV → St → Prop} {st : List AV} {σ : St} {l0 l1 l2 l3 : Option AV} {x y : Int32} : Rn (d) Q (218, 1549, [l0, l1, l2, l3], vI y :: vI x :: st, σ) = (if x = y then Rn (d) Q (218, 1812, [l0, l1, l2, l3], st, σ) else Rn (d) Q (218, 1552, [l0, l1, l2, l3], st, σ)) := E_icmp_eq 1812 i218_1549 (by decide)
theorem i218_1552 : ins 218 1552 = some (.iconst 0, 1) := (congrArg (fun x : PTy => x.1.lookup 1552) q218).trans rfl
theorem e218_1552 {d : Nat} {Q : Option AV → St → Prop} {st : List AV} {σ : St} {l0 l1 l2 l3 : Option AV} : Rn (d) Q (218, 1552, [l0, l1, l2, l3], st, σ) = Rn (d) Q (218, 1553, [l0, l1, l2, l3], vI 0 :: st, σ) := by rw [E_iconst i218_1552, ci_0]
theorem i218_1553 : ins 218 1553 = some (.ireturn, 1) := (congrArg (fun x : PTy => x.1.lookup 1553) q218).trans rfl
theorem e218_1553 {d : Nat} {Q : Option AV → St → Prop} {st : List AV} {σ : St} {l0 l1 l2 l3 : Option AV} {x : Int32} : Rn (d) Q (218, 1553, [l0, l1, l2, l3], [vI x], σ) = ((x = 0 ∨ x = 1) ∧ Q (some (vI x)) σ) := E_iretZ (st := []) i218_1553 r218
theorem i218_1554 : ins 218 1554 = some (.aload_n 1, 1) := (congrArg (fun x : PTy => x.1.lookup 1554) q218).trans rfl
theorem e218_1554 {d : Nat} {Q : Option AV → St → Prop} {st : List AV} {σ : St} {l0 l2 l3 : Option AV} {x : Option (Nat × Nat × Nat)} : Rn (d) Q (218, 1554, [l0, some (vR x), l2, l3], st, σ) = Rn (d) Q (218, 1555, [l0, some (vR x), l2, l3], vR x :: st, σ) := E_aload_n i218_1554 rfl
theorem i218_1555 : ins 218 1555 = some (.aload_n 0, 1) := (congrArg (fun x : PTy => x.1.lookup 1555) q218).trans rfl
theorem e218_1555 {d : Nat} {Q : Option AV → St → Prop} {st : List AV} {σ : St} {l1 l2 l3 : Option AV} {x : Option (Nat × Nat × Nat)} : Rn (d) Q (218, 1555, [some (vR x), l1, l2, l3], st, σ) = Rn (d) Q (218, 1556, [some (vR x), l1, l2, l3], vR x :: st, σ) := E_aload_n i218_1555 rfl
theorem i218_1556 : ins 218 1556 = some (.iload_n 3, 1) := (congrArg (fun x : PTy => x.1.lookup 1556) q218).trans rfl
theorem e218_1556 {d : Nat} {Q : Option AV → St → Prop} {st : List AV} {σ : St} {l0 l1 l2 : Option AV} {x : Int32} : Rn (d) Q (218, 1556, [l0, l1, l2, some (vI x)], st, σ) = Rn (d) Q (218, 1557, [l0, l1, l2, some (vI x)], vI x :: st, σ) := E_iload_n i218_1556 rfl
theorem i218_1557 : ins 218 1557 = some (.iconst 1, 1) := (congrArg (fun x : PTy => x.1.lookup 1557) q218).trans rfl
theorem e218_1557 {d : Nat} {Q : Option AV → St → Prop} {st : List AV} {σ : St} {l0 l1 l2 l3 : Option AV} : Rn (d) Q (218, 1557, [l0, l1, l2, l3], st, σ) = Rn (d) Q (218, 1558, [l0, l1, l2, l3], vI 1 :: st, σ) := by rw [E_iconst i218_1557, ci_1]
theorem i218_1558 : ins 218 1558 = some (.iadd, 1) := (congrArg (fun x : PTy => x.1.lookup 1558) q218).trans rfl
theorem e218_1558 {d : Nat} {Q : Option AV → St → Prop} {st : List AV} {σ : St} {l0 l1 l2 l3 : Option AV} {x y : Int32} : Rn (d) Q (218, 1558, [l0, l1, l2, l3], vI y :: vI x :: st, σ) = Rn (d) Q (218, 1559, [l0, l1, l2, l3], vI (x + y) :: st, σ) := E_iadd i218_1558
theorem i218_1559 : ins 218 1559 = some (.iaload, 1) := (congrArg (fun x : PTy => x.1.lookup 1559) q218).trans rfl
theorem e218_1559 {d : Nat} {Q : Option AV → St → Prop} {st : List AV} {σ : St} {l0 l1 l2 l3 : Option AV} {i : Nat} {j : Int32} : Rn (d) Q (218, 1559, [l0, l1, l2, l3], vI j :: vR (some (13, 1, i)) :: st, σ) = (∃ n, gL σ 13 0 i = some n ∧ i < gN σ 13 ∧ (0 ≤ j.toInt ∧ j.toInt < n) ∧ Rn (d) Q (218, 1560, [l0, l1, l2, l3], vI (gA σ 13 0 i j.toNatClampNeg) :: st, σ)) := E_iaload1 i218_1559 rfl
theorem i218_1560 : ins 218 1560 = some (.aload_n 0, 1) := (congrArg (fun x : PTy => x.1.lookup 1560) q218).trans rfl
theorem e218_1560 {d : Nat} {Q : Option AV → St → Prop} {st : List AV} {σ : St} {l1 l2 l3 : Option AV} {x : Option (Nat × Nat × Nat)} : Rn (d) Q (218, 1560, [some (vR x), l1, l2, l3], st, σ) = Rn (d) Q (218, 1561, [some (vR x), l1, l2, l3], vR x :: st, σ) := E_aload_n i218_1560 rfl
theorem i218_1561 : ins 218 1561 = some (.iload_n 3, 1) := (congrArg (fun x : PTy => x.1.lookup 1561) q218).trans rfl
theorem e218_1561 {d : Nat} {Q : Option AV → St → Prop} {st : List AV} {σ : St} {l0 l1 l2 : Option AV} {x : Int32} : Rn (d) Q (218, 1561, [l0, l1, l2, some (vI x)], st, σ) = Rn (d) Q (218, 1562, [l0, l1, l2, some (vI x)], vI x :: st, σ) := E_iload_n i218_1561 rfl
theorem i218_1562 : ins 218 1562 = some (.iconst 2, 1) := (congrArg (fun x : PTy => x.1.lookup 1562) q218).trans rfl
theorem e218_1562 {d : Nat} {Q : Option AV → St → Prop} {st : List AV} {σ : St} {l0 l1 l2 l3 : Option AV} : Rn (d) Q (218, 1562, [l0, l1, l2, l3], st, σ) = Rn (d) Q (218, 1563, [l0, l1, l2, l3], vI 2 :: st, σ) := by rw [E_iconst i218_1562, ci_2]
theorem i218_1563 : ins 218 1563 = some (.iadd, 1) := (congrArg (fun x : PTy => x.1.lookup 1563) q218).trans rfl
theorem e218_1563 {d : Nat} {Q : Option AV → St → Prop} {st : List AV} {σ : St} {l0 l1 l2 l3 : Option AV} {x y : Int32} : Rn (d) Q (218, 1563, [l0, l1, l2, l3], vI y :: vI x :: st, σ) = Rn (d) Q (218, 1564, [l0, l1, l2, l3], vI (x + y) :: st, σ) := E_iadd i218_1563
theorem i218_1564 : ins 218 1564 = some (.iaload, 1) := (congrArg (fun x : PTy => x.1.lookup 1564) q218).trans rfl
theorem e218_1564 {d : Nat} {Q : Option AV → St → Prop} {st : List AV} {σ : St} {l0 l1 l2 l3 : Option AV} {i : Nat} {j : Int32} : Rn (d) Q (218, 1564, [l0, l1, l2, l3], vI j :: vR (some (13, 1, i)) :: st, σ) = (∃ n, gL σ 13 0 i = some n ∧ i < gN σ 13 ∧ (0 ≤ j.toInt ∧ j.toInt < n) ∧ Rn (d) Q (218, 1565, [l0, l1, l2, l3], vI (gA σ 13 0 i j.toNatClampNeg) :: st, σ)) := E_iaload1 i218_1564 rfl
theorem i218_1565 : ins 218 1565 = some (.invokevirtual 165, 3) := (congrArg (fun x : PTy => x.1.lookup 1565) q218).trans rfl
theorem e218_1565 {d : Nat} {Q : Option AV → St → Prop} {st : List AV} {σ : St} {l0 l1 l2 l3 : Option AV} {i : Nat} {a1 : Int32} {a2 : Int32} : Rn (d + 1) Q (218, 1565, [l0, l1, l2, l3], vI a2 :: vI a1 :: vR (some (11, 0, i)) :: st, σ) = (i < gN σ 11 ∧ catS st ≤ 8 ∧ Rn d (fun r σ' => Rn (d + 1) Q (218, 1568, [l0, l1, l2, l3], r.toList ++ st, σ')) (102, 0, [some (vR (some (11, 0, i))), some (vI a1), some (vI a2), none], [], σ)) := E_invV (a := [vI a2, vI a1]) i218_1565 ((congrArg (fun z => mthQ z 165) o218).trans m13_165) o102 rfl (ek102 i a1 a2) (en102 i a1 a2)
theorem i218_1568 : ins 218 1568 = some (.aload_n 2, 1) := (congrArg (fun x : PTy => x.1.lookup 1568) q218).trans rfl
theorem e218_1568 {d : Nat} {Q : Option AV → St → Prop} {st : List AV} {σ : St} {l0 l1 l3 : Option AV} {x : Option (Nat × Nat × Nat)} : Rn (d) Q (218, 1568, [l0, l1, some (vR x), l3], st, σ) = Rn (d) Q (218, 1569, [l0, l1, some (vR x), l3], vR x :: st, σ) := E_aload_n i218_1568 rfl
theorem i218_1569 : ins 218 1569 = some (.aload_n 0, 1) := (congrArg (fun x : PTy => x.1.lookup 1569) q218).trans rfl
theorem e218_1569 {d : Nat} {Q : Option AV → St → Prop} {st : List AV} {σ : St} {l1 l2 l3 : Option AV} {x : Option (Nat × Nat × Nat)} : Rn (d) Q (218, 1569, [some (vR x), l1, l2, l3], st, σ) = Rn (d) Q (218, 1570, [some (vR x), l1, l2, l3], vR x :: st, σ) := E_aload_n i218_1569 rfl
theorem i218_1570 : ins 218 1570 = some (.iload_n 3, 1) := (congrArg (fun x : PTy => x.1.lookup 1570) q218).trans rfl
theorem e218_1570 {d : Nat} {Q : Option AV → St → Prop} {st : List AV} {σ : St} {l0 l1 l2 : Option AV} {x : Int32} : Rn (d) Q (218, 1570, [l0, l1, l2, some (vI x)], st, σ) = Rn (d) Q (218, 1571, [l0, l1, l2, some (vI x)], vI x :: st, σ) := E_iload_n i218_1570 rfl
theorem i218_1571 : ins 218 1571 = some (.iconst 1, 1) := (congrArg (fun x : PTy => x.1.lookup 1571) q218).trans rfl
theorem e218_1571 {d : Nat} {Q : Option AV → St → Prop} {st : List AV} {σ : St} {l0 l1 l2 l3 : Option AV} : Rn (d) Q (218, 1571, [l0, l1, l2, l3], st, σ) = Rn (d) Q (218, 1572, [l0, l1, l2, l3], vI 1 :: st, σ) := by rw [E_iconst i218_1571, ci_1]
theorem i218_1572 : ins 218 1572 = some (.iadd, 1) := (congrArg (fun x : PTy => x.1.lookup 1572) q218).trans rfl
theorem e218_1572 {d : Nat} {Q : Option AV → St → Prop} {st : List AV} {σ : St} {l0 l1 l2 l3 : Option AV} {x y : Int32} : Rn (d) Q (218, 1572, [l0, l1, l2, l3], vI y :: vI x :: st, σ) = Rn (d) Q (218, 1573, [l0, l1, l2, l3], vI (x + y) :: st, σ) := E_iadd i218_1572
theorem i218_1573 : ins 218 1573 = some (.iaload, 1) := (congrArg (fun x : PTy => x.1.lookup 1573) q218).trans rfl
theorem e218_1573 {d : Nat} {Q : Option AV → St → Prop} {st : List AV} {σ : St} {l0 l1 l2 l3 : Option AV} {i : Nat} {j : Int32} : Rn (d) Q (218, 1573, [l0, l1, l2, l3], vI j :: vR (some (13, 1, i)) :: st, σ) = (∃ n, gL σ 13 0 i = some n ∧ i < gN σ 13 ∧ (0 ≤ j.toInt ∧ j.toInt < n) ∧ Rn (d) Q (218, 1574, [l0, l1, l2, l3], vI (gA σ 13 0 i j.toNatClampNeg) :: st, σ)) := E_iaload1 i218_1573 rfl
theorem i218_1574 : ins 218 1574 = some (.aload_n 0, 1) := (congrArg (fun x : PTy => x.1.lookup 1574) q218).trans rfl
theorem e218_1574 {d : Nat} {Q : Option AV → St → Prop} {st : List AV} {σ : St} {l1 l2 l3 : Option AV} {x : Option (Nat × Nat × Nat)} : Rn (d) Q (218, 1574, [some (vR x), l1, l2, l3], st, σ) = Rn (d) Q (218, 1575, [some (vR x), l1, l2, l3], vR x :: st, σ) := E_aload_n i218_1574 rfl
theorem i218_1575 : ins 218 1575 = some (.iload_n 3, 1) := (congrArg (fun x : PTy => x.1.lookup 1575) q218).trans rfl
theorem e218_1575 {d : Nat} {Q : Option AV → St → Prop} {st : List AV} {σ : St} {l0 l1 l2 : Option AV} {x : Int32} : Rn (d) Q (218, 1575, [l0, l1, l2, some (vI x)], st, σ) = Rn (d) Q (218, 1576, [l0, l1, l2, some (vI x)], vI x :: st, σ) := E_iload_n i218_1575 rfl
theorem i218_1576 : ins 218 1576 = some (.iconst 2, 1) := (congrArg (fun x : PTy => x.1.lookup 1576) q218).trans rfl
theorem e218_1576 {d : Nat} {Q : Option AV → St → Prop} {st : List AV} {σ : St} {l0 l1 l2 l3 : Option AV} : Rn (d) Q (218, 1576, [l0, l1, l2, l3], st, σ) = Rn (d) Q (218, 1577, [l0, l1, l2, l3], vI 2 :: st, σ) := by rw [E_iconst i218_1576, ci_2]
theorem i218_1577 : ins 218 1577 = some (.iadd, 1) := (congrArg (fun x : PTy => x.1.lookup 1577) q218).trans rfl
theorem e218_1577 {d : Nat} {Q : Option AV → St → Prop} {st : List AV} {σ : St} {l0 l1 l2 l3 : Option AV} {x y : Int32} : Rn (d) Q (218, 1577, [l0, l1, l2, l3], vI y :: vI x :: st, σ) = Rn (d) Q (218, 1578, [l0, l1, l2, l3], vI (x + y) :: st, σ) := E_iadd i218_1577
theorem i218_1578 : ins 218 1578 = some (.iaload, 1) := (congrArg (fun x : PTy => x.1.lookup 1578) q218).trans rfl
theorem e218_1578 {d : Nat} {Q : Option AV → St → Prop} {st : List AV} {σ : St} {l0 l1 l2 l3 : Option AV} {i : Nat} {j : Int32} : Rn (d) Q (218, 1578, [l0, l1, l2, l3], vI j :: vR (some (13, 1, i)) :: st, σ) = (∃ n, gL σ 13 0 i = some n ∧ i < gN σ 13 ∧ (0 ≤ j.toInt ∧ j.toInt < n) ∧ Rn (d) Q (218, 1579, [l0, l1, l2, l3], vI (gA σ 13 0 i j.toNatClampNeg) :: st, σ)) := E_iaload1 i218_1578 rfl
theorem i218_1579 : ins 218 1579 = some (.invokevirtual 168, 3) := (congrArg (fun x : PTy => x.1.lookup 1579) q218).trans rfl
theorem e218_1579 {d : Nat} {Q : Option AV → St → Prop} {st : List AV} {σ : St} {l0 l1 l2 l3 : Option AV} {i : Nat} {a1 : Int32} {a2 : Int32} : Rn (d + 1) Q (218, 1579, [l0, l1, l2, l3], vI a2 :: vI a1 :: vR (some (12, 0, i)) :: st, σ) = (i < gN σ 12 ∧ catS st ≤ 8 ∧ Rn d (fun r σ' => Rn (d + 1) Q (218, 1582, [l0, l1, l2, l3], r.toList ++ st, σ')) (208, 0, [some (vR (some (12, 0, i))), some (vI a1), some (vI a2), none, none], [], σ)) := E_invV (a := [vI a2, vI a1]) i218_1579 ((congrArg (fun z => mthQ z 168) o218).trans m13_168) o208 rfl (ek208 i a1 a2) (en208 i a1 a2)
theorem i218_1582 : ins 218 1582 = some (.if_icmp .eq 230, 3) := (congrArg (fun x : PTy => x.1.lookup 1582) q218).trans rfl
theorem e218_1582 {d : Nat} {Q : Option AV → St → Prop} {st : List AV} {σ : St} {l0 l1 l2 l3 : Option AV} {x y : Int32} : Rn (d) Q (218, 1582, [l0, l1, l2, l3], vI y :: vI x :: st, σ) = (if x = y then Rn (d) Q (218, 1812, [l0, l1, l2, l3], st, σ) else Rn (d) Q (218, 1585, [l0, l1, l2, l3], st, σ)) := E_icmp_eq 1812 i218_1582 (by decide)
theorem i218_1585 : ins 218 1585 = some (.iconst 0, 1) := (congrArg (fun x : PTy => x.1.lookup 1585) q218).trans rfl
theorem e218_1585 {d : Nat} {Q : Option AV → St → Prop} {st : List AV} {σ : St} {l0 l1 l2 l3 : Option AV} : Rn (d) Q (218, 1585, [l0, l1, l2, l3], st, σ) = Rn (d) Q (218, 1586, [l0, l1, l2, l3], vI 0 :: st, σ) := by rw [E_iconst i218_1585, ci_0]
theorem i218_1586 : ins 218 1586 = some (.ireturn, 1) := (congrArg (fun x : PTy => x.1.lookup 1586) q218).trans rfl
theorem e218_1586 {d : Nat} {Q : Option AV → St → Prop} {st : List AV} {σ : St} {l0 l1 l2 l3 : Option AV} {x : Int32} : Rn (d) Q (218, 1586, [l0, l1, l2, l3], [vI x], σ) = ((x = 0 ∨ x = 1) ∧ Q (some (vI x)) σ) := E_iretZ (st := []) i218_1586 r218
theorem i218_1587 : ins 218 1587 = some (.aload_n 1, 1) := (congrArg (fun x : PTy => x.1.lookup 1587) q218).trans rfl
theorem e218_1587 {d : Nat} {Q : Option AV → St → Prop} {st : List AV} {σ : St} {l0 l2 l3 : Option AV} {x : Option (Nat × Nat × Nat)} : Rn (d) Q (218, 1587, [l0, some (vR x), l2, l3], st, σ) = Rn (d) Q (218, 1588, [l0, some (vR x), l2, l3], vR x :: st, σ) := E_aload_n i218_1587 rfl
theorem i218_1588 : ins 218 1588 = some (.aload_n 0, 1) := (congrArg (fun x : PTy => x.1.lookup 1588) q218).trans rfl
theorem e218_1588 {d : Nat} {Q : Option AV → St → Prop} {st : List AV} {σ : St} {l1 l2 l3 : Option AV} {x : Option (Nat × Nat × Nat)} : Rn (d) Q (218, 1588, [some (vR x), l1, l2, l3], st, σ) = Rn (d) Q (218, 1589, [some (vR x), l1, l2, l3], vR x :: st, σ) := E_aload_n i218_1588 rfl
theorem i218_1589 : ins 218 1589 = some (.iload_n 3, 1) := (congrArg (fun x : PTy => x.1.lookup 1589) q218).trans rfl
theorem e218_1589 {d : Nat} {Q : Option AV → St → Prop} {st : List AV} {σ : St} {l0 l1 l2 : Option AV} {x : Int32} : Rn (d) Q (218, 1589, [l0, l1, l2, some (vI x)], st, σ) = Rn (d) Q (218, 1590, [l0, l1, l2, some (vI x)], vI x :: st, σ) := E_iload_n i218_1589 rfl
theorem i218_1590 : ins 218 1590 = some (.iconst 1, 1) := (congrArg (fun x : PTy => x.1.lookup 1590) q218).trans rfl
theorem e218_1590 {d : Nat} {Q : Option AV → St → Prop} {st : List AV} {σ : St} {l0 l1 l2 l3 : Option AV} : Rn (d) Q (218, 1590, [l0, l1, l2, l3], st, σ) = Rn (d) Q (218, 1591, [l0, l1, l2, l3], vI 1 :: st, σ) := by rw [E_iconst i218_1590, ci_1]
theorem i218_1591 : ins 218 1591 = some (.iadd, 1) := (congrArg (fun x : PTy => x.1.lookup 1591) q218).trans rfl
theorem e218_1591 {d : Nat} {Q : Option AV → St → Prop} {st : List AV} {σ : St} {l0 l1 l2 l3 : Option AV} {x y : Int32} : Rn (d) Q (218, 1591, [l0, l1, l2, l3], vI y :: vI x :: st, σ) = Rn (d) Q (218, 1592, [l0, l1, l2, l3], vI (x + y) :: st, σ) := E_iadd i218_1591
theorem i218_1592 : ins 218 1592 = some (.iaload, 1) := (congrArg (fun x : PTy => x.1.lookup 1592) q218).trans rfl
theorem e218_1592 {d : Nat} {Q : Option AV → St → Prop} {st : List AV} {σ : St} {l0 l1 l2 l3 : Option AV} {i : Nat} {j : Int32} : Rn (d) Q (218, 1592, [l0, l1, l2, l3], vI j :: vR (some (13, 1, i)) :: st, σ) = (∃ n, gL σ 13 0 i = some n ∧ i < gN σ 13 ∧ (0 ≤ j.toInt ∧ j.toInt < n) ∧ Rn (d) Q (218, 1593, [l0, l1, l2, l3], vI (gA σ 13 0 i j.toNatClampNeg) :: st, σ)) := E_iaload1 i218_1592 rfl
theorem i218_1593 : ins 218 1593 = some (.aload_n 0, 1) := (congrArg (fun x : PTy => x.1.lookup 1593) q218).trans rfl
theorem e218_1593 {d : Nat} {Q : Option AV → St → Prop} {st : List AV} {σ : St} {l1 l2 l3 : Option AV} {x : Option (Nat × Nat × Nat)} : Rn (d) Q (218, 1593, [some (vR x), l1, l2, l3], st, σ) = Rn (d) Q (218, 1594, [some (vR x), l1, l2, l3], vR x :: st, σ) := E_aload_n i218_1593 rfl
theorem i218_1594 : ins 218 1594 = some (.iload_n 3, 1) := (congrArg (fun x : PTy => x.1.lookup 1594) q218).trans rfl
theorem e218_1594 {d : Nat} {Q : Option AV → St → Prop} {st : List AV} {σ : St} {l0 l1 l2 : Option AV} {x : Int32} : Rn (d) Q (218, 1594, [l0, l1, l2, some (vI x)], st, σ) = Rn (d) Q (218, 1595, [l0, l1, l2, some (vI x)], vI x :: st, σ) := E_iload_n i218_1594 rfl
theorem i218_1595 : ins 218 1595 = some (.iconst 2, 1) := (congrArg (fun x : PTy => x.1.lookup 1595) q218).trans rfl
theorem e218_1595 {d : Nat} {Q : Option AV → St → Prop} {st : List AV} {σ : St} {l0 l1 l2 l3 : Option AV} : Rn (d) Q (218, 1595, [l0, l1, l2, l3], st, σ) = Rn (d) Q (218, 1596, [l0, l1, l2, l3], vI 2 :: st, σ) := by rw [E_iconst i218_1595, ci_2]
theorem i218_1596 : ins 218 1596 = some (.iadd, 1) := (congrArg (fun x : PTy => x.1.lookup 1596) q218).trans rfl
theorem e218_1596 {d : Nat} {Q : Option AV → St → Prop} {st : List AV} {σ : St} {l0 l1 l2 l3 : Option AV} {x y : Int32} : Rn (d) Q (218, 1596, [l0, l1, l2, l3], vI y :: vI x :: st, σ) = Rn (d) Q (218, 1597, [l0, l1, l2, l3], vI (x + y) :: st, σ) := E_iadd i218_1596
theorem i218_1597 : ins 218 1597 = some (.iaload, 1) := (congrArg (fun x : PTy => x.1.lookup 1597) q218).trans rfl
theorem e218_1597 {d : Nat} {Q : Option AV → St → Prop} {st : List AV} {σ : St} {l0 l1 l2 l3 : Option AV} {i : Nat} {j : Int32} : Rn (d) Q (218, 1597, [l0, l1, l2, l3], vI j :: vR (some (13, 1, i)) :: st, σ) = (∃ n, gL σ 13 0 i = some n ∧ i < gN σ 13 ∧ (0 ≤ j.toInt ∧ j.toInt < n) ∧ Rn (d) Q (218, 1598, [l0, l1, l2, l3], vI (gA σ 13 0 i j.toNatClampNeg) :: st, σ)) := E_iaload1 i218_1597 rfl
theorem i218_1598 : ins 218 1598 = some (.aload_n 0, 1) := (congrArg (fun x : PTy => x.1.lookup 1598) q218).trans rfl
theorem e218_1598 {d : Nat} {Q : Option AV → St → Prop} {st : List AV} {σ : St} {l1 l2 l3 : Option AV} {x : Option (Nat × Nat × Nat)} : Rn (d) Q (218, 1598, [some (vR x), l1, l2, l3], st, σ) = Rn (d) Q (218, 1599, [some (vR x), l1, l2, l3], vR x :: st, σ) := E_aload_n i218_1598 rfl
theorem i218_1599 : ins 218 1599 = some (.iload_n 3, 1) := (congrArg (fun x : PTy => x.1.lookup 1599) q218).trans rfl
theorem e218_1599 {d : Nat} {Q : Option AV → St → Prop} {st : List AV} {σ : St} {l0 l1 l2 : Option AV} {x : Int32} : Rn (d) Q (218, 1599, [l0, l1, l2, some (vI x)], st, σ) = Rn (d) Q (218, 1600, [l0, l1, l2, some (vI x)], vI x :: st, σ) := E_iload_n i218_1599 rfl
theorem i218_1600 : ins 218 1600 = some (.iconst 3, 1) := (congrArg (fun x : PTy => x.1.lookup 1600) q218).trans rfl
theorem e218_1600 {d : Nat} {Q : Option AV → St → Prop} {st : List AV} {σ : St} {l0 l1 l2 l3 : Option AV} : Rn (d) Q (218, 1600, [l0, l1, l2, l3], st, σ) = Rn (d) Q (218, 1601, [l0, l1, l2, l3], vI 3 :: st, σ) := by rw [E_iconst i218_1600, ci_3]
theorem i218_1601 : ins 218 1601 = some (.iadd, 1) := (congrArg (fun x : PTy => x.1.lookup 1601) q218).trans rfl
theorem e218_1601 {d : Nat} {Q : Option AV → St → Prop} {st : List AV} {σ : St} {l0 l1 l2 l3 : Option AV} {x y : Int32} : Rn (d) Q (218, 1601, [l0, l1, l2, l3], vI y :: vI x :: st, σ) = Rn (d) Q (218, 1602, [l0, l1, l2, l3], vI (x + y) :: st, σ) := E_iadd i218_1601
theorem i218_1602 : ins 218 1602 = some (.iaload, 1) := (congrArg (fun x : PTy => x.1.lookup 1602) q218).trans rfl
theorem e218_1602 {d : Nat} {Q : Option AV → St → Prop} {st : List AV} {σ : St} {l0 l1 l2 l3 : Option AV} {i : Nat} {j : Int32} : Rn (d) Q (218, 1602, [l0, l1, l2, l3], vI j :: vR (some (13, 1, i)) :: st, σ) = (∃ n, gL σ 13 0 i = some n ∧ i < gN σ 13 ∧ (0 ≤ j.toInt ∧ j.toInt < n) ∧ Rn (d) Q (218, 1603, [l0, l1, l2, l3], vI (gA σ 13 0 i j.toNatClampNeg) :: st, σ)) := E_iaload1 i218_1602 rfl
theorem i218_1603 : ins 218 1603 = some (.invokevirtual 169, 3) := (congrArg (fun x : PTy => x.1.lookup 1603) q218).trans rfl
theorem e218_1603 {d : Nat} {Q : Option AV → St → Prop} {st : List AV} {σ : St} {l0 l1 l2 l3 : Option AV} {i : Nat} {a1 : Int32} {a2 : Int32} {a3 : Int32} : Rn (d + 1) Q (218, 1603, [l0, l1, l2, l3], vI a3 :: vI a2 :: vI a1 :: vR (some (11, 0, i)) :: st, σ) = (i < gN σ 11 ∧ catS st ≤ 8 ∧ Rn d (fun r σ' => Rn (d + 1) Q (218, 1606, [l0, l1, l2, l3], r.toList ++ st, σ')) (103, 0, [some (vR (some (11, 0, i))), some (vI a1), some (vI a2), some (vI a3), none, none, none], [], σ)) := E_invV (a := [vI a3, vI a2, vI a1]) i218_1603 ((congrArg (fun z => mthQ z 169) o218).trans m13_169) o103 rfl (ek103 i a1 a2 a3) (en103 i a1 a2 a3)
theorem i218_1606 : ins 218 1606 = some (.aload_n 2, 1) := (congrArg (fun x : PTy => x.1.lookup 1606) q218).trans rfl
theorem e218_1606 {d : Nat} {Q : Option AV → St → Prop} {st : List AV} {σ : St} {l0 l1 l3 : Option AV} {x : Option (Nat × Nat × Nat)} : Rn (d) Q (218, 1606, [l0, l1, some (vR x), l3], st, σ) = Rn (d) Q (218, 1607, [l0, l1, some (vR x), l3], vR x :: st, σ) := E_aload_n i218_1606 rfl
theorem i218_1607 : ins 218 1607 = some (.aload_n 0, 1) := (congrArg (fun x : PTy => x.1.lookup 1607) q218).trans rfl
theorem e218_1607 {d : Nat} {Q : Option AV → St → Prop} {st : List AV} {σ : St} {l1 l2 l3 : Option AV} {x : Option (Nat × Nat × Nat)} : Rn (d) Q (218, 1607, [some (vR x), l1, l2, l3], st, σ) = Rn (d) Q (218, 1608, [some (vR x), l1, l2, l3], vR x :: st, σ) := E_aload_n i218_1607 rfl
theorem i218_1608 : ins 218 1608 = some (.iload_n 3, 1) := (congrArg (fun x : PTy => x.1.lookup 1608) q218).trans rfl
theorem e218_1608 {d : Nat} {Q : Option AV → St → Prop} {st : List AV} {σ : St} {l0 l1 l2 : Option AV} {x : Int32} : Rn (d) Q (218, 1608, [l0, l1, l2, some (vI x)], st, σ) = Rn (d) Q (218, 1609, [l0, l1, l2, some (vI x)], vI x :: st, σ) := E_iload_n i218_1608 rfl
theorem i218_1609 : ins 218 1609 = some (.iconst 1, 1) := (congrArg (fun x : PTy => x.1.lookup 1609) q218).trans rfl
theorem e218_1609 {d : Nat} {Q : Option AV → St → Prop} {st : List AV} {σ : St} {l0 l1 l2 l3 : Option AV} : Rn (d) Q (218, 1609, [l0, l1, l2, l3], st, σ) = Rn (d) Q (218, 1610, [l0, l1, l2, l3], vI 1 :: st, σ) := by rw [E_iconst i218_1609, ci_1]
theorem i218_1610 : ins 218 1610 = some (.iadd, 1) := (congrArg (fun x : PTy => x.1.lookup 1610) q218).trans rfl
theorem e218_1610 {d : Nat} {Q : Option AV → St → Prop} {st : List AV} {σ : St} {l0 l1 l2 l3 : Option AV} {x y : Int32} : Rn (d) Q (218, 1610, [l0, l1, l2, l3], vI y :: vI x :: st, σ) = Rn (d) Q (218, 1611, [l0, l1, l2, l3], vI (x + y) :: st, σ) := E_iadd i218_1610
theorem i218_1611 : ins 218 1611 = some (.iaload, 1) := (congrArg (fun x : PTy => x.1.lookup 1611) q218).trans rfl
theorem e218_1611 {d : Nat} {Q : Option AV → St → Prop} {st : List AV} {σ : St} {l0 l1 l2 l3 : Option AV} {i : Nat} {j : Int32} : Rn (d) Q (218, 1611, [l0, l1, l2, l3], vI j :: vR (some (13, 1, i)) :: st, σ) = (∃ n, gL σ 13 0 i = some n ∧ i < gN σ 13 ∧ (0 ≤ j.toInt ∧ j.toInt < n) ∧ Rn (d) Q (218, 1612, [l0, l1, l2, l3], vI (gA σ 13 0 i j.toNatClampNeg) :: st, σ)) := E_iaload1 i218_1611 rfl
theorem i218_1612 : ins 218 1612 = some (.aload_n 0, 1) := (congrArg (fun x : PTy => x.1.lookup 1612) q218).trans rfl
theorem e218_1612 {d : Nat} {Q : Option AV → St → Prop} {st : List AV} {σ : St} {l1 l2 l3 : Option AV} {x : Option (Nat × Nat × Nat)} : Rn (d) Q (218, 1612, [some (vR x), l1, l2, l3], st, σ) = Rn (d) Q (218, 1613, [some (vR x), l1, l2, l3], vR x :: st, σ) := E_aload_n i218_1612 rfl
theorem i218_1613 : ins 218 1613 = some (.iload_n 3, 1) := (congrArg (fun x : PTy => x.1.lookup 1613) q218).trans rfl
theorem e218_1613 {d : Nat} {Q : Option AV → St → Prop} {st : List AV} {σ : St} {l0 l1 l2 : Option AV} {x : Int32} : Rn (d) Q (218, 1613, [l0, l1, l2, some (vI x)], st, σ) = Rn (d) Q (218, 1614, [l0, l1, l2, some (vI x)], vI x :: st, σ) := E_iload_n i218_1613 rfl
theorem i218_1614 : ins 218 1614 = some (.iconst 2, 1) := (congrArg (fun x : PTy => x.1.lookup 1614) q218).trans rfl
theorem e218_1614 {d : Nat} {Q : Option AV → St → Prop} {st : List AV} {σ : St} {l0 l1 l2 l3 : Option AV} : Rn (d) Q (218, 1614, [l0, l1, l2, l3], st, σ) = Rn (d) Q (218, 1615, [l0, l1, l2, l3], vI 2 :: st, σ) := by rw [E_iconst i218_1614, ci_2]
theorem i218_1615 : ins 218 1615 = some (.iadd, 1) := (congrArg (fun x : PTy => x.1.lookup 1615) q218).trans rfl
theorem e218_1615 {d : Nat} {Q : Option AV → St → Prop} {st : List AV} {σ : St} {l0 l1 l2 l3 : Option AV} {x y : Int32} : Rn (d) Q (218, 1615, [l0, l1, l2, l3], vI y :: vI x :: st, σ) = Rn (d) Q (218, 1616, [l0, l1, l2, l3], vI (x + y) :: st, σ) := E_iadd i218_1615
theorem i218_1616 : ins 218 1616 = some (.iaload, 1) := (congrArg (fun x : PTy => x.1.lookup 1616) q218).trans rfl
theorem e218_1616 {d : Nat} {Q : Option AV → St → Prop} {st : List AV} {σ : St} {l0 l1 l2 l3 : Option AV} {i : Nat} {j : Int32} : Rn (d) Q (218, 1616, [l0, l1, l2, l3], vI j :: vR (some (13, 1, i)) :: st, σ) = (∃ n, gL σ 13 0 i = some n ∧ i < gN σ 13 ∧ (0 ≤ j.toInt ∧ j.toInt < n) ∧ Rn (d) Q (218, 1617, [l0, l1, l2, l3], vI (gA σ 13 0 i j.toNatClampNeg) :: st, σ)) := E_iaload1 i218_1616 rfl
theorem i218_1617 : ins 218 1617 = some (.aload_n 0, 1) := (congrArg (fun x : PTy => x.1.lookup 1617) q218).trans rfl
theorem e218_1617 {d : Nat} {Q : Option AV → St → Prop} {st : List AV} {σ : St} {l1 l2 l3 : Option AV} {x : Option (Nat × Nat × Nat)} : Rn (d) Q (218, 1617, [some (vR x), l1, l2, l3], st, σ) = Rn (d) Q (218, 1618, [some (vR x), l1, l2, l3], vR x :: st, σ) := E_aload_n i218_1617 rfl
theorem i218_1618 : ins 218 1618 = some (.iload_n 3, 1) := (congrArg (fun x : PTy => x.1.lookup 1618) q218).trans rfl
theorem e218_1618 {d : Nat} {Q : Option AV → St → Prop} {st : List AV} {σ : St} {l0 l1 l2 : Option AV} {x : Int32} : Rn (d) Q (218, 1618, [l0, l1, l2, some (vI x)], st, σ) = Rn (d) Q (218, 1619, [l0, l1, l2, some (vI x)], vI x :: st, σ) := E_iload_n i218_1618 rfl
theorem i218_1619 : ins 218 1619 = some (.iconst 3, 1) := (congrArg (fun x : PTy => x.1.lookup 1619) q218).trans rfl
theorem e218_1619 {d : Nat} {Q : Option AV → St → Prop} {st : List AV} {σ : St} {l0 l1 l2 l3 : Option AV} : Rn (d) Q (218, 1619, [l0, l1, l2, l3], st, σ) = Rn (d) Q (218, 1620, [l0, l1, l2, l3], vI 3 :: st, σ) := by rw [E_iconst i218_1619, ci_3]
theorem i218_1620 : ins 218 1620 = some (.iadd, 1) := (congrArg (fun x : PTy => x.1.lookup 1620) q218).trans rfl
theorem e218_1620 {d : Nat} {Q : Option AV → St → Prop} {st : List AV} {σ : St} {l0 l1 l2 l3 : Option AV} {x y : Int32} : Rn (d) Q (218, 1620, [l0, l1, l2, l3], vI y :: vI x :: st, σ) = Rn (d) Q (218, 1621, [l0, l1, l2, l3], vI (x + y) :: st, σ) := E_iadd i218_1620
theorem i218_1621 : ins 218 1621 = some (.iaload, 1) := (congrArg (fun x : PTy => x.1.lookup 1621) q218).trans rfl
theorem e218_1621 {d : Nat} {Q : Option AV → St → Prop} {st : List AV} {σ : St} {l0 l1 l2 l3 : Option AV} {i : Nat} {j : Int32} : Rn (d) Q (218, 1621, [l0, l1, l2, l3], vI j :: vR (some (13, 1, i)) :: st, σ) = (∃ n, gL σ 13 0 i = some n ∧ i < gN σ 13 ∧ (0 ≤ j.toInt ∧ j.toInt < n) ∧ Rn (d) Q (218, 1622, [l0, l1, l2, l3], vI (gA σ 13 0 i j.toNatClampNeg) :: st, σ)) := E_iaload1 i218_1621 rfl
theorem i218_1622 : ins 218 1622 = some (.invokevirtual 172, 3) := (congrArg (fun x : PTy => x.1.lookup 1622) q218).trans rfl
theorem e218_1622 {d : Nat} {Q : Option AV → St → Prop} {st : List AV} {σ : St} {l0 l1 l2 l3 : Option AV} {i : Nat} {a1 : Int32} {a2 : Int32} {a3 : Int32} : Rn (d + 1) Q (218, 1622, [l0, l1, l2, l3], vI a3 :: vI a2 :: vI a1 :: vR (some (12, 0, i)) :: st, σ) = (i < gN σ 12 ∧ catS st ≤ 8 ∧ Rn d (fun r σ' => Rn (d + 1) Q (218, 1625, [l0, l1, l2, l3], r.toList ++ st, σ')) (209, 0, [some (vR (some (12, 0, i))), some (vI a1), some (vI a2), some (vI a3), none], [], σ)) := E_invV (a := [vI a3, vI a2, vI a1]) i218_1622 ((congrArg (fun z => mthQ z 172) o218).trans m13_172) o209 rfl (ek209 i a1 a2 a3) (en209 i a1 a2 a3)
theorem i218_1625 : ins 218 1625 = some (.if_icmp .eq 187, 3) := (congrArg (fun x : PTy => x.1.lookup 1625) q218).trans rfl
theorem e218_1625 {d : Nat} {Q : Option AV → St → Prop} {st : List AV} {σ : St} {l0 l1 l2 l3 : Option AV} {x y : Int32} : Rn (d) Q (218, 1625, [l0, l1, l2, l3], vI y :: vI x :: st, σ) = (if x = y then Rn (d) Q (218, 1812, [l0, l1, l2, l3], st, σ) else Rn (d) Q (218, 1628, [l0, l1, l2, l3], st, σ)) := E_icmp_eq 1812 i218_1625 (by decide)
theorem i218_1628 : ins 218 1628 = some (.iconst 0, 1) := (congrArg (fun x : PTy => x.1.lookup 1628) q218).trans rfl
theorem e218_1628 {d : Nat} {Q : Option AV → St → Prop} {st : List AV} {σ : St} {l0 l1 l2 l3 : Option AV} : Rn (d) Q (218, 1628, [l0, l1, l2, l3], st, σ) = Rn (d) Q (218, 1629, [l0, l1, l2, l3], vI 0 :: st, σ) := by rw [E_iconst i218_1628, ci_0]
theorem i218_1629 : ins 218 1629 = some (.ireturn, 1) := (congrArg (fun x : PTy => x.1.lookup 1629) q218).trans rfl
theorem e218_1629 {d : Nat} {Q : Option AV → St → Prop} {st : List AV} {σ : St} {l0 l1 l2 l3 : Option AV} {x : Int32} : Rn (d) Q (218, 1629, [l0, l1, l2, l3], [vI x], σ) = ((x = 0 ∨ x = 1) ∧ Q (some (vI x)) σ) := E_iretZ (st := []) i218_1629 r218
theorem i218_1630 : ins 218 1630 = some (.aload_n 1, 1) := (congrArg (fun x : PTy => x.1.lookup 1630) q218).trans rfl
theorem e218_1630 {d : Nat} {Q : Option AV → St → Prop} {st : List AV} {σ : St} {l0 l2 l3 : Option AV} {x : Option (Nat × Nat × Nat)} : Rn (d) Q (218, 1630, [l0, some (vR x), l2, l3], st, σ) = Rn (d) Q (218, 1631, [l0, some (vR x), l2, l3], vR x :: st, σ) := E_aload_n i218_1630 rfl
theorem i218_1631 : ins 218 1631 = some (.aload_n 0, 1) := (congrArg (fun x : PTy => x.1.lookup 1631) q218).trans rfl
theorem e218_1631 {d : Nat} {Q : Option AV → St → Prop} {st : List AV} {σ : St} {l1 l2 l3 : Option AV} {x : Option (Nat × Nat × Nat)} : Rn (d) Q (218, 1631, [some (vR x), l1, l2, l3], st, σ) = Rn (d) Q (218, 1632, [some (vR x), l1, l2, l3], vR x :: st, σ) := E_aload_n i218_1631 rfl
theorem i218_1632 : ins 218 1632 = some (.iload_n 3, 1) := (congrArg (fun x : PTy => x.1.lookup 1632) q218).trans rfl
theorem e218_1632 {d : Nat} {Q : Option AV → St → Prop} {st : List AV} {σ : St} {l0 l1 l2 : Option AV} {x : Int32} : Rn (d) Q (218, 1632, [l0, l1, l2, some (vI x)], st, σ) = Rn (d) Q (218, 1633, [l0, l1, l2, some (vI x)], vI x :: st, σ) := E_iload_n i218_1632 rfl
theorem i218_1633 : ins 218 1633 = some (.iconst 1, 1) := (congrArg (fun x : PTy => x.1.lookup 1633) q218).trans rfl
theorem e218_1633 {d : Nat} {Q : Option AV → St → Prop} {st : List AV} {σ : St} {l0 l1 l2 l3 : Option AV} : Rn (d) Q (218, 1633, [l0, l1, l2, l3], st, σ) = Rn (d) Q (218, 1634, [l0, l1, l2, l3], vI 1 :: st, σ) := by rw [E_iconst i218_1633, ci_1]
theorem i218_1634 : ins 218 1634 = some (.iadd, 1) := (congrArg (fun x : PTy => x.1.lookup 1634) q218).trans rfl
theorem e218_1634 {d : Nat} {Q : Option AV → St → Prop} {st : List AV} {σ : St} {l0 l1 l2 l3 : Option AV} {x y : Int32} : Rn (d) Q (218, 1634, [l0, l1, l2, l3], vI y :: vI x :: st, σ) = Rn (d) Q (218, 1635, [l0, l1, l2, l3], vI (x + y) :: st, σ) := E_iadd i218_1634
theorem i218_1635 : ins 218 1635 = some (.iaload, 1) := (congrArg (fun x : PTy => x.1.lookup 1635) q218).trans rfl
theorem e218_1635 {d : Nat} {Q : Option AV → St → Prop} {st : List AV} {σ : St} {l0 l1 l2 l3 : Option AV} {i : Nat} {j : Int32} : Rn (d) Q (218, 1635, [l0, l1, l2, l3], vI j :: vR (some (13, 1, i)) :: st, σ) = (∃ n, gL σ 13 0 i = some n ∧ i < gN σ 13 ∧ (0 ≤ j.toInt ∧ j.toInt < n) ∧ Rn (d) Q (218, 1636, [l0, l1, l2, l3], vI (gA σ 13 0 i j.toNatClampNeg) :: st, σ)) := E_iaload1 i218_1635 rfl
theorem i218_1636 : ins 218 1636 = some (.aload_n 0, 1) := (congrArg (fun x : PTy => x.1.lookup 1636) q218).trans rfl
theorem e218_1636 {d : Nat} {Q : Option AV → St → Prop} {st : List AV} {σ : St} {l1 l2 l3 : Option AV} {x : Option (Nat × Nat × Nat)} : Rn (d) Q (218, 1636, [some (vR x), l1, l2, l3], st, σ) = Rn (d) Q (218, 1637, [some (vR x), l1, l2, l3], vR x :: st, σ) := E_aload_n i218_1636 rfl
theorem i218_1637 : ins 218 1637 = some (.iload_n 3, 1) := (congrArg (fun x : PTy => x.1.lookup 1637) q218).trans rfl
theorem e218_1637 {d : Nat} {Q : Option AV → St → Prop} {st : List AV} {σ : St} {l0 l1 l2 : Option AV} {x : Int32} : Rn (d) Q (218, 1637, [l0, l1, l2, some (vI x)], st, σ) = Rn (d) Q (218, 1638, [l0, l1, l2, some (vI x)], vI x :: st, σ) := E_iload_n i218_1637 rfl
theorem i218_1638 : ins 218 1638 = some (.iconst 2, 1) := (congrArg (fun x : PTy => x.1.lookup 1638) q218).trans rfl
theorem e218_1638 {d : Nat} {Q : Option AV → St → Prop} {st : List AV} {σ : St} {l0 l1 l2 l3 : Option AV} : Rn (d) Q (218, 1638, [l0, l1, l2, l3], st, σ) = Rn (d) Q (218, 1639, [l0, l1, l2, l3], vI 2 :: st, σ) := by rw [E_iconst i218_1638, ci_2]
theorem i218_1639 : ins 218 1639 = some (.iadd, 1) := (congrArg (fun x : PTy => x.1.lookup 1639) q218).trans rfl
theorem e218_1639 {d : Nat} {Q : Option AV → St → Prop} {st : List AV} {σ : St} {l0 l1 l2 l3 : Option AV} {x y : Int32} : Rn (d) Q (218, 1639, [l0, l1, l2, l3], vI y :: vI x :: st, σ) = Rn (d) Q (218, 1640, [l0, l1, l2, l3], vI (x + y) :: st, σ) := E_iadd i218_1639
theorem i218_1640 : ins 218 1640 = some (.iaload, 1) := (congrArg (fun x : PTy => x.1.lookup 1640) q218).trans rfl
theorem e218_1640 {d : Nat} {Q : Option AV → St → Prop} {st : List AV} {σ : St} {l0 l1 l2 l3 : Option AV} {i : Nat} {j : Int32} : Rn (d) Q (218, 1640, [l0, l1, l2, l3], vI j :: vR (some (13, 1, i)) :: st, σ) = (∃ n, gL σ 13 0 i = some n ∧ i < gN σ 13 ∧ (0 ≤ j.toInt ∧ j.toInt < n) ∧ Rn (d) Q (218, 1641, [l0, l1, l2, l3], vI (gA σ 13 0 i j.toNatClampNeg) :: st, σ)) := E_iaload1 i218_1640 rfl
theorem i218_1641 : ins 218 1641 = some (.aload_n 0, 1) := (congrArg (fun x : PTy => x.1.lookup 1641) q218).trans rfl
theorem e218_1641 {d : Nat} {Q : Option AV → St → Prop} {st : List AV} {σ : St} {l1 l2 l3 : Option AV} {x : Option (Nat × Nat × Nat)} : Rn (d) Q (218, 1641, [some (vR x), l1, l2, l3], st, σ) = Rn (d) Q (218, 1642, [some (vR x), l1, l2, l3], vR x :: st, σ) := E_aload_n i218_1641 rfl
theorem i218_1642 : ins 218 1642 = some (.iload_n 3, 1) := (congrArg (fun x : PTy => x.1.lookup 1642) q218).trans rfl
theorem e218_1642 {d : Nat} {Q : Option AV → St → Prop} {st : List AV} {σ : St} {l0 l1 l2 : Option AV} {x : Int32} : Rn (d) Q (218, 1642, [l0, l1, l2, some (vI x)], st, σ) = Rn (d) Q (218, 1643, [l0, l1, l2, some (vI x)], vI x :: st, σ) := E_iload_n i218_1642 rfl
theorem i218_1643 : ins 218 1643 = some (.iconst 3, 1) := (congrArg (fun x : PTy => x.1.lookup 1643) q218).trans rfl
theorem e218_1643 {d : Nat} {Q : Option AV → St → Prop} {st : List AV} {σ : St} {l0 l1 l2 l3 : Option AV} : Rn (d) Q (218, 1643, [l0, l1, l2, l3], st, σ) = Rn (d) Q (218, 1644, [l0, l1, l2, l3], vI 3 :: st, σ) := by rw [E_iconst i218_1643, ci_3]
theorem i218_1644 : ins 218 1644 = some (.iadd, 1) := (congrArg (fun x : PTy => x.1.lookup 1644) q218).trans rfl
theorem e218_1644 {d : Nat} {Q : Option AV → St → Prop} {st : List AV} {σ : St} {l0 l1 l2 l3 : Option AV} {x y : Int32} : Rn (d) Q (218, 1644, [l0, l1, l2, l3], vI y :: vI x :: st, σ) = Rn (d) Q (218, 1645, [l0, l1, l2, l3], vI (x + y) :: st, σ) := E_iadd i218_1644
theorem i218_1645 : ins 218 1645 = some (.iaload, 1) := (congrArg (fun x : PTy => x.1.lookup 1645) q218).trans rfl
theorem e218_1645 {d : Nat} {Q : Option AV → St → Prop} {st : List AV} {σ : St} {l0 l1 l2 l3 : Option AV} {i : Nat} {j : Int32} : Rn (d) Q (218, 1645, [l0, l1, l2, l3], vI j :: vR (some (13, 1, i)) :: st, σ) = (∃ n, gL σ 13 0 i = some n ∧ i < gN σ 13 ∧ (0 ≤ j.toInt ∧ j.toInt < n) ∧ Rn (d) Q (218, 1646, [l0, l1, l2, l3], vI (gA σ 13 0 i j.toNatClampNeg) :: st, σ)) := E_iaload1 i218_1645 rfl
theorem i218_1646 : ins 218 1646 = some (.invokevirtual 173, 3) := (congrArg (fun x : PTy => x.1.lookup 1646) q218).trans rfl
theorem e218_1646 {d : Nat} {Q : Option AV → St → Prop} {st : List AV} {σ : St} {l0 l1 l2 l3 : Option AV} {i : Nat} {a1 : Int32} {a2 : Int32} {a3 : Int32} : Rn (d + 1) Q (218, 1646, [l0, l1, l2, l3], vI a3 :: vI a2 :: vI a1 :: vR (some (11, 0, i)) :: st, σ) = (i < gN σ 11 ∧ catS st ≤ 8 ∧ Rn d (fun r σ' => Rn (d + 1) Q (218, 1649, [l0, l1, l2, l3], r.toList ++ st, σ')) (104, 0, [some (vR (some (11, 0, i))), some (vI a1), some (vI a2), some (vI a3)], [], σ)) := E_invV (a := [vI a3, vI a2, vI a1]) i218_1646 ((congrArg (fun z => mthQ z 173) o218).trans m13_173) o104 rfl (ek104 i a1 a2 a3) (en104 i a1 a2 a3)
theorem i218_1649 : ins 218 1649 = some (.aload_n 2, 1) := (congrArg (fun x : PTy => x.1.lookup 1649) q218).trans rfl
theorem e218_1649 {d : Nat} {Q : Option AV → St → Prop} {st : List AV} {σ : St} {l0 l1 l3 : Option AV} {x : Option (Nat × Nat × Nat)} : Rn (d) Q (218, 1649, [l0, l1, some (vR x), l3], st, σ) = Rn (d) Q (218, 1650, [l0, l1, some (vR x), l3], vR x :: st, σ) := E_aload_n i218_1649 rfl
theorem i218_1650 : ins 218 1650 = some (.aload_n 0, 1) := (congrArg (fun x : PTy => x.1.lookup 1650) q218).trans rfl
theorem e218_1650 {d : Nat} {Q : Option AV → St → Prop} {st : List AV} {σ : St} {l1 l2 l3 : Option AV} {x : Option (Nat × Nat × Nat)} : Rn (d) Q (218, 1650, [some (vR x), l1, l2, l3], st, σ) = Rn (d) Q (218, 1651, [some (vR x), l1, l2, l3], vR x :: st, σ) := E_aload_n i218_1650 rfl
theorem i218_1651 : ins 218 1651 = some (.iload_n 3, 1) := (congrArg (fun x : PTy => x.1.lookup 1651) q218).trans rfl
theorem e218_1651 {d : Nat} {Q : Option AV → St → Prop} {st : List AV} {σ : St} {l0 l1 l2 : Option AV} {x : Int32} : Rn (d) Q (218, 1651, [l0, l1, l2, some (vI x)], st, σ) = Rn (d) Q (218, 1652, [l0, l1, l2, some (vI x)], vI x :: st, σ) := E_iload_n i218_1651 rfl
theorem i218_1652 : ins 218 1652 = some (.iconst 1, 1) := (congrArg (fun x : PTy => x.1.lookup 1652) q218).trans rfl
theorem e218_1652 {d : Nat} {Q : Option AV → St → Prop} {st : List AV} {σ : St} {l0 l1 l2 l3 : Option AV} : Rn (d) Q (218, 1652, [l0, l1, l2, l3], st, σ) = Rn (d) Q (218, 1653, [l0, l1, l2, l3], vI 1 :: st, σ) := by rw [E_iconst i218_1652, ci_1]
theorem i218_1653 : ins 218 1653 = some (.iadd, 1) := (congrArg (fun x : PTy => x.1.lookup 1653) q218).trans rfl
theorem e218_1653 {d : Nat} {Q : Option AV → St → Prop} {st : List AV} {σ : St} {l0 l1 l2 l3 : Option AV} {x y : Int32} : Rn (d) Q (218, 1653, [l0, l1, l2, l3], vI y :: vI x :: st, σ) = Rn (d) Q (218, 1654, [l0, l1, l2, l3], vI (x + y) :: st, σ) := E_iadd i218_1653
theorem i218_1654 : ins 218 1654 = some (.iaload, 1) := (congrArg (fun x : PTy => x.1.lookup 1654) q218).trans rfl
theorem e218_1654 {d : Nat} {Q : Option AV → St → Prop} {st : List AV} {σ : St} {l0 l1 l2 l3 : Option AV} {i : Nat} {j : Int32} : Rn (d) Q (218, 1654, [l0, l1, l2, l3], vI j :: vR (some (13, 1, i)) :: st, σ) = (∃ n, gL σ 13 0 i = some n ∧ i < gN σ 13 ∧ (0 ≤ j.toInt ∧ j.toInt < n) ∧ Rn (d) Q (218, 1655, [l0, l1, l2, l3], vI (gA σ 13 0 i j.toNatClampNeg) :: st, σ)) := E_iaload1 i218_1654 rfl
theorem i218_1655 : ins 218 1655 = some (.aload_n 0, 1) := (congrArg (fun x : PTy => x.1.lookup 1655) q218).trans rfl
theorem e218_1655 {d : Nat} {Q : Option AV → St → Prop} {st : List AV} {σ : St} {l1 l2 l3 : Option AV} {x : Option (Nat × Nat × Nat)} : Rn (d) Q (218, 1655, [some (vR x), l1, l2, l3], st, σ) = Rn (d) Q (218, 1656, [some (vR x), l1, l2, l3], vR x :: st, σ) := E_aload_n i218_1655 rfl
theorem i218_1656 : ins 218 1656 = some (.iload_n 3, 1) := (congrArg (fun x : PTy => x.1.lookup 1656) q218).trans rfl
theorem e218_1656 {d : Nat} {Q : Option AV → St → Prop} {st : List AV} {σ : St} {l0 l1 l2 : Option AV} {x : Int32} : Rn (d) Q (218, 1656, [l0, l1, l2, some (vI x)], st, σ) = Rn (d) Q (218, 1657, [l0, l1, l2, some (vI x)], vI x :: st, σ) := E_iload_n i218_1656 rfl
theorem i218_1657 : ins 218 1657 = some (.iconst 2, 1) := (congrArg (fun x : PTy => x.1.lookup 1657) q218).trans rfl
theorem e218_1657 {d : Nat} {Q : Option AV → St → Prop} {st : List AV} {σ : St} {l0 l1 l2 l3 : Option AV} : Rn (d) Q (218, 1657, [l0, l1, l2, l3], st, σ) = Rn (d) Q (218, 1658, [l0, l1, l2, l3], vI 2 :: st, σ) := by rw [E_iconst i218_1657, ci_2]
theorem i218_1658 : ins 218 1658 = some (.iadd, 1) := (congrArg (fun x : PTy => x.1.lookup 1658) q218).trans rfl
theorem e218_1658 {d : Nat} {Q : Option AV → St → Prop} {st : List AV} {σ : St} {l0 l1 l2 l3 : Option AV} {x y : Int32} : Rn (d) Q (218, 1658, [l0, l1, l2, l3], vI y :: vI x :: st, σ) = Rn (d) Q (218, 1659, [l0, l1, l2, l3], vI (x + y) :: st, σ) := E_iadd i218_1658
theorem i218_1659 : ins 218 1659 = some (.iaload, 1) := (congrArg (fun x : PTy => x.1.lookup 1659) q218).trans rfl
theorem e218_1659 {d : Nat} {Q : Option AV → St → Prop} {st : List AV} {σ : St} {l0 l1 l2 l3 : Option AV} {i : Nat} {j : Int32} : Rn (d) Q (218, 1659, [l0, l1, l2, l3], vI j :: vR (some (13, 1, i)) :: st, σ) = (∃ n, gL σ 13 0 i = some n ∧ i < gN σ 13 ∧ (0 ≤ j.toInt ∧ j.toInt < n) ∧ Rn (d) Q (218, 1660, [l0, l1, l2, l3], vI (gA σ 13 0 i j.toNatClampNeg) :: st, σ)) := E_iaload1 i218_1659 rfl
theorem i218_1660 : ins 218 1660 = some (.aload_n 0, 1) := (congrArg (fun x : PTy => x.1.lookup 1660) q218).trans rfl
theorem e218_1660 {d : Nat} {Q : Option AV → St → Prop} {st : List AV} {σ : St} {l1 l2 l3 : Option AV} {x : Option (Nat × Nat × Nat)} : Rn (d) Q (218, 1660, [some (vR x), l1, l2, l3], st, σ) = Rn (d) Q (218, 1661, [some (vR x), l1, l2, l3], vR x :: st, σ) := E_aload_n i218_1660 rfl
theorem i218_1661 : ins 218 1661 = some (.iload_n 3, 1) := (congrArg (fun x : PTy => x.1.lookup 1661) q218).trans rfl
theorem e218_1661 {d : Nat} {Q : Option AV → St → Prop} {st : List AV} {σ : St} {l0 l1 l2 : Option AV} {x : Int32} : Rn (d) Q (218, 1661, [l0, l1, l2, some (vI x)], st, σ) = Rn (d) Q (218, 1662, [l0, l1, l2, some (vI x)], vI x :: st, σ) := E_iload_n i218_1661 rfl
theorem i218_1662 : ins 218 1662 = some (.iconst 3, 1) := (congrArg (fun x : PTy => x.1.lookup 1662) q218).trans rfl
theorem e218_1662 {d : Nat} {Q : Option AV → St → Prop} {st : List AV} {σ : St} {l0 l1 l2 l3 : Option AV} : Rn (d) Q (218, 1662, [l0, l1, l2, l3], st, σ) = Rn (d) Q (218, 1663, [l0, l1, l2, l3], vI 3 :: st, σ) := by rw [E_iconst i218_1662, ci_3]
theorem i218_1663 : ins 218 1663 = some (.iadd, 1) := (congrArg (fun x : PTy => x.1.lookup 1663) q218).trans rfl
theorem e218_1663 {d : Nat} {Q : Option AV → St → Prop} {st : List AV} {σ : St} {l0 l1 l2 l3 : Option AV} {x y : Int32} : Rn (d) Q (218, 1663, [l0, l1, l2, l3], vI y :: vI x :: st, σ) = Rn (d) Q (218, 1664, [l0, l1, l2, l3], vI (x + y) :: st, σ) := E_iadd i218_1663
theorem i218_1664 : ins 218 1664 = some (.iaload, 1) := (congrArg (fun x : PTy => x.1.lookup 1664) q218).trans rfl
theorem e218_1664 {d : Nat} {Q : Option AV → St → Prop} {st : List AV} {σ : St} {l0 l1 l2 l3 : Option AV} {i : Nat} {j : Int32} : Rn (d) Q (218, 1664, [l0, l1, l2, l3], vI j :: vR (some (13, 1, i)) :: st, σ) = (∃ n, gL σ 13 0 i = some n ∧ i < gN σ 13 ∧ (0 ≤ j.toInt ∧ j.toInt < n) ∧ Rn (d) Q (218, 1665, [l0, l1, l2, l3], vI (gA σ 13 0 i j.toNatClampNeg) :: st, σ)) := E_iaload1 i218_1664 rfl
theorem i218_1665 : ins 218 1665 = some (.invokevirtual 176, 3) := (congrArg (fun x : PTy => x.1.lookup 1665) q218).trans rfl
theorem e218_1665 {d : Nat} {Q : Option AV → St → Prop} {st : List AV} {σ : St} {l0 l1 l2 l3 : Option AV} {i : Nat} {a1 : Int32} {a2 : Int32} {a3 : Int32} : Rn (d + 1) Q (218, 1665, [l0, l1, l2, l3], vI a3 :: vI a2 :: vI a1 :: vR (some (12, 0, i)) :: st, σ) = (i < gN σ 12 ∧ catS st ≤ 8 ∧ Rn d (fun r σ' => Rn (d + 1) Q (218, 1668, [l0, l1, l2, l3], r.toList ++ st, σ')) (211, 0, [some (vR (some (12, 0, i))), some (vI a1), some (vI a2), some (vI a3), none], [], σ)) := E_invV (a := [vI a3, vI a2, vI a1]) i218_1665 ((congrArg (fun z => mthQ z 176) o218).trans m13_176) o211 rfl (ek211 i a1 a2 a3) (en211 i a1 a2 a3)
theorem i218_1668 : ins 218 1668 = some (.if_icmp .eq 144, 3) := (congrArg (fun x : PTy => x.1.lookup 1668) q218).trans rfl
theorem e218_1668 {d : Nat} {Q : Option AV → St → Prop} {st : List AV} {σ : St} {l0 l1 l2 l3 : Option AV} {x y : Int32} : Rn (d) Q (218, 1668, [l0, l1, l2, l3], vI y :: vI x :: st, σ) = (if x = y then Rn (d) Q (218, 1812, [l0, l1, l2, l3], st, σ) else Rn (d) Q (218, 1671, [l0, l1, l2, l3], st, σ)) := E_icmp_eq 1812 i218_1668 (by decide)
theorem i218_1671 : ins 218 1671 = some (.iconst 0, 1) := (congrArg (fun x : PTy => x.1.lookup 1671) q218).trans rfl
theorem e218_1671 {d : Nat} {Q : Option AV → St → Prop} {st : List AV} {σ : St} {l0 l1 l2 l3 : Option AV} : Rn (d) Q (218, 1671, [l0, l1, l2, l3], st, σ) = Rn (d) Q (218, 1672, [l0, l1, l2, l3], vI 0 :: st, σ) := by rw [E_iconst i218_1671, ci_0]
theorem i218_1672 : ins 218 1672 = some (.ireturn, 1) := (congrArg (fun x : PTy => x.1.lookup 1672) q218).trans rfl
theorem e218_1672 {d : Nat} {Q : Option AV → St → Prop} {st : List AV} {σ : St} {l0 l1 l2 l3 : Option AV} {x : Int32} : Rn (d) Q (218, 1672, [l0, l1, l2, l3], [vI x], σ) = ((x = 0 ∨ x = 1) ∧ Q (some (vI x)) σ) := E_iretZ (st := []) i218_1672 r218
theorem i218_1673 : ins 218 1673 = some (.aload_n 1, 1) := (congrArg (fun x : PTy => x.1.lookup 1673) q218).trans rfl
theorem e218_1673 {d : Nat} {Q : Option AV → St → Prop} {st : List AV} {σ : St} {l0 l2 l3 : Option AV} {x : Option (Nat × Nat × Nat)} : Rn (d) Q (218, 1673, [l0, some (vR x), l2, l3], st, σ) = Rn (d) Q (218, 1674, [l0, some (vR x), l2, l3], vR x :: st, σ) := E_aload_n i218_1673 rfl
theorem i218_1674 : ins 218 1674 = some (.aload_n 0, 1) := (congrArg (fun x : PTy => x.1.lookup 1674) q218).trans rfl
theorem e218_1674 {d : Nat} {Q : Option AV → St → Prop} {st : List AV} {σ : St} {l1 l2 l3 : Option AV} {x : Option (Nat × Nat × Nat)} : Rn (d) Q (218, 1674, [some (vR x), l1, l2, l3], st, σ) = Rn (d) Q (218, 1675, [some (vR x), l1, l2, l3], vR x :: st, σ) := E_aload_n i218_1674 rfl
theorem i218_1675 : ins 218 1675 = some (.iload_n 3, 1) := (congrArg (fun x : PTy => x.1.lookup 1675) q218).trans rfl
theorem e218_1675 {d : Nat} {Q : Option AV → St → Prop} {st : List AV} {σ : St} {l0 l1 l2 : Option AV} {x : Int32} : Rn (d) Q (218, 1675, [l0, l1, l2, some (vI x)], st, σ) = Rn (d) Q (218, 1676, [l0, l1, l2, some (vI x)], vI x :: st, σ) := E_iload_n i218_1675 rfl
theorem i218_1676 : ins 218 1676 = some (.iconst 1, 1) := (congrArg (fun x : PTy => x.1.lookup 1676) q218).trans rfl
theorem e218_1676 {d : Nat} {Q : Option AV → St → Prop} {st : List AV} {σ : St} {l0 l1 l2 l3 : Option AV} : Rn (d) Q (218, 1676, [l0, l1, l2, l3], st, σ) = Rn (d) Q (218, 1677, [l0, l1, l2, l3], vI 1 :: st, σ) := by rw [E_iconst i218_1676, ci_1]
theorem i218_1677 : ins 218 1677 = some (.iadd, 1) := (congrArg (fun x : PTy => x.1.lookup 1677) q218).trans rfl
theorem e218_1677 {d : Nat} {Q : Option AV → St → Prop} {st : List AV} {σ : St} {l0 l1 l2 l3 : Option AV} {x y : Int32} : Rn (d) Q (218, 1677, [l0, l1, l2, l3], vI y :: vI x :: st, σ) = Rn (d) Q (218, 1678, [l0, l1, l2, l3], vI (x + y) :: st, σ) := E_iadd i218_1677
theorem i218_1678 : ins 218 1678 = some (.iaload, 1) := (congrArg (fun x : PTy => x.1.lookup 1678) q218).trans rfl
theorem e218_1678 {d : Nat} {Q : Option AV → St → Prop} {st : List AV} {σ : St} {l0 l1 l2 l3 : Option AV} {i : Nat} {j : Int32} : Rn (d) Q (218, 1678, [l0, l1, l2, l3], vI j :: vR (some (13, 1, i)) :: st, σ) = (∃ n, gL σ 13 0 i = some n ∧ i < gN σ 13 ∧ (0 ≤ j.toInt ∧ j.toInt < n) ∧ Rn (d) Q (218, 1679, [l0, l1, l2, l3], vI (gA σ 13 0 i j.toNatClampNeg) :: st, σ)) := E_iaload1 i218_1678 rfl
theorem i218_1679 : ins 218 1679 = some (.invokevirtual 177, 3) := (congrArg (fun x : PTy => x.1.lookup 1679) q218).trans rfl
theorem e218_1679 {d : Nat} {Q : Option AV → St → Prop} {st : List AV} {σ : St} {l0 l1 l2 l3 : Option AV} {i : Nat} {a1 : Int32} : Rn (d + 1) Q (218, 1679, [l0, l1, l2, l3], vI a1 :: vR (some (11, 0, i)) :: st, σ) = (i < gN σ 11 ∧ catS st ≤ 8 ∧ Rn d (fun r σ' => Rn (d + 1) Q (218, 1682, [l0, l1, l2, l3], r.toList ++ st, σ')) (105, 0, [some (vR (some (11, 0, i))), some (vI a1), none], [], σ)) := E_invV (a := [vI a1]) i218_1679 ((congrArg (fun z => mthQ z 177) o218).trans m13_177) o105 rfl (ek105 i a1) (en105 i a1)
theorem i218_1682 : ins 218 1682 = some (.aload_n 2, 1) := (congrArg (fun x : PTy => x.1.lookup 1682) q218).trans rfl
theorem e218_1682 {d : Nat} {Q : Option AV → St → Prop} {st : List AV} {σ : St} {l0 l1 l3 : Option AV} {x : Option (Nat × Nat × Nat)} : Rn (d) Q (218, 1682, [l0, l1, some (vR x), l3], st, σ) = Rn (d) Q (218, 1683, [l0, l1, some (vR x), l3], vR x :: st, σ) := E_aload_n i218_1682 rfl
theorem i218_1683 : ins 218 1683 = some (.aload_n 0, 1) := (congrArg (fun x : PTy => x.1.lookup 1683) q218).trans rfl
theorem e218_1683 {d : Nat} {Q : Option AV → St → Prop} {st : List AV} {σ : St} {l1 l2 l3 : Option AV} {x : Option (Nat × Nat × Nat)} : Rn (d) Q (218, 1683, [some (vR x), l1, l2, l3], st, σ) = Rn (d) Q (218, 1684, [some (vR x), l1, l2, l3], vR x :: st, σ) := E_aload_n i218_1683 rfl
theorem i218_1684 : ins 218 1684 = some (.iload_n 3, 1) := (congrArg (fun x : PTy => x.1.lookup 1684) q218).trans rfl
theorem e218_1684 {d : Nat} {Q : Option AV → St → Prop} {st : List AV} {σ : St} {l0 l1 l2 : Option AV} {x : Int32} : Rn (d) Q (218, 1684, [l0, l1, l2, some (vI x)], st, σ) = Rn (d) Q (218, 1685, [l0, l1, l2, some (vI x)], vI x :: st, σ) := E_iload_n i218_1684 rfl
theorem i218_1685 : ins 218 1685 = some (.iconst 1, 1) := (congrArg (fun x : PTy => x.1.lookup 1685) q218).trans rfl
theorem e218_1685 {d : Nat} {Q : Option AV → St → Prop} {st : List AV} {σ : St} {l0 l1 l2 l3 : Option AV} : Rn (d) Q (218, 1685, [l0, l1, l2, l3], st, σ) = Rn (d) Q (218, 1686, [l0, l1, l2, l3], vI 1 :: st, σ) := by rw [E_iconst i218_1685, ci_1]
theorem i218_1686 : ins 218 1686 = some (.iadd, 1) := (congrArg (fun x : PTy => x.1.lookup 1686) q218).trans rfl
theorem e218_1686 {d : Nat} {Q : Option AV → St → Prop} {st : List AV} {σ : St} {l0 l1 l2 l3 : Option AV} {x y : Int32} : Rn (d) Q (218, 1686, [l0, l1, l2, l3], vI y :: vI x :: st, σ) = Rn (d) Q (218, 1687, [l0, l1, l2, l3], vI (x + y) :: st, σ) := E_iadd i218_1686
theorem i218_1687 : ins 218 1687 = some (.iaload, 1) := (congrArg (fun x : PTy => x.1.lookup 1687) q218).trans rfl
theorem e218_1687 {d : Nat} {Q : Option AV → St → Prop} {st : List AV} {σ : St} {l0 l1 l2 l3 : Option AV} {i : Nat} {j : Int32} : Rn (d) Q (218, 1687, [l0, l1, l2, l3], vI j :: vR (some (13, 1, i)) :: st, σ) = (∃ n, gL σ 13 0 i = some n ∧ i < gN σ 13 ∧ (0 ≤ j.toInt ∧ j.toInt < n) ∧ Rn (d) Q (218, 1688, [l0, l1, l2, l3], vI (gA σ 13 0 i j.toNatClampNeg) :: st, σ)) := E_iaload1 i218_1687 rfl
theorem i218_1688 : ins 218 1688 = some (.invokevirtual 180, 3) := (congrArg (fun x : PTy => x.1.lookup 1688) q218).trans rfl
theorem e218_1688 {d : Nat} {Q : Option AV → St → Prop} {st : List AV} {σ : St} {l0 l1 l2 l3 : Option AV} {i : Nat} {a1 : Int32} : Rn (d + 1) Q (218, 1688, [l0, l1, l2, l3], vI a1 :: vR (some (12, 0, i)) :: st, σ) = (i < gN σ 12 ∧ catS st ≤ 8 ∧ Rn d (fun r σ' => Rn (d + 1) Q (218, 1691, [l0, l1, l2, l3], r.toList ++ st, σ')) (212, 0, [some (vR (some (12, 0, i))), some (vI a1)], [], σ)) := E_invV (a := [vI a1]) i218_1688 ((congrArg (fun z => mthQ z 180) o218).trans m13_180) o212 rfl (ek212 i a1) (en212 i a1)
theorem i218_1691 : ins 218 1691 = some (.if_icmp .eq 121, 3) := (congrArg (fun x : PTy => x.1.lookup 1691) q218).trans rfl
theorem e218_1691 {d : Nat} {Q : Option AV → St → Prop} {st : List AV} {σ : St} {l0 l1 l2 l3 : Option AV} {x y : Int32} : Rn (d) Q (218, 1691, [l0, l1, l2, l3], vI y :: vI x :: st, σ) = (if x = y then Rn (d) Q (218, 1812, [l0, l1, l2, l3], st, σ) else Rn (d) Q (218, 1694, [l0, l1, l2, l3], st, σ)) := E_icmp_eq 1812 i218_1691 (by decide)
theorem i218_1694 : ins 218 1694 = some (.iconst 0, 1) := (congrArg (fun x : PTy => x.1.lookup 1694) q218).trans rfl
theorem e218_1694 {d : Nat} {Q : Option AV → St → Prop} {st : List AV} {σ : St} {l0 l1 l2 l3 : Option AV} : Rn (d) Q (218, 1694, [l0, l1, l2, l3], st, σ) = Rn (d) Q (218, 1695, [l0, l1, l2, l3], vI 0 :: st, σ) := by rw [E_iconst i218_1694, ci_0]
theorem i218_1695 : ins 218 1695 = some (.ireturn, 1) := (congrArg (fun x : PTy => x.1.lookup 1695) q218).trans rfl
theorem e218_1695 {d : Nat} {Q : Option AV → St → Prop} {st : List AV} {σ : St} {l0 l1 l2 l3 : Option AV} {x : Int32} : Rn (d) Q (218, 1695, [l0, l1, l2, l3], [vI x], σ) = ((x = 0 ∨ x = 1) ∧ Q (some (vI x)) σ) := E_iretZ (st := []) i218_1695 r218
theorem i218_1696 : ins 218 1696 = some (.aload_n 1, 1) := (congrArg (fun x : PTy => x.1.lookup 1696) q218).trans rfl
theorem e218_1696 {d : Nat} {Q : Option AV → St → Prop} {st : List AV} {σ : St} {l0 l2 l3 : Option AV} {x : Option (Nat × Nat × Nat)} : Rn (d) Q (218, 1696, [l0, some (vR x), l2, l3], st, σ) = Rn (d) Q (218, 1697, [l0, some (vR x), l2, l3], vR x :: st, σ) := E_aload_n i218_1696 rfl
theorem i218_1697 : ins 218 1697 = some (.aload_n 0, 1) := (congrArg (fun x : PTy => x.1.lookup 1697) q218).trans rfl
theorem e218_1697 {d : Nat} {Q : Option AV → St → Prop} {st : List AV} {σ : St} {l1 l2 l3 : Option AV} {x : Option (Nat × Nat × Nat)} : Rn (d) Q (218, 1697, [some (vR x), l1, l2, l3], st, σ) = Rn (d) Q (218, 1698, [some (vR x), l1, l2, l3], vR x :: st, σ) := E_aload_n i218_1697 rfl
theorem i218_1698 : ins 218 1698 = some (.iload_n 3, 1) := (congrArg (fun x : PTy => x.1.lookup 1698) q218).trans rfl
theorem e218_1698 {d : Nat} {Q : Option AV → St → Prop} {st : List AV} {σ : St} {l0 l1 l2 : Option AV} {x : Int32} : Rn (d) Q (218, 1698, [l0, l1, l2, some (vI x)], st, σ) = Rn (d) Q (218, 1699, [l0, l1, l2, some (vI x)], vI x :: st, σ) := E_iload_n i218_1698 rfl
theorem i218_1699 : ins 218 1699 = some (.iconst 1, 1) := (congrArg (fun x : PTy => x.1.lookup 1699) q218).trans rfl
theorem e218_1699 {d : Nat} {Q : Option AV → St → Prop} {st : List AV} {σ : St} {l0 l1 l2 l3 : Option AV} : Rn (d) Q (218, 1699, [l0, l1, l2, l3], st, σ) = Rn (d) Q (218, 1700, [l0, l1, l2, l3], vI 1 :: st, σ) := by rw [E_iconst i218_1699, ci_1]
theorem i218_1700 : ins 218 1700 = some (.iadd, 1) := (congrArg (fun x : PTy => x.1.lookup 1700) q218).trans rfl
theorem e218_1700 {d : Nat} {Q : Option AV → St → Prop} {st : List AV} {σ : St} {l0 l1 l2 l3 : Option AV} {x y : Int32} : Rn (d) Q (218, 1700, [l0, l1, l2, l3], vI y :: vI x :: st, σ) = Rn (d) Q (218, 1701, [l0, l1, l2, l3], vI (x + y) :: st, σ) := E_iadd i218_1700
theorem i218_1701 : ins 218 1701 = some (.iaload, 1) := (congrArg (fun x : PTy => x.1.lookup 1701) q218).trans rfl
theorem e218_1701 {d : Nat} {Q : Option AV → St → Prop} {st : List AV} {σ : St} {l0 l1 l2 l3 : Option AV} {i : Nat} {j : Int32} : Rn (d) Q (218, 1701, [l0, l1, l2, l3], vI j :: vR (some (13, 1, i)) :: st, σ) = (∃ n, gL σ 13 0 i = some n ∧ i < gN σ 13 ∧ (0 ≤ j.toInt ∧ j.toInt < n) ∧ Rn (d) Q (218, 1702, [l0, l1, l2, l3], vI (gA σ 13 0 i j.toNatClampNeg) :: st, σ)) := E_iaload1 i218_1701 rfl
theorem i218_1702 : ins 218 1702 = some (.aload_n 0, 1) := (congrArg (fun x : PTy => x.1.lookup 1702) q218).trans rfl
theorem e218_1702 {d : Nat} {Q : Option AV → St → Prop} {st : List AV} {σ : St} {l1 l2 l3 : Option AV} {x : Option (Nat × Nat × Nat)} : Rn (d) Q (218, 1702, [some (vR x), l1, l2, l3], st, σ) = Rn (d) Q (218, 1703, [some (vR x), l1, l2, l3], vR x :: st, σ) := E_aload_n i218_1702 rfl
theorem i218_1703 : ins 218 1703 = some (.iload_n 3, 1) := (congrArg (fun x : PTy => x.1.lookup 1703) q218).trans rfl
theorem e218_1703 {d : Nat} {Q : Option AV → St → Prop} {st : List AV} {σ : St} {l0 l1 l2 : Option AV} {x : Int32} : Rn (d) Q (218, 1703, [l0, l1, l2, some (vI x)], st, σ) = Rn (d) Q (218, 1704, [l0, l1, l2, some (vI x)], vI x :: st, σ) := E_iload_n i218_1703 rfl
theorem i218_1704 : ins 218 1704 = some (.iconst 2, 1) := (congrArg (fun x : PTy => x.1.lookup 1704) q218).trans rfl
theorem e218_1704 {d : Nat} {Q : Option AV → St → Prop} {st : List AV} {σ : St} {l0 l1 l2 l3 : Option AV} : Rn (d) Q (218, 1704, [l0, l1, l2, l3], st, σ) = Rn (d) Q (218, 1705, [l0, l1, l2, l3], vI 2 :: st, σ) := by rw [E_iconst i218_1704, ci_2]
theorem i218_1705 : ins 218 1705 = some (.iadd, 1) := (congrArg (fun x : PTy => x.1.lookup 1705) q218).trans rfl
theorem e218_1705 {d : Nat} {Q : Option AV → St → Prop} {st : List AV} {σ : St} {l0 l1 l2 l3 : Option AV} {x y : Int32} : Rn (d) Q (218, 1705, [l0, l1, l2, l3], vI y :: vI x :: st, σ) = Rn (d) Q (218, 1706, [l0, l1, l2, l3], vI (x + y) :: st, σ) := E_iadd i218_1705
theorem i218_1706 : ins 218 1706 = some (.iaload, 1) := (congrArg (fun x : PTy => x.1.lookup 1706) q218).trans rfl
theorem e218_1706 {d : Nat} {Q : Option AV → St → Prop} {st : List AV} {σ : St} {l0 l1 l2 l3 : Option AV} {i : Nat} {j : Int32} : Rn (d) Q (218, 1706, [l0, l1, l2, l3], vI j :: vR (some (13, 1, i)) :: st, σ) = (∃ n, gL σ 13 0 i = some n ∧ i < gN σ 13 ∧ (0 ≤ j.toInt ∧ j.toInt < n) ∧ Rn (d) Q (218, 1707, [l0, l1, l2, l3], vI (gA σ 13 0 i j.toNatClampNeg) :: st, σ)) := E_iaload1 i218_1706 rfl
theorem i218_1707 : ins 218 1707 = some (.aload_n 0, 1) := (congrArg (fun x : PTy => x.1.lookup 1707) q218).trans rfl
theorem e218_1707 {d : Nat} {Q : Option AV → St → Prop} {st : List AV} {σ : St} {l1 l2 l3 : Option AV} {x : Option (Nat × Nat × Nat)} : Rn (d) Q (218, 1707, [some (vR x), l1, l2, l3], st, σ) = Rn (d) Q (218, 1708, [some (vR x), l1, l2, l3], vR x :: st, σ) := E_aload_n i218_1707 rfl
theorem i218_1708 : ins 218 1708 = some (.iload_n 3, 1) := (congrArg (fun x : PTy => x.1.lookup 1708) q218).trans rfl
theorem e218_1708 {d : Nat} {Q : Option AV → St → Prop} {st : List AV} {σ : St} {l0 l1 l2 : Option AV} {x : Int32} : Rn (d) Q (218, 1708, [l0, l1, l2, some (vI x)], st, σ) = Rn (d) Q (218, 1709, [l0, l1, l2, some (vI x)], vI x :: st, σ) := E_iload_n i218_1708 rfl
theorem i218_1709 : ins 218 1709 = some (.iconst 3, 1) := (congrArg (fun x : PTy => x.1.lookup 1709) q218).trans rfl
theorem e218_1709 {d : Nat} {Q : Option AV → St → Prop} {st : List AV} {σ : St} {l0 l1 l2 l3 : Option AV} : Rn (d) Q (218, 1709, [l0, l1, l2, l3], st, σ) = Rn (d) Q (218, 1710, [l0, l1, l2, l3], vI 3 :: st, σ) := by rw [E_iconst i218_1709, ci_3]
theorem i218_1710 : ins 218 1710 = some (.iadd, 1) := (congrArg (fun x : PTy => x.1.lookup 1710) q218).trans rfl
theorem e218_1710 {d : Nat} {Q : Option AV → St → Prop} {st : List AV} {σ : St} {l0 l1 l2 l3 : Option AV} {x y : Int32} : Rn (d) Q (218, 1710, [l0, l1, l2, l3], vI y :: vI x :: st, σ) = Rn (d) Q (218, 1711, [l0, l1, l2, l3], vI (x + y) :: st, σ) := E_iadd i218_1710
theorem i218_1711 : ins 218 1711 = some (.iaload, 1) := (congrArg (fun x : PTy => x.1.lookup 1711) q218).trans rfl
theorem e218_1711 {d : Nat} {Q : Option AV → St → Prop} {st : List AV} {σ : St} {l0 l1 l2 l3 : Option AV} {i : Nat} {j : Int32} : Rn (d) Q (218, 1711, [l0, l1, l2, l3], vI j :: vR (some (13, 1, i)) :: st, σ) = (∃ n, gL σ 13 0 i = some n ∧ i < gN σ 13 ∧ (0 ≤ j.toInt ∧ j.toInt < n) ∧ Rn (d) Q (218, 1712, [l0, l1, l2, l3], vI (gA σ 13 0 i j.toNatClampNeg) :: st, σ)) := E_iaload1 i218_1711 rfl
theorem i218_1712 : ins 218 1712 = some (.aload_n 0, 1) := (congrArg (fun x : PTy => x.1.lookup 1712) q218).trans rfl
theorem e218_1712 {d : Nat} {Q : Option AV → St → Prop} {st : List AV} {σ : St} {l1 l2 l3 : Option AV} {x : Option (Nat × Nat × Nat)} : Rn (d) Q (218, 1712, [some (vR x), l1, l2, l3], st, σ) = Rn (d) Q (218, 1713, [some (vR x), l1, l2, l3], vR x :: st, σ) := E_aload_n i218_1712 rfl
theorem i218_1713 : ins 218 1713 = some (.iload_n 3, 1) := (congrArg (fun x : PTy => x.1.lookup 1713) q218).trans rfl
theorem e218_1713 {d : Nat} {Q : Option AV → St → Prop} {st : List AV} {σ : St} {l0 l1 l2 : Option AV} {x : Int32} : Rn (d) Q (218, 1713, [l0, l1, l2, some (vI x)], st, σ) = Rn (d) Q (218, 1714, [l0, l1, l2, some (vI x)], vI x :: st, σ) := E_iload_n i218_1713 rfl
theorem i218_1714 : ins 218 1714 = some (.iconst 4, 1) := (congrArg (fun x : PTy => x.1.lookup 1714) q218).trans rfl
theorem e218_1714 {d : Nat} {Q : Option AV → St → Prop} {st : List AV} {σ : St} {l0 l1 l2 l3 : Option AV} : Rn (d) Q (218, 1714, [l0, l1, l2, l3], st, σ) = Rn (d) Q (218, 1715, [l0, l1, l2, l3], vI 4 :: st, σ) := by rw [E_iconst i218_1714, ci_4]
theorem i218_1715 : ins 218 1715 = some (.iadd, 1) := (congrArg (fun x : PTy => x.1.lookup 1715) q218).trans rfl
theorem e218_1715 {d : Nat} {Q : Option AV → St → Prop} {st : List AV} {σ : St} {l0 l1 l2 l3 : Option AV} {x y : Int32} : Rn (d) Q (218, 1715, [l0, l1, l2, l3], vI y :: vI x :: st, σ) = Rn (d) Q (218, 1716, [l0, l1, l2, l3], vI (x + y) :: st, σ) := E_iadd i218_1715
theorem i218_1716 : ins 218 1716 = some (.iaload, 1) := (congrArg (fun x : PTy => x.1.lookup 1716) q218).trans rfl
theorem e218_1716 {d : Nat} {Q : Option AV → St → Prop} {st : List AV} {σ : St} {l0 l1 l2 l3 : Option AV} {i : Nat} {j : Int32} : Rn (d) Q (218, 1716, [l0, l1, l2, l3], vI j :: vR (some (13, 1, i)) :: st, σ) = (∃ n, gL σ 13 0 i = some n ∧ i < gN σ 13 ∧ (0 ≤ j.toInt ∧ j.toInt < n) ∧ Rn (d) Q (218, 1717, [l0, l1, l2, l3], vI (gA σ 13 0 i j.toNatClampNeg) :: st, σ)) := E_iaload1 i218_1716 rfl
theorem i218_1717 : ins 218 1717 = some (.invokevirtual 181, 3) := (congrArg (fun x : PTy => x.1.lookup 1717) q218).trans rfl
theorem e218_1717 {d : Nat} {Q : Option AV → St → Prop} {st : List AV} {σ : St} {l0 l1 l2 l3 : Option AV} {i : Nat} {a1 : Int32} {a2 : Int32} {a3 : Int32} {a4 : Int32} : Rn (d + 1) Q (218, 1717, [l0, l1, l2, l3], vI a4 :: vI a3 :: vI a2 :: vI a1 :: vR (some (11, 0, i)) :: st, σ) = (i < gN σ 11 ∧ catS st ≤ 8 ∧ Rn d (fun r σ' => Rn (d + 1) Q (218, 1720, [l0, l1, l2, l3], r.toList ++ st, σ')) (106, 0, [some (vR (some (11, 0, i))), some (vI a1), some (vI a2), some (vI a3), some (vI a4), none], [], σ)) := E_invV (a := [vI a4, vI a3, vI a2, vI a1]) i218_1717 ((congrArg (fun z => mthQ z 181) o218).trans m13_181) o106 rfl (ek106 i a1 a2 a3 a4) (en106 i a1 a2 a3 a4)
theorem i218_1720 : ins 218 1720 = some (.aload_n 2, 1) := (congrArg (fun x : PTy => x.1.lookup 1720) q218).trans rfl
theorem e218_1720 {d : Nat} {Q : Option AV → St → Prop} {st : List AV} {σ : St} {l0 l1 l3 : Option AV} {x : Option (Nat × Nat × Nat)} : Rn (d) Q (218, 1720, [l0, l1, some (vR x), l3], st, σ) = Rn (d) Q (218, 1721, [l0, l1, some (vR x), l3], vR x :: st, σ) := E_aload_n i218_1720 rfl
theorem i218_1721 : ins 218 1721 = some (.aload_n 0, 1) := (congrArg (fun x : PTy => x.1.lookup 1721) q218).trans rfl
theorem e218_1721 {d : Nat} {Q : Option AV → St → Prop} {st : List AV} {σ : St} {l1 l2 l3 : Option AV} {x : Option (Nat × Nat × Nat)} : Rn (d) Q (218, 1721, [some (vR x), l1, l2, l3], st, σ) = Rn (d) Q (218, 1722, [some (vR x), l1, l2, l3], vR x :: st, σ) := E_aload_n i218_1721 rfl
theorem i218_1722 : ins 218 1722 = some (.iload_n 3, 1) := (congrArg (fun x : PTy => x.1.lookup 1722) q218).trans rfl
theorem e218_1722 {d : Nat} {Q : Option AV → St → Prop} {st : List AV} {σ : St} {l0 l1 l2 : Option AV} {x : Int32} : Rn (d) Q (218, 1722, [l0, l1, l2, some (vI x)], st, σ) = Rn (d) Q (218, 1723, [l0, l1, l2, some (vI x)], vI x :: st, σ) := E_iload_n i218_1722 rfl
theorem i218_1723 : ins 218 1723 = some (.iconst 1, 1) := (congrArg (fun x : PTy => x.1.lookup 1723) q218).trans rfl
theorem e218_1723 {d : Nat} {Q : Option AV → St → Prop} {st : List AV} {σ : St} {l0 l1 l2 l3 : Option AV} : Rn (d) Q (218, 1723, [l0, l1, l2, l3], st, σ) = Rn (d) Q (218, 1724, [l0, l1, l2, l3], vI 1 :: st, σ) := by rw [E_iconst i218_1723, ci_1]
theorem i218_1724 : ins 218 1724 = some (.iadd, 1) := (congrArg (fun x : PTy => x.1.lookup 1724) q218).trans rfl
theorem e218_1724 {d : Nat} {Q : Option AV → St → Prop} {st : List AV} {σ : St} {l0 l1 l2 l3 : Option AV} {x y : Int32} : Rn (d) Q (218, 1724, [l0, l1, l2, l3], vI y :: vI x :: st, σ) = Rn (d) Q (218, 1725, [l0, l1, l2, l3], vI (x + y) :: st, σ) := E_iadd i218_1724
theorem i218_1725 : ins 218 1725 = some (.iaload, 1) := (congrArg (fun x : PTy => x.1.lookup 1725) q218).trans rfl
theorem e218_1725 {d : Nat} {Q : Option AV → St → Prop} {st : List AV} {σ : St} {l0 l1 l2 l3 : Option AV} {i : Nat} {j : Int32} : Rn (d) Q (218, 1725, [l0, l1, l2, l3], vI j :: vR (some (13, 1, i)) :: st, σ) = (∃ n, gL σ 13 0 i = some n ∧ i < gN σ 13 ∧ (0 ≤ j.toInt ∧ j.toInt < n) ∧ Rn (d) Q (218, 1726, [l0, l1, l2, l3], vI (gA σ 13 0 i j.toNatClampNeg) :: st, σ)) := E_iaload1 i218_1725 rfl
theorem i218_1726 : ins 218 1726 = some (.aload_n 0, 1) := (congrArg (fun x : PTy => x.1.lookup 1726) q218).trans rfl
theorem e218_1726 {d : Nat} {Q : Option AV → St → Prop} {st : List AV} {σ : St} {l1 l2 l3 : Option AV} {x : Option (Nat × Nat × Nat)} : Rn (d) Q (218, 1726, [some (vR x), l1, l2, l3], st, σ) = Rn (d) Q (218, 1727, [some (vR x), l1, l2, l3], vR x :: st, σ) := E_aload_n i218_1726 rfl
theorem i218_1727 : ins 218 1727 = some (.iload_n 3, 1) := (congrArg (fun x : PTy => x.1.lookup 1727) q218).trans rfl
theorem e218_1727 {d : Nat} {Q : Option AV → St → Prop} {st : List AV} {σ : St} {l0 l1 l2 : Option AV} {x : Int32} : Rn (d) Q (218, 1727, [l0, l1, l2, some (vI x)], st, σ) = Rn (d) Q (218, 1728, [l0, l1, l2, some (vI x)], vI x :: st, σ) := E_iload_n i218_1727 rfl
theorem i218_1728 : ins 218 1728 = some (.iconst 2, 1) := (congrArg (fun x : PTy => x.1.lookup 1728) q218).trans rfl
theorem e218_1728 {d : Nat} {Q : Option AV → St → Prop} {st : List AV} {σ : St} {l0 l1 l2 l3 : Option AV} : Rn (d) Q (218, 1728, [l0, l1, l2, l3], st, σ) = Rn (d) Q (218, 1729, [l0, l1, l2, l3], vI 2 :: st, σ) := by rw [E_iconst i218_1728, ci_2]
theorem i218_1729 : ins 218 1729 = some (.iadd, 1) := (congrArg (fun x : PTy => x.1.lookup 1729) q218).trans rfl
theorem e218_1729 {d : Nat} {Q : Option AV → St → Prop} {st : List AV} {σ : St} {l0 l1 l2 l3 : Option AV} {x y : Int32} : Rn (d) Q (218, 1729, [l0, l1, l2, l3], vI y :: vI x :: st, σ) = Rn (d) Q (218, 1730, [l0, l1, l2, l3], vI (x + y) :: st, σ) := E_iadd i218_1729
theorem i218_1730 : ins 218 1730 = some (.iaload, 1) := (congrArg (fun x : PTy => x.1.lookup 1730) q218).trans rfl
theorem e218_1730 {d : Nat} {Q : Option AV → St → Prop} {st : List AV} {σ : St} {l0 l1 l2 l3 : Option AV} {i : Nat} {j : Int32} : Rn (d) Q (218, 1730, [l0, l1, l2, l3], vI j :: vR (some (13, 1, i)) :: st, σ) = (∃ n, gL σ 13 0 i = some n ∧ i < gN σ 13 ∧ (0 ≤ j.toInt ∧ j.toInt < n) ∧ Rn (d) Q (218, 1731, [l0, l1, l2, l3], vI (gA σ 13 0 i j.toNatClampNeg) :: st, σ)) := E_iaload1 i218_1730 rfl
theorem i218_1731 : ins 218 1731 = some (.aload_n 0, 1) := (congrArg (fun x : PTy => x.1.lookup 1731) q218).trans rfl
theorem e218_1731 {d : Nat} {Q : Option AV → St → Prop} {st : List AV} {σ : St} {l1 l2 l3 : Option AV} {x : Option (Nat × Nat × Nat)} : Rn (d) Q (218, 1731, [some (vR x), l1, l2, l3], st, σ) = Rn (d) Q (218, 1732, [some (vR x), l1, l2, l3], vR x :: st, σ) := E_aload_n i218_1731 rfl
theorem i218_1732 : ins 218 1732 = some (.iload_n 3, 1) := (congrArg (fun x : PTy => x.1.lookup 1732) q218).trans rfl
theorem e218_1732 {d : Nat} {Q : Option AV → St → Prop} {st : List AV} {σ : St} {l0 l1 l2 : Option AV} {x : Int32} : Rn (d) Q (218, 1732, [l0, l1, l2, some (vI x)], st, σ) = Rn (d) Q (218, 1733, [l0, l1, l2, some (vI x)], vI x :: st, σ) := E_iload_n i218_1732 rfl
theorem i218_1733 : ins 218 1733 = some (.iconst 3, 1) := (congrArg (fun x : PTy => x.1.lookup 1733) q218).trans rfl
theorem e218_1733 {d : Nat} {Q : Option AV → St → Prop} {st : List AV} {σ : St} {l0 l1 l2 l3 : Option AV} : Rn (d) Q (218, 1733, [l0, l1, l2, l3], st, σ) = Rn (d) Q (218, 1734, [l0, l1, l2, l3], vI 3 :: st, σ) := by rw [E_iconst i218_1733, ci_3]
theorem i218_1734 : ins 218 1734 = some (.iadd, 1) := (congrArg (fun x : PTy => x.1.lookup 1734) q218).trans rfl
theorem e218_1734 {d : Nat} {Q : Option AV → St → Prop} {st : List AV} {σ : St} {l0 l1 l2 l3 : Option AV} {x y : Int32} : Rn (d) Q (218, 1734, [l0, l1, l2, l3], vI y :: vI x :: st, σ) = Rn (d) Q (218, 1735, [l0, l1, l2, l3], vI (x + y) :: st, σ) := E_iadd i218_1734
theorem i218_1735 : ins 218 1735 = some (.iaload, 1) := (congrArg (fun x : PTy => x.1.lookup 1735) q218).trans rfl
theorem e218_1735 {d : Nat} {Q : Option AV → St → Prop} {st : List AV} {σ : St} {l0 l1 l2 l3 : Option AV} {i : Nat} {j : Int32} : Rn (d) Q (218, 1735, [l0, l1, l2, l3], vI j :: vR (some (13, 1, i)) :: st, σ) = (∃ n, gL σ 13 0 i = some n ∧ i < gN σ 13 ∧ (0 ≤ j.toInt ∧ j.toInt < n) ∧ Rn (d) Q (218, 1736, [l0, l1, l2, l3], vI (gA σ 13 0 i j.toNatClampNeg) :: st, σ)) := E_iaload1 i218_1735 rfl
theorem i218_1736 : ins 218 1736 = some (.aload_n 0, 1) := (congrArg (fun x : PTy => x.1.lookup 1736) q218).trans rfl
theorem e218_1736 {d : Nat} {Q : Option AV → St → Prop} {st : List AV} {σ : St} {l1 l2 l3 : Option AV} {x : Option (Nat × Nat × Nat)} : Rn (d) Q (218, 1736, [some (vR x), l1, l2, l3], st, σ) = Rn (d) Q (218, 1737, [some (vR x), l1, l2, l3], vR x :: st, σ) := E_aload_n i218_1736 rfl
theorem i218_1737 : ins 218 1737 = some (.iload_n 3, 1) := (congrArg (fun x : PTy => x.1.lookup 1737) q218).trans rfl
theorem e218_1737 {d : Nat} {Q : Option AV → St → Prop} {st : List AV} {σ : St} {l0 l1 l2 : Option AV} {x : Int32} : Rn (d) Q (218, 1737, [l0, l1, l2, some (vI x)], st, σ) = Rn (d) Q (218, 1738, [l0, l1, l2, some (vI x)], vI x :: st, σ) := E_iload_n i218_1737 rfl
theorem i218_1738 : ins 218 1738 = some (.iconst 4, 1) := (congrArg (fun x : PTy => x.1.lookup 1738) q218).trans rfl
theorem e218_1738 {d : Nat} {Q : Option AV → St → Prop} {st : List AV} {σ : St} {l0 l1 l2 l3 : Option AV} : Rn (d) Q (218, 1738, [l0, l1, l2, l3], st, σ) = Rn (d) Q (218, 1739, [l0, l1, l2, l3], vI 4 :: st, σ) := by rw [E_iconst i218_1738, ci_4]
theorem i218_1739 : ins 218 1739 = some (.iadd, 1) := (congrArg (fun x : PTy => x.1.lookup 1739) q218).trans rfl
theorem e218_1739 {d : Nat} {Q : Option AV → St → Prop} {st : List AV} {σ : St} {l0 l1 l2 l3 : Option AV} {x y : Int32} : Rn (d) Q (218, 1739, [l0, l1, l2, l3], vI y :: vI x :: st, σ) = Rn (d) Q (218, 1740, [l0, l1, l2, l3], vI (x + y) :: st, σ) := E_iadd i218_1739
theorem i218_1740 : ins 218 1740 = some (.iaload, 1) := (congrArg (fun x : PTy => x.1.lookup 1740) q218).trans rfl
theorem e218_1740 {d : Nat} {Q : Option AV → St → Prop} {st : List AV} {σ : St} {l0 l1 l2 l3 : Option AV} {i : Nat} {j : Int32} : Rn (d) Q (218, 1740, [l0, l1, l2, l3], vI j :: vR (some (13, 1, i)) :: st, σ) = (∃ n, gL σ 13 0 i = some n ∧ i < gN σ 13 ∧ (0 ≤ j.toInt ∧ j.toInt < n) ∧ Rn (d) Q (218, 1741, [l0, l1, l2, l3], vI (gA σ 13 0 i j.toNatClampNeg) :: st, σ)) := E_iaload1 i218_1740 rfl
theorem i218_1741 : ins 218 1741 = some (.invokevirtual 184, 3) := (congrArg (fun x : PTy => x.1.lookup 1741) q218).trans rfl
theorem e218_1741 {d : Nat} {Q : Option AV → St → Prop} {st : List AV} {σ : St} {l0 l1 l2 l3 : Option AV} {i : Nat} {a1 : Int32} {a2 : Int32} {a3 : Int32} {a4 : Int32} : Rn (d + 1) Q (218, 1741, [l0, l1, l2, l3], vI a4 :: vI a3 :: vI a2 :: vI a1 :: vR (some (12, 0, i)) :: st, σ) = (i < gN σ 12 ∧ catS st ≤ 8 ∧ Rn d (fun r σ' => Rn (d + 1) Q (218, 1744, [l0, l1, l2, l3], r.toList ++ st, σ')) (214, 0, [some (vR (some (12, 0, i))), some (vI a1), some (vI a2), some (vI a3), some (vI a4), none], [], σ)) := E_invV (a := [vI a4, vI a3, vI a2, vI a1]) i218_1741 ((congrArg (fun z => mthQ z 184) o218).trans m13_184) o214 rfl (ek214 i a1 a2 a3 a4) (en214 i a1 a2 a3 a4)
theorem i218_1744 : ins 218 1744 = some (.if_icmp .eq 68, 3) := (congrArg (fun x : PTy => x.1.lookup 1744) q218).trans rfl
theorem e218_1744 {d : Nat} {Q : Option AV → St → Prop} {st : List AV} {σ : St} {l0 l1 l2 l3 : Option AV} {x y : Int32} : Rn (d) Q (218, 1744, [l0, l1, l2, l3], vI y :: vI x :: st, σ) = (if x = y then Rn (d) Q (218, 1812, [l0, l1, l2, l3], st, σ) else Rn (d) Q (218, 1747, [l0, l1, l2, l3], st, σ)) := E_icmp_eq 1812 i218_1744 (by decide)
theorem i218_1747 : ins 218 1747 = some (.iconst 0, 1) := (congrArg (fun x : PTy => x.1.lookup 1747) q218).trans rfl
theorem e218_1747 {d : Nat} {Q : Option AV → St → Prop} {st : List AV} {σ : St} {l0 l1 l2 l3 : Option AV} : Rn (d) Q (218, 1747, [l0, l1, l2, l3], st, σ) = Rn (d) Q (218, 1748, [l0, l1, l2, l3], vI 0 :: st, σ) := by rw [E_iconst i218_1747, ci_0]
theorem i218_1748 : ins 218 1748 = some (.ireturn, 1) := (congrArg (fun x : PTy => x.1.lookup 1748) q218).trans rfl
theorem e218_1748 {d : Nat} {Q : Option AV → St → Prop} {st : List AV} {σ : St} {l0 l1 l2 l3 : Option AV} {x : Int32} : Rn (d) Q (218, 1748, [l0, l1, l2, l3], [vI x], σ) = ((x = 0 ∨ x = 1) ∧ Q (some (vI x)) σ) := E_iretZ (st := []) i218_1748 r218
theorem i218_1749 : ins 218 1749 = some (.aload_n 1, 1) := (congrArg (fun x : PTy => x.1.lookup 1749) q218).trans rfl
theorem e218_1749 {d : Nat} {Q : Option AV → St → Prop} {st : List AV} {σ : St} {l0 l2 l3 : Option AV} {x : Option (Nat × Nat × Nat)} : Rn (d) Q (218, 1749, [l0, some (vR x), l2, l3], st, σ) = Rn (d) Q (218, 1750, [l0, some (vR x), l2, l3], vR x :: st, σ) := E_aload_n i218_1749 rfl
theorem i218_1750 : ins 218 1750 = some (.aload_n 0, 1) := (congrArg (fun x : PTy => x.1.lookup 1750) q218).trans rfl
theorem e218_1750 {d : Nat} {Q : Option AV → St → Prop} {st : List AV} {σ : St} {l1 l2 l3 : Option AV} {x : Option (Nat × Nat × Nat)} : Rn (d) Q (218, 1750, [some (vR x), l1, l2, l3], st, σ) = Rn (d) Q (218, 1751, [some (vR x), l1, l2, l3], vR x :: st, σ) := E_aload_n i218_1750 rfl
theorem i218_1751 : ins 218 1751 = some (.iload_n 3, 1) := (congrArg (fun x : PTy => x.1.lookup 1751) q218).trans rfl
theorem e218_1751 {d : Nat} {Q : Option AV → St → Prop} {st : List AV} {σ : St} {l0 l1 l2 : Option AV} {x : Int32} : Rn (d) Q (218, 1751, [l0, l1, l2, some (vI x)], st, σ) = Rn (d) Q (218, 1752, [l0, l1, l2, some (vI x)], vI x :: st, σ) := E_iload_n i218_1751 rfl
theorem i218_1752 : ins 218 1752 = some (.iconst 1, 1) := (congrArg (fun x : PTy => x.1.lookup 1752) q218).trans rfl
theorem e218_1752 {d : Nat} {Q : Option AV → St → Prop} {st : List AV} {σ : St} {l0 l1 l2 l3 : Option AV} : Rn (d) Q (218, 1752, [l0, l1, l2, l3], st, σ) = Rn (d) Q (218, 1753, [l0, l1, l2, l3], vI 1 :: st, σ) := by rw [E_iconst i218_1752, ci_1]
theorem i218_1753 : ins 218 1753 = some (.iadd, 1) := (congrArg (fun x : PTy => x.1.lookup 1753) q218).trans rfl
theorem e218_1753 {d : Nat} {Q : Option AV → St → Prop} {st : List AV} {σ : St} {l0 l1 l2 l3 : Option AV} {x y : Int32} : Rn (d) Q (218, 1753, [l0, l1, l2, l3], vI y :: vI x :: st, σ) = Rn (d) Q (218, 1754, [l0, l1, l2, l3], vI (x + y) :: st, σ) := E_iadd i218_1753
theorem i218_1754 : ins 218 1754 = some (.iaload, 1) := (congrArg (fun x : PTy => x.1.lookup 1754) q218).trans rfl
theorem e218_1754 {d : Nat} {Q : Option AV → St → Prop} {st : List AV} {σ : St} {l0 l1 l2 l3 : Option AV} {i : Nat} {j : Int32} : Rn (d) Q (218, 1754, [l0, l1, l2, l3], vI j :: vR (some (13, 1, i)) :: st, σ) = (∃ n, gL σ 13 0 i = some n ∧ i < gN σ 13 ∧ (0 ≤ j.toInt ∧ j.toInt < n) ∧ Rn (d) Q (218, 1755, [l0, l1, l2, l3], vI (gA σ 13 0 i j.toNatClampNeg) :: st, σ)) := E_iaload1 i218_1754 rfl
theorem i218_1755 : ins 218 1755 = some (.aload_n 0, 1) := (congrArg (fun x : PTy => x.1.lookup 1755) q218).trans rfl
theorem e218_1755 {d : Nat} {Q : Option AV → St → Prop} {st : List AV} {σ : St} {l1 l2 l3 : Option AV} {x : Option (Nat × Nat × Nat)} : Rn (d) Q (218, 1755, [some (vR x), l1, l2, l3], st, σ) = Rn (d) Q (218, 1756, [some (vR x), l1, l2, l3], vR x :: st, σ) := E_aload_n i218_1755 rfl
theorem i218_1756 : ins 218 1756 = some (.iload_n 3, 1) := (congrArg (fun x : PTy => x.1.lookup 1756) q218).trans rfl
theorem e218_1756 {d : Nat} {Q : Option AV → St → Prop} {st : List AV} {σ : St} {l0 l1 l2 : Option AV} {x : Int32} : Rn (d) Q (218, 1756, [l0, l1, l2, some (vI x)], st, σ) = Rn (d) Q (218, 1757, [l0, l1, l2, some (vI x)], vI x :: st, σ) := E_iload_n i218_1756 rfl
theorem i218_1757 : ins 218 1757 = some (.iconst 2, 1) := (congrArg (fun x : PTy => x.1.lookup 1757) q218).trans rfl
theorem e218_1757 {d : Nat} {Q : Option AV → St → Prop} {st : List AV} {σ : St} {l0 l1 l2 l3 : Option AV} : Rn (d) Q (218, 1757, [l0, l1, l2, l3], st, σ) = Rn (d) Q (218, 1758, [l0, l1, l2, l3], vI 2 :: st, σ) := by rw [E_iconst i218_1757, ci_2]
theorem i218_1758 : ins 218 1758 = some (.iadd, 1) := (congrArg (fun x : PTy => x.1.lookup 1758) q218).trans rfl
theorem e218_1758 {d : Nat} {Q : Option AV → St → Prop} {st : List AV} {σ : St} {l0 l1 l2 l3 : Option AV} {x y : Int32} : Rn (d) Q (218, 1758, [l0, l1, l2, l3], vI y :: vI x :: st, σ) = Rn (d) Q (218, 1759, [l0, l1, l2, l3], vI (x + y) :: st, σ) := E_iadd i218_1758
theorem i218_1759 : ins 218 1759 = some (.iaload, 1) := (congrArg (fun x : PTy => x.1.lookup 1759) q218).trans rfl
theorem e218_1759 {d : Nat} {Q : Option AV → St → Prop} {st : List AV} {σ : St} {l0 l1 l2 l3 : Option AV} {i : Nat} {j : Int32} : Rn (d) Q (218, 1759, [l0, l1, l2, l3], vI j :: vR (some (13, 1, i)) :: st, σ) = (∃ n, gL σ 13 0 i = some n ∧ i < gN σ 13 ∧ (0 ≤ j.toInt ∧ j.toInt < n) ∧ Rn (d) Q (218, 1760, [l0, l1, l2, l3], vI (gA σ 13 0 i j.toNatClampNeg) :: st, σ)) := E_iaload1 i218_1759 rfl
theorem i218_1760 : ins 218 1760 = some (.aload_n 0, 1) := (congrArg (fun x : PTy => x.1.lookup 1760) q218).trans rfl
theorem e218_1760 {d : Nat} {Q : Option AV → St → Prop} {st : List AV} {σ : St} {l1 l2 l3 : Option AV} {x : Option (Nat × Nat × Nat)} : Rn (d) Q (218, 1760, [some (vR x), l1, l2, l3], st, σ) = Rn (d) Q (218, 1761, [some (vR x), l1, l2, l3], vR x :: st, σ) := E_aload_n i218_1760 rfl
theorem i218_1761 : ins 218 1761 = some (.iload_n 3, 1) := (congrArg (fun x : PTy => x.1.lookup 1761) q218).trans rfl
theorem e218_1761 {d : Nat} {Q : Option AV → St → Prop} {st : List AV} {σ : St} {l0 l1 l2 : Option AV} {x : Int32} : Rn (d) Q (218, 1761, [l0, l1, l2, some (vI x)], st, σ) = Rn (d) Q (218, 1762, [l0, l1, l2, some (vI x)], vI x :: st, σ) := E_iload_n i218_1761 rfl
theorem i218_1762 : ins 218 1762 = some (.iconst 3, 1) := (congrArg (fun x : PTy => x.1.lookup 1762) q218).trans rfl
theorem e218_1762 {d : Nat} {Q : Option AV → St → Prop} {st : List AV} {σ : St} {l0 l1 l2 l3 : Option AV} : Rn (d) Q (218, 1762, [l0, l1, l2, l3], st, σ) = Rn (d) Q (218, 1763, [l0, l1, l2, l3], vI 3 :: st, σ) := by rw [E_iconst i218_1762, ci_3]
theorem i218_1763 : ins 218 1763 = some (.iadd, 1) := (congrArg (fun x : PTy => x.1.lookup 1763) q218).trans rfl
theorem e218_1763 {d : Nat} {Q : Option AV → St → Prop} {st : List AV} {σ : St} {l0 l1 l2 l3 : Option AV} {x y : Int32} : Rn (d) Q (218, 1763, [l0, l1, l2, l3], vI y :: vI x :: st, σ) = Rn (d) Q (218, 1764, [l0, l1, l2, l3], vI (x + y) :: st, σ) := E_iadd i218_1763
theorem i218_1764 : ins 218 1764 = some (.iaload, 1) := (congrArg (fun x : PTy => x.1.lookup 1764) q218).trans rfl
theorem e218_1764 {d : Nat} {Q : Option AV → St → Prop} {st : List AV} {σ : St} {l0 l1 l2 l3 : Option AV} {i : Nat} {j : Int32} : Rn (d) Q (218, 1764, [l0, l1, l2, l3], vI j :: vR (some (13, 1, i)) :: st, σ) = (∃ n, gL σ 13 0 i = some n ∧ i < gN σ 13 ∧ (0 ≤ j.toInt ∧ j.toInt < n) ∧ Rn (d) Q (218, 1765, [l0, l1, l2, l3], vI (gA σ 13 0 i j.toNatClampNeg) :: st, σ)) := E_iaload1 i218_1764 rfl
theorem i218_1765 : ins 218 1765 = some (.aload_n 0, 1) := (congrArg (fun x : PTy => x.1.lookup 1765) q218).trans rfl
theorem e218_1765 {d : Nat} {Q : Option AV → St → Prop} {st : List AV} {σ : St} {l1 l2 l3 : Option AV} {x : Option (Nat × Nat × Nat)} : Rn (d) Q (218, 1765, [some (vR x), l1, l2, l3], st, σ) = Rn (d) Q (218, 1766, [some (vR x), l1, l2, l3], vR x :: st, σ) := E_aload_n i218_1765 rfl
theorem i218_1766 : ins 218 1766 = some (.iload_n 3, 1) := (congrArg (fun x : PTy => x.1.lookup 1766) q218).trans rfl
theorem e218_1766 {d : Nat} {Q : Option AV → St → Prop} {st : List AV} {σ : St} {l0 l1 l2 : Option AV} {x : Int32} : Rn (d) Q (218, 1766, [l0, l1, l2, some (vI x)], st, σ) = Rn (d) Q (218, 1767, [l0, l1, l2, some (vI x)], vI x :: st, σ) := E_iload_n i218_1766 rfl
theorem i218_1767 : ins 218 1767 = some (.iconst 4, 1) := (congrArg (fun x : PTy => x.1.lookup 1767) q218).trans rfl
theorem e218_1767 {d : Nat} {Q : Option AV → St → Prop} {st : List AV} {σ : St} {l0 l1 l2 l3 : Option AV} : Rn (d) Q (218, 1767, [l0, l1, l2, l3], st, σ) = Rn (d) Q (218, 1768, [l0, l1, l2, l3], vI 4 :: st, σ) := by rw [E_iconst i218_1767, ci_4]
theorem i218_1768 : ins 218 1768 = some (.iadd, 1) := (congrArg (fun x : PTy => x.1.lookup 1768) q218).trans rfl
theorem e218_1768 {d : Nat} {Q : Option AV → St → Prop} {st : List AV} {σ : St} {l0 l1 l2 l3 : Option AV} {x y : Int32} : Rn (d) Q (218, 1768, [l0, l1, l2, l3], vI y :: vI x :: st, σ) = Rn (d) Q (218, 1769, [l0, l1, l2, l3], vI (x + y) :: st, σ) := E_iadd i218_1768
theorem i218_1769 : ins 218 1769 = some (.iaload, 1) := (congrArg (fun x : PTy => x.1.lookup 1769) q218).trans rfl
theorem e218_1769 {d : Nat} {Q : Option AV → St → Prop} {st : List AV} {σ : St} {l0 l1 l2 l3 : Option AV} {i : Nat} {j : Int32} : Rn (d) Q (218, 1769, [l0, l1, l2, l3], vI j :: vR (some (13, 1, i)) :: st, σ) = (∃ n, gL σ 13 0 i = some n ∧ i < gN σ 13 ∧ (0 ≤ j.toInt ∧ j.toInt < n) ∧ Rn (d) Q (218, 1770, [l0, l1, l2, l3], vI (gA σ 13 0 i j.toNatClampNeg) :: st, σ)) := E_iaload1 i218_1769 rfl
theorem i218_1770 : ins 218 1770 = some (.aload_n 0, 1) := (congrArg (fun x : PTy => x.1.lookup 1770) q218).trans rfl
theorem e218_1770 {d : Nat} {Q : Option AV → St → Prop} {st : List AV} {σ : St} {l1 l2 l3 : Option AV} {x : Option (Nat × Nat × Nat)} : Rn (d) Q (218, 1770, [some (vR x), l1, l2, l3], st, σ) = Rn (d) Q (218, 1771, [some (vR x), l1, l2, l3], vR x :: st, σ) := E_aload_n i218_1770 rfl
theorem i218_1771 : ins 218 1771 = some (.iload_n 3, 1) := (congrArg (fun x : PTy => x.1.lookup 1771) q218).trans rfl
theorem e218_1771 {d : Nat} {Q : Option AV → St → Prop} {st : List AV} {σ : St} {l0 l1 l2 : Option AV} {x : Int32} : Rn (d) Q (218, 1771, [l0, l1, l2, some (vI x)], st, σ) = Rn (d) Q (218, 1772, [l0, l1, l2, some (vI x)], vI x :: st, σ) := E_iload_n i218_1771 rfl
theorem i218_1772 : ins 218 1772 = some (.iconst 5, 1) := (congrArg (fun x : PTy => x.1.lookup 1772) q218).trans rfl
theorem e218_1772 {d : Nat} {Q : Option AV → St → Prop} {st : List AV} {σ : St} {l0 l1 l2 l3 : Option AV} : Rn (d) Q (218, 1772, [l0, l1, l2, l3], st, σ) = Rn (d) Q (218, 1773, [l0, l1, l2, l3], vI 5 :: st, σ) := by rw [E_iconst i218_1772, ci_5]
theorem i218_1773 : ins 218 1773 = some (.iadd, 1) := (congrArg (fun x : PTy => x.1.lookup 1773) q218).trans rfl
theorem e218_1773 {d : Nat} {Q : Option AV → St → Prop} {st : List AV} {σ : St} {l0 l1 l2 l3 : Option AV} {x y : Int32} : Rn (d) Q (218, 1773, [l0, l1, l2, l3], vI y :: vI x :: st, σ) = Rn (d) Q (218, 1774, [l0, l1, l2, l3], vI (x + y) :: st, σ) := E_iadd i218_1773
theorem i218_1774 : ins 218 1774 = some (.iaload, 1) := (congrArg (fun x : PTy => x.1.lookup 1774) q218).trans rfl
theorem e218_1774 {d : Nat} {Q : Option AV → St → Prop} {st : List AV} {σ : St} {l0 l1 l2 l3 : Option AV} {i : Nat} {j : Int32} : Rn (d) Q (218, 1774, [l0, l1, l2, l3], vI j :: vR (some (13, 1, i)) :: st, σ) = (∃ n, gL σ 13 0 i = some n ∧ i < gN σ 13 ∧ (0 ≤ j.toInt ∧ j.toInt < n) ∧ Rn (d) Q (218, 1775, [l0, l1, l2, l3], vI (gA σ 13 0 i j.toNatClampNeg) :: st, σ)) := E_iaload1 i218_1774 rfl
theorem i218_1775 : ins 218 1775 = some (.invokevirtual 185, 3) := (congrArg (fun x : PTy => x.1.lookup 1775) q218).trans rfl
theorem e218_1775 {d : Nat} {Q : Option AV → St → Prop} {st : List AV} {σ : St} {l0 l1 l2 l3 : Option AV} {i : Nat} {a1 : Int32} {a2 : Int32} {a3 : Int32} {a4 : Int32} {a5 : Int32} : Rn (d + 1) Q (218, 1775, [l0, l1, l2, l3], vI a5 :: vI a4 :: vI a3 :: vI a2 :: vI a1 :: vR (some (11, 0, i)) :: st, σ) = (i < gN σ 11 ∧ catS st ≤ 8 ∧ Rn d (fun r σ' => Rn (d + 1) Q (218, 1778, [l0, l1, l2, l3], r.toList ++ st, σ')) (107, 0, [some (vR (some (11, 0, i))), some (vI a1), some (vI a2), some (vI a3), some (vI a4), some (vI a5), none, none, none, none], [], σ)) := E_invV (a := [vI a5, vI a4, vI a3, vI a2, vI a1]) i218_1775 ((congrArg (fun z => mthQ z 185) o218).trans m13_185) o107 rfl (ek107 i a1 a2 a3 a4 a5) (en107 i a1 a2 a3 a4 a5)
theorem i218_1778 : ins 218 1778 = some (.aload_n 2, 1) := (congrArg (fun x : PTy => x.1.lookup 1778) q218).trans rfl
theorem e218_1778 {d : Nat} {Q : Option AV → St → Prop} {st : List AV} {σ : St} {l0 l1 l3 : Option AV} {x : Option (Nat × Nat × Nat)} : Rn (d) Q (218, 1778, [l0, l1, some (vR x), l3], st, σ) = Rn (d) Q (218, 1779, [l0, l1, some (vR x), l3], vR x :: st, σ) := E_aload_n i218_1778 rfl
theorem i218_1779 : ins 218 1779 = some (.aload_n 0, 1) := (congrArg (fun x : PTy => x.1.lookup 1779) q218).trans rfl
theorem e218_1779 {d : Nat} {Q : Option AV → St → Prop} {st : List AV} {σ : St} {l1 l2 l3 : Option AV} {x : Option (Nat × Nat × Nat)} : Rn (d) Q (218, 1779, [some (vR x), l1, l2, l3], st, σ) = Rn (d) Q (218, 1780, [some (vR x), l1, l2, l3], vR x :: st, σ) := E_aload_n i218_1779 rfl
theorem i218_1780 : ins 218 1780 = some (.iload_n 3, 1) := (congrArg (fun x : PTy => x.1.lookup 1780) q218).trans rfl
theorem e218_1780 {d : Nat} {Q : Option AV → St → Prop} {st : List AV} {σ : St} {l0 l1 l2 : Option AV} {x : Int32} : Rn (d) Q (218, 1780, [l0, l1, l2, some (vI x)], st, σ) = Rn (d) Q (218, 1781, [l0, l1, l2, some (vI x)], vI x :: st, σ) := E_iload_n i218_1780 rfl
theorem i218_1781 : ins 218 1781 = some (.iconst 1, 1) := (congrArg (fun x : PTy => x.1.lookup 1781) q218).trans rfl
theorem e218_1781 {d : Nat} {Q : Option AV → St → Prop} {st : List AV} {σ : St} {l0 l1 l2 l3 : Option AV} : Rn (d) Q (218, 1781, [l0, l1, l2, l3], st, σ) = Rn (d) Q (218, 1782, [l0, l1, l2, l3], vI 1 :: st, σ) := by rw [E_iconst i218_1781, ci_1]
theorem i218_1782 : ins 218 1782 = some (.iadd, 1) := (congrArg (fun x : PTy => x.1.lookup 1782) q218).trans rfl
theorem e218_1782 {d : Nat} {Q : Option AV → St → Prop} {st : List AV} {σ : St} {l0 l1 l2 l3 : Option AV} {x y : Int32} : Rn (d) Q (218, 1782, [l0, l1, l2, l3], vI y :: vI x :: st, σ) = Rn (d) Q (218, 1783, [l0, l1, l2, l3], vI (x + y) :: st, σ) := E_iadd i218_1782
theorem i218_1783 : ins 218 1783 = some (.iaload, 1) := (congrArg (fun x : PTy => x.1.lookup 1783) q218).trans rfl
theorem e218_1783 {d : Nat} {Q : Option AV → St → Prop} {st : List AV} {σ : St} {l0 l1 l2 l3 : Option AV} {i : Nat} {j : Int32} : Rn (d) Q (218, 1783, [l0, l1, l2, l3], vI j :: vR (some (13, 1, i)) :: st, σ) = (∃ n, gL σ 13 0 i = some n ∧ i < gN σ 13 ∧ (0 ≤ j.toInt ∧ j.toInt < n) ∧ Rn (d) Q (218, 1784, [l0, l1, l2, l3], vI (gA σ 13 0 i j.toNatClampNeg) :: st, σ)) := E_iaload1 i218_1783 rfl
theorem i218_1784 : ins 218 1784 = some (.aload_n 0, 1) := (congrArg (fun x : PTy => x.1.lookup 1784) q218).trans rfl
theorem e218_1784 {d : Nat} {Q : Option AV → St → Prop} {st : List AV} {σ : St} {l1 l2 l3 : Option AV} {x : Option (Nat × Nat × Nat)} : Rn (d) Q (218, 1784, [some (vR x), l1, l2, l3], st, σ) = Rn (d) Q (218, 1785, [some (vR x), l1, l2, l3], vR x :: st, σ) := E_aload_n i218_1784 rfl
theorem i218_1785 : ins 218 1785 = some (.iload_n 3, 1) := (congrArg (fun x : PTy => x.1.lookup 1785) q218).trans rfl
theorem e218_1785 {d : Nat} {Q : Option AV → St → Prop} {st : List AV} {σ : St} {l0 l1 l2 : Option AV} {x : Int32} : Rn (d) Q (218, 1785, [l0, l1, l2, some (vI x)], st, σ) = Rn (d) Q (218, 1786, [l0, l1, l2, some (vI x)], vI x :: st, σ) := E_iload_n i218_1785 rfl
theorem i218_1786 : ins 218 1786 = some (.iconst 2, 1) := (congrArg (fun x : PTy => x.1.lookup 1786) q218).trans rfl
theorem e218_1786 {d : Nat} {Q : Option AV → St → Prop} {st : List AV} {σ : St} {l0 l1 l2 l3 : Option AV} : Rn (d) Q (218, 1786, [l0, l1, l2, l3], st, σ) = Rn (d) Q (218, 1787, [l0, l1, l2, l3], vI 2 :: st, σ) := by rw [E_iconst i218_1786, ci_2]
theorem i218_1787 : ins 218 1787 = some (.iadd, 1) := (congrArg (fun x : PTy => x.1.lookup 1787) q218).trans rfl
theorem e218_1787 {d : Nat} {Q : Option AV → St → Prop} {st : List AV} {σ : St} {l0 l1 l2 l3 : Option AV} {x y : Int32} : Rn (d) Q (218, 1787, [l0, l1, l2, l3], vI y :: vI x :: st, σ) = Rn (d) Q (218, 1788, [l0, l1, l2, l3], vI (x + y) :: st, σ) := E_iadd i218_1787
theorem i218_1788 : ins 218 1788 = some (.iaload, 1) := (congrArg (fun x : PTy => x.1.lookup 1788) q218).trans rfl
theorem e218_1788 {d : Nat} {Q : Option AV → St → Prop} {st : List AV} {σ : St} {l0 l1 l2 l3 : Option AV} {i : Nat} {j : Int32} : Rn (d) Q (218, 1788, [l0, l1, l2, l3], vI j :: vR (some (13, 1, i)) :: st, σ) = (∃ n, gL σ 13 0 i = some n ∧ i < gN σ 13 ∧ (0 ≤ j.toInt ∧ j.toInt < n) ∧ Rn (d) Q (218, 1789, [l0, l1, l2, l3], vI (gA σ 13 0 i j.toNatClampNeg) :: st, σ)) := E_iaload1 i218_1788 rfl
theorem i218_1789 : ins 218 1789 = some (.aload_n 0, 1) := (congrArg (fun x : PTy => x.1.lookup 1789) q218).trans rfl
theorem e218_1789 {d : Nat} {Q : Option AV → St → Prop} {st : List AV} {σ : St} {l1 l2 l3 : Option AV} {x : Option (Nat × Nat × Nat)} : Rn (d) Q (218, 1789, [some (vR x), l1, l2, l3], st, σ) = Rn (d) Q (218, 1790, [some (vR x), l1, l2, l3], vR x :: st, σ) := E_aload_n i218_1789 rfl
theorem i218_1790 : ins 218 1790 = some (.iload_n 3, 1) := (congrArg (fun x : PTy => x.1.lookup 1790) q218).trans rfl
theorem e218_1790 {d : Nat} {Q : Option AV → St → Prop} {st : List AV} {σ : St} {l0 l1 l2 : Option AV} {x : Int32} : Rn (d) Q (218, 1790, [l0, l1, l2, some (vI x)], st, σ) = Rn (d) Q (218, 1791, [l0, l1, l2, some (vI x)], vI x :: st, σ) := E_iload_n i218_1790 rfl
theorem i218_1791 : ins 218 1791 = some (.iconst 3, 1) := (congrArg (fun x : PTy => x.1.lookup 1791) q218).trans rfl
theorem e218_1791 {d : Nat} {Q : Option AV → St → Prop} {st : List AV} {σ : St} {l0 l1 l2 l3 : Option AV} : Rn (d) Q (218, 1791, [l0, l1, l2, l3], st, σ) = Rn (d) Q (218, 1792, [l0, l1, l2, l3], vI 3 :: st, σ) := by rw [E_iconst i218_1791, ci_3]
theorem i218_1792 : ins 218 1792 = some (.iadd, 1) := (congrArg (fun x : PTy => x.1.lookup 1792) q218).trans rfl
theorem e218_1792 {d : Nat} {Q : Option AV → St → Prop} {st : List AV} {σ : St} {l0 l1 l2 l3 : Option AV} {x y : Int32} : Rn (d) Q (218, 1792, [l0, l1, l2, l3], vI y :: vI x :: st, σ) = Rn (d) Q (218, 1793, [l0, l1, l2, l3], vI (x + y) :: st, σ) := E_iadd i218_1792
theorem i218_1793 : ins 218 1793 = some (.iaload, 1) := (congrArg (fun x : PTy => x.1.lookup 1793) q218).trans rfl
theorem e218_1793 {d : Nat} {Q : Option AV → St → Prop} {st : List AV} {σ : St} {l0 l1 l2 l3 : Option AV} {i : Nat} {j : Int32} : Rn (d) Q (218, 1793, [l0, l1, l2, l3], vI j :: vR (some (13, 1, i)) :: st, σ) = (∃ n, gL σ 13 0 i = some n ∧ i < gN σ 13 ∧ (0 ≤ j.toInt ∧ j.toInt < n) ∧ Rn (d) Q (218, 1794, [l0, l1, l2, l3], vI (gA σ 13 0 i j.toNatClampNeg) :: st, σ)) := E_iaload1 i218_1793 rfl
theorem i218_1794 : ins 218 1794 = some (.aload_n 0, 1) := (congrArg (fun x : PTy => x.1.lookup 1794) q218).trans rfl
theorem e218_1794 {d : Nat} {Q : Option AV → St → Prop} {st : List AV} {σ : St} {l1 l2 l3 : Option AV} {x : Option (Nat × Nat × Nat)} : Rn (d) Q (218, 1794, [some (vR x), l1, l2, l3], st, σ) = Rn (d) Q (218, 1795, [some (vR x), l1, l2, l3], vR x :: st, σ) := E_aload_n i218_1794 rfl
theorem i218_1795 : ins 218 1795 = some (.iload_n 3, 1) := (congrArg (fun x : PTy => x.1.lookup 1795) q218).trans rfl
theorem e218_1795 {d : Nat} {Q : Option AV → St → Prop} {st : List AV} {σ : St} {l0 l1 l2 : Option AV} {x : Int32} : Rn (d) Q (218, 1795, [l0, l1, l2, some (vI x)], st, σ) = Rn (d) Q (218, 1796, [l0, l1, l2, some (vI x)], vI x :: st, σ) := E_iload_n i218_1795 rfl
theorem i218_1796 : ins 218 1796 = some (.iconst 4, 1) := (congrArg (fun x : PTy => x.1.lookup 1796) q218).trans rfl
theorem e218_1796 {d : Nat} {Q : Option AV → St → Prop} {st : List AV} {σ : St} {l0 l1 l2 l3 : Option AV} : Rn (d) Q (218, 1796, [l0, l1, l2, l3], st, σ) = Rn (d) Q (218, 1797, [l0, l1, l2, l3], vI 4 :: st, σ) := by rw [E_iconst i218_1796, ci_4]
theorem i218_1797 : ins 218 1797 = some (.iadd, 1) := (congrArg (fun x : PTy => x.1.lookup 1797) q218).trans rfl
theorem e218_1797 {d : Nat} {Q : Option AV → St → Prop} {st : List AV} {σ : St} {l0 l1 l2 l3 : Option AV} {x y : Int32} : Rn (d) Q (218, 1797, [l0, l1, l2, l3], vI y :: vI x :: st, σ) = Rn (d) Q (218, 1798, [l0, l1, l2, l3], vI (x + y) :: st, σ) := E_iadd i218_1797
theorem i218_1798 : ins 218 1798 = some (.iaload, 1) := (congrArg (fun x : PTy => x.1.lookup 1798) q218).trans rfl
theorem e218_1798 {d : Nat} {Q : Option AV → St → Prop} {st : List AV} {σ : St} {l0 l1 l2 l3 : Option AV} {i : Nat} {j : Int32} : Rn (d) Q (218, 1798, [l0, l1, l2, l3], vI j :: vR (some (13, 1, i)) :: st, σ) = (∃ n, gL σ 13 0 i = some n ∧ i < gN σ 13 ∧ (0 ≤ j.toInt ∧ j.toInt < n) ∧ Rn (d) Q (218, 1799, [l0, l1, l2, l3], vI (gA σ 13 0 i j.toNatClampNeg) :: st, σ)) := E_iaload1 i218_1798 rfl
theorem i218_1799 : ins 218 1799 = some (.aload_n 0, 1) := (congrArg (fun x : PTy => x.1.lookup 1799) q218).trans rfl
theorem e218_1799 {d : Nat} {Q : Option AV → St → Prop} {st : List AV} {σ : St} {l1 l2 l3 : Option AV} {x : Option (Nat × Nat × Nat)} : Rn (d) Q (218, 1799, [some (vR x), l1, l2, l3], st, σ) = Rn (d) Q (218, 1800, [some (vR x), l1, l2, l3], vR x :: st, σ) := E_aload_n i218_1799 rfl
theorem i218_1800 : ins 218 1800 = some (.iload_n 3, 1) := (congrArg (fun x : PTy => x.1.lookup 1800) q218).trans rfl
theorem e218_1800 {d : Nat} {Q : Option AV → St → Prop} {st : List AV} {σ : St} {l0 l1 l2 : Option AV} {x : Int32} : Rn (d) Q (218, 1800, [l0, l1, l2, some (vI x)], st, σ) = Rn (d) Q (218, 1801, [l0, l1, l2, some (vI x)], vI x :: st, σ) := E_iload_n i218_1800 rfl
theorem i218_1801 : ins 218 1801 = some (.iconst 5, 1) := (congrArg (fun x : PTy => x.1.lookup 1801) q218).trans rfl
theorem e218_1801 {d : Nat} {Q : Option AV → St → Prop} {st : List AV} {σ : St} {l0 l1 l2 l3 : Option AV} : Rn (d) Q (218, 1801, [l0, l1, l2, l3], st, σ) = Rn (d) Q (218, 1802, [l0, l1, l2, l3], vI 5 :: st, σ) := by rw [E_iconst i218_1801, ci_5]
theorem i218_1802 : ins 218 1802 = some (.iadd, 1) := (congrArg (fun x : PTy => x.1.lookup 1802) q218).trans rfl
theorem e218_1802 {d : Nat} {Q : Option AV → St → Prop} {st : List AV} {σ : St} {l0 l1 l2 l3 : Option AV} {x y : Int32} : Rn (d) Q (218, 1802, [l0, l1, l2, l3], vI y :: vI x :: st, σ) = Rn (d) Q (218, 1803, [l0, l1, l2, l3], vI (x + y) :: st, σ) := E_iadd i218_1802
theorem i218_1803 : ins 218 1803 = some (.iaload, 1) := (congrArg (fun x : PTy => x.1.lookup 1803) q218).trans rfl
theorem e218_1803 {d : Nat} {Q : Option AV → St → Prop} {st : List AV} {σ : St} {l0 l1 l2 l3 : Option AV} {i : Nat} {j : Int32} : Rn (d) Q (218, 1803, [l0, l1, l2, l3], vI j :: vR (some (13, 1, i)) :: st, σ) = (∃ n, gL σ 13 0 i = some n ∧ i < gN σ 13 ∧ (0 ≤ j.toInt ∧ j.toInt < n) ∧ Rn (d) Q (218, 1804, [l0, l1, l2, l3], vI (gA σ 13 0 i j.toNatClampNeg) :: st, σ)) := E_iaload1 i218_1803 rfl
theorem i218_1804 : ins 218 1804 = some (.invokevirtual 188, 3) := (congrArg (fun x : PTy => x.1.lookup 1804) q218).trans rfl
theorem e218_1804 {d : Nat} {Q : Option AV → St → Prop} {st : List AV} {σ : St} {l0 l1 l2 l3 : Option AV} {i : Nat} {a1 : Int32} {a2 : Int32} {a3 : Int32} {a4 : Int32} {a5 : Int32} : Rn (d + 1) Q (218, 1804, [l0, l1, l2, l3], vI a5 :: vI a4 :: vI a3 :: vI a2 :: vI a1 :: vR (some (12, 0, i)) :: st, σ) = (i < gN σ 12 ∧ catS st ≤ 8 ∧ Rn d (fun r σ' => Rn (d + 1) Q (218, 1807, [l0, l1, l2, l3], r.toList ++ st, σ')) (215, 0, [some (vR (some (12, 0, i))), some (vI a1), some (vI a2), some (vI a3), some (vI a4), some (vI a5), none, none, none], [], σ)) := E_invV (a := [vI a5, vI a4, vI a3, vI a2, vI a1]) i218_1804 ((congrArg (fun z => mthQ z 188) o218).trans m13_188) o215 rfl (ek215 i a1 a2 a3 a4 a5) (en215 i a1 a2 a3 a4 a5)
theorem i218_1807 : ins 218 1807 = some (.if_icmp .eq 5, 3) := (congrArg (fun x : PTy => x.1.lookup 1807) q218).trans rfl
theorem e218_1807 {d : Nat} {Q : Option AV → St → Prop} {st : List AV} {σ : St} {l0 l1 l2 l3 : Option AV} {x y : Int32} : Rn (d) Q (218, 1807, [l0, l1, l2, l3], vI y :: vI x :: st, σ) = (if x = y then Rn (d) Q (218, 1812, [l0, l1, l2, l3], st, σ) else Rn (d) Q (218, 1810, [l0, l1, l2, l3], st, σ)) := E_icmp_eq 1812 i218_1807 (by decide)
theorem i218_1810 : ins 218 1810 = some (.iconst 0, 1) := (congrArg (fun x : PTy => x.1.lookup 1810) q218).trans rfl
theorem e218_1810 {d : Nat} {Q : Option AV → St → Prop} {st : List AV} {σ : St} {l0 l1 l2 l3 : Option AV} : Rn (d) Q (218, 1810, [l0, l1, l2, l3], st, σ) = Rn (d) Q (218, 1811, [l0, l1, l2, l3], vI 0 :: st, σ) := by rw [E_iconst i218_1810, ci_0]
theorem i218_1811 : ins 218 1811 = some (.ireturn, 1) := (congrArg (fun x : PTy => x.1.lookup 1811) q218).trans rfl
theorem e218_1811 {d : Nat} {Q : Option AV → St → Prop} {st : List AV} {σ : St} {l0 l1 l2 l3 : Option AV} {x : Int32} : Rn (d) Q (218, 1811, [l0, l1, l2, l3], [vI x], σ) = ((x = 0 ∨ x = 1) ∧ Q (some (vI x)) σ) := E_iretZ (st := []) i218_1811 r218
theorem i218_1812 : ins 218 1812 = some (.iinc 3 6, 3) := (congrArg (fun x : PTy => x.1.lookup 1812) q218).trans rfl
theorem e218_1812 {d : Nat} {Q : Option AV → St → Prop} {st : List AV} {σ : St} {l0 l1 l2 : Option AV} {x : Int32} : Rn (d) Q (218, 1812, [l0, l1, l2, some (vI x)], st, σ) = Rn (d) Q (218, 1815, [l0, l1, l2, some (vI (x + 6))], st, σ) := by rw [E_iinc i218_1812 rfl (by rw [x218]; decide), show Int32.ofInt 6 = (6 : Int32) by decide +kernel]; rfl
theorem i218_1815 : ins 218 1815 = some (.goto (-1797), 3) := (congrArg (fun x : PTy => x.1.lookup 1815) q218).trans rfl
theorem e218_1815 {d : Nat} {Q : Option AV → St → Prop} {st : List AV} {σ : St} {l0 l1 l2 l3 : Option AV} : Rn (d) Q (218, 1815, [l0, l1, l2, l3], st, σ) = Rn (d) Q (218, 18, [l0, l1, l2, l3], st, σ) := E_goto 18 i218_1815 (by decide)
theorem i218_1818 : ins 218 1818 = some (.iconst 1, 1) := (congrArg (fun x : PTy => x.1.lookup 1818) q218).trans rfl
theorem e218_1818 {d : Nat} {Q : Option AV → St → Prop} {st : List AV} {σ : St} {l0 l1 l2 l3 : Option AV} : Rn (d) Q (218, 1818, [l0, l1, l2, l3], st, σ) = Rn (d) Q (218, 1819, [l0, l1, l2, l3], vI 1 :: st, σ) := by rw [E_iconst i218_1818, ci_1]
theorem i218_1819 : ins 218 1819 = some (.ireturn, 1) := (congrArg (fun x : PTy => x.1.lookup 1819) q218).trans rfl
theorem e218_1819 {d : Nat} {Q : Option AV → St → Prop} {st : List AV} {σ : St} {l0 l1 l2 l3 : Option AV} {x : Int32} : Rn (d) Q (218, 1819, [l0, l1, l2, l3], [vI x], σ) = ((x = 0 ∨ x = 1) ∧ Q (some (vI x)) σ) := E_iretZ (st := []) i218_1819 r218
