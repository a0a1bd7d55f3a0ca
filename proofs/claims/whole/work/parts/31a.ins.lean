theorem i0_0 : ins 0 0 = some (.aload_n 0, 1) := (congrArg (fun x : PTy => x.1.lookup 0) q0).trans rfl
theorem i0_1 : ins 0 1 = some (.invokespecial 3, 3) := (congrArg (fun x : PTy => x.1.lookup 1) q0).trans rfl
theorem i0_4 : ins 0 4 = some (.aload_n 0, 1) := (congrArg (fun x : PTy => x.1.lookup 4) q0).trans rfl
theorem i0_5 : ins 0 5 = some (.iconst 0, 1) := (congrArg (fun x : PTy => x.1.lookup 5) q0).trans rfl
theorem i0_6 : ins 0 6 = some (.putfield 9, 3) := (congrArg (fun x : PTy => x.1.lookup 6) q0).trans rfl
theorem i0_9 : ins 0 9 = some (.aload_n 0, 1) := (congrArg (fun x : PTy => x.1.lookup 9) q0).trans rfl
theorem i0_10 : ins 0 10 = some (.iconst 0, 1) := (congrArg (fun x : PTy => x.1.lookup 10) q0).trans rfl
theorem i0_11 : ins 0 11 = some (.putfield 15, 3) := (congrArg (fun x : PTy => x.1.lookup 11) q0).trans rfl
theorem i0_14 : ins 0 14 = some (.aload_n 0, 1) := (congrArg (fun x : PTy => x.1.lookup 14) q0).trans rfl
theorem i0_15 : ins 0 15 = some (.bipush 8, 2) := (congrArg (fun x : PTy => x.1.lookup 15) q0).trans rfl
theorem i0_17 : ins 0 17 = some (.newarray .int, 2) := (congrArg (fun x : PTy => x.1.lookup 17) q0).trans rfl
theorem i0_19 : ins 0 19 = some (.putfield 18, 3) := (congrArg (fun x : PTy => x.1.lookup 19) q0).trans rfl
theorem i0_22 : ins 0 22 = some (.aload_n 0, 1) := (congrArg (fun x : PTy => x.1.lookup 22) q0).trans rfl
theorem i0_23 : ins 0 23 = some (.bipush 8, 2) := (congrArg (fun x : PTy => x.1.lookup 23) q0).trans rfl
theorem i0_25 : ins 0 25 = some (.newarray .int, 2) := (congrArg (fun x : PTy => x.1.lookup 25) q0).trans rfl
theorem i0_27 : ins 0 27 = some (.putfield 22, 3) := (congrArg (fun x : PTy => x.1.lookup 27) q0).trans rfl
theorem i0_30 : ins 0 30 = some (.aload_n 0, 1) := (congrArg (fun x : PTy => x.1.lookup 30) q0).trans rfl
theorem i0_31 : ins 0 31 = some (.bipush 8, 2) := (congrArg (fun x : PTy => x.1.lookup 31) q0).trans rfl
theorem i0_33 : ins 0 33 = some (.newarray .int, 2) := (congrArg (fun x : PTy => x.1.lookup 33) q0).trans rfl
theorem i0_35 : ins 0 35 = some (.putfield 25, 3) := (congrArg (fun x : PTy => x.1.lookup 35) q0).trans rfl
theorem i0_38 : ins 0 38 = some (.aload_n 0, 1) := (congrArg (fun x : PTy => x.1.lookup 38) q0).trans rfl
theorem i0_39 : ins 0 39 = some (.bipush 8, 2) := (congrArg (fun x : PTy => x.1.lookup 39) q0).trans rfl
theorem i0_41 : ins 0 41 = some (.newarray .int, 2) := (congrArg (fun x : PTy => x.1.lookup 41) q0).trans rfl
theorem i0_43 : ins 0 43 = some (.putfield 28, 3) := (congrArg (fun x : PTy => x.1.lookup 43) q0).trans rfl
theorem i0_46 : ins 0 46 = some (.aload_n 0, 1) := (congrArg (fun x : PTy => x.1.lookup 46) q0).trans rfl
theorem i0_47 : ins 0 47 = some (.bipush 8, 2) := (congrArg (fun x : PTy => x.1.lookup 47) q0).trans rfl
theorem i0_49 : ins 0 49 = some (.newarray .int, 2) := (congrArg (fun x : PTy => x.1.lookup 49) q0).trans rfl
theorem i0_51 : ins 0 51 = some (.putfield 31, 3) := (congrArg (fun x : PTy => x.1.lookup 51) q0).trans rfl
theorem i0_54 : ins 0 54 = some (.aload_n 0, 1) := (congrArg (fun x : PTy => x.1.lookup 54) q0).trans rfl
theorem i0_55 : ins 0 55 = some (.bipush 120, 2) := (congrArg (fun x : PTy => x.1.lookup 55) q0).trans rfl
theorem i0_57 : ins 0 57 = some (.newarray .short, 2) := (congrArg (fun x : PTy => x.1.lookup 57) q0).trans rfl
theorem i0_59 : ins 0 59 = some (.putfield 36, 3) := (congrArg (fun x : PTy => x.1.lookup 59) q0).trans rfl
theorem i0_62 : ins 0 62 = some (.aload_n 0, 1) := (congrArg (fun x : PTy => x.1.lookup 62) q0).trans rfl
theorem i0_63 : ins 0 63 = some (.iconst 0, 1) := (congrArg (fun x : PTy => x.1.lookup 63) q0).trans rfl
theorem i0_64 : ins 0 64 = some (.putfield 40, 3) := (congrArg (fun x : PTy => x.1.lookup 64) q0).trans rfl
theorem i0_67 : ins 0 67 = some (.return_, 1) := (congrArg (fun x : PTy => x.1.lookup 67) q0).trans rfl
theorem e0_0 {d : Nat} {Q : Option AV → St → Prop} {st : List AV} {σ : St}  {x : Option (Nat × Nat × Nat)} : Rn (d) Q (0, 0, [some (vR x)], st, σ) = Rn (d) Q (0, 1, [some (vR x)], vR x :: st, σ) := E_aload_n i0_0 rfl
theorem e0_1 {d : Nat} {Q : Option AV → St → Prop} {st : List AV} {σ : St} {l0 : Option AV} {x : Nat × Nat × Nat} : Rn (d) Q (0, 1, [l0], vR (some x) :: st, σ) = (catS st ≤ 8 ∧ Rn (d) Q (0, 4, [l0], st, σ)) := E_objInit i0_1 ((congrArg (fun z => mthQ z 3) o0).trans m0_3)
theorem e0_4 {d : Nat} {Q : Option AV → St → Prop} {st : List AV} {σ : St}  {x : Option (Nat × Nat × Nat)} : Rn (d) Q (0, 4, [some (vR x)], st, σ) = Rn (d) Q (0, 5, [some (vR x)], vR x :: st, σ) := E_aload_n i0_4 rfl
theorem e0_5 {d : Nat} {Q : Option AV → St → Prop} {st : List AV} {σ : St} {l0 : Option AV} : Rn (d) Q (0, 5, [l0], st, σ) = Rn (d) Q (0, 6, [l0], vI 0 :: st, σ) := by rw [E_iconst i0_5, ci_0]
theorem e0_6 {d : Nat} {Q : Option AV → St → Prop} {st : List AV} {σ : St} {l0 : Option AV} {i : Nat} {x : Int32} : Rn (d) Q (0, 6, [l0], vI x :: vR (some (0, 0, i)) :: st, σ) = (i < gN σ 0 ∧ Rn (d) Q (0, 9, [l0], st, setI σ 0 0 i x)) := E_putI i0_6 ((congrArg (fun z => fldQ z 9) o0).trans f0_9) rfl (Or.inl rfl)
theorem e0_9 {d : Nat} {Q : Option AV → St → Prop} {st : List AV} {σ : St}  {x : Option (Nat × Nat × Nat)} : Rn (d) Q (0, 9, [some (vR x)], st, σ) = Rn (d) Q (0, 10, [some (vR x)], vR x :: st, σ) := E_aload_n i0_9 rfl
theorem e0_10 {d : Nat} {Q : Option AV → St → Prop} {st : List AV} {σ : St} {l0 : Option AV} : Rn (d) Q (0, 10, [l0], st, σ) = Rn (d) Q (0, 11, [l0], vI 0 :: st, σ) := by rw [E_iconst i0_10, ci_0]
theorem e0_11 {d : Nat} {Q : Option AV → St → Prop} {st : List AV} {σ : St} {l0 : Option AV} {i : Nat} {x : Int32} : Rn (d) Q (0, 11, [l0], vI x :: vR (some (0, 0, i)) :: st, σ) = (i < gN σ 0 ∧ Rn (d) Q (0, 14, [l0], st, setI σ 0 1 i x)) := E_putI i0_11 ((congrArg (fun z => fldQ z 15) o0).trans f0_15) rfl (Or.inl rfl)
theorem e0_14 {d : Nat} {Q : Option AV → St → Prop} {st : List AV} {σ : St}  {x : Option (Nat × Nat × Nat)} : Rn (d) Q (0, 14, [some (vR x)], st, σ) = Rn (d) Q (0, 15, [some (vR x)], vR x :: st, σ) := E_aload_n i0_14 rfl
theorem e0_15 {d : Nat} {Q : Option AV → St → Prop} {st : List AV} {σ : St} {l0 : Option AV} : Rn (d) Q (0, 15, [l0], st, σ) = Rn (d) Q (0, 17, [l0], vI 8 :: st, σ) := by rw [E_bipush i0_15, cb_8]
theorem e0_17 {d : Nat} {Q : Option AV → St → Prop} {st : List AV} {σ : St} {l0 : Option AV} {i : Nat} : Rn (d) Q (0, 17, [l0], vI 8 :: vR (some (0, 0, i)) :: st, σ) = (i < gN σ 0 ∧ gL σ 0 2 i = none ∧ Rn (d) Q (0, 22, [l0], st, newA σ 0 2 i 8)) := by rw [E_newarray i0_17 i0_19 ((congrArg (fun z => fldQ z 18) o0).trans f0_18) ⟨rfl, rfl⟩ (by decide) (Or.inr ⟨n0, o0⟩) (by decide +kernel), show (8 : Int32).toNatClampNeg = 8 by decide +kernel]
theorem e0_22 {d : Nat} {Q : Option AV → St → Prop} {st : List AV} {σ : St}  {x : Option (Nat × Nat × Nat)} : Rn (d) Q (0, 22, [some (vR x)], st, σ) = Rn (d) Q (0, 23, [some (vR x)], vR x :: st, σ) := E_aload_n i0_22 rfl
theorem e0_23 {d : Nat} {Q : Option AV → St → Prop} {st : List AV} {σ : St} {l0 : Option AV} : Rn (d) Q (0, 23, [l0], st, σ) = Rn (d) Q (0, 25, [l0], vI 8 :: st, σ) := by rw [E_bipush i0_23, cb_8]
theorem e0_25 {d : Nat} {Q : Option AV → St → Prop} {st : List AV} {σ : St} {l0 : Option AV} {i : Nat} : Rn (d) Q (0, 25, [l0], vI 8 :: vR (some (0, 0, i)) :: st, σ) = (i < gN σ 0 ∧ gL σ 0 3 i = none ∧ Rn (d) Q (0, 30, [l0], st, newA σ 0 3 i 8)) := by rw [E_newarray i0_25 i0_27 ((congrArg (fun z => fldQ z 22) o0).trans f0_22) ⟨rfl, rfl⟩ (by decide) (Or.inr ⟨n0, o0⟩) (by decide +kernel), show (8 : Int32).toNatClampNeg = 8 by decide +kernel]
theorem e0_30 {d : Nat} {Q : Option AV → St → Prop} {st : List AV} {σ : St}  {x : Option (Nat × Nat × Nat)} : Rn (d) Q (0, 30, [some (vR x)], st, σ) = Rn (d) Q (0, 31, [some (vR x)], vR x :: st, σ) := E_aload_n i0_30 rfl
theorem e0_31 {d : Nat} {Q : Option AV → St → Prop} {st : List AV} {σ : St} {l0 : Option AV} : Rn (d) Q (0, 31, [l0], st, σ) = Rn (d) Q (0, 33, [l0], vI 8 :: st, σ) := by rw [E_bipush i0_31, cb_8]
theorem e0_33 {d : Nat} {Q : Option AV → St → Prop} {st : List AV} {σ : St} {l0 : Option AV} {i : Nat} : Rn (d) Q (0, 33, [l0], vI 8 :: vR (some (0, 0, i)) :: st, σ) = (i < gN σ 0 ∧ gL σ 0 4 i = none ∧ Rn (d) Q (0, 38, [l0], st, newA σ 0 4 i 8)) := by rw [E_newarray i0_33 i0_35 ((congrArg (fun z => fldQ z 25) o0).trans f0_25) ⟨rfl, rfl⟩ (by decide) (Or.inr ⟨n0, o0⟩) (by decide +kernel), show (8 : Int32).toNatClampNeg = 8 by decide +kernel]
theorem e0_38 {d : Nat} {Q : Option AV → St → Prop} {st : List AV} {σ : St}  {x : Option (Nat × Nat × Nat)} : Rn (d) Q (0, 38, [some (vR x)], st, σ) = Rn (d) Q (0, 39, [some (vR x)], vR x :: st, σ) := E_aload_n i0_38 rfl
theorem e0_39 {d : Nat} {Q : Option AV → St → Prop} {st : List AV} {σ : St} {l0 : Option AV} : Rn (d) Q (0, 39, [l0], st, σ) = Rn (d) Q (0, 41, [l0], vI 8 :: st, σ) := by rw [E_bipush i0_39, cb_8]
theorem e0_41 {d : Nat} {Q : Option AV → St → Prop} {st : List AV} {σ : St} {l0 : Option AV} {i : Nat} : Rn (d) Q (0, 41, [l0], vI 8 :: vR (some (0, 0, i)) :: st, σ) = (i < gN σ 0 ∧ gL σ 0 5 i = none ∧ Rn (d) Q (0, 46, [l0], st, newA σ 0 5 i 8)) := by rw [E_newarray i0_41 i0_43 ((congrArg (fun z => fldQ z 28) o0).trans f0_28) ⟨rfl, rfl⟩ (by decide) (Or.inr ⟨n0, o0⟩) (by decide +kernel), show (8 : Int32).toNatClampNeg = 8 by decide +kernel]
theorem e0_46 {d : Nat} {Q : Option AV → St → Prop} {st : List AV} {σ : St}  {x : Option (Nat × Nat × Nat)} : Rn (d) Q (0, 46, [some (vR x)], st, σ) = Rn (d) Q (0, 47, [some (vR x)], vR x :: st, σ) := E_aload_n i0_46 rfl
theorem e0_47 {d : Nat} {Q : Option AV → St → Prop} {st : List AV} {σ : St} {l0 : Option AV} : Rn (d) Q (0, 47, [l0], st, σ) = Rn (d) Q (0, 49, [l0], vI 8 :: st, σ) := by rw [E_bipush i0_47, cb_8]
theorem e0_49 {d : Nat} {Q : Option AV → St → Prop} {st : List AV} {σ : St} {l0 : Option AV} {i : Nat} : Rn (d) Q (0, 49, [l0], vI 8 :: vR (some (0, 0, i)) :: st, σ) = (i < gN σ 0 ∧ gL σ 0 6 i = none ∧ Rn (d) Q (0, 54, [l0], st, newA σ 0 6 i 8)) := by rw [E_newarray i0_49 i0_51 ((congrArg (fun z => fldQ z 31) o0).trans f0_31) ⟨rfl, rfl⟩ (by decide) (Or.inr ⟨n0, o0⟩) (by decide +kernel), show (8 : Int32).toNatClampNeg = 8 by decide +kernel]
theorem e0_54 {d : Nat} {Q : Option AV → St → Prop} {st : List AV} {σ : St}  {x : Option (Nat × Nat × Nat)} : Rn (d) Q (0, 54, [some (vR x)], st, σ) = Rn (d) Q (0, 55, [some (vR x)], vR x :: st, σ) := E_aload_n i0_54 rfl
theorem e0_55 {d : Nat} {Q : Option AV → St → Prop} {st : List AV} {σ : St} {l0 : Option AV} : Rn (d) Q (0, 55, [l0], st, σ) = Rn (d) Q (0, 57, [l0], vI 120 :: st, σ) := by rw [E_bipush i0_55, cb_120]
theorem e0_57 {d : Nat} {Q : Option AV → St → Prop} {st : List AV} {σ : St} {l0 : Option AV} {i : Nat} : Rn (d) Q (0, 57, [l0], vI 120 :: vR (some (0, 0, i)) :: st, σ) = (i < gN σ 0 ∧ gL σ 0 7 i = none ∧ Rn (d) Q (0, 62, [l0], st, newA σ 0 7 i 120)) := by rw [E_newarray i0_57 i0_59 ((congrArg (fun z => fldQ z 36) o0).trans f0_36) ⟨rfl, rfl⟩ (by decide) (Or.inr ⟨n0, o0⟩) (by decide +kernel), show (120 : Int32).toNatClampNeg = 120 by decide +kernel]
theorem e0_62 {d : Nat} {Q : Option AV → St → Prop} {st : List AV} {σ : St}  {x : Option (Nat × Nat × Nat)} : Rn (d) Q (0, 62, [some (vR x)], st, σ) = Rn (d) Q (0, 63, [some (vR x)], vR x :: st, σ) := E_aload_n i0_62 rfl
theorem e0_63 {d : Nat} {Q : Option AV → St → Prop} {st : List AV} {σ : St} {l0 : Option AV} : Rn (d) Q (0, 63, [l0], st, σ) = Rn (d) Q (0, 64, [l0], vI 0 :: st, σ) := by rw [E_iconst i0_63, ci_0]
theorem e0_64 {d : Nat} {Q : Option AV → St → Prop} {st : List AV} {σ : St} {l0 : Option AV} {i : Nat} {x : Int32} : Rn (d) Q (0, 64, [l0], vI x :: vR (some (0, 0, i)) :: st, σ) = (i < gN σ 0 ∧ Rn (d) Q (0, 67, [l0], st, setI σ 0 8 i x)) := E_putI i0_64 ((congrArg (fun z => fldQ z 40) o0).trans f0_40) rfl (Or.inl rfl)
theorem e0_67 {d : Nat} {Q : Option AV → St → Prop} {σ : St} {l0 : Option AV} : Rn (d) Q (0, 67, [l0], [], σ) = Q none σ := E_ret (st := []) i0_67 r0
theorem i1_0 : ins 1 0 = some (.aload_n 0, 1) := (congrArg (fun x : PTy => x.1.lookup 0) q1).trans rfl
theorem i1_1 : ins 1 1 = some (.iconst 0, 1) := (congrArg (fun x : PTy => x.1.lookup 1) q1).trans rfl
theorem i1_2 : ins 1 2 = some (.putfield 15, 3) := (congrArg (fun x : PTy => x.1.lookup 2) q1).trans rfl
theorem i1_5 : ins 1 5 = some (.aload_n 0, 1) := (congrArg (fun x : PTy => x.1.lookup 5) q1).trans rfl
theorem i1_6 : ins 1 6 = some (.iconst 0, 1) := (congrArg (fun x : PTy => x.1.lookup 6) q1).trans rfl
theorem i1_7 : ins 1 7 = some (.putfield 40, 3) := (congrArg (fun x : PTy => x.1.lookup 7) q1).trans rfl
theorem i1_10 : ins 1 10 = some (.return_, 1) := (congrArg (fun x : PTy => x.1.lookup 10) q1).trans rfl
theorem e1_0 {d : Nat} {Q : Option AV → St → Prop} {st : List AV} {σ : St}  {x : Option (Nat × Nat × Nat)} : Rn (d) Q (1, 0, [some (vR x)], st, σ) = Rn (d) Q (1, 1, [some (vR x)], vR x :: st, σ) := E_aload_n i1_0 rfl
theorem e1_1 {d : Nat} {Q : Option AV → St → Prop} {st : List AV} {σ : St} {l0 : Option AV} : Rn (d) Q (1, 1, [l0], st, σ) = Rn (d) Q (1, 2, [l0], vI 0 :: st, σ) := by rw [E_iconst i1_1, ci_0]
theorem e1_2 {d : Nat} {Q : Option AV → St → Prop} {st : List AV} {σ : St} {l0 : Option AV} {i : Nat} {x : Int32} : Rn (d) Q (1, 2, [l0], vI x :: vR (some (0, 0, i)) :: st, σ) = (i < gN σ 0 ∧ Rn (d) Q (1, 5, [l0], st, setI σ 0 1 i x)) := E_putI i1_2 ((congrArg (fun z => fldQ z 15) o1).trans f0_15) rfl (Or.inl rfl)
theorem e1_5 {d : Nat} {Q : Option AV → St → Prop} {st : List AV} {σ : St}  {x : Option (Nat × Nat × Nat)} : Rn (d) Q (1, 5, [some (vR x)], st, σ) = Rn (d) Q (1, 6, [some (vR x)], vR x :: st, σ) := E_aload_n i1_5 rfl
theorem e1_6 {d : Nat} {Q : Option AV → St → Prop} {st : List AV} {σ : St} {l0 : Option AV} : Rn (d) Q (1, 6, [l0], st, σ) = Rn (d) Q (1, 7, [l0], vI 0 :: st, σ) := by rw [E_iconst i1_6, ci_0]
theorem e1_7 {d : Nat} {Q : Option AV → St → Prop} {st : List AV} {σ : St} {l0 : Option AV} {i : Nat} {x : Int32} : Rn (d) Q (1, 7, [l0], vI x :: vR (some (0, 0, i)) :: st, σ) = (i < gN σ 0 ∧ Rn (d) Q (1, 10, [l0], st, setI σ 0 8 i x)) := E_putI i1_7 ((congrArg (fun z => fldQ z 40) o1).trans f0_40) rfl (Or.inl rfl)
theorem e1_10 {d : Nat} {Q : Option AV → St → Prop} {σ : St} {l0 : Option AV} : Rn (d) Q (1, 10, [l0], [], σ) = Q none σ := E_ret (st := []) i1_10 r1
theorem i2_0 : ins 2 0 = some (.iload_n 1, 1) := (congrArg (fun x : PTy => x.1.lookup 0) q2).trans rfl
theorem i2_1 : ins 2 1 = some (.bipush 8, 2) := (congrArg (fun x : PTy => x.1.lookup 1) q2).trans rfl
theorem i2_3 : ins 2 3 = some (.invokestatic 43, 3) := (congrArg (fun x : PTy => x.1.lookup 3) q2).trans rfl
theorem i2_6 : ins 2 6 = some (.ifCond .eq 19, 3) := (congrArg (fun x : PTy => x.1.lookup 6) q2).trans rfl
theorem i2_9 : ins 2 9 = some (.aload_n 0, 1) := (congrArg (fun x : PTy => x.1.lookup 9) q2).trans rfl
theorem i2_10 : ins 2 10 = some (.getfield 15, 3) := (congrArg (fun x : PTy => x.1.lookup 10) q2).trans rfl
theorem i2_13 : ins 2 13 = some (.iload_n 1, 1) := (congrArg (fun x : PTy => x.1.lookup 13) q2).trans rfl
theorem i2_14 : ins 2 14 = some (.ishr, 1) := (congrArg (fun x : PTy => x.1.lookup 14) q2).trans rfl
theorem i2_15 : ins 2 15 = some (.iconst 1, 1) := (congrArg (fun x : PTy => x.1.lookup 15) q2).trans rfl
theorem i2_16 : ins 2 16 = some (.iand, 1) := (congrArg (fun x : PTy => x.1.lookup 16) q2).trans rfl
theorem i2_17 : ins 2 17 = some (.iconst 1, 1) := (congrArg (fun x : PTy => x.1.lookup 17) q2).trans rfl
theorem i2_18 : ins 2 18 = some (.if_icmp .ne 7, 3) := (congrArg (fun x : PTy => x.1.lookup 18) q2).trans rfl
theorem i2_21 : ins 2 21 = some (.iconst 1, 1) := (congrArg (fun x : PTy => x.1.lookup 21) q2).trans rfl
theorem i2_22 : ins 2 22 = some (.goto 4, 3) := (congrArg (fun x : PTy => x.1.lookup 22) q2).trans rfl
theorem i2_25 : ins 2 25 = some (.iconst 0, 1) := (congrArg (fun x : PTy => x.1.lookup 25) q2).trans rfl
theorem i2_26 : ins 2 26 = some (.ireturn, 1) := (congrArg (fun x : PTy => x.1.lookup 26) q2).trans rfl
theorem e2_0 {d : Nat} {Q : Option AV → St → Prop} {st : List AV} {σ : St} {l0 : Option AV} {x : Int32} : Rn (d) Q (2, 0, [l0, some (vI x)], st, σ) = Rn (d) Q (2, 1, [l0, some (vI x)], vI x :: st, σ) := E_iload_n i2_0 rfl
theorem e2_1 {d : Nat} {Q : Option AV → St → Prop} {st : List AV} {σ : St} {l0 l1 : Option AV} : Rn (d) Q (2, 1, [l0, l1], st, σ) = Rn (d) Q (2, 3, [l0, l1], vI 8 :: st, σ) := by rw [E_bipush i2_1, cb_8]
theorem e2_3 {d : Nat} {Q : Option AV → St → Prop} {st : List AV} {σ : St} {l0 l1 : Option AV} {a0 : Int32} {a1 : Int32} : Rn (d + 1) Q (2, 3, [l0, l1], vI a1 :: vI a0 :: st, σ) = (catS st ≤ 8 ∧ Rn d (fun r σ' => Rn (d + 1) Q (2, 6, [l0, l1], r.toList ++ st, σ')) (108, 0, [some (vI a0), some (vI a1)], [], σ)) := E_invS4 (a := [vI a1, vI a0]) i2_3 ((congrArg (fun z => mthQ z 43) o2).trans m0_43) rfl (ek108 a0 a1) (en108 a0 a1)
theorem e2_6 {d : Nat} {Q : Option AV → St → Prop} {st : List AV} {σ : St} {l0 l1 : Option AV} {x : Int32} : Rn (d) Q (2, 6, [l0, l1], vI x :: st, σ) = (if x = 0 then Rn (d) Q (2, 25, [l0, l1], st, σ) else Rn (d) Q (2, 9, [l0, l1], st, σ)) := E_if_eq 25 i2_6 (by decide)
theorem e2_9 {d : Nat} {Q : Option AV → St → Prop} {st : List AV} {σ : St} {l1 : Option AV} {x : Option (Nat × Nat × Nat)} : Rn (d) Q (2, 9, [some (vR x), l1], st, σ) = Rn (d) Q (2, 10, [some (vR x), l1], vR x :: st, σ) := E_aload_n i2_9 rfl
theorem e2_10 {d : Nat} {Q : Option AV → St → Prop} {st : List AV} {σ : St} {l0 l1 : Option AV} {i : Nat} : Rn (d) Q (2, 10, [l0, l1], vR (some (0, 0, i)) :: st, σ) = (i < gN σ 0 ∧ Rn (d) Q (2, 13, [l0, l1], vI (gI σ 0 1 i) :: st, σ)) := E_getI i2_10 ((congrArg (fun z => fldQ z 15) o2).trans f0_15) rfl
theorem e2_13 {d : Nat} {Q : Option AV → St → Prop} {st : List AV} {σ : St} {l0 : Option AV} {x : Int32} : Rn (d) Q (2, 13, [l0, some (vI x)], st, σ) = Rn (d) Q (2, 14, [l0, some (vI x)], vI x :: st, σ) := E_iload_n i2_13 rfl
theorem e2_14 {d : Nat} {Q : Option AV → St → Prop} {st : List AV} {σ : St} {l0 l1 : Option AV} {x y : Int32} : Rn (d) Q (2, 14, [l0, l1], vI y :: vI x :: st, σ) = Rn (d) Q (2, 15, [l0, l1], vI (x >>> (y &&& 31)) :: st, σ) := E_ishr i2_14
theorem e2_15 {d : Nat} {Q : Option AV → St → Prop} {st : List AV} {σ : St} {l0 l1 : Option AV} : Rn (d) Q (2, 15, [l0, l1], st, σ) = Rn (d) Q (2, 16, [l0, l1], vI 1 :: st, σ) := by rw [E_iconst i2_15, ci_1]
theorem e2_16 {d : Nat} {Q : Option AV → St → Prop} {st : List AV} {σ : St} {l0 l1 : Option AV} {x y : Int32} : Rn (d) Q (2, 16, [l0, l1], vI y :: vI x :: st, σ) = Rn (d) Q (2, 17, [l0, l1], vI (x &&& y) :: st, σ) := E_iand i2_16
theorem e2_17 {d : Nat} {Q : Option AV → St → Prop} {st : List AV} {σ : St} {l0 l1 : Option AV} : Rn (d) Q (2, 17, [l0, l1], st, σ) = Rn (d) Q (2, 18, [l0, l1], vI 1 :: st, σ) := by rw [E_iconst i2_17, ci_1]
theorem e2_18 {d : Nat} {Q : Option AV → St → Prop} {st : List AV} {σ : St} {l0 l1 : Option AV} {x y : Int32} : Rn (d) Q (2, 18, [l0, l1], vI y :: vI x :: st, σ) = (if x = y then Rn (d) Q (2, 21, [l0, l1], st, σ) else Rn (d) Q (2, 25, [l0, l1], st, σ)) := E_icmp_ne 25 i2_18 (by decide)
theorem e2_21 {d : Nat} {Q : Option AV → St → Prop} {st : List AV} {σ : St} {l0 l1 : Option AV} : Rn (d) Q (2, 21, [l0, l1], st, σ) = Rn (d) Q (2, 22, [l0, l1], vI 1 :: st, σ) := by rw [E_iconst i2_21, ci_1]
theorem e2_22 {d : Nat} {Q : Option AV → St → Prop} {st : List AV} {σ : St} {l0 l1 : Option AV} : Rn (d) Q (2, 22, [l0, l1], st, σ) = Rn (d) Q (2, 26, [l0, l1], st, σ) := E_goto 26 i2_22 (by decide)
theorem e2_25 {d : Nat} {Q : Option AV → St → Prop} {st : List AV} {σ : St} {l0 l1 : Option AV} : Rn (d) Q (2, 25, [l0, l1], st, σ) = Rn (d) Q (2, 26, [l0, l1], vI 0 :: st, σ) := by rw [E_iconst i2_25, ci_0]
theorem e2_26 {d : Nat} {Q : Option AV → St → Prop} {σ : St} {l0 l1 : Option AV} {x : Int32} : Rn (d) Q (2, 26, [l0, l1], [vI x], σ) = ((x = 0 ∨ x = 1) ∧ Q (some (vI x)) σ) := E_iretZ (st := []) i2_26 r2
theorem i3_0 : ins 3 0 = some (.aload_n 0, 1) := (congrArg (fun x : PTy => x.1.lookup 0) q3).trans rfl
theorem i3_1 : ins 3 1 = some (.dup, 1) := (congrArg (fun x : PTy => x.1.lookup 1) q3).trans rfl
theorem i3_2 : ins 3 2 = some (.getfield 15, 3) := (congrArg (fun x : PTy => x.1.lookup 2) q3).trans rfl
theorem i3_5 : ins 3 5 = some (.iconst 1, 1) := (congrArg (fun x : PTy => x.1.lookup 5) q3).trans rfl
theorem i3_6 : ins 3 6 = some (.iload_n 1, 1) := (congrArg (fun x : PTy => x.1.lookup 6) q3).trans rfl
theorem i3_7 : ins 3 7 = some (.ishl, 1) := (congrArg (fun x : PTy => x.1.lookup 7) q3).trans rfl
theorem i3_8 : ins 3 8 = some (.ior, 1) := (congrArg (fun x : PTy => x.1.lookup 8) q3).trans rfl
theorem i3_9 : ins 3 9 = some (.putfield 15, 3) := (congrArg (fun x : PTy => x.1.lookup 9) q3).trans rfl
theorem i3_12 : ins 3 12 = some (.aload_n 0, 1) := (congrArg (fun x : PTy => x.1.lookup 12) q3).trans rfl
theorem i3_13 : ins 3 13 = some (.getfield 18, 3) := (congrArg (fun x : PTy => x.1.lookup 13) q3).trans rfl
theorem i3_16 : ins 3 16 = some (.iload_n 1, 1) := (congrArg (fun x : PTy => x.1.lookup 16) q3).trans rfl
theorem i3_17 : ins 3 17 = some (.iload_n 2, 1) := (congrArg (fun x : PTy => x.1.lookup 17) q3).trans rfl
theorem i3_18 : ins 3 18 = some (.iastore, 1) := (congrArg (fun x : PTy => x.1.lookup 18) q3).trans rfl
theorem i3_19 : ins 3 19 = some (.aload_n 0, 1) := (congrArg (fun x : PTy => x.1.lookup 19) q3).trans rfl
theorem i3_20 : ins 3 20 = some (.getfield 22, 3) := (congrArg (fun x : PTy => x.1.lookup 20) q3).trans rfl
theorem i3_23 : ins 3 23 = some (.iload_n 1, 1) := (congrArg (fun x : PTy => x.1.lookup 23) q3).trans rfl
theorem i3_24 : ins 3 24 = some (.iload_n 3, 1) := (congrArg (fun x : PTy => x.1.lookup 24) q3).trans rfl
theorem i3_25 : ins 3 25 = some (.iastore, 1) := (congrArg (fun x : PTy => x.1.lookup 25) q3).trans rfl
theorem i3_26 : ins 3 26 = some (.aload_n 0, 1) := (congrArg (fun x : PTy => x.1.lookup 26) q3).trans rfl
theorem i3_27 : ins 3 27 = some (.getfield 25, 3) := (congrArg (fun x : PTy => x.1.lookup 27) q3).trans rfl
theorem i3_30 : ins 3 30 = some (.iload_n 1, 1) := (congrArg (fun x : PTy => x.1.lookup 30) q3).trans rfl
theorem i3_31 : ins 3 31 = some (.iconst 0, 1) := (congrArg (fun x : PTy => x.1.lookup 31) q3).trans rfl
theorem i3_32 : ins 3 32 = some (.iastore, 1) := (congrArg (fun x : PTy => x.1.lookup 32) q3).trans rfl
theorem i3_33 : ins 3 33 = some (.aload_n 0, 1) := (congrArg (fun x : PTy => x.1.lookup 33) q3).trans rfl
theorem i3_34 : ins 3 34 = some (.getfield 28, 3) := (congrArg (fun x : PTy => x.1.lookup 34) q3).trans rfl
theorem i3_37 : ins 3 37 = some (.iload_n 1, 1) := (congrArg (fun x : PTy => x.1.lookup 37) q3).trans rfl
theorem i3_38 : ins 3 38 = some (.aload_n 0, 1) := (congrArg (fun x : PTy => x.1.lookup 38) q3).trans rfl
theorem i3_39 : ins 3 39 = some (.getfield 40, 3) := (congrArg (fun x : PTy => x.1.lookup 39) q3).trans rfl
theorem i3_42 : ins 3 42 = some (.iastore, 1) := (congrArg (fun x : PTy => x.1.lookup 42) q3).trans rfl
theorem i3_43 : ins 3 43 = some (.aload_n 0, 1) := (congrArg (fun x : PTy => x.1.lookup 43) q3).trans rfl
theorem i3_44 : ins 3 44 = some (.getfield 31, 3) := (congrArg (fun x : PTy => x.1.lookup 44) q3).trans rfl
theorem i3_47 : ins 3 47 = some (.iload_n 1, 1) := (congrArg (fun x : PTy => x.1.lookup 47) q3).trans rfl
theorem i3_48 : ins 3 48 = some (.aload_n 0, 1) := (congrArg (fun x : PTy => x.1.lookup 48) q3).trans rfl
theorem i3_49 : ins 3 49 = some (.getfield 40, 3) := (congrArg (fun x : PTy => x.1.lookup 49) q3).trans rfl
theorem i3_52 : ins 3 52 = some (.iastore, 1) := (congrArg (fun x : PTy => x.1.lookup 52) q3).trans rfl
theorem i3_53 : ins 3 53 = some (.return_, 1) := (congrArg (fun x : PTy => x.1.lookup 53) q3).trans rfl
theorem e3_0 {d : Nat} {Q : Option AV → St → Prop} {st : List AV} {σ : St} {l1 l2 l3 : Option AV} {x : Option (Nat × Nat × Nat)} : Rn (d) Q (3, 0, [some (vR x), l1, l2, l3], st, σ) = Rn (d) Q (3, 1, [some (vR x), l1, l2, l3], vR x :: st, σ) := E_aload_n i3_0 rfl
theorem e3_1 {d : Nat} {Q : Option AV → St → Prop} {st : List AV} {σ : St} {l0 l1 l2 l3 : Option AV} {x : Option (Nat × Nat × Nat)} : Rn (d) Q (3, 1, [l0, l1, l2, l3], vR x :: st, σ) = Rn (d) Q (3, 2, [l0, l1, l2, l3], vR x :: vR x :: st, σ) := E_dupR i3_1
theorem e3_2 {d : Nat} {Q : Option AV → St → Prop} {st : List AV} {σ : St} {l0 l1 l2 l3 : Option AV} {i : Nat} : Rn (d) Q (3, 2, [l0, l1, l2, l3], vR (some (0, 0, i)) :: st, σ) = (i < gN σ 0 ∧ Rn (d) Q (3, 5, [l0, l1, l2, l3], vI (gI σ 0 1 i) :: st, σ)) := E_getI i3_2 ((congrArg (fun z => fldQ z 15) o3).trans f0_15) rfl
theorem e3_5 {d : Nat} {Q : Option AV → St → Prop} {st : List AV} {σ : St} {l0 l1 l2 l3 : Option AV} : Rn (d) Q (3, 5, [l0, l1, l2, l3], st, σ) = Rn (d) Q (3, 6, [l0, l1, l2, l3], vI 1 :: st, σ) := by rw [E_iconst i3_5, ci_1]
theorem e3_6 {d : Nat} {Q : Option AV → St → Prop} {st : List AV} {σ : St} {l0 l2 l3 : Option AV} {x : Int32} : Rn (d) Q (3, 6, [l0, some (vI x), l2, l3], st, σ) = Rn (d) Q (3, 7, [l0, some (vI x), l2, l3], vI x :: st, σ) := E_iload_n i3_6 rfl
theorem e3_7 {d : Nat} {Q : Option AV → St → Prop} {st : List AV} {σ : St} {l0 l1 l2 l3 : Option AV} {x y : Int32} : Rn (d) Q (3, 7, [l0, l1, l2, l3], vI y :: vI x :: st, σ) = Rn (d) Q (3, 8, [l0, l1, l2, l3], vI (x <<< (y &&& 31)) :: st, σ) := E_ishl i3_7
theorem e3_8 {d : Nat} {Q : Option AV → St → Prop} {st : List AV} {σ : St} {l0 l1 l2 l3 : Option AV} {x y : Int32} : Rn (d) Q (3, 8, [l0, l1, l2, l3], vI y :: vI x :: st, σ) = Rn (d) Q (3, 9, [l0, l1, l2, l3], vI (x ||| y) :: st, σ) := E_ior i3_8
theorem e3_9 {d : Nat} {Q : Option AV → St → Prop} {st : List AV} {σ : St} {l0 l1 l2 l3 : Option AV} {i : Nat} {x : Int32} : Rn (d) Q (3, 9, [l0, l1, l2, l3], vI x :: vR (some (0, 0, i)) :: st, σ) = (i < gN σ 0 ∧ Rn (d) Q (3, 12, [l0, l1, l2, l3], st, setI σ 0 1 i x)) := E_putI i3_9 ((congrArg (fun z => fldQ z 15) o3).trans f0_15) rfl (Or.inl rfl)
theorem e3_12 {d : Nat} {Q : Option AV → St → Prop} {st : List AV} {σ : St} {l1 l2 l3 : Option AV} {x : Option (Nat × Nat × Nat)} : Rn (d) Q (3, 12, [some (vR x), l1, l2, l3], st, σ) = Rn (d) Q (3, 13, [some (vR x), l1, l2, l3], vR x :: st, σ) := E_aload_n i3_12 rfl
theorem e3_13 {d : Nat} {Q : Option AV → St → Prop} {st : List AV} {σ : St} {l0 l1 l2 l3 : Option AV} {i : Nat} : Rn (d) Q (3, 13, [l0, l1, l2, l3], vR (some (0, 0, i)) :: st, σ) = (i < gN σ 0 ∧ ¬ gL σ 0 2 i = none ∧ Rn (d) Q (3, 16, [l0, l1, l2, l3], vR (some (0, 3, i)) :: st, σ)) := E_getA i3_13 ((congrArg (fun z => fldQ z 18) o3).trans f0_18) (Or.inl rfl)
theorem e3_16 {d : Nat} {Q : Option AV → St → Prop} {st : List AV} {σ : St} {l0 l2 l3 : Option AV} {x : Int32} : Rn (d) Q (3, 16, [l0, some (vI x), l2, l3], st, σ) = Rn (d) Q (3, 17, [l0, some (vI x), l2, l3], vI x :: st, σ) := E_iload_n i3_16 rfl
theorem e3_17 {d : Nat} {Q : Option AV → St → Prop} {st : List AV} {σ : St} {l0 l1 l3 : Option AV} {x : Int32} : Rn (d) Q (3, 17, [l0, l1, some (vI x), l3], st, σ) = Rn (d) Q (3, 18, [l0, l1, some (vI x), l3], vI x :: st, σ) := E_iload_n i3_17 rfl
theorem e3_18 {d : Nat} {Q : Option AV → St → Prop} {st : List AV} {σ : St} {l0 l1 l2 l3 : Option AV} {i : Nat} {j x : Int32} : Rn (d) Q (3, 18, [l0, l1, l2, l3], vI x :: vI j :: vR (some (0, 3, i)) :: st, σ) = (∃ n, gL σ 0 2 i = some n ∧ i < gN σ 0 ∧ (0 ≤ j.toInt ∧ j.toInt < n) ∧ Rn (d) Q (3, 19, [l0, l1, l2, l3], st, setA σ 0 2 i (upd (gA σ 0 2 i) j.toNatClampNeg x))) := E_iastore1 i3_18 rfl (by decide)
theorem e3_19 {d : Nat} {Q : Option AV → St → Prop} {st : List AV} {σ : St} {l1 l2 l3 : Option AV} {x : Option (Nat × Nat × Nat)} : Rn (d) Q (3, 19, [some (vR x), l1, l2, l3], st, σ) = Rn (d) Q (3, 20, [some (vR x), l1, l2, l3], vR x :: st, σ) := E_aload_n i3_19 rfl
theorem e3_20 {d : Nat} {Q : Option AV → St → Prop} {st : List AV} {σ : St} {l0 l1 l2 l3 : Option AV} {i : Nat} : Rn (d) Q (3, 20, [l0, l1, l2, l3], vR (some (0, 0, i)) :: st, σ) = (i < gN σ 0 ∧ ¬ gL σ 0 3 i = none ∧ Rn (d) Q (3, 23, [l0, l1, l2, l3], vR (some (0, 4, i)) :: st, σ)) := E_getA i3_20 ((congrArg (fun z => fldQ z 22) o3).trans f0_22) (Or.inl rfl)
theorem e3_23 {d : Nat} {Q : Option AV → St → Prop} {st : List AV} {σ : St} {l0 l2 l3 : Option AV} {x : Int32} : Rn (d) Q (3, 23, [l0, some (vI x), l2, l3], st, σ) = Rn (d) Q (3, 24, [l0, some (vI x), l2, l3], vI x :: st, σ) := E_iload_n i3_23 rfl
theorem e3_24 {d : Nat} {Q : Option AV → St → Prop} {st : List AV} {σ : St} {l0 l1 l2 : Option AV} {x : Int32} : Rn (d) Q (3, 24, [l0, l1, l2, some (vI x)], st, σ) = Rn (d) Q (3, 25, [l0, l1, l2, some (vI x)], vI x :: st, σ) := E_iload_n i3_24 rfl
theorem e3_25 {d : Nat} {Q : Option AV → St → Prop} {st : List AV} {σ : St} {l0 l1 l2 l3 : Option AV} {i : Nat} {j x : Int32} : Rn (d) Q (3, 25, [l0, l1, l2, l3], vI x :: vI j :: vR (some (0, 4, i)) :: st, σ) = (∃ n, gL σ 0 3 i = some n ∧ i < gN σ 0 ∧ (0 ≤ j.toInt ∧ j.toInt < n) ∧ Rn (d) Q (3, 26, [l0, l1, l2, l3], st, setA σ 0 3 i (upd (gA σ 0 3 i) j.toNatClampNeg x))) := E_iastore1 i3_25 rfl (by decide)
theorem e3_26 {d : Nat} {Q : Option AV → St → Prop} {st : List AV} {σ : St} {l1 l2 l3 : Option AV} {x : Option (Nat × Nat × Nat)} : Rn (d) Q (3, 26, [some (vR x), l1, l2, l3], st, σ) = Rn (d) Q (3, 27, [some (vR x), l1, l2, l3], vR x :: st, σ) := E_aload_n i3_26 rfl
theorem e3_27 {d : Nat} {Q : Option AV → St → Prop} {st : List AV} {σ : St} {l0 l1 l2 l3 : Option AV} {i : Nat} : Rn (d) Q (3, 27, [l0, l1, l2, l3], vR (some (0, 0, i)) :: st, σ) = (i < gN σ 0 ∧ ¬ gL σ 0 4 i = none ∧ Rn (d) Q (3, 30, [l0, l1, l2, l3], vR (some (0, 5, i)) :: st, σ)) := E_getA i3_27 ((congrArg (fun z => fldQ z 25) o3).trans f0_25) (Or.inl rfl)
theorem e3_30 {d : Nat} {Q : Option AV → St → Prop} {st : List AV} {σ : St} {l0 l2 l3 : Option AV} {x : Int32} : Rn (d) Q (3, 30, [l0, some (vI x), l2, l3], st, σ) = Rn (d) Q (3, 31, [l0, some (vI x), l2, l3], vI x :: st, σ) := E_iload_n i3_30 rfl
theorem e3_31 {d : Nat} {Q : Option AV → St → Prop} {st : List AV} {σ : St} {l0 l1 l2 l3 : Option AV} : Rn (d) Q (3, 31, [l0, l1, l2, l3], st, σ) = Rn (d) Q (3, 32, [l0, l1, l2, l3], vI 0 :: st, σ) := by rw [E_iconst i3_31, ci_0]
theorem e3_32 {d : Nat} {Q : Option AV → St → Prop} {st : List AV} {σ : St} {l0 l1 l2 l3 : Option AV} {i : Nat} {j x : Int32} : Rn (d) Q (3, 32, [l0, l1, l2, l3], vI x :: vI j :: vR (some (0, 5, i)) :: st, σ) = (∃ n, gL σ 0 4 i = some n ∧ i < gN σ 0 ∧ (0 ≤ j.toInt ∧ j.toInt < n) ∧ Rn (d) Q (3, 33, [l0, l1, l2, l3], st, setA σ 0 4 i (upd (gA σ 0 4 i) j.toNatClampNeg x))) := E_iastore1 i3_32 rfl (by decide)
theorem e3_33 {d : Nat} {Q : Option AV → St → Prop} {st : List AV} {σ : St} {l1 l2 l3 : Option AV} {x : Option (Nat × Nat × Nat)} : Rn (d) Q (3, 33, [some (vR x), l1, l2, l3], st, σ) = Rn (d) Q (3, 34, [some (vR x), l1, l2, l3], vR x :: st, σ) := E_aload_n i3_33 rfl
theorem e3_34 {d : Nat} {Q : Option AV → St → Prop} {st : List AV} {σ : St} {l0 l1 l2 l3 : Option AV} {i : Nat} : Rn (d) Q (3, 34, [l0, l1, l2, l3], vR (some (0, 0, i)) :: st, σ) = (i < gN σ 0 ∧ ¬ gL σ 0 5 i = none ∧ Rn (d) Q (3, 37, [l0, l1, l2, l3], vR (some (0, 6, i)) :: st, σ)) := E_getA i3_34 ((congrArg (fun z => fldQ z 28) o3).trans f0_28) (Or.inl rfl)
theorem e3_37 {d : Nat} {Q : Option AV → St → Prop} {st : List AV} {σ : St} {l0 l2 l3 : Option AV} {x : Int32} : Rn (d) Q (3, 37, [l0, some (vI x), l2, l3], st, σ) = Rn (d) Q (3, 38, [l0, some (vI x), l2, l3], vI x :: st, σ) := E_iload_n i3_37 rfl
theorem e3_38 {d : Nat} {Q : Option AV → St → Prop} {st : List AV} {σ : St} {l1 l2 l3 : Option AV} {x : Option (Nat × Nat × Nat)} : Rn (d) Q (3, 38, [some (vR x), l1, l2, l3], st, σ) = Rn (d) Q (3, 39, [some (vR x), l1, l2, l3], vR x :: st, σ) := E_aload_n i3_38 rfl
theorem e3_39 {d : Nat} {Q : Option AV → St → Prop} {st : List AV} {σ : St} {l0 l1 l2 l3 : Option AV} {i : Nat} : Rn (d) Q (3, 39, [l0, l1, l2, l3], vR (some (0, 0, i)) :: st, σ) = (i < gN σ 0 ∧ Rn (d) Q (3, 42, [l0, l1, l2, l3], vI (gI σ 0 8 i) :: st, σ)) := E_getI i3_39 ((congrArg (fun z => fldQ z 40) o3).trans f0_40) rfl
theorem e3_42 {d : Nat} {Q : Option AV → St → Prop} {st : List AV} {σ : St} {l0 l1 l2 l3 : Option AV} {i : Nat} {j x : Int32} : Rn (d) Q (3, 42, [l0, l1, l2, l3], vI x :: vI j :: vR (some (0, 6, i)) :: st, σ) = (∃ n, gL σ 0 5 i = some n ∧ i < gN σ 0 ∧ (0 ≤ j.toInt ∧ j.toInt < n) ∧ Rn (d) Q (3, 43, [l0, l1, l2, l3], st, setA σ 0 5 i (upd (gA σ 0 5 i) j.toNatClampNeg x))) := E_iastore1 i3_42 rfl (by decide)
theorem e3_43 {d : Nat} {Q : Option AV → St → Prop} {st : List AV} {σ : St} {l1 l2 l3 : Option AV} {x : Option (Nat × Nat × Nat)} : Rn (d) Q (3, 43, [some (vR x), l1, l2, l3], st, σ) = Rn (d) Q (3, 44, [some (vR x), l1, l2, l3], vR x :: st, σ) := E_aload_n i3_43 rfl
theorem e3_44 {d : Nat} {Q : Option AV → St → Prop} {st : List AV} {σ : St} {l0 l1 l2 l3 : Option AV} {i : Nat} : Rn (d) Q (3, 44, [l0, l1, l2, l3], vR (some (0, 0, i)) :: st, σ) = (i < gN σ 0 ∧ ¬ gL σ 0 6 i = none ∧ Rn (d) Q (3, 47, [l0, l1, l2, l3], vR (some (0, 7, i)) :: st, σ)) := E_getA i3_44 ((congrArg (fun z => fldQ z 31) o3).trans f0_31) (Or.inl rfl)
theorem e3_47 {d : Nat} {Q : Option AV → St → Prop} {st : List AV} {σ : St} {l0 l2 l3 : Option AV} {x : Int32} : Rn (d) Q (3, 47, [l0, some (vI x), l2, l3], st, σ) = Rn (d) Q (3, 48, [l0, some (vI x), l2, l3], vI x :: st, σ) := E_iload_n i3_47 rfl
theorem e3_48 {d : Nat} {Q : Option AV → St → Prop} {st : List AV} {σ : St} {l1 l2 l3 : Option AV} {x : Option (Nat × Nat × Nat)} : Rn (d) Q (3, 48, [some (vR x), l1, l2, l3], st, σ) = Rn (d) Q (3, 49, [some (vR x), l1, l2, l3], vR x :: st, σ) := E_aload_n i3_48 rfl
theorem e3_49 {d : Nat} {Q : Option AV → St → Prop} {st : List AV} {σ : St} {l0 l1 l2 l3 : Option AV} {i : Nat} : Rn (d) Q (3, 49, [l0, l1, l2, l3], vR (some (0, 0, i)) :: st, σ) = (i < gN σ 0 ∧ Rn (d) Q (3, 52, [l0, l1, l2, l3], vI (gI σ 0 8 i) :: st, σ)) := E_getI i3_49 ((congrArg (fun z => fldQ z 40) o3).trans f0_40) rfl
theorem e3_52 {d : Nat} {Q : Option AV → St → Prop} {st : List AV} {σ : St} {l0 l1 l2 l3 : Option AV} {i : Nat} {j x : Int32} : Rn (d) Q (3, 52, [l0, l1, l2, l3], vI x :: vI j :: vR (some (0, 7, i)) :: st, σ) = (∃ n, gL σ 0 6 i = some n ∧ i < gN σ 0 ∧ (0 ≤ j.toInt ∧ j.toInt < n) ∧ Rn (d) Q (3, 53, [l0, l1, l2, l3], st, setA σ 0 6 i (upd (gA σ 0 6 i) j.toNatClampNeg x))) := E_iastore1 i3_52 rfl (by decide)
theorem e3_53 {d : Nat} {Q : Option AV → St → Prop} {σ : St} {l0 l1 l2 l3 : Option AV} : Rn (d) Q (3, 53, [l0, l1, l2, l3], [], σ) = Q none σ := E_ret (st := []) i3_53 r3
theorem i4_0 : ins 4 0 = some (.aload_n 0, 1) := (congrArg (fun x : PTy => x.1.lookup 0) q4).trans rfl
theorem i4_1 : ins 4 1 = some (.getfield 25, 3) := (congrArg (fun x : PTy => x.1.lookup 1) q4).trans rfl
theorem i4_4 : ins 4 4 = some (.iload_n 1, 1) := (congrArg (fun x : PTy => x.1.lookup 4) q4).trans rfl
theorem i4_5 : ins 4 5 = some (.dup2, 1) := (congrArg (fun x : PTy => x.1.lookup 5) q4).trans rfl
theorem i4_6 : ins 4 6 = some (.iaload, 1) := (congrArg (fun x : PTy => x.1.lookup 6) q4).trans rfl
theorem i4_7 : ins 4 7 = some (.iconst 1, 1) := (congrArg (fun x : PTy => x.1.lookup 7) q4).trans rfl
theorem i4_8 : ins 4 8 = some (.iload_n 2, 1) := (congrArg (fun x : PTy => x.1.lookup 8) q4).trans rfl
theorem i4_9 : ins 4 9 = some (.ishl, 1) := (congrArg (fun x : PTy => x.1.lookup 9) q4).trans rfl
theorem i4_10 : ins 4 10 = some (.ior, 1) := (congrArg (fun x : PTy => x.1.lookup 10) q4).trans rfl
theorem i4_11 : ins 4 11 = some (.iastore, 1) := (congrArg (fun x : PTy => x.1.lookup 11) q4).trans rfl
theorem i4_12 : ins 4 12 = some (.aload_n 0, 1) := (congrArg (fun x : PTy => x.1.lookup 12) q4).trans rfl
theorem i4_13 : ins 4 13 = some (.iload_n 1, 1) := (congrArg (fun x : PTy => x.1.lookup 13) q4).trans rfl
theorem i4_14 : ins 4 14 = some (.iload_n 2, 1) := (congrArg (fun x : PTy => x.1.lookup 14) q4).trans rfl
theorem i4_15 : ins 4 15 = some (.invokevirtual 47, 3) := (congrArg (fun x : PTy => x.1.lookup 15) q4).trans rfl
theorem i4_18 : ins 4 18 = some (.return_, 1) := (congrArg (fun x : PTy => x.1.lookup 18) q4).trans rfl
theorem e4_0 {d : Nat} {Q : Option AV → St → Prop} {st : List AV} {σ : St} {l1 l2 : Option AV} {x : Option (Nat × Nat × Nat)} : Rn (d) Q (4, 0, [some (vR x), l1, l2], st, σ) = Rn (d) Q (4, 1, [some (vR x), l1, l2], vR x :: st, σ) := E_aload_n i4_0 rfl
theorem e4_1 {d : Nat} {Q : Option AV → St → Prop} {st : List AV} {σ : St} {l0 l1 l2 : Option AV} {i : Nat} : Rn (d) Q (4, 1, [l0, l1, l2], vR (some (0, 0, i)) :: st, σ) = (i < gN σ 0 ∧ ¬ gL σ 0 4 i = none ∧ Rn (d) Q (4, 4, [l0, l1, l2], vR (some (0, 5, i)) :: st, σ)) := E_getA i4_1 ((congrArg (fun z => fldQ z 25) o4).trans f0_25) (Or.inl rfl)
theorem e4_4 {d : Nat} {Q : Option AV → St → Prop} {st : List AV} {σ : St} {l0 l2 : Option AV} {x : Int32} : Rn (d) Q (4, 4, [l0, some (vI x), l2], st, σ) = Rn (d) Q (4, 5, [l0, some (vI x), l2], vI x :: st, σ) := E_iload_n i4_4 rfl
theorem e4_5 {d : Nat} {Q : Option AV → St → Prop} {st : List AV} {σ : St} {l0 l1 l2 : Option AV} {x : Int32} {y : Option (Nat × Nat × Nat)} : Rn (d) Q (4, 5, [l0, l1, l2], vI x :: vR y :: st, σ) = Rn (d) Q (4, 6, [l0, l1, l2], vI x :: vR y :: vI x :: vR y :: st, σ) := E_dup2 i4_5
theorem e4_6 {d : Nat} {Q : Option AV → St → Prop} {st : List AV} {σ : St} {l0 l1 l2 : Option AV} {i : Nat} {j : Int32} : Rn (d) Q (4, 6, [l0, l1, l2], vI j :: vR (some (0, 5, i)) :: st, σ) = (∃ n, gL σ 0 4 i = some n ∧ i < gN σ 0 ∧ (0 ≤ j.toInt ∧ j.toInt < n) ∧ Rn (d) Q (4, 7, [l0, l1, l2], vI (gA σ 0 4 i j.toNatClampNeg) :: st, σ)) := E_iaload1 i4_6 rfl
theorem e4_7 {d : Nat} {Q : Option AV → St → Prop} {st : List AV} {σ : St} {l0 l1 l2 : Option AV} : Rn (d) Q (4, 7, [l0, l1, l2], st, σ) = Rn (d) Q (4, 8, [l0, l1, l2], vI 1 :: st, σ) := by rw [E_iconst i4_7, ci_1]
theorem e4_8 {d : Nat} {Q : Option AV → St → Prop} {st : List AV} {σ : St} {l0 l1 : Option AV} {x : Int32} : Rn (d) Q (4, 8, [l0, l1, some (vI x)], st, σ) = Rn (d) Q (4, 9, [l0, l1, some (vI x)], vI x :: st, σ) := E_iload_n i4_8 rfl
theorem e4_9 {d : Nat} {Q : Option AV → St → Prop} {st : List AV} {σ : St} {l0 l1 l2 : Option AV} {x y : Int32} : Rn (d) Q (4, 9, [l0, l1, l2], vI y :: vI x :: st, σ) = Rn (d) Q (4, 10, [l0, l1, l2], vI (x <<< (y &&& 31)) :: st, σ) := E_ishl i4_9
theorem e4_10 {d : Nat} {Q : Option AV → St → Prop} {st : List AV} {σ : St} {l0 l1 l2 : Option AV} {x y : Int32} : Rn (d) Q (4, 10, [l0, l1, l2], vI y :: vI x :: st, σ) = Rn (d) Q (4, 11, [l0, l1, l2], vI (x ||| y) :: st, σ) := E_ior i4_10
theorem e4_11 {d : Nat} {Q : Option AV → St → Prop} {st : List AV} {σ : St} {l0 l1 l2 : Option AV} {i : Nat} {j x : Int32} : Rn (d) Q (4, 11, [l0, l1, l2], vI x :: vI j :: vR (some (0, 5, i)) :: st, σ) = (∃ n, gL σ 0 4 i = some n ∧ i < gN σ 0 ∧ (0 ≤ j.toInt ∧ j.toInt < n) ∧ Rn (d) Q (4, 12, [l0, l1, l2], st, setA σ 0 4 i (upd (gA σ 0 4 i) j.toNatClampNeg x))) := E_iastore1 i4_11 rfl (by decide)
theorem e4_12 {d : Nat} {Q : Option AV → St → Prop} {st : List AV} {σ : St} {l1 l2 : Option AV} {x : Option (Nat × Nat × Nat)} : Rn (d) Q (4, 12, [some (vR x), l1, l2], st, σ) = Rn (d) Q (4, 13, [some (vR x), l1, l2], vR x :: st, σ) := E_aload_n i4_12 rfl
theorem e4_13 {d : Nat} {Q : Option AV → St → Prop} {st : List AV} {σ : St} {l0 l2 : Option AV} {x : Int32} : Rn (d) Q (4, 13, [l0, some (vI x), l2], st, σ) = Rn (d) Q (4, 14, [l0, some (vI x), l2], vI x :: st, σ) := E_iload_n i4_13 rfl
theorem e4_14 {d : Nat} {Q : Option AV → St → Prop} {st : List AV} {σ : St} {l0 l1 : Option AV} {x : Int32} : Rn (d) Q (4, 14, [l0, l1, some (vI x)], st, σ) = Rn (d) Q (4, 15, [l0, l1, some (vI x)], vI x :: st, σ) := E_iload_n i4_14 rfl
theorem e4_15 {d : Nat} {Q : Option AV → St → Prop} {st : List AV} {σ : St} {l0 l1 l2 : Option AV} {i : Nat} {a1 : Int32} {a2 : Int32} : Rn (d + 1) Q (4, 15, [l0, l1, l2], vI a2 :: vI a1 :: vR (some (0, 0, i)) :: st, σ) = (i < gN σ 0 ∧ catS st ≤ 8 ∧ Rn d (fun r σ' => Rn (d + 1) Q (4, 18, [l0, l1, l2], r.toList ++ st, σ')) (6, 0, [some (vR (some (0, 0, i))), some (vI a1), some (vI a2)], [], σ)) := E_invV (a := [vI a2, vI a1]) i4_15 ((congrArg (fun z => mthQ z 47) o4).trans m0_47) o6 rfl (ek6 i a1 a2) (en6 i a1 a2)
theorem e4_18 {d : Nat} {Q : Option AV → St → Prop} {σ : St} {l0 l1 l2 : Option AV} : Rn (d) Q (4, 18, [l0, l1, l2], [], σ) = Q none σ := E_ret (st := []) i4_18 r4
theorem i5_0 : ins 5 0 = some (.aload_n 0, 1) := (congrArg (fun x : PTy => x.1.lookup 0) q5).trans rfl
theorem i5_1 : ins 5 1 = some (.getfield 25, 3) := (congrArg (fun x : PTy => x.1.lookup 1) q5).trans rfl
theorem i5_4 : ins 5 4 = some (.iload_n 1, 1) := (congrArg (fun x : PTy => x.1.lookup 4) q5).trans rfl
theorem i5_5 : ins 5 5 = some (.dup2, 1) := (congrArg (fun x : PTy => x.1.lookup 5) q5).trans rfl
theorem i5_6 : ins 5 6 = some (.iaload, 1) := (congrArg (fun x : PTy => x.1.lookup 6) q5).trans rfl
theorem i5_7 : ins 5 7 = some (.iconst 1, 1) := (congrArg (fun x : PTy => x.1.lookup 7) q5).trans rfl
theorem i5_8 : ins 5 8 = some (.iload_n 2, 1) := (congrArg (fun x : PTy => x.1.lookup 8) q5).trans rfl
theorem i5_9 : ins 5 9 = some (.ishl, 1) := (congrArg (fun x : PTy => x.1.lookup 9) q5).trans rfl
theorem i5_10 : ins 5 10 = some (.ior, 1) := (congrArg (fun x : PTy => x.1.lookup 10) q5).trans rfl
theorem i5_11 : ins 5 11 = some (.iastore, 1) := (congrArg (fun x : PTy => x.1.lookup 11) q5).trans rfl
theorem i5_12 : ins 5 12 = some (.aload_n 0, 1) := (congrArg (fun x : PTy => x.1.lookup 12) q5).trans rfl
theorem i5_13 : ins 5 13 = some (.iload_n 1, 1) := (congrArg (fun x : PTy => x.1.lookup 13) q5).trans rfl
theorem i5_14 : ins 5 14 = some (.bipush 8, 2) := (congrArg (fun x : PTy => x.1.lookup 14) q5).trans rfl
theorem i5_16 : ins 5 16 = some (.iload_n 3, 1) := (congrArg (fun x : PTy => x.1.lookup 16) q5).trans rfl
theorem i5_17 : ins 5 17 = some (.iconst 1, 1) := (congrArg (fun x : PTy => x.1.lookup 17) q5).trans rfl
theorem i5_18 : ins 5 18 = some (.iadd, 1) := (congrArg (fun x : PTy => x.1.lookup 18) q5).trans rfl
theorem i5_19 : ins 5 19 = some (.imul, 1) := (congrArg (fun x : PTy => x.1.lookup 19) q5).trans rfl
theorem i5_20 : ins 5 20 = some (.iload_n 2, 1) := (congrArg (fun x : PTy => x.1.lookup 20) q5).trans rfl
theorem i5_21 : ins 5 21 = some (.iadd, 1) := (congrArg (fun x : PTy => x.1.lookup 21) q5).trans rfl
theorem i5_22 : ins 5 22 = some (.invokevirtual 47, 3) := (congrArg (fun x : PTy => x.1.lookup 22) q5).trans rfl
theorem i5_25 : ins 5 25 = some (.return_, 1) := (congrArg (fun x : PTy => x.1.lookup 25) q5).trans rfl
theorem e5_0 {d : Nat} {Q : Option AV → St → Prop} {st : List AV} {σ : St} {l1 l2 l3 : Option AV} {x : Option (Nat × Nat × Nat)} : Rn (d) Q (5, 0, [some (vR x), l1, l2, l3], st, σ) = Rn (d) Q (5, 1, [some (vR x), l1, l2, l3], vR x :: st, σ) := E_aload_n i5_0 rfl
theorem e5_1 {d : Nat} {Q : Option AV → St → Prop} {st : List AV} {σ : St} {l0 l1 l2 l3 : Option AV} {i : Nat} : Rn (d) Q (5, 1, [l0, l1, l2, l3], vR (some (0, 0, i)) :: st, σ) = (i < gN σ 0 ∧ ¬ gL σ 0 4 i = none ∧ Rn (d) Q (5, 4, [l0, l1, l2, l3], vR (some (0, 5, i)) :: st, σ)) := E_getA i5_1 ((congrArg (fun z => fldQ z 25) o5).trans f0_25) (Or.inl rfl)
theorem e5_4 {d : Nat} {Q : Option AV → St → Prop} {st : List AV} {σ : St} {l0 l2 l3 : Option AV} {x : Int32} : Rn (d) Q (5, 4, [l0, some (vI x), l2, l3], st, σ) = Rn (d) Q (5, 5, [l0, some (vI x), l2, l3], vI x :: st, σ) := E_iload_n i5_4 rfl
theorem e5_5 {d : Nat} {Q : Option AV → St → Prop} {st : List AV} {σ : St} {l0 l1 l2 l3 : Option AV} {x : Int32} {y : Option (Nat × Nat × Nat)} : Rn (d) Q (5, 5, [l0, l1, l2, l3], vI x :: vR y :: st, σ) = Rn (d) Q (5, 6, [l0, l1, l2, l3], vI x :: vR y :: vI x :: vR y :: st, σ) := E_dup2 i5_5
theorem e5_6 {d : Nat} {Q : Option AV → St → Prop} {st : List AV} {σ : St} {l0 l1 l2 l3 : Option AV} {i : Nat} {j : Int32} : Rn (d) Q (5, 6, [l0, l1, l2, l3], vI j :: vR (some (0, 5, i)) :: st, σ) = (∃ n, gL σ 0 4 i = some n ∧ i < gN σ 0 ∧ (0 ≤ j.toInt ∧ j.toInt < n) ∧ Rn (d) Q (5, 7, [l0, l1, l2, l3], vI (gA σ 0 4 i j.toNatClampNeg) :: st, σ)) := E_iaload1 i5_6 rfl
theorem e5_7 {d : Nat} {Q : Option AV → St → Prop} {st : List AV} {σ : St} {l0 l1 l2 l3 : Option AV} : Rn (d) Q (5, 7, [l0, l1, l2, l3], st, σ) = Rn (d) Q (5, 8, [l0, l1, l2, l3], vI 1 :: st, σ) := by rw [E_iconst i5_7, ci_1]
theorem e5_8 {d : Nat} {Q : Option AV → St → Prop} {st : List AV} {σ : St} {l0 l1 l3 : Option AV} {x : Int32} : Rn (d) Q (5, 8, [l0, l1, some (vI x), l3], st, σ) = Rn (d) Q (5, 9, [l0, l1, some (vI x), l3], vI x :: st, σ) := E_iload_n i5_8 rfl
theorem e5_9 {d : Nat} {Q : Option AV → St → Prop} {st : List AV} {σ : St} {l0 l1 l2 l3 : Option AV} {x y : Int32} : Rn (d) Q (5, 9, [l0, l1, l2, l3], vI y :: vI x :: st, σ) = Rn (d) Q (5, 10, [l0, l1, l2, l3], vI (x <<< (y &&& 31)) :: st, σ) := E_ishl i5_9
theorem e5_10 {d : Nat} {Q : Option AV → St → Prop} {st : List AV} {σ : St} {l0 l1 l2 l3 : Option AV} {x y : Int32} : Rn (d) Q (5, 10, [l0, l1, l2, l3], vI y :: vI x :: st, σ) = Rn (d) Q (5, 11, [l0, l1, l2, l3], vI (x ||| y) :: st, σ) := E_ior i5_10
theorem e5_11 {d : Nat} {Q : Option AV → St → Prop} {st : List AV} {σ : St} {l0 l1 l2 l3 : Option AV} {i : Nat} {j x : Int32} : Rn (d) Q (5, 11, [l0, l1, l2, l3], vI x :: vI j :: vR (some (0, 5, i)) :: st, σ) = (∃ n, gL σ 0 4 i = some n ∧ i < gN σ 0 ∧ (0 ≤ j.toInt ∧ j.toInt < n) ∧ Rn (d) Q (5, 12, [l0, l1, l2, l3], st, setA σ 0 4 i (upd (gA σ 0 4 i) j.toNatClampNeg x))) := E_iastore1 i5_11 rfl (by decide)
theorem e5_12 {d : Nat} {Q : Option AV → St → Prop} {st : List AV} {σ : St} {l1 l2 l3 : Option AV} {x : Option (Nat × Nat × Nat)} : Rn (d) Q (5, 12, [some (vR x), l1, l2, l3], st, σ) = Rn (d) Q (5, 13, [some (vR x), l1, l2, l3], vR x :: st, σ) := E_aload_n i5_12 rfl
theorem e5_13 {d : Nat} {Q : Option AV → St → Prop} {st : List AV} {σ : St} {l0 l2 l3 : Option AV} {x : Int32} : Rn (d) Q (5, 13, [l0, some (vI x), l2, l3], st, σ) = Rn (d) Q (5, 14, [l0, some (vI x), l2, l3], vI x :: st, σ) := E_iload_n i5_13 rfl
theorem e5_14 {d : Nat} {Q : Option AV → St → Prop} {st : List AV} {σ : St} {l0 l1 l2 l3 : Option AV} : Rn (d) Q (5, 14, [l0, l1, l2, l3], st, σ) = Rn (d) Q (5, 16, [l0, l1, l2, l3], vI 8 :: st, σ) := by rw [E_bipush i5_14, cb_8]
theorem e5_16 {d : Nat} {Q : Option AV → St → Prop} {st : List AV} {σ : St} {l0 l1 l2 : Option AV} {x : Int32} : Rn (d) Q (5, 16, [l0, l1, l2, some (vI x)], st, σ) = Rn (d) Q (5, 17, [l0, l1, l2, some (vI x)], vI x :: st, σ) := E_iload_n i5_16 rfl
theorem e5_17 {d : Nat} {Q : Option AV → St → Prop} {st : List AV} {σ : St} {l0 l1 l2 l3 : Option AV} : Rn (d) Q (5, 17, [l0, l1, l2, l3], st, σ) = Rn (d) Q (5, 18, [l0, l1, l2, l3], vI 1 :: st, σ) := by rw [E_iconst i5_17, ci_1]
theorem e5_18 {d : Nat} {Q : Option AV → St → Prop} {st : List AV} {σ : St} {l0 l1 l2 l3 : Option AV} {x y : Int32} : Rn (d) Q (5, 18, [l0, l1, l2, l3], vI y :: vI x :: st, σ) = Rn (d) Q (5, 19, [l0, l1, l2, l3], vI (x + y) :: st, σ) := E_iadd i5_18
theorem e5_19 {d : Nat} {Q : Option AV → St → Prop} {st : List AV} {σ : St} {l0 l1 l2 l3 : Option AV} {x y : Int32} : Rn (d) Q (5, 19, [l0, l1, l2, l3], vI y :: vI x :: st, σ) = Rn (d) Q (5, 20, [l0, l1, l2, l3], vI (x * y) :: st, σ) := E_imul i5_19
theorem e5_20 {d : Nat} {Q : Option AV → St → Prop} {st : List AV} {σ : St} {l0 l1 l3 : Option AV} {x : Int32} : Rn (d) Q (5, 20, [l0, l1, some (vI x), l3], st, σ) = Rn (d) Q (5, 21, [l0, l1, some (vI x), l3], vI x :: st, σ) := E_iload_n i5_20 rfl
theorem e5_21 {d : Nat} {Q : Option AV → St → Prop} {st : List AV} {σ : St} {l0 l1 l2 l3 : Option AV} {x y : Int32} : Rn (d) Q (5, 21, [l0, l1, l2, l3], vI y :: vI x :: st, σ) = Rn (d) Q (5, 22, [l0, l1, l2, l3], vI (x + y) :: st, σ) := E_iadd i5_21
theorem e5_22 {d : Nat} {Q : Option AV → St → Prop} {st : List AV} {σ : St} {l0 l1 l2 l3 : Option AV} {i : Nat} {a1 : Int32} {a2 : Int32} : Rn (d + 1) Q (5, 22, [l0, l1, l2, l3], vI a2 :: vI a1 :: vR (some (0, 0, i)) :: st, σ) = (i < gN σ 0 ∧ catS st ≤ 8 ∧ Rn d (fun r σ' => Rn (d + 1) Q (5, 25, [l0, l1, l2, l3], r.toList ++ st, σ')) (6, 0, [some (vR (some (0, 0, i))), some (vI a1), some (vI a2)], [], σ)) := E_invV (a := [vI a2, vI a1]) i5_22 ((congrArg (fun z => mthQ z 47) o5).trans m0_47) o6 rfl (ek6 i a1 a2) (en6 i a1 a2)
theorem e5_25 {d : Nat} {Q : Option AV → St → Prop} {σ : St} {l0 l1 l2 l3 : Option AV} : Rn (d) Q (5, 25, [l0, l1, l2, l3], [], σ) = Q none σ := E_ret (st := []) i5_25 r5
theorem i6_0 : ins 6 0 = some (.aload_n 0, 1) := (congrArg (fun x : PTy => x.1.lookup 0) q6).trans rfl
theorem i6_1 : ins 6 1 = some (.getfield 40, 3) := (congrArg (fun x : PTy => x.1.lookup 1) q6).trans rfl
theorem i6_4 : ins 6 4 = some (.aload_n 0, 1) := (congrArg (fun x : PTy => x.1.lookup 4) q6).trans rfl
theorem i6_5 : ins 6 5 = some (.getfield 36, 3) := (congrArg (fun x : PTy => x.1.lookup 5) q6).trans rfl
theorem i6_8 : ins 6 8 = some (.arraylength, 1) := (congrArg (fun x : PTy => x.1.lookup 8) q6).trans rfl
theorem i6_9 : ins 6 9 = some (.if_icmp .ge 34, 3) := (congrArg (fun x : PTy => x.1.lookup 9) q6).trans rfl
theorem i6_12 : ins 6 12 = some (.aload_n 0, 1) := (congrArg (fun x : PTy => x.1.lookup 12) q6).trans rfl
theorem i6_13 : ins 6 13 = some (.getfield 36, 3) := (congrArg (fun x : PTy => x.1.lookup 13) q6).trans rfl
theorem i6_16 : ins 6 16 = some (.aload_n 0, 1) := (congrArg (fun x : PTy => x.1.lookup 16) q6).trans rfl
theorem i6_17 : ins 6 17 = some (.getfield 40, 3) := (congrArg (fun x : PTy => x.1.lookup 17) q6).trans rfl
theorem i6_20 : ins 6 20 = some (.iload_n 2, 1) := (congrArg (fun x : PTy => x.1.lookup 20) q6).trans rfl
theorem i6_21 : ins 6 21 = some (.i2s, 1) := (congrArg (fun x : PTy => x.1.lookup 21) q6).trans rfl
theorem i6_22 : ins 6 22 = some (.sastore, 1) := (congrArg (fun x : PTy => x.1.lookup 22) q6).trans rfl
theorem i6_23 : ins 6 23 = some (.aload_n 0, 1) := (congrArg (fun x : PTy => x.1.lookup 23) q6).trans rfl
theorem i6_24 : ins 6 24 = some (.dup, 1) := (congrArg (fun x : PTy => x.1.lookup 24) q6).trans rfl
theorem i6_25 : ins 6 25 = some (.getfield 40, 3) := (congrArg (fun x : PTy => x.1.lookup 25) q6).trans rfl
theorem i6_28 : ins 6 28 = some (.iconst 1, 1) := (congrArg (fun x : PTy => x.1.lookup 28) q6).trans rfl
theorem i6_29 : ins 6 29 = some (.iadd, 1) := (congrArg (fun x : PTy => x.1.lookup 29) q6).trans rfl
theorem i6_30 : ins 6 30 = some (.putfield 40, 3) := (congrArg (fun x : PTy => x.1.lookup 30) q6).trans rfl
theorem i6_33 : ins 6 33 = some (.aload_n 0, 1) := (congrArg (fun x : PTy => x.1.lookup 33) q6).trans rfl
theorem i6_34 : ins 6 34 = some (.getfield 31, 3) := (congrArg (fun x : PTy => x.1.lookup 34) q6).trans rfl
theorem i6_37 : ins 6 37 = some (.iload_n 1, 1) := (congrArg (fun x : PTy => x.1.lookup 37) q6).trans rfl
theorem i6_38 : ins 6 38 = some (.aload_n 0, 1) := (congrArg (fun x : PTy => x.1.lookup 38) q6).trans rfl
theorem i6_39 : ins 6 39 = some (.getfield 40, 3) := (congrArg (fun x : PTy => x.1.lookup 39) q6).trans rfl
theorem i6_42 : ins 6 42 = some (.iastore, 1) := (congrArg (fun x : PTy => x.1.lookup 42) q6).trans rfl
theorem i6_43 : ins 6 43 = some (.return_, 1) := (congrArg (fun x : PTy => x.1.lookup 43) q6).trans rfl
theorem e6_0 {d : Nat} {Q : Option AV → St → Prop} {st : List AV} {σ : St} {l1 l2 : Option AV} {x : Option (Nat × Nat × Nat)} : Rn (d) Q (6, 0, [some (vR x), l1, l2], st, σ) = Rn (d) Q (6, 1, [some (vR x), l1, l2], vR x :: st, σ) := E_aload_n i6_0 rfl
theorem e6_1 {d : Nat} {Q : Option AV → St → Prop} {st : List AV} {σ : St} {l0 l1 l2 : Option AV} {i : Nat} : Rn (d) Q (6, 1, [l0, l1, l2], vR (some (0, 0, i)) :: st, σ) = (i < gN σ 0 ∧ Rn (d) Q (6, 4, [l0, l1, l2], vI (gI σ 0 8 i) :: st, σ)) := E_getI i6_1 ((congrArg (fun z => fldQ z 40) o6).trans f0_40) rfl
theorem e6_4 {d : Nat} {Q : Option AV → St → Prop} {st : List AV} {σ : St} {l1 l2 : Option AV} {x : Option (Nat × Nat × Nat)} : Rn (d) Q (6, 4, [some (vR x), l1, l2], st, σ) = Rn (d) Q (6, 5, [some (vR x), l1, l2], vR x :: st, σ) := E_aload_n i6_4 rfl
theorem e6_5 {d : Nat} {Q : Option AV → St → Prop} {st : List AV} {σ : St} {l0 l1 l2 : Option AV} {i : Nat} : Rn (d) Q (6, 5, [l0, l1, l2], vR (some (0, 0, i)) :: st, σ) = (i < gN σ 0 ∧ ¬ gL σ 0 7 i = none ∧ Rn (d) Q (6, 8, [l0, l1, l2], vR (some (0, 8, i)) :: st, σ)) := E_getA i6_5 ((congrArg (fun z => fldQ z 36) o6).trans f0_36) (Or.inl rfl)
theorem e6_8 {d : Nat} {Q : Option AV → St → Prop} {st : List AV} {σ : St} {l0 l1 l2 : Option AV} {i : Nat} : Rn (d) Q (6, 8, [l0, l1, l2], vR (some (0, 8, i)) :: st, σ) = (∃ n, gL σ 0 7 i = some n ∧ i < gN σ 0 ∧ Rn (d) Q (6, 9, [l0, l1, l2], vI (Int32.ofNat n) :: st, σ)) := E_arraylength i6_8 rfl
theorem e6_9 {d : Nat} {Q : Option AV → St → Prop} {st : List AV} {σ : St} {l0 l1 l2 : Option AV} {x y : Int32} : Rn (d) Q (6, 9, [l0, l1, l2], vI y :: vI x :: st, σ) = (if y ≤ x then Rn (d) Q (6, 43, [l0, l1, l2], st, σ) else Rn (d) Q (6, 12, [l0, l1, l2], st, σ)) := E_icmp_ge 43 i6_9 (by decide)
theorem e6_12 {d : Nat} {Q : Option AV → St → Prop} {st : List AV} {σ : St} {l1 l2 : Option AV} {x : Option (Nat × Nat × Nat)} : Rn (d) Q (6, 12, [some (vR x), l1, l2], st, σ) = Rn (d) Q (6, 13, [some (vR x), l1, l2], vR x :: st, σ) := E_aload_n i6_12 rfl
theorem e6_13 {d : Nat} {Q : Option AV → St → Prop} {st : List AV} {σ : St} {l0 l1 l2 : Option AV} {i : Nat} : Rn (d) Q (6, 13, [l0, l1, l2], vR (some (0, 0, i)) :: st, σ) = (i < gN σ 0 ∧ ¬ gL σ 0 7 i = none ∧ Rn (d) Q (6, 16, [l0, l1, l2], vR (some (0, 8, i)) :: st, σ)) := E_getA i6_13 ((congrArg (fun z => fldQ z 36) o6).trans f0_36) (Or.inl rfl)
theorem e6_16 {d : Nat} {Q : Option AV → St → Prop} {st : List AV} {σ : St} {l1 l2 : Option AV} {x : Option (Nat × Nat × Nat)} : Rn (d) Q (6, 16, [some (vR x), l1, l2], st, σ) = Rn (d) Q (6, 17, [some (vR x), l1, l2], vR x :: st, σ) := E_aload_n i6_16 rfl
theorem e6_17 {d : Nat} {Q : Option AV → St → Prop} {st : List AV} {σ : St} {l0 l1 l2 : Option AV} {i : Nat} : Rn (d) Q (6, 17, [l0, l1, l2], vR (some (0, 0, i)) :: st, σ) = (i < gN σ 0 ∧ Rn (d) Q (6, 20, [l0, l1, l2], vI (gI σ 0 8 i) :: st, σ)) := E_getI i6_17 ((congrArg (fun z => fldQ z 40) o6).trans f0_40) rfl
theorem e6_20 {d : Nat} {Q : Option AV → St → Prop} {st : List AV} {σ : St} {l0 l1 : Option AV} {x : Int32} : Rn (d) Q (6, 20, [l0, l1, some (vI x)], st, σ) = Rn (d) Q (6, 21, [l0, l1, some (vI x)], vI x :: st, σ) := E_iload_n i6_20 rfl
theorem e6_21 {d : Nat} {Q : Option AV → St → Prop} {st : List AV} {σ : St} {l0 l1 l2 : Option AV} {x : Int32} : Rn (d) Q (6, 21, [l0, l1, l2], vI x :: st, σ) = Rn (d) Q (6, 22, [l0, l1, l2], vI x.toInt16.toInt32 :: st, σ) := E_i2s i6_21
theorem e6_22 {d : Nat} {Q : Option AV → St → Prop} {st : List AV} {σ : St} {l0 l1 l2 : Option AV} {i : Nat} {j x : Int32} : Rn (d) Q (6, 22, [l0, l1, l2], vI x :: vI j :: vR (some (0, 8, i)) :: st, σ) = (∃ n, gL σ 0 7 i = some n ∧ i < gN σ 0 ∧ (0 ≤ j.toInt ∧ j.toInt < n) ∧ Rn (d) Q (6, 23, [l0, l1, l2], st, setA σ 0 7 i (upd (gA σ 0 7 i) j.toNatClampNeg x.toInt16.toInt32))) := E_sastore2 i6_22 rfl (by decide)
theorem e6_23 {d : Nat} {Q : Option AV → St → Prop} {st : List AV} {σ : St} {l1 l2 : Option AV} {x : Option (Nat × Nat × Nat)} : Rn (d) Q (6, 23, [some (vR x), l1, l2], st, σ) = Rn (d) Q (6, 24, [some (vR x), l1, l2], vR x :: st, σ) := E_aload_n i6_23 rfl
theorem e6_24 {d : Nat} {Q : Option AV → St → Prop} {st : List AV} {σ : St} {l0 l1 l2 : Option AV} {x : Option (Nat × Nat × Nat)} : Rn (d) Q (6, 24, [l0, l1, l2], vR x :: st, σ) = Rn (d) Q (6, 25, [l0, l1, l2], vR x :: vR x :: st, σ) := E_dupR i6_24
theorem e6_25 {d : Nat} {Q : Option AV → St → Prop} {st : List AV} {σ : St} {l0 l1 l2 : Option AV} {i : Nat} : Rn (d) Q (6, 25, [l0, l1, l2], vR (some (0, 0, i)) :: st, σ) = (i < gN σ 0 ∧ Rn (d) Q (6, 28, [l0, l1, l2], vI (gI σ 0 8 i) :: st, σ)) := E_getI i6_25 ((congrArg (fun z => fldQ z 40) o6).trans f0_40) rfl
theorem e6_28 {d : Nat} {Q : Option AV → St → Prop} {st : List AV} {σ : St} {l0 l1 l2 : Option AV} : Rn (d) Q (6, 28, [l0, l1, l2], st, σ) = Rn (d) Q (6, 29, [l0, l1, l2], vI 1 :: st, σ) := by rw [E_iconst i6_28, ci_1]
theorem e6_29 {d : Nat} {Q : Option AV → St → Prop} {st : List AV} {σ : St} {l0 l1 l2 : Option AV} {x y : Int32} : Rn (d) Q (6, 29, [l0, l1, l2], vI y :: vI x :: st, σ) = Rn (d) Q (6, 30, [l0, l1, l2], vI (x + y) :: st, σ) := E_iadd i6_29
theorem e6_30 {d : Nat} {Q : Option AV → St → Prop} {st : List AV} {σ : St} {l0 l1 l2 : Option AV} {i : Nat} {x : Int32} : Rn (d) Q (6, 30, [l0, l1, l2], vI x :: vR (some (0, 0, i)) :: st, σ) = (i < gN σ 0 ∧ Rn (d) Q (6, 33, [l0, l1, l2], st, setI σ 0 8 i x)) := E_putI i6_30 ((congrArg (fun z => fldQ z 40) o6).trans f0_40) rfl (Or.inl rfl)
theorem e6_33 {d : Nat} {Q : Option AV → St → Prop} {st : List AV} {σ : St} {l1 l2 : Option AV} {x : Option (Nat × Nat × Nat)} : Rn (d) Q (6, 33, [some (vR x), l1, l2], st, σ) = Rn (d) Q (6, 34, [some (vR x), l1, l2], vR x :: st, σ) := E_aload_n i6_33 rfl
theorem e6_34 {d : Nat} {Q : Option AV → St → Prop} {st : List AV} {σ : St} {l0 l1 l2 : Option AV} {i : Nat} : Rn (d) Q (6, 34, [l0, l1, l2], vR (some (0, 0, i)) :: st, σ) = (i < gN σ 0 ∧ ¬ gL σ 0 6 i = none ∧ Rn (d) Q (6, 37, [l0, l1, l2], vR (some (0, 7, i)) :: st, σ)) := E_getA i6_34 ((congrArg (fun z => fldQ z 31) o6).trans f0_31) (Or.inl rfl)
theorem e6_37 {d : Nat} {Q : Option AV → St → Prop} {st : List AV} {σ : St} {l0 l2 : Option AV} {x : Int32} : Rn (d) Q (6, 37, [l0, some (vI x), l2], st, σ) = Rn (d) Q (6, 38, [l0, some (vI x), l2], vI x :: st, σ) := E_iload_n i6_37 rfl
theorem e6_38 {d : Nat} {Q : Option AV → St → Prop} {st : List AV} {σ : St} {l1 l2 : Option AV} {x : Option (Nat × Nat × Nat)} : Rn (d) Q (6, 38, [some (vR x), l1, l2], st, σ) = Rn (d) Q (6, 39, [some (vR x), l1, l2], vR x :: st, σ) := E_aload_n i6_38 rfl
theorem e6_39 {d : Nat} {Q : Option AV → St → Prop} {st : List AV} {σ : St} {l0 l1 l2 : Option AV} {i : Nat} : Rn (d) Q (6, 39, [l0, l1, l2], vR (some (0, 0, i)) :: st, σ) = (i < gN σ 0 ∧ Rn (d) Q (6, 42, [l0, l1, l2], vI (gI σ 0 8 i) :: st, σ)) := E_getI i6_39 ((congrArg (fun z => fldQ z 40) o6).trans f0_40) rfl
theorem e6_42 {d : Nat} {Q : Option AV → St → Prop} {st : List AV} {σ : St} {l0 l1 l2 : Option AV} {i : Nat} {j x : Int32} : Rn (d) Q (6, 42, [l0, l1, l2], vI x :: vI j :: vR (some (0, 7, i)) :: st, σ) = (∃ n, gL σ 0 6 i = some n ∧ i < gN σ 0 ∧ (0 ≤ j.toInt ∧ j.toInt < n) ∧ Rn (d) Q (6, 43, [l0, l1, l2], st, setA σ 0 6 i (upd (gA σ 0 6 i) j.toNatClampNeg x))) := E_iastore1 i6_42 rfl (by decide)
theorem e6_43 {d : Nat} {Q : Option AV → St → Prop} {σ : St} {l0 l1 l2 : Option AV} : Rn (d) Q (6, 43, [l0, l1, l2], [], σ) = Q none σ := E_ret (st := []) i6_43 r6
theorem i7_0 : ins 7 0 = some (.iconst 0, 1) := (congrArg (fun x : PTy => x.1.lookup 0) q7).trans rfl
theorem i7_1 : ins 7 1 = some (.istore_n 1, 1) := (congrArg (fun x : PTy => x.1.lookup 1) q7).trans rfl
theorem i7_2 : ins 7 2 = some (.iconst 0, 1) := (congrArg (fun x : PTy => x.1.lookup 2) q7).trans rfl
theorem i7_3 : ins 7 3 = some (.istore_n 2, 1) := (congrArg (fun x : PTy => x.1.lookup 3) q7).trans rfl
theorem i7_4 : ins 7 4 = some (.iload_n 2, 1) := (congrArg (fun x : PTy => x.1.lookup 4) q7).trans rfl
theorem i7_5 : ins 7 5 = some (.bipush 8, 2) := (congrArg (fun x : PTy => x.1.lookup 5) q7).trans rfl
theorem i7_7 : ins 7 7 = some (.if_icmp .ge 26, 3) := (congrArg (fun x : PTy => x.1.lookup 7) q7).trans rfl
theorem i7_10 : ins 7 10 = some (.aload_n 0, 1) := (congrArg (fun x : PTy => x.1.lookup 10) q7).trans rfl
theorem i7_11 : ins 7 11 = some (.iload_n 2, 1) := (congrArg (fun x : PTy => x.1.lookup 11) q7).trans rfl
theorem i7_12 : ins 7 12 = some (.invokevirtual 51, 3) := (congrArg (fun x : PTy => x.1.lookup 12) q7).trans rfl
theorem i7_15 : ins 7 15 = some (.ifCond .eq 12, 3) := (congrArg (fun x : PTy => x.1.lookup 15) q7).trans rfl
theorem i7_18 : ins 7 18 = some (.iload_n 1, 1) := (congrArg (fun x : PTy => x.1.lookup 18) q7).trans rfl
theorem i7_19 : ins 7 19 = some (.aload_n 0, 1) := (congrArg (fun x : PTy => x.1.lookup 19) q7).trans rfl
theorem i7_20 : ins 7 20 = some (.getfield 25, 3) := (congrArg (fun x : PTy => x.1.lookup 20) q7).trans rfl
theorem i7_23 : ins 7 23 = some (.iload_n 2, 1) := (congrArg (fun x : PTy => x.1.lookup 23) q7).trans rfl
theorem i7_24 : ins 7 24 = some (.iaload, 1) := (congrArg (fun x : PTy => x.1.lookup 24) q7).trans rfl
theorem i7_25 : ins 7 25 = some (.ior, 1) := (congrArg (fun x : PTy => x.1.lookup 25) q7).trans rfl
theorem i7_26 : ins 7 26 = some (.istore_n 1, 1) := (congrArg (fun x : PTy => x.1.lookup 26) q7).trans rfl
theorem i7_27 : ins 7 27 = some (.iinc 2 1, 3) := (congrArg (fun x : PTy => x.1.lookup 27) q7).trans rfl
theorem i7_30 : ins 7 30 = some (.goto (-26), 3) := (congrArg (fun x : PTy => x.1.lookup 30) q7).trans rfl
theorem i7_33 : ins 7 33 = some (.iload_n 1, 1) := (congrArg (fun x : PTy => x.1.lookup 33) q7).trans rfl
theorem i7_34 : ins 7 34 = some (.aload_n 0, 1) := (congrArg (fun x : PTy => x.1.lookup 34) q7).trans rfl
theorem i7_35 : ins 7 35 = some (.getfield 15, 3) := (congrArg (fun x : PTy => x.1.lookup 35) q7).trans rfl
theorem i7_38 : ins 7 38 = some (.iconst (-1), 1) := (congrArg (fun x : PTy => x.1.lookup 38) q7).trans rfl
theorem i7_39 : ins 7 39 = some (.ixor, 1) := (congrArg (fun x : PTy => x.1.lookup 39) q7).trans rfl
theorem i7_40 : ins 7 40 = some (.iand, 1) := (congrArg (fun x : PTy => x.1.lookup 40) q7).trans rfl
theorem i7_41 : ins 7 41 = some (.ifCond .ne 7, 3) := (congrArg (fun x : PTy => x.1.lookup 41) q7).trans rfl
theorem i7_44 : ins 7 44 = some (.iconst 1, 1) := (congrArg (fun x : PTy => x.1.lookup 44) q7).trans rfl
theorem i7_45 : ins 7 45 = some (.goto 4, 3) := (congrArg (fun x : PTy => x.1.lookup 45) q7).trans rfl
theorem i7_48 : ins 7 48 = some (.iconst 0, 1) := (congrArg (fun x : PTy => x.1.lookup 48) q7).trans rfl
theorem i7_49 : ins 7 49 = some (.ireturn, 1) := (congrArg (fun x : PTy => x.1.lookup 49) q7).trans rfl
theorem e7_0 {d : Nat} {Q : Option AV → St → Prop} {st : List AV} {σ : St} {l0 l1 l2 : Option AV} : Rn (d) Q (7, 0, [l0, l1, l2], st, σ) = Rn (d) Q (7, 1, [l0, l1, l2], vI 0 :: st, σ) := by rw [E_iconst i7_0, ci_0]
theorem s7_1 : okst 7 1 = true := by unfold okst; rw [x7]; rfl
theorem e7_1 {d : Nat} {Q : Option AV → St → Prop} {st : List AV} {σ : St} {l0 l1 l2 : Option AV} {x : Int32} : Rn (d) Q (7, 1, [l0, l1, l2], vI x :: st, σ) = Rn (d) Q (7, 2, [l0, some (vI x), l2], st, σ) := E_istore_n i7_1 s7_1
theorem e7_2 {d : Nat} {Q : Option AV → St → Prop} {st : List AV} {σ : St} {l0 l1 l2 : Option AV} : Rn (d) Q (7, 2, [l0, l1, l2], st, σ) = Rn (d) Q (7, 3, [l0, l1, l2], vI 0 :: st, σ) := by rw [E_iconst i7_2, ci_0]
theorem s7_2 : okst 7 2 = true := by unfold okst; rw [x7]; rfl
theorem e7_3 {d : Nat} {Q : Option AV → St → Prop} {st : List AV} {σ : St} {l0 l1 l2 : Option AV} {x : Int32} : Rn (d) Q (7, 3, [l0, l1, l2], vI x :: st, σ) = Rn (d) Q (7, 4, [l0, l1, some (vI x)], st, σ) := E_istore_n i7_3 s7_2
theorem e7_4 {d : Nat} {Q : Option AV → St → Prop} {st : List AV} {σ : St} {l0 l1 : Option AV} {x : Int32} : Rn (d) Q (7, 4, [l0, l1, some (vI x)], st, σ) = Rn (d) Q (7, 5, [l0, l1, some (vI x)], vI x :: st, σ) := E_iload_n i7_4 rfl
theorem e7_5 {d : Nat} {Q : Option AV → St → Prop} {st : List AV} {σ : St} {l0 l1 l2 : Option AV} : Rn (d) Q (7, 5, [l0, l1, l2], st, σ) = Rn (d) Q (7, 7, [l0, l1, l2], vI 8 :: st, σ) := by rw [E_bipush i7_5, cb_8]
theorem e7_7 {d : Nat} {Q : Option AV → St → Prop} {st : List AV} {σ : St} {l0 l1 l2 : Option AV} {x y : Int32} : Rn (d) Q (7, 7, [l0, l1, l2], vI y :: vI x :: st, σ) = (if y ≤ x then Rn (d) Q (7, 33, [l0, l1, l2], st, σ) else Rn (d) Q (7, 10, [l0, l1, l2], st, σ)) := E_icmp_ge 33 i7_7 (by decide)
theorem e7_10 {d : Nat} {Q : Option AV → St → Prop} {st : List AV} {σ : St} {l1 l2 : Option AV} {x : Option (Nat × Nat × Nat)} : Rn (d) Q (7, 10, [some (vR x), l1, l2], st, σ) = Rn (d) Q (7, 11, [some (vR x), l1, l2], vR x :: st, σ) := E_aload_n i7_10 rfl
theorem e7_11 {d : Nat} {Q : Option AV → St → Prop} {st : List AV} {σ : St} {l0 l1 : Option AV} {x : Int32} : Rn (d) Q (7, 11, [l0, l1, some (vI x)], st, σ) = Rn (d) Q (7, 12, [l0, l1, some (vI x)], vI x :: st, σ) := E_iload_n i7_11 rfl
theorem e7_12 {d : Nat} {Q : Option AV → St → Prop} {st : List AV} {σ : St} {l0 l1 l2 : Option AV} {i : Nat} {a1 : Int32} : Rn (d + 1) Q (7, 12, [l0, l1, l2], vI a1 :: vR (some (0, 0, i)) :: st, σ) = (i < gN σ 0 ∧ catS st ≤ 8 ∧ Rn d (fun r σ' => Rn (d + 1) Q (7, 15, [l0, l1, l2], r.toList ++ st, σ')) (2, 0, [some (vR (some (0, 0, i))), some (vI a1)], [], σ)) := E_invV (a := [vI a1]) i7_12 ((congrArg (fun z => mthQ z 51) o7).trans m0_51) o2 rfl (ek2 i a1) (en2 i a1)
theorem e7_15 {d : Nat} {Q : Option AV → St → Prop} {st : List AV} {σ : St} {l0 l1 l2 : Option AV} {x : Int32} : Rn (d) Q (7, 15, [l0, l1, l2], vI x :: st, σ) = (if x = 0 then Rn (d) Q (7, 27, [l0, l1, l2], st, σ) else Rn (d) Q (7, 18, [l0, l1, l2], st, σ)) := E_if_eq 27 i7_15 (by decide)
theorem e7_18 {d : Nat} {Q : Option AV → St → Prop} {st : List AV} {σ : St} {l0 l2 : Option AV} {x : Int32} : Rn (d) Q (7, 18, [l0, some (vI x), l2], st, σ) = Rn (d) Q (7, 19, [l0, some (vI x), l2], vI x :: st, σ) := E_iload_n i7_18 rfl
theorem e7_19 {d : Nat} {Q : Option AV → St → Prop} {st : List AV} {σ : St} {l1 l2 : Option AV} {x : Option (Nat × Nat × Nat)} : Rn (d) Q (7, 19, [some (vR x), l1, l2], st, σ) = Rn (d) Q (7, 20, [some (vR x), l1, l2], vR x :: st, σ) := E_aload_n i7_19 rfl
theorem e7_20 {d : Nat} {Q : Option AV → St → Prop} {st : List AV} {σ : St} {l0 l1 l2 : Option AV} {i : Nat} : Rn (d) Q (7, 20, [l0, l1, l2], vR (some (0, 0, i)) :: st, σ) = (i < gN σ 0 ∧ ¬ gL σ 0 4 i = none ∧ Rn (d) Q (7, 23, [l0, l1, l2], vR (some (0, 5, i)) :: st, σ)) := E_getA i7_20 ((congrArg (fun z => fldQ z 25) o7).trans f0_25) (Or.inl rfl)
theorem e7_23 {d : Nat} {Q : Option AV → St → Prop} {st : List AV} {σ : St} {l0 l1 : Option AV} {x : Int32} : Rn (d) Q (7, 23, [l0, l1, some (vI x)], st, σ) = Rn (d) Q (7, 24, [l0, l1, some (vI x)], vI x :: st, σ) := E_iload_n i7_23 rfl
theorem e7_24 {d : Nat} {Q : Option AV → St → Prop} {st : List AV} {σ : St} {l0 l1 l2 : Option AV} {i : Nat} {j : Int32} : Rn (d) Q (7, 24, [l0, l1, l2], vI j :: vR (some (0, 5, i)) :: st, σ) = (∃ n, gL σ 0 4 i = some n ∧ i < gN σ 0 ∧ (0 ≤ j.toInt ∧ j.toInt < n) ∧ Rn (d) Q (7, 25, [l0, l1, l2], vI (gA σ 0 4 i j.toNatClampNeg) :: st, σ)) := E_iaload1 i7_24 rfl
theorem e7_25 {d : Nat} {Q : Option AV → St → Prop} {st : List AV} {σ : St} {l0 l1 l2 : Option AV} {x y : Int32} : Rn (d) Q (7, 25, [l0, l1, l2], vI y :: vI x :: st, σ) = Rn (d) Q (7, 26, [l0, l1, l2], vI (x ||| y) :: st, σ) := E_ior i7_25
theorem e7_26 {d : Nat} {Q : Option AV → St → Prop} {st : List AV} {σ : St} {l0 l1 l2 : Option AV} {x : Int32} : Rn (d) Q (7, 26, [l0, l1, l2], vI x :: st, σ) = Rn (d) Q (7, 27, [l0, some (vI x), l2], st, σ) := E_istore_n i7_26 s7_1
theorem e7_27 {d : Nat} {Q : Option AV → St → Prop} {st : List AV} {σ : St} {l0 l1 : Option AV} {x : Int32} : Rn (d) Q (7, 27, [l0, l1, some (vI x)], st, σ) = Rn (d) Q (7, 30, [l0, l1, some (vI (x + 1))], st, σ) := by rw [E_iinc i7_27 rfl (by rw [x7]; decide), show Int32.ofInt 1 = (1 : Int32) by decide +kernel]; rfl
theorem e7_30 {d : Nat} {Q : Option AV → St → Prop} {st : List AV} {σ : St} {l0 l1 l2 : Option AV} : Rn (d) Q (7, 30, [l0, l1, l2], st, σ) = Rn (d) Q (7, 4, [l0, l1, l2], st, σ) := E_goto 4 i7_30 (by decide)
theorem e7_33 {d : Nat} {Q : Option AV → St → Prop} {st : List AV} {σ : St} {l0 l2 : Option AV} {x : Int32} : Rn (d) Q (7, 33, [l0, some (vI x), l2], st, σ) = Rn (d) Q (7, 34, [l0, some (vI x), l2], vI x :: st, σ) := E_iload_n i7_33 rfl
theorem e7_34 {d : Nat} {Q : Option AV → St → Prop} {st : List AV} {σ : St} {l1 l2 : Option AV} {x : Option (Nat × Nat × Nat)} : Rn (d) Q (7, 34, [some (vR x), l1, l2], st, σ) = Rn (d) Q (7, 35, [some (vR x), l1, l2], vR x :: st, σ) := E_aload_n i7_34 rfl
theorem e7_35 {d : Nat} {Q : Option AV → St → Prop} {st : List AV} {σ : St} {l0 l1 l2 : Option AV} {i : Nat} : Rn (d) Q (7, 35, [l0, l1, l2], vR (some (0, 0, i)) :: st, σ) = (i < gN σ 0 ∧ Rn (d) Q (7, 38, [l0, l1, l2], vI (gI σ 0 1 i) :: st, σ)) := E_getI i7_35 ((congrArg (fun z => fldQ z 15) o7).trans f0_15) rfl
theorem e7_38 {d : Nat} {Q : Option AV → St → Prop} {st : List AV} {σ : St} {l0 l1 l2 : Option AV} : Rn (d) Q (7, 38, [l0, l1, l2], st, σ) = Rn (d) Q (7, 39, [l0, l1, l2], vI (-1) :: st, σ) := by rw [E_iconst i7_38, ci_m1]
theorem e7_39 {d : Nat} {Q : Option AV → St → Prop} {st : List AV} {σ : St} {l0 l1 l2 : Option AV} {x y : Int32} : Rn (d) Q (7, 39, [l0, l1, l2], vI y :: vI x :: st, σ) = Rn (d) Q (7, 40, [l0, l1, l2], vI (x ^^^ y) :: st, σ) := E_ixor i7_39
theorem e7_40 {d : Nat} {Q : Option AV → St → Prop} {st : List AV} {σ : St} {l0 l1 l2 : Option AV} {x y : Int32} : Rn (d) Q (7, 40, [l0, l1, l2], vI y :: vI x :: st, σ) = Rn (d) Q (7, 41, [l0, l1, l2], vI (x &&& y) :: st, σ) := E_iand i7_40
theorem e7_41 {d : Nat} {Q : Option AV → St → Prop} {st : List AV} {σ : St} {l0 l1 l2 : Option AV} {x : Int32} : Rn (d) Q (7, 41, [l0, l1, l2], vI x :: st, σ) = (if x = 0 then Rn (d) Q (7, 44, [l0, l1, l2], st, σ) else Rn (d) Q (7, 48, [l0, l1, l2], st, σ)) := E_if_ne 48 i7_41 (by decide)
theorem e7_44 {d : Nat} {Q : Option AV → St → Prop} {st : List AV} {σ : St} {l0 l1 l2 : Option AV} : Rn (d) Q (7, 44, [l0, l1, l2], st, σ) = Rn (d) Q (7, 45, [l0, l1, l2], vI 1 :: st, σ) := by rw [E_iconst i7_44, ci_1]
theorem e7_45 {d : Nat} {Q : Option AV → St → Prop} {st : List AV} {σ : St} {l0 l1 l2 : Option AV} : Rn (d) Q (7, 45, [l0, l1, l2], st, σ) = Rn (d) Q (7, 49, [l0, l1, l2], st, σ) := E_goto 49 i7_45 (by decide)
theorem e7_48 {d : Nat} {Q : Option AV → St → Prop} {st : List AV} {σ : St} {l0 l1 l2 : Option AV} : Rn (d) Q (7, 48, [l0, l1, l2], st, σ) = Rn (d) Q (7, 49, [l0, l1, l2], vI 0 :: st, σ) := by rw [E_iconst i7_48, ci_0]
theorem e7_49 {d : Nat} {Q : Option AV → St → Prop} {σ : St} {l0 l1 l2 : Option AV} {x : Int32} : Rn (d) Q (7, 49, [l0, l1, l2], [vI x], σ) = ((x = 0 ∨ x = 1) ∧ Q (some (vI x)) σ) := E_iretZ (st := []) i7_49 r7
theorem i8_0 : ins 8 0 = some (.aload_n 2, 1) := (congrArg (fun x : PTy => x.1.lookup 0) q8).trans rfl
theorem i8_1 : ins 8 1 = some (.iload_n 1, 1) := (congrArg (fun x : PTy => x.1.lookup 1) q8).trans rfl
theorem i8_2 : ins 8 2 = some (.iaload, 1) := (congrArg (fun x : PTy => x.1.lookup 2) q8).trans rfl
theorem i8_3 : ins 8 3 = some (.aload_n 0, 1) := (congrArg (fun x : PTy => x.1.lookup 3) q8).trans rfl
theorem i8_4 : ins 8 4 = some (.getfield 22, 3) := (congrArg (fun x : PTy => x.1.lookup 4) q8).trans rfl
theorem i8_7 : ins 8 7 = some (.iload_n 1, 1) := (congrArg (fun x : PTy => x.1.lookup 7) q8).trans rfl
theorem i8_8 : ins 8 8 = some (.iaload, 1) := (congrArg (fun x : PTy => x.1.lookup 8) q8).trans rfl
theorem i8_9 : ins 8 9 = some (.if_icmp .lt 7, 3) := (congrArg (fun x : PTy => x.1.lookup 9) q8).trans rfl
theorem i8_12 : ins 8 12 = some (.iconst 1, 1) := (congrArg (fun x : PTy => x.1.lookup 12) q8).trans rfl
theorem i8_13 : ins 8 13 = some (.goto 4, 3) := (congrArg (fun x : PTy => x.1.lookup 13) q8).trans rfl
theorem i8_16 : ins 8 16 = some (.iconst 0, 1) := (congrArg (fun x : PTy => x.1.lookup 16) q8).trans rfl
theorem i8_17 : ins 8 17 = some (.ireturn, 1) := (congrArg (fun x : PTy => x.1.lookup 17) q8).trans rfl
theorem e8_0 {d : Nat} {Q : Option AV → St → Prop} {st : List AV} {σ : St} {l0 l1 : Option AV} {x : Option (Nat × Nat × Nat)} : Rn (d) Q (8, 0, [l0, l1, some (vR x)], st, σ) = Rn (d) Q (8, 1, [l0, l1, some (vR x)], vR x :: st, σ) := E_aload_n i8_0 rfl
theorem e8_1 {d : Nat} {Q : Option AV → St → Prop} {st : List AV} {σ : St} {l0 l2 : Option AV} {x : Int32} : Rn (d) Q (8, 1, [l0, some (vI x), l2], st, σ) = Rn (d) Q (8, 2, [l0, some (vI x), l2], vI x :: st, σ) := E_iload_n i8_1 rfl
theorem e8_2 {d : Nat} {Q : Option AV → St → Prop} {st : List AV} {σ : St} {l0 l1 l2 : Option AV} {c k i : Nat} {j : Int32} (hk : fk c k = (1, 1)) : Rn (d) Q (8, 2, [l0, l1, l2], vI j :: vR (some (c, k + 1, i)) :: st, σ) = (∃ n, gL σ c k i = some n ∧ i < gN σ c ∧ (0 ≤ j.toInt ∧ j.toInt < n) ∧ Rn (d) Q (8, 3, [l0, l1, l2], vI (gA σ c k i j.toNatClampNeg) :: st, σ)) := E_iaload1 i8_2 hk
theorem e8_3 {d : Nat} {Q : Option AV → St → Prop} {st : List AV} {σ : St} {l1 l2 : Option AV} {x : Option (Nat × Nat × Nat)} : Rn (d) Q (8, 3, [some (vR x), l1, l2], st, σ) = Rn (d) Q (8, 4, [some (vR x), l1, l2], vR x :: st, σ) := E_aload_n i8_3 rfl
theorem e8_4 {d : Nat} {Q : Option AV → St → Prop} {st : List AV} {σ : St} {l0 l1 l2 : Option AV} {i : Nat} : Rn (d) Q (8, 4, [l0, l1, l2], vR (some (0, 0, i)) :: st, σ) = (i < gN σ 0 ∧ ¬ gL σ 0 3 i = none ∧ Rn (d) Q (8, 7, [l0, l1, l2], vR (some (0, 4, i)) :: st, σ)) := E_getA i8_4 ((congrArg (fun z => fldQ z 22) o8).trans f0_22) (Or.inl rfl)
theorem e8_7 {d : Nat} {Q : Option AV → St → Prop} {st : List AV} {σ : St} {l0 l2 : Option AV} {x : Int32} : Rn (d) Q (8, 7, [l0, some (vI x), l2], st, σ) = Rn (d) Q (8, 8, [l0, some (vI x), l2], vI x :: st, σ) := E_iload_n i8_7 rfl
theorem e8_8 {d : Nat} {Q : Option AV → St → Prop} {st : List AV} {σ : St} {l0 l1 l2 : Option AV} {i : Nat} {j : Int32} : Rn (d) Q (8, 8, [l0, l1, l2], vI j :: vR (some (0, 4, i)) :: st, σ) = (∃ n, gL σ 0 3 i = some n ∧ i < gN σ 0 ∧ (0 ≤ j.toInt ∧ j.toInt < n) ∧ Rn (d) Q (8, 9, [l0, l1, l2], vI (gA σ 0 3 i j.toNatClampNeg) :: st, σ)) := E_iaload1 i8_8 rfl
theorem e8_9 {d : Nat} {Q : Option AV → St → Prop} {st : List AV} {σ : St} {l0 l1 l2 : Option AV} {x y : Int32} : Rn (d) Q (8, 9, [l0, l1, l2], vI y :: vI x :: st, σ) = (if x < y then Rn (d) Q (8, 16, [l0, l1, l2], st, σ) else Rn (d) Q (8, 12, [l0, l1, l2], st, σ)) := E_icmp_lt 16 i8_9 (by decide)
theorem e8_12 {d : Nat} {Q : Option AV → St → Prop} {st : List AV} {σ : St} {l0 l1 l2 : Option AV} : Rn (d) Q (8, 12, [l0, l1, l2], st, σ) = Rn (d) Q (8, 13, [l0, l1, l2], vI 1 :: st, σ) := by rw [E_iconst i8_12, ci_1]
theorem e8_13 {d : Nat} {Q : Option AV → St → Prop} {st : List AV} {σ : St} {l0 l1 l2 : Option AV} : Rn (d) Q (8, 13, [l0, l1, l2], st, σ) = Rn (d) Q (8, 17, [l0, l1, l2], st, σ) := E_goto 17 i8_13 (by decide)
theorem e8_16 {d : Nat} {Q : Option AV → St → Prop} {st : List AV} {σ : St} {l0 l1 l2 : Option AV} : Rn (d) Q (8, 16, [l0, l1, l2], st, σ) = Rn (d) Q (8, 17, [l0, l1, l2], vI 0 :: st, σ) := by rw [E_iconst i8_16, ci_0]
theorem e8_17 {d : Nat} {Q : Option AV → St → Prop} {σ : St} {l0 l1 l2 : Option AV} {x : Int32} : Rn (d) Q (8, 17, [l0, l1, l2], [vI x], σ) = ((x = 0 ∨ x = 1) ∧ Q (some (vI x)) σ) := E_iretZ (st := []) i8_17 r8
theorem i9_0 : ins 9 0 = some (.iload_n 1, 1) := (congrArg (fun x : PTy => x.1.lookup 0) q9).trans rfl
theorem i9_1 : ins 9 1 = some (.bipush 7, 2) := (congrArg (fun x : PTy => x.1.lookup 1) q9).trans rfl
theorem i9_3 : ins 9 3 = some (.iand, 1) := (congrArg (fun x : PTy => x.1.lookup 3) q9).trans rfl
theorem i9_4 : ins 9 4 = some (.istore_n 3, 1) := (congrArg (fun x : PTy => x.1.lookup 4) q9).trans rfl
theorem i9_5 : ins 9 5 = some (.iload_n 1, 1) := (congrArg (fun x : PTy => x.1.lookup 5) q9).trans rfl
theorem i9_6 : ins 9 6 = some (.bipush 8, 2) := (congrArg (fun x : PTy => x.1.lookup 6) q9).trans rfl
theorem i9_8 : ins 9 8 = some (.if_icmp .ge 12, 3) := (congrArg (fun x : PTy => x.1.lookup 8) q9).trans rfl
theorem i9_11 : ins 9 11 = some (.aload_n 0, 1) := (congrArg (fun x : PTy => x.1.lookup 11) q9).trans rfl
theorem i9_12 : ins 9 12 = some (.iload_n 3, 1) := (congrArg (fun x : PTy => x.1.lookup 12) q9).trans rfl
theorem i9_13 : ins 9 13 = some (.aload_n 2, 1) := (congrArg (fun x : PTy => x.1.lookup 13) q9).trans rfl
theorem i9_14 : ins 9 14 = some (.invokevirtual 55, 3) := (congrArg (fun x : PTy => x.1.lookup 14) q9).trans rfl
theorem i9_17 : ins 9 17 = some (.goto 20, 3) := (congrArg (fun x : PTy => x.1.lookup 17) q9).trans rfl
theorem i9_20 : ins 9 20 = some (.aload_n 2, 1) := (congrArg (fun x : PTy => x.1.lookup 20) q9).trans rfl
theorem i9_21 : ins 9 21 = some (.iload_n 3, 1) := (congrArg (fun x : PTy => x.1.lookup 21) q9).trans rfl
theorem i9_22 : ins 9 22 = some (.iaload, 1) := (congrArg (fun x : PTy => x.1.lookup 22) q9).trans rfl
theorem i9_23 : ins 9 23 = some (.iload_n 1, 1) := (congrArg (fun x : PTy => x.1.lookup 23) q9).trans rfl
theorem i9_24 : ins 9 24 = some (.bipush 8, 2) := (congrArg (fun x : PTy => x.1.lookup 24) q9).trans rfl
theorem i9_26 : ins 9 26 = some (.idiv, 1) := (congrArg (fun x : PTy => x.1.lookup 26) q9).trans rfl
theorem i9_27 : ins 9 27 = some (.iconst 1, 1) := (congrArg (fun x : PTy => x.1.lookup 27) q9).trans rfl
theorem i9_28 : ins 9 28 = some (.isub, 1) := (congrArg (fun x : PTy => x.1.lookup 28) q9).trans rfl
theorem i9_29 : ins 9 29 = some (.if_icmp .le 7, 3) := (congrArg (fun x : PTy => x.1.lookup 29) q9).trans rfl
theorem i9_32 : ins 9 32 = some (.iconst 1, 1) := (congrArg (fun x : PTy => x.1.lookup 32) q9).trans rfl
theorem i9_33 : ins 9 33 = some (.goto 4, 3) := (congrArg (fun x : PTy => x.1.lookup 33) q9).trans rfl
theorem i9_36 : ins 9 36 = some (.iconst 0, 1) := (congrArg (fun x : PTy => x.1.lookup 36) q9).trans rfl
theorem i9_37 : ins 9 37 = some (.ireturn, 1) := (congrArg (fun x : PTy => x.1.lookup 37) q9).trans rfl
theorem e9_0 {d : Nat} {Q : Option AV → St → Prop} {st : List AV} {σ : St} {l0 l2 l3 : Option AV} {x : Int32} : Rn (d) Q (9, 0, [l0, some (vI x), l2, l3], st, σ) = Rn (d) Q (9, 1, [l0, some (vI x), l2, l3], vI x :: st, σ) := E_iload_n i9_0 rfl
theorem e9_1 {d : Nat} {Q : Option AV → St → Prop} {st : List AV} {σ : St} {l0 l1 l2 l3 : Option AV} : Rn (d) Q (9, 1, [l0, l1, l2, l3], st, σ) = Rn (d) Q (9, 3, [l0, l1, l2, l3], vI 7 :: st, σ) := by rw [E_bipush i9_1, cb_7]
theorem e9_3 {d : Nat} {Q : Option AV → St → Prop} {st : List AV} {σ : St} {l0 l1 l2 l3 : Option AV} {x y : Int32} : Rn (d) Q (9, 3, [l0, l1, l2, l3], vI y :: vI x :: st, σ) = Rn (d) Q (9, 4, [l0, l1, l2, l3], vI (x &&& y) :: st, σ) := E_iand i9_3
theorem s9_3 : okst 9 3 = true := by unfold okst; rw [x9]; rfl
theorem e9_4 {d : Nat} {Q : Option AV → St → Prop} {st : List AV} {σ : St} {l0 l1 l2 l3 : Option AV} {x : Int32} : Rn (d) Q (9, 4, [l0, l1, l2, l3], vI x :: st, σ) = Rn (d) Q (9, 5, [l0, l1, l2, some (vI x)], st, σ) := E_istore_n i9_4 s9_3
theorem e9_5 {d : Nat} {Q : Option AV → St → Prop} {st : List AV} {σ : St} {l0 l2 l3 : Option AV} {x : Int32} : Rn (d) Q (9, 5, [l0, some (vI x), l2, l3], st, σ) = Rn (d) Q (9, 6, [l0, some (vI x), l2, l3], vI x :: st, σ) := E_iload_n i9_5 rfl
theorem e9_6 {d : Nat} {Q : Option AV → St → Prop} {st : List AV} {σ : St} {l0 l1 l2 l3 : Option AV} : Rn (d) Q (9, 6, [l0, l1, l2, l3], st, σ) = Rn (d) Q (9, 8, [l0, l1, l2, l3], vI 8 :: st, σ) := by rw [E_bipush i9_6, cb_8]
theorem e9_8 {d : Nat} {Q : Option AV → St → Prop} {st : List AV} {σ : St} {l0 l1 l2 l3 : Option AV} {x y : Int32} : Rn (d) Q (9, 8, [l0, l1, l2, l3], vI y :: vI x :: st, σ) = (if y ≤ x then Rn (d) Q (9, 20, [l0, l1, l2, l3], st, σ) else Rn (d) Q (9, 11, [l0, l1, l2, l3], st, σ)) := E_icmp_ge 20 i9_8 (by decide)
theorem e9_11 {d : Nat} {Q : Option AV → St → Prop} {st : List AV} {σ : St} {l1 l2 l3 : Option AV} {x : Option (Nat × Nat × Nat)} : Rn (d) Q (9, 11, [some (vR x), l1, l2, l3], st, σ) = Rn (d) Q (9, 12, [some (vR x), l1, l2, l3], vR x :: st, σ) := E_aload_n i9_11 rfl
theorem e9_12 {d : Nat} {Q : Option AV → St → Prop} {st : List AV} {σ : St} {l0 l1 l2 : Option AV} {x : Int32} : Rn (d) Q (9, 12, [l0, l1, l2, some (vI x)], st, σ) = Rn (d) Q (9, 13, [l0, l1, l2, some (vI x)], vI x :: st, σ) := E_iload_n i9_12 rfl
theorem e9_13 {d : Nat} {Q : Option AV → St → Prop} {st : List AV} {σ : St} {l0 l1 l3 : Option AV} {x : Option (Nat × Nat × Nat)} : Rn (d) Q (9, 13, [l0, l1, some (vR x), l3], st, σ) = Rn (d) Q (9, 14, [l0, l1, some (vR x), l3], vR x :: st, σ) := E_aload_n i9_13 rfl
theorem e9_14 {d : Nat} {Q : Option AV → St → Prop} {st : List AV} {σ : St} {l0 l1 l2 l3 : Option AV} {i : Nat} {a1 : Int32} {a2 : Option (Nat × Nat × Nat)} : Rn (d + 1) Q (9, 14, [l0, l1, l2, l3], vR a2 :: vI a1 :: vR (some (0, 0, i)) :: st, σ) = (i < gN σ 0 ∧ catS st ≤ 8 ∧ Rn d (fun r σ' => Rn (d + 1) Q (9, 17, [l0, l1, l2, l3], r.toList ++ st, σ')) (8, 0, [some (vR (some (0, 0, i))), some (vI a1), some (vR a2)], [], σ)) := E_invV (a := [vR a2, vI a1]) i9_14 ((congrArg (fun z => mthQ z 55) o9).trans m0_55) o8 rfl (ek8 i a1 a2) (en8 i a1 a2)
theorem e9_17 {d : Nat} {Q : Option AV → St → Prop} {st : List AV} {σ : St} {l0 l1 l2 l3 : Option AV} : Rn (d) Q (9, 17, [l0, l1, l2, l3], st, σ) = Rn (d) Q (9, 37, [l0, l1, l2, l3], st, σ) := E_goto 37 i9_17 (by decide)
theorem e9_20 {d : Nat} {Q : Option AV → St → Prop} {st : List AV} {σ : St} {l0 l1 l3 : Option AV} {x : Option (Nat × Nat × Nat)} : Rn (d) Q (9, 20, [l0, l1, some (vR x), l3], st, σ) = Rn (d) Q (9, 21, [l0, l1, some (vR x), l3], vR x :: st, σ) := E_aload_n i9_20 rfl
theorem e9_21 {d : Nat} {Q : Option AV → St → Prop} {st : List AV} {σ : St} {l0 l1 l2 : Option AV} {x : Int32} : Rn (d) Q (9, 21, [l0, l1, l2, some (vI x)], st, σ) = Rn (d) Q (9, 22, [l0, l1, l2, some (vI x)], vI x :: st, σ) := E_iload_n i9_21 rfl
theorem e9_22 {d : Nat} {Q : Option AV → St → Prop} {st : List AV} {σ : St} {l0 l1 l2 l3 : Option AV} {c k i : Nat} {j : Int32} (hk : fk c k = (1, 1)) : Rn (d) Q (9, 22, [l0, l1, l2, l3], vI j :: vR (some (c, k + 1, i)) :: st, σ) = (∃ n, gL σ c k i = some n ∧ i < gN σ c ∧ (0 ≤ j.toInt ∧ j.toInt < n) ∧ Rn (d) Q (9, 23, [l0, l1, l2, l3], vI (gA σ c k i j.toNatClampNeg) :: st, σ)) := E_iaload1 i9_22 hk
theorem e9_23 {d : Nat} {Q : Option AV → St → Prop} {st : List AV} {σ : St} {l0 l2 l3 : Option AV} {x : Int32} : Rn (d) Q (9, 23, [l0, some (vI x), l2, l3], st, σ) = Rn (d) Q (9, 24, [l0, some (vI x), l2, l3], vI x :: st, σ) := E_iload_n i9_23 rfl
theorem e9_24 {d : Nat} {Q : Option AV → St → Prop} {st : List AV} {σ : St} {l0 l1 l2 l3 : Option AV} : Rn (d) Q (9, 24, [l0, l1, l2, l3], st, σ) = Rn (d) Q (9, 26, [l0, l1, l2, l3], vI 8 :: st, σ) := by rw [E_bipush i9_24, cb_8]
theorem e9_26 {d : Nat} {Q : Option AV → St → Prop} {st : List AV} {σ : St} {l0 l1 l2 l3 : Option AV} {x y : Int32} : Rn (d) Q (9, 26, [l0, l1, l2, l3], vI y :: vI x :: st, σ) = (¬ y = 0 ∧ Rn (d) Q (9, 27, [l0, l1, l2, l3], vI (x / y) :: st, σ)) := E_idiv i9_26
theorem e9_27 {d : Nat} {Q : Option AV → St → Prop} {st : List AV} {σ : St} {l0 l1 l2 l3 : Option AV} : Rn (d) Q (9, 27, [l0, l1, l2, l3], st, σ) = Rn (d) Q (9, 28, [l0, l1, l2, l3], vI 1 :: st, σ) := by rw [E_iconst i9_27, ci_1]
theorem e9_28 {d : Nat} {Q : Option AV → St → Prop} {st : List AV} {σ : St} {l0 l1 l2 l3 : Option AV} {x y : Int32} : Rn (d) Q (9, 28, [l0, l1, l2, l3], vI y :: vI x :: st, σ) = Rn (d) Q (9, 29, [l0, l1, l2, l3], vI (x - y) :: st, σ) := E_isub i9_28
theorem e9_29 {d : Nat} {Q : Option AV → St → Prop} {st : List AV} {σ : St} {l0 l1 l2 l3 : Option AV} {x y : Int32} : Rn (d) Q (9, 29, [l0, l1, l2, l3], vI y :: vI x :: st, σ) = (if x ≤ y then Rn (d) Q (9, 36, [l0, l1, l2, l3], st, σ) else Rn (d) Q (9, 32, [l0, l1, l2, l3], st, σ)) := E_icmp_le 36 i9_29 (by decide)
theorem e9_32 {d : Nat} {Q : Option AV → St → Prop} {st : List AV} {σ : St} {l0 l1 l2 l3 : Option AV} : Rn (d) Q (9, 32, [l0, l1, l2, l3], st, σ) = Rn (d) Q (9, 33, [l0, l1, l2, l3], vI 1 :: st, σ) := by rw [E_iconst i9_32, ci_1]
theorem e9_33 {d : Nat} {Q : Option AV → St → Prop} {st : List AV} {σ : St} {l0 l1 l2 l3 : Option AV} : Rn (d) Q (9, 33, [l0, l1, l2, l3], st, σ) = Rn (d) Q (9, 37, [l0, l1, l2, l3], st, σ) := E_goto 37 i9_33 (by decide)
theorem e9_36 {d : Nat} {Q : Option AV → St → Prop} {st : List AV} {σ : St} {l0 l1 l2 l3 : Option AV} : Rn (d) Q (9, 36, [l0, l1, l2, l3], st, σ) = Rn (d) Q (9, 37, [l0, l1, l2, l3], vI 0 :: st, σ) := by rw [E_iconst i9_36, ci_0]
theorem e9_37 {d : Nat} {Q : Option AV → St → Prop} {σ : St} {l0 l1 l2 l3 : Option AV} {x : Int32} : Rn (d) Q (9, 37, [l0, l1, l2, l3], [vI x], σ) = ((x = 0 ∨ x = 1) ∧ Q (some (vI x)) σ) := E_iretZ (st := []) i9_37 r9
theorem i10_0 : ins 10 0 = some (.iconst 1, 1) := (congrArg (fun x : PTy => x.1.lookup 0) q10).trans rfl
theorem i10_1 : ins 10 1 = some (.istore_n 3, 1) := (congrArg (fun x : PTy => x.1.lookup 1) q10).trans rfl
theorem i10_2 : ins 10 2 = some (.aload_n 0, 1) := (congrArg (fun x : PTy => x.1.lookup 2) q10).trans rfl
theorem i10_3 : ins 10 3 = some (.getfield 28, 3) := (congrArg (fun x : PTy => x.1.lookup 3) q10).trans rfl
theorem i10_6 : ins 10 6 = some (.iload_n 1, 1) := (congrArg (fun x : PTy => x.1.lookup 6) q10).trans rfl
theorem i10_7 : ins 10 7 = some (.iaload, 1) := (congrArg (fun x : PTy => x.1.lookup 7) q10).trans rfl
theorem i10_8 : ins 10 8 = some (.istore 4, 2) := (congrArg (fun x : PTy => x.1.lookup 8) q10).trans rfl
theorem i10_10 : ins 10 10 = some (.iload 4, 2) := (congrArg (fun x : PTy => x.1.lookup 10) q10).trans rfl
theorem i10_12 : ins 10 12 = some (.aload_n 0, 1) := (congrArg (fun x : PTy => x.1.lookup 12) q10).trans rfl
theorem i10_13 : ins 10 13 = some (.getfield 31, 3) := (congrArg (fun x : PTy => x.1.lookup 13) q10).trans rfl
theorem i10_16 : ins 10 16 = some (.iload_n 1, 1) := (congrArg (fun x : PTy => x.1.lookup 16) q10).trans rfl
theorem i10_17 : ins 10 17 = some (.iaload, 1) := (congrArg (fun x : PTy => x.1.lookup 17) q10).trans rfl
theorem i10_18 : ins 10 18 = some (.if_icmp .ge 112, 3) := (congrArg (fun x : PTy => x.1.lookup 18) q10).trans rfl
theorem i10_21 : ins 10 21 = some (.iload_n 3, 1) := (congrArg (fun x : PTy => x.1.lookup 21) q10).trans rfl
theorem i10_22 : ins 10 22 = some (.iconst 1, 1) := (congrArg (fun x : PTy => x.1.lookup 22) q10).trans rfl
theorem i10_23 : ins 10 23 = some (.iand, 1) := (congrArg (fun x : PTy => x.1.lookup 23) q10).trans rfl
theorem i10_24 : ins 10 24 = some (.istore 5, 2) := (congrArg (fun x : PTy => x.1.lookup 24) q10).trans rfl
theorem i10_26 : ins 10 26 = some (.aload_n 0, 1) := (congrArg (fun x : PTy => x.1.lookup 26) q10).trans rfl
theorem i10_27 : ins 10 27 = some (.getfield 36, 3) := (congrArg (fun x : PTy => x.1.lookup 27) q10).trans rfl
theorem i10_30 : ins 10 30 = some (.iload 4, 2) := (congrArg (fun x : PTy => x.1.lookup 30) q10).trans rfl
theorem i10_32 : ins 10 32 = some (.saload, 1) := (congrArg (fun x : PTy => x.1.lookup 32) q10).trans rfl
theorem i10_33 : ins 10 33 = some (.tableswitch 66 (-3) (-1) #[56, 34, 27], 27) := (congrArg (fun x : PTy => x.1.lookup 33) q10).trans rfl
theorem i10_60 : ins 10 60 = some (.iload_n 3, 1) := (congrArg (fun x : PTy => x.1.lookup 60) q10).trans rfl
theorem i10_61 : ins 10 61 = some (.iconst 1, 1) := (congrArg (fun x : PTy => x.1.lookup 61) q10).trans rfl
theorem i10_62 : ins 10 62 = some (.ixor, 1) := (congrArg (fun x : PTy => x.1.lookup 62) q10).trans rfl
theorem i10_63 : ins 10 63 = some (.istore_n 3, 1) := (congrArg (fun x : PTy => x.1.lookup 63) q10).trans rfl
theorem i10_64 : ins 10 64 = some (.goto 60, 3) := (congrArg (fun x : PTy => x.1.lookup 64) q10).trans rfl
theorem i10_67 : ins 10 67 = some (.iload 5, 2) := (congrArg (fun x : PTy => x.1.lookup 67) q10).trans rfl
theorem i10_69 : ins 10 69 = some (.iconst 1, 1) := (congrArg (fun x : PTy => x.1.lookup 69) q10).trans rfl
theorem i10_70 : ins 10 70 = some (.if_icmp .ne 9, 3) := (congrArg (fun x : PTy => x.1.lookup 70) q10).trans rfl
theorem i10_73 : ins 10 73 = some (.iload_n 3, 1) := (congrArg (fun x : PTy => x.1.lookup 73) q10).trans rfl
theorem i10_74 : ins 10 74 = some (.iconst 1, 1) := (congrArg (fun x : PTy => x.1.lookup 74) q10).trans rfl
theorem i10_75 : ins 10 75 = some (.ishr, 1) := (congrArg (fun x : PTy => x.1.lookup 75) q10).trans rfl
theorem i10_76 : ins 10 76 = some (.goto 9, 3) := (congrArg (fun x : PTy => x.1.lookup 76) q10).trans rfl
theorem i10_79 : ins 10 79 = some (.iload_n 3, 1) := (congrArg (fun x : PTy => x.1.lookup 79) q10).trans rfl
theorem i10_80 : ins 10 80 = some (.iconst 1, 1) := (congrArg (fun x : PTy => x.1.lookup 80) q10).trans rfl
theorem i10_81 : ins 10 81 = some (.ishr, 1) := (congrArg (fun x : PTy => x.1.lookup 81) q10).trans rfl
theorem i10_82 : ins 10 82 = some (.bipush (-2), 2) := (congrArg (fun x : PTy => x.1.lookup 82) q10).trans rfl
theorem i10_84 : ins 10 84 = some (.iand, 1) := (congrArg (fun x : PTy => x.1.lookup 84) q10).trans rfl
theorem i10_85 : ins 10 85 = some (.istore_n 3, 1) := (congrArg (fun x : PTy => x.1.lookup 85) q10).trans rfl
theorem i10_86 : ins 10 86 = some (.goto 38, 3) := (congrArg (fun x : PTy => x.1.lookup 86) q10).trans rfl
theorem i10_89 : ins 10 89 = some (.iload_n 3, 1) := (congrArg (fun x : PTy => x.1.lookup 89) q10).trans rfl
theorem i10_90 : ins 10 90 = some (.iconst 1, 1) := (congrArg (fun x : PTy => x.1.lookup 90) q10).trans rfl
theorem i10_91 : ins 10 91 = some (.ishr, 1) := (congrArg (fun x : PTy => x.1.lookup 91) q10).trans rfl
theorem i10_92 : ins 10 92 = some (.iload 5, 2) := (congrArg (fun x : PTy => x.1.lookup 92) q10).trans rfl
theorem i10_94 : ins 10 94 = some (.ior, 1) := (congrArg (fun x : PTy => x.1.lookup 94) q10).trans rfl
theorem i10_95 : ins 10 95 = some (.istore_n 3, 1) := (congrArg (fun x : PTy => x.1.lookup 95) q10).trans rfl
theorem i10_96 : ins 10 96 = some (.goto 28, 3) := (congrArg (fun x : PTy => x.1.lookup 96) q10).trans rfl
theorem i10_99 : ins 10 99 = some (.iload_n 3, 1) := (congrArg (fun x : PTy => x.1.lookup 99) q10).trans rfl
theorem i10_100 : ins 10 100 = some (.iconst 1, 1) := (congrArg (fun x : PTy => x.1.lookup 100) q10).trans rfl
theorem i10_101 : ins 10 101 = some (.ishl, 1) := (congrArg (fun x : PTy => x.1.lookup 101) q10).trans rfl
theorem i10_102 : ins 10 102 = some (.aload_n 0, 1) := (congrArg (fun x : PTy => x.1.lookup 102) q10).trans rfl
theorem i10_103 : ins 10 103 = some (.aload_n 0, 1) := (congrArg (fun x : PTy => x.1.lookup 103) q10).trans rfl
theorem i10_104 : ins 10 104 = some (.getfield 36, 3) := (congrArg (fun x : PTy => x.1.lookup 104) q10).trans rfl
theorem i10_107 : ins 10 107 = some (.iload 4, 2) := (congrArg (fun x : PTy => x.1.lookup 107) q10).trans rfl
theorem i10_109 : ins 10 109 = some (.saload, 1) := (congrArg (fun x : PTy => x.1.lookup 109) q10).trans rfl
theorem i10_110 : ins 10 110 = some (.aload_n 2, 1) := (congrArg (fun x : PTy => x.1.lookup 110) q10).trans rfl
theorem i10_111 : ins 10 111 = some (.invokevirtual 59, 3) := (congrArg (fun x : PTy => x.1.lookup 111) q10).trans rfl
theorem i10_114 : ins 10 114 = some (.ifCond .eq 7, 3) := (congrArg (fun x : PTy => x.1.lookup 114) q10).trans rfl
theorem i10_117 : ins 10 117 = some (.iconst 1, 1) := (congrArg (fun x : PTy => x.1.lookup 117) q10).trans rfl
theorem i10_118 : ins 10 118 = some (.goto 4, 3) := (congrArg (fun x : PTy => x.1.lookup 118) q10).trans rfl
theorem i10_121 : ins 10 121 = some (.iconst 0, 1) := (congrArg (fun x : PTy => x.1.lookup 121) q10).trans rfl
theorem i10_122 : ins 10 122 = some (.ior, 1) := (congrArg (fun x : PTy => x.1.lookup 122) q10).trans rfl
theorem i10_123 : ins 10 123 = some (.istore_n 3, 1) := (congrArg (fun x : PTy => x.1.lookup 123) q10).trans rfl
theorem i10_124 : ins 10 124 = some (.iinc 4 1, 3) := (congrArg (fun x : PTy => x.1.lookup 124) q10).trans rfl
theorem i10_127 : ins 10 127 = some (.goto (-117), 3) := (congrArg (fun x : PTy => x.1.lookup 127) q10).trans rfl
theorem i10_130 : ins 10 130 = some (.iload_n 3, 1) := (congrArg (fun x : PTy => x.1.lookup 130) q10).trans rfl
theorem i10_131 : ins 10 131 = some (.iconst 1, 1) := (congrArg (fun x : PTy => x.1.lookup 131) q10).trans rfl
theorem i10_132 : ins 10 132 = some (.iand, 1) := (congrArg (fun x : PTy => x.1.lookup 132) q10).trans rfl
theorem i10_133 : ins 10 133 = some (.iconst 1, 1) := (congrArg (fun x : PTy => x.1.lookup 133) q10).trans rfl
theorem i10_134 : ins 10 134 = some (.if_icmp .ne 7, 3) := (congrArg (fun x : PTy => x.1.lookup 134) q10).trans rfl
theorem i10_137 : ins 10 137 = some (.iconst 1, 1) := (congrArg (fun x : PTy => x.1.lookup 137) q10).trans rfl
theorem i10_138 : ins 10 138 = some (.goto 4, 3) := (congrArg (fun x : PTy => x.1.lookup 138) q10).trans rfl
theorem i10_141 : ins 10 141 = some (.iconst 0, 1) := (congrArg (fun x : PTy => x.1.lookup 141) q10).trans rfl
theorem i10_142 : ins 10 142 = some (.ireturn, 1) := (congrArg (fun x : PTy => x.1.lookup 142) q10).trans rfl
theorem e10_0 {d : Nat} {Q : Option AV → St → Prop} {st : List AV} {σ : St} {l0 l1 l2 l3 l4 l5 : Option AV} : Rn (d) Q (10, 0, [l0, l1, l2, l3, l4, l5], st, σ) = Rn (d) Q (10, 1, [l0, l1, l2, l3, l4, l5], vI 1 :: st, σ) := by rw [E_iconst i10_0, ci_1]
theorem s10_3 : okst 10 3 = true := by unfold okst; rw [x10]; rfl
theorem e10_1 {d : Nat} {Q : Option AV → St → Prop} {st : List AV} {σ : St} {l0 l1 l2 l3 l4 l5 : Option AV} {x : Int32} : Rn (d) Q (10, 1, [l0, l1, l2, l3, l4, l5], vI x :: st, σ) = Rn (d) Q (10, 2, [l0, l1, l2, some (vI x), l4, l5], st, σ) := E_istore_n i10_1 s10_3
theorem e10_2 {d : Nat} {Q : Option AV → St → Prop} {st : List AV} {σ : St} {l1 l2 l3 l4 l5 : Option AV} {x : Option (Nat × Nat × Nat)} : Rn (d) Q (10, 2, [some (vR x), l1, l2, l3, l4, l5], st, σ) = Rn (d) Q (10, 3, [some (vR x), l1, l2, l3, l4, l5], vR x :: st, σ) := E_aload_n i10_2 rfl
theorem e10_3 {d : Nat} {Q : Option AV → St → Prop} {st : List AV} {σ : St} {l0 l1 l2 l3 l4 l5 : Option AV} {i : Nat} : Rn (d) Q (10, 3, [l0, l1, l2, l3, l4, l5], vR (some (0, 0, i)) :: st, σ) = (i < gN σ 0 ∧ ¬ gL σ 0 5 i = none ∧ Rn (d) Q (10, 6, [l0, l1, l2, l3, l4, l5], vR (some (0, 6, i)) :: st, σ)) := E_getA i10_3 ((congrArg (fun z => fldQ z 28) o10).trans f0_28) (Or.inl rfl)
theorem e10_6 {d : Nat} {Q : Option AV → St → Prop} {st : List AV} {σ : St} {l0 l2 l3 l4 l5 : Option AV} {x : Int32} : Rn (d) Q (10, 6, [l0, some (vI x), l2, l3, l4, l5], st, σ) = Rn (d) Q (10, 7, [l0, some (vI x), l2, l3, l4, l5], vI x :: st, σ) := E_iload_n i10_6 rfl
theorem e10_7 {d : Nat} {Q : Option AV → St → Prop} {st : List AV} {σ : St} {l0 l1 l2 l3 l4 l5 : Option AV} {i : Nat} {j : Int32} : Rn (d) Q (10, 7, [l0, l1, l2, l3, l4, l5], vI j :: vR (some (0, 6, i)) :: st, σ) = (∃ n, gL σ 0 5 i = some n ∧ i < gN σ 0 ∧ (0 ≤ j.toInt ∧ j.toInt < n) ∧ Rn (d) Q (10, 8, [l0, l1, l2, l3, l4, l5], vI (gA σ 0 5 i j.toNatClampNeg) :: st, σ)) := E_iaload1 i10_7 rfl
theorem s10_4 : okst 10 4 = true := by unfold okst; rw [x10]; rfl
theorem e10_8 {d : Nat} {Q : Option AV → St → Prop} {st : List AV} {σ : St} {l0 l1 l2 l3 l4 l5 : Option AV} {x : Int32} : Rn (d) Q (10, 8, [l0, l1, l2, l3, l4, l5], vI x :: st, σ) = Rn (d) Q (10, 10, [l0, l1, l2, l3, some (vI x), l5], st, σ) := E_istore i10_8 s10_4
theorem e10_10 {d : Nat} {Q : Option AV → St → Prop} {st : List AV} {σ : St} {l0 l1 l2 l3 l5 : Option AV} {x : Int32} : Rn (d) Q (10, 10, [l0, l1, l2, l3, some (vI x), l5], st, σ) = Rn (d) Q (10, 12, [l0, l1, l2, l3, some (vI x), l5], vI x :: st, σ) := E_iload i10_10 rfl
theorem e10_12 {d : Nat} {Q : Option AV → St → Prop} {st : List AV} {σ : St} {l1 l2 l3 l4 l5 : Option AV} {x : Option (Nat × Nat × Nat)} : Rn (d) Q (10, 12, [some (vR x), l1, l2, l3, l4, l5], st, σ) = Rn (d) Q (10, 13, [some (vR x), l1, l2, l3, l4, l5], vR x :: st, σ) := E_aload_n i10_12 rfl
theorem e10_13 {d : Nat} {Q : Option AV → St → Prop} {st : List AV} {σ : St} {l0 l1 l2 l3 l4 l5 : Option AV} {i : Nat} : Rn (d) Q (10, 13, [l0, l1, l2, l3, l4, l5], vR (some (0, 0, i)) :: st, σ) = (i < gN σ 0 ∧ ¬ gL σ 0 6 i = none ∧ Rn (d) Q (10, 16, [l0, l1, l2, l3, l4, l5], vR (some (0, 7, i)) :: st, σ)) := E_getA i10_13 ((congrArg (fun z => fldQ z 31) o10).trans f0_31) (Or.inl rfl)
theorem e10_16 {d : Nat} {Q : Option AV → St → Prop} {st : List AV} {σ : St} {l0 l2 l3 l4 l5 : Option AV} {x : Int32} : Rn (d) Q (10, 16, [l0, some (vI x), l2, l3, l4, l5], st, σ) = Rn (d) Q (10, 17, [l0, some (vI x), l2, l3, l4, l5], vI x :: st, σ) := E_iload_n i10_16 rfl
theorem e10_17 {d : Nat} {Q : Option AV → St → Prop} {st : List AV} {σ : St} {l0 l1 l2 l3 l4 l5 : Option AV} {i : Nat} {j : Int32} : Rn (d) Q (10, 17, [l0, l1, l2, l3, l4, l5], vI j :: vR (some (0, 7, i)) :: st, σ) = (∃ n, gL σ 0 6 i = some n ∧ i < gN σ 0 ∧ (0 ≤ j.toInt ∧ j.toInt < n) ∧ Rn (d) Q (10, 18, [l0, l1, l2, l3, l4, l5], vI (gA σ 0 6 i j.toNatClampNeg) :: st, σ)) := E_iaload1 i10_17 rfl
theorem e10_18 {d : Nat} {Q : Option AV → St → Prop} {st : List AV} {σ : St} {l0 l1 l2 l3 l4 l5 : Option AV} {x y : Int32} : Rn (d) Q (10, 18, [l0, l1, l2, l3, l4, l5], vI y :: vI x :: st, σ) = (if y ≤ x then Rn (d) Q (10, 130, [l0, l1, l2, l3, l4, l5], st, σ) else Rn (d) Q (10, 21, [l0, l1, l2, l3, l4, l5], st, σ)) := E_icmp_ge 130 i10_18 (by decide)
theorem e10_21 {d : Nat} {Q : Option AV → St → Prop} {st : List AV} {σ : St} {l0 l1 l2 l4 l5 : Option AV} {x : Int32} : Rn (d) Q (10, 21, [l0, l1, l2, some (vI x), l4, l5], st, σ) = Rn (d) Q (10, 22, [l0, l1, l2, some (vI x), l4, l5], vI x :: st, σ) := E_iload_n i10_21 rfl
theorem e10_22 {d : Nat} {Q : Option AV → St → Prop} {st : List AV} {σ : St} {l0 l1 l2 l3 l4 l5 : Option AV} : Rn (d) Q (10, 22, [l0, l1, l2, l3, l4, l5], st, σ) = Rn (d) Q (10, 23, [l0, l1, l2, l3, l4, l5], vI 1 :: st, σ) := by rw [E_iconst i10_22, ci_1]
theorem e10_23 {d : Nat} {Q : Option AV → St → Prop} {st : List AV} {σ : St} {l0 l1 l2 l3 l4 l5 : Option AV} {x y : Int32} : Rn (d) Q (10, 23, [l0, l1, l2, l3, l4, l5], vI y :: vI x :: st, σ) = Rn (d) Q (10, 24, [l0, l1, l2, l3, l4, l5], vI (x &&& y) :: st, σ) := E_iand i10_23
theorem s10_5 : okst 10 5 = true := by unfold okst; rw [x10]; rfl
theorem e10_24 {d : Nat} {Q : Option AV → St → Prop} {st : List AV} {σ : St} {l0 l1 l2 l3 l4 l5 : Option AV} {x : Int32} : Rn (d) Q (10, 24, [l0, l1, l2, l3, l4, l5], vI x :: st, σ) = Rn (d) Q (10, 26, [l0, l1, l2, l3, l4, some (vI x)], st, σ) := E_istore i10_24 s10_5
theorem e10_26 {d : Nat} {Q : Option AV → St → Prop} {st : List AV} {σ : St} {l1 l2 l3 l4 l5 : Option AV} {x : Option (Nat × Nat × Nat)} : Rn (d) Q (10, 26, [some (vR x), l1, l2, l3, l4, l5], st, σ) = Rn (d) Q (10, 27, [some (vR x), l1, l2, l3, l4, l5], vR x :: st, σ) := E_aload_n i10_26 rfl
theorem e10_27 {d : Nat} {Q : Option AV → St → Prop} {st : List AV} {σ : St} {l0 l1 l2 l3 l4 l5 : Option AV} {i : Nat} : Rn (d) Q (10, 27, [l0, l1, l2, l3, l4, l5], vR (some (0, 0, i)) :: st, σ) = (i < gN σ 0 ∧ ¬ gL σ 0 7 i = none ∧ Rn (d) Q (10, 30, [l0, l1, l2, l3, l4, l5], vR (some (0, 8, i)) :: st, σ)) := E_getA i10_27 ((congrArg (fun z => fldQ z 36) o10).trans f0_36) (Or.inl rfl)
theorem e10_30 {d : Nat} {Q : Option AV → St → Prop} {st : List AV} {σ : St} {l0 l1 l2 l3 l5 : Option AV} {x : Int32} : Rn (d) Q (10, 30, [l0, l1, l2, l3, some (vI x), l5], st, σ) = Rn (d) Q (10, 32, [l0, l1, l2, l3, some (vI x), l5], vI x :: st, σ) := E_iload i10_30 rfl
theorem e10_32 {d : Nat} {Q : Option AV → St → Prop} {st : List AV} {σ : St} {l0 l1 l2 l3 l4 l5 : Option AV} {i : Nat} {j : Int32} : Rn (d) Q (10, 32, [l0, l1, l2, l3, l4, l5], vI j :: vR (some (0, 8, i)) :: st, σ) = (∃ n, gL σ 0 7 i = some n ∧ i < gN σ 0 ∧ (0 ≤ j.toInt ∧ j.toInt < n) ∧ Rn (d) Q (10, 33, [l0, l1, l2, l3, l4, l5], vI (gA σ 0 7 i j.toNatClampNeg) :: st, σ)) := E_saload2 i10_32 rfl
theorem e10_33 {d : Nat} {Q : Option AV → St → Prop} {st : List AV} {σ : St} {l0 l1 l2 l3 l4 l5 : Option AV} {x : Int32} : Rn (d) Q (10, 33, [l0, l1, l2, l3, l4, l5], vI x :: st, σ) = (if x = (-3) then Rn (d) Q (10, 89, [l0, l1, l2, l3, l4, l5], st, σ) else (if x = (-2) then Rn (d) Q (10, 67, [l0, l1, l2, l3, l4, l5], st, σ) else (if x = (-1) then Rn (d) Q (10, 60, [l0, l1, l2, l3, l4, l5], st, σ) else Rn (d) Q (10, 99, [l0, l1, l2, l3, l4, l5], st, σ)))) := by
  by_cases h0 : x = (-3)
  · subst h0
    rw [if_pos rfl]
    exact E_tsI 89 i10_33 (by decide) rfl (by decide)
  rw [if_neg h0]
  by_cases h1 : x = (-2)
  · subst h1
    rw [if_pos rfl]
    exact E_tsI 67 i10_33 (by decide) rfl (by decide)
  rw [if_neg h1]
  by_cases h2 : x = (-1)
  · subst h2
    rw [if_pos rfl]
    exact E_tsI 60 i10_33 (by decide) rfl (by decide)
  rw [if_neg h2]
  refine E_tsO 99 i10_33 (by decide) ?_
  have g0 : x.toInt ≠ -3 := fun z => h0 (Int32.toInt_inj.mp (z.trans (by decide)))
  have g1 : x.toInt ≠ -2 := fun z => h1 (Int32.toInt_inj.mp (z.trans (by decide)))
  have g2 : x.toInt ≠ -1 := fun z => h2 (Int32.toInt_inj.mp (z.trans (by decide)))
  omega
theorem e10_60 {d : Nat} {Q : Option AV → St → Prop} {st : List AV} {σ : St} {l0 l1 l2 l4 l5 : Option AV} {x : Int32} : Rn (d) Q (10, 60, [l0, l1, l2, some (vI x), l4, l5], st, σ) = Rn (d) Q (10, 61, [l0, l1, l2, some (vI x), l4, l5], vI x :: st, σ) := E_iload_n i10_60 rfl
theorem e10_61 {d : Nat} {Q : Option AV → St → Prop} {st : List AV} {σ : St} {l0 l1 l2 l3 l4 l5 : Option AV} : Rn (d) Q (10, 61, [l0, l1, l2, l3, l4, l5], st, σ) = Rn (d) Q (10, 62, [l0, l1, l2, l3, l4, l5], vI 1 :: st, σ) := by rw [E_iconst i10_61, ci_1]
theorem e10_62 {d : Nat} {Q : Option AV → St → Prop} {st : List AV} {σ : St} {l0 l1 l2 l3 l4 l5 : Option AV} {x y : Int32} : Rn (d) Q (10, 62, [l0, l1, l2, l3, l4, l5], vI y :: vI x :: st, σ) = Rn (d) Q (10, 63, [l0, l1, l2, l3, l4, l5], vI (x ^^^ y) :: st, σ) := E_ixor i10_62
theorem e10_63 {d : Nat} {Q : Option AV → St → Prop} {st : List AV} {σ : St} {l0 l1 l2 l3 l4 l5 : Option AV} {x : Int32} : Rn (d) Q (10, 63, [l0, l1, l2, l3, l4, l5], vI x :: st, σ) = Rn (d) Q (10, 64, [l0, l1, l2, some (vI x), l4, l5], st, σ) := E_istore_n i10_63 s10_3
theorem e10_64 {d : Nat} {Q : Option AV → St → Prop} {st : List AV} {σ : St} {l0 l1 l2 l3 l4 l5 : Option AV} : Rn (d) Q (10, 64, [l0, l1, l2, l3, l4, l5], st, σ) = Rn (d) Q (10, 124, [l0, l1, l2, l3, l4, l5], st, σ) := E_goto 124 i10_64 (by decide)
theorem e10_67 {d : Nat} {Q : Option AV → St → Prop} {st : List AV} {σ : St} {l0 l1 l2 l3 l4 : Option AV} {x : Int32} : Rn (d) Q (10, 67, [l0, l1, l2, l3, l4, some (vI x)], st, σ) = Rn (d) Q (10, 69, [l0, l1, l2, l3, l4, some (vI x)], vI x :: st, σ) := E_iload i10_67 rfl
theorem e10_69 {d : Nat} {Q : Option AV → St → Prop} {st : List AV} {σ : St} {l0 l1 l2 l3 l4 l5 : Option AV} : Rn (d) Q (10, 69, [l0, l1, l2, l3, l4, l5], st, σ) = Rn (d) Q (10, 70, [l0, l1, l2, l3, l4, l5], vI 1 :: st, σ) := by rw [E_iconst i10_69, ci_1]
theorem e10_70 {d : Nat} {Q : Option AV → St → Prop} {st : List AV} {σ : St} {l0 l1 l2 l3 l4 l5 : Option AV} {x y : Int32} : Rn (d) Q (10, 70, [l0, l1, l2, l3, l4, l5], vI y :: vI x :: st, σ) = (if x = y then Rn (d) Q (10, 73, [l0, l1, l2, l3, l4, l5], st, σ) else Rn (d) Q (10, 79, [l0, l1, l2, l3, l4, l5], st, σ)) := E_icmp_ne 79 i10_70 (by decide)
theorem e10_73 {d : Nat} {Q : Option AV → St → Prop} {st : List AV} {σ : St} {l0 l1 l2 l4 l5 : Option AV} {x : Int32} : Rn (d) Q (10, 73, [l0, l1, l2, some (vI x), l4, l5], st, σ) = Rn (d) Q (10, 74, [l0, l1, l2, some (vI x), l4, l5], vI x :: st, σ) := E_iload_n i10_73 rfl
theorem e10_74 {d : Nat} {Q : Option AV → St → Prop} {st : List AV} {σ : St} {l0 l1 l2 l3 l4 l5 : Option AV} : Rn (d) Q (10, 74, [l0, l1, l2, l3, l4, l5], st, σ) = Rn (d) Q (10, 75, [l0, l1, l2, l3, l4, l5], vI 1 :: st, σ) := by rw [E_iconst i10_74, ci_1]
theorem e10_75 {d : Nat} {Q : Option AV → St → Prop} {st : List AV} {σ : St} {l0 l1 l2 l3 l4 l5 : Option AV} {x y : Int32} : Rn (d) Q (10, 75, [l0, l1, l2, l3, l4, l5], vI y :: vI x :: st, σ) = Rn (d) Q (10, 76, [l0, l1, l2, l3, l4, l5], vI (x >>> (y &&& 31)) :: st, σ) := E_ishr i10_75
theorem e10_76 {d : Nat} {Q : Option AV → St → Prop} {st : List AV} {σ : St} {l0 l1 l2 l3 l4 l5 : Option AV} : Rn (d) Q (10, 76, [l0, l1, l2, l3, l4, l5], st, σ) = Rn (d) Q (10, 85, [l0, l1, l2, l3, l4, l5], st, σ) := E_goto 85 i10_76 (by decide)
theorem e10_79 {d : Nat} {Q : Option AV → St → Prop} {st : List AV} {σ : St} {l0 l1 l2 l4 l5 : Option AV} {x : Int32} : Rn (d) Q (10, 79, [l0, l1, l2, some (vI x), l4, l5], st, σ) = Rn (d) Q (10, 80, [l0, l1, l2, some (vI x), l4, l5], vI x :: st, σ) := E_iload_n i10_79 rfl
theorem e10_80 {d : Nat} {Q : Option AV → St → Prop} {st : List AV} {σ : St} {l0 l1 l2 l3 l4 l5 : Option AV} : Rn (d) Q (10, 80, [l0, l1, l2, l3, l4, l5], st, σ) = Rn (d) Q (10, 81, [l0, l1, l2, l3, l4, l5], vI 1 :: st, σ) := by rw [E_iconst i10_80, ci_1]
theorem e10_81 {d : Nat} {Q : Option AV → St → Prop} {st : List AV} {σ : St} {l0 l1 l2 l3 l4 l5 : Option AV} {x y : Int32} : Rn (d) Q (10, 81, [l0, l1, l2, l3, l4, l5], vI y :: vI x :: st, σ) = Rn (d) Q (10, 82, [l0, l1, l2, l3, l4, l5], vI (x >>> (y &&& 31)) :: st, σ) := E_ishr i10_81
theorem e10_82 {d : Nat} {Q : Option AV → St → Prop} {st : List AV} {σ : St} {l0 l1 l2 l3 l4 l5 : Option AV} : Rn (d) Q (10, 82, [l0, l1, l2, l3, l4, l5], st, σ) = Rn (d) Q (10, 84, [l0, l1, l2, l3, l4, l5], vI (-2) :: st, σ) := by rw [E_bipush i10_82, cb_m2]
theorem e10_84 {d : Nat} {Q : Option AV → St → Prop} {st : List AV} {σ : St} {l0 l1 l2 l3 l4 l5 : Option AV} {x y : Int32} : Rn (d) Q (10, 84, [l0, l1, l2, l3, l4, l5], vI y :: vI x :: st, σ) = Rn (d) Q (10, 85, [l0, l1, l2, l3, l4, l5], vI (x &&& y) :: st, σ) := E_iand i10_84
theorem e10_85 {d : Nat} {Q : Option AV → St → Prop} {st : List AV} {σ : St} {l0 l1 l2 l3 l4 l5 : Option AV} {x : Int32} : Rn (d) Q (10, 85, [l0, l1, l2, l3, l4, l5], vI x :: st, σ) = Rn (d) Q (10, 86, [l0, l1, l2, some (vI x), l4, l5], st, σ) := E_istore_n i10_85 s10_3
theorem e10_86 {d : Nat} {Q : Option AV → St → Prop} {st : List AV} {σ : St} {l0 l1 l2 l3 l4 l5 : Option AV} : Rn (d) Q (10, 86, [l0, l1, l2, l3, l4, l5], st, σ) = Rn (d) Q (10, 124, [l0, l1, l2, l3, l4, l5], st, σ) := E_goto 124 i10_86 (by decide)
theorem e10_89 {d : Nat} {Q : Option AV → St → Prop} {st : List AV} {σ : St} {l0 l1 l2 l4 l5 : Option AV} {x : Int32} : Rn (d) Q (10, 89, [l0, l1, l2, some (vI x), l4, l5], st, σ) = Rn (d) Q (10, 90, [l0, l1, l2, some (vI x), l4, l5], vI x :: st, σ) := E_iload_n i10_89 rfl
theorem e10_90 {d : Nat} {Q : Option AV → St → Prop} {st : List AV} {σ : St} {l0 l1 l2 l3 l4 l5 : Option AV} : Rn (d) Q (10, 90, [l0, l1, l2, l3, l4, l5], st, σ) = Rn (d) Q (10, 91, [l0, l1, l2, l3, l4, l5], vI 1 :: st, σ) := by rw [E_iconst i10_90, ci_1]
theorem e10_91 {d : Nat} {Q : Option AV → St → Prop} {st : List AV} {σ : St} {l0 l1 l2 l3 l4 l5 : Option AV} {x y : Int32} : Rn (d) Q (10, 91, [l0, l1, l2, l3, l4, l5], vI y :: vI x :: st, σ) = Rn (d) Q (10, 92, [l0, l1, l2, l3, l4, l5], vI (x >>> (y &&& 31)) :: st, σ) := E_ishr i10_91
theorem e10_92 {d : Nat} {Q : Option AV → St → Prop} {st : List AV} {σ : St} {l0 l1 l2 l3 l4 : Option AV} {x : Int32} : Rn (d) Q (10, 92, [l0, l1, l2, l3, l4, some (vI x)], st, σ) = Rn (d) Q (10, 94, [l0, l1, l2, l3, l4, some (vI x)], vI x :: st, σ) := E_iload i10_92 rfl
theorem e10_94 {d : Nat} {Q : Option AV → St → Prop} {st : List AV} {σ : St} {l0 l1 l2 l3 l4 l5 : Option AV} {x y : Int32} : Rn (d) Q (10, 94, [l0, l1, l2, l3, l4, l5], vI y :: vI x :: st, σ) = Rn (d) Q (10, 95, [l0, l1, l2, l3, l4, l5], vI (x ||| y) :: st, σ) := E_ior i10_94
theorem e10_95 {d : Nat} {Q : Option AV → St → Prop} {st : List AV} {σ : St} {l0 l1 l2 l3 l4 l5 : Option AV} {x : Int32} : Rn (d) Q (10, 95, [l0, l1, l2, l3, l4, l5], vI x :: st, σ) = Rn (d) Q (10, 96, [l0, l1, l2, some (vI x), l4, l5], st, σ) := E_istore_n i10_95 s10_3
theorem e10_96 {d : Nat} {Q : Option AV → St → Prop} {st : List AV} {σ : St} {l0 l1 l2 l3 l4 l5 : Option AV} : Rn (d) Q (10, 96, [l0, l1, l2, l3, l4, l5], st, σ) = Rn (d) Q (10, 124, [l0, l1, l2, l3, l4, l5], st, σ) := E_goto 124 i10_96 (by decide)
theorem e10_99 {d : Nat} {Q : Option AV → St → Prop} {st : List AV} {σ : St} {l0 l1 l2 l4 l5 : Option AV} {x : Int32} : Rn (d) Q (10, 99, [l0, l1, l2, some (vI x), l4, l5], st, σ) = Rn (d) Q (10, 100, [l0, l1, l2, some (vI x), l4, l5], vI x :: st, σ) := E_iload_n i10_99 rfl
theorem e10_100 {d : Nat} {Q : Option AV → St → Prop} {st : List AV} {σ : St} {l0 l1 l2 l3 l4 l5 : Option AV} : Rn (d) Q (10, 100, [l0, l1, l2, l3, l4, l5], st, σ) = Rn (d) Q (10, 101, [l0, l1, l2, l3, l4, l5], vI 1 :: st, σ) := by rw [E_iconst i10_100, ci_1]
theorem e10_101 {d : Nat} {Q : Option AV → St → Prop} {st : List AV} {σ : St} {l0 l1 l2 l3 l4 l5 : Option AV} {x y : Int32} : Rn (d) Q (10, 101, [l0, l1, l2, l3, l4, l5], vI y :: vI x :: st, σ) = Rn (d) Q (10, 102, [l0, l1, l2, l3, l4, l5], vI (x <<< (y &&& 31)) :: st, σ) := E_ishl i10_101
theorem e10_102 {d : Nat} {Q : Option AV → St → Prop} {st : List AV} {σ : St} {l1 l2 l3 l4 l5 : Option AV} {x : Option (Nat × Nat × Nat)} : Rn (d) Q (10, 102, [some (vR x), l1, l2, l3, l4, l5], st, σ) = Rn (d) Q (10, 103, [some (vR x), l1, l2, l3, l4, l5], vR x :: st, σ) := E_aload_n i10_102 rfl
theorem e10_103 {d : Nat} {Q : Option AV → St → Prop} {st : List AV} {σ : St} {l1 l2 l3 l4 l5 : Option AV} {x : Option (Nat × Nat × Nat)} : Rn (d) Q (10, 103, [some (vR x), l1, l2, l3, l4, l5], st, σ) = Rn (d) Q (10, 104, [some (vR x), l1, l2, l3, l4, l5], vR x :: st, σ) := E_aload_n i10_103 rfl
theorem e10_104 {d : Nat} {Q : Option AV → St → Prop} {st : List AV} {σ : St} {l0 l1 l2 l3 l4 l5 : Option AV} {i : Nat} : Rn (d) Q (10, 104, [l0, l1, l2, l3, l4, l5], vR (some (0, 0, i)) :: st, σ) = (i < gN σ 0 ∧ ¬ gL σ 0 7 i = none ∧ Rn (d) Q (10, 107, [l0, l1, l2, l3, l4, l5], vR (some (0, 8, i)) :: st, σ)) := E_getA i10_104 ((congrArg (fun z => fldQ z 36) o10).trans f0_36) (Or.inl rfl)
theorem e10_107 {d : Nat} {Q : Option AV → St → Prop} {st : List AV} {σ : St} {l0 l1 l2 l3 l5 : Option AV} {x : Int32} : Rn (d) Q (10, 107, [l0, l1, l2, l3, some (vI x), l5], st, σ) = Rn (d) Q (10, 109, [l0, l1, l2, l3, some (vI x), l5], vI x :: st, σ) := E_iload i10_107 rfl
theorem e10_109 {d : Nat} {Q : Option AV → St → Prop} {st : List AV} {σ : St} {l0 l1 l2 l3 l4 l5 : Option AV} {i : Nat} {j : Int32} : Rn (d) Q (10, 109, [l0, l1, l2, l3, l4, l5], vI j :: vR (some (0, 8, i)) :: st, σ) = (∃ n, gL σ 0 7 i = some n ∧ i < gN σ 0 ∧ (0 ≤ j.toInt ∧ j.toInt < n) ∧ Rn (d) Q (10, 110, [l0, l1, l2, l3, l4, l5], vI (gA σ 0 7 i j.toNatClampNeg) :: st, σ)) := E_saload2 i10_109 rfl
theorem e10_110 {d : Nat} {Q : Option AV → St → Prop} {st : List AV} {σ : St} {l0 l1 l3 l4 l5 : Option AV} {x : Option (Nat × Nat × Nat)} : Rn (d) Q (10, 110, [l0, l1, some (vR x), l3, l4, l5], st, σ) = Rn (d) Q (10, 111, [l0, l1, some (vR x), l3, l4, l5], vR x :: st, σ) := E_aload_n i10_110 rfl
theorem e10_111 {d : Nat} {Q : Option AV → St → Prop} {st : List AV} {σ : St} {l0 l1 l2 l3 l4 l5 : Option AV} {i : Nat} {a1 : Int32} {a2 : Option (Nat × Nat × Nat)} : Rn (d + 1) Q (10, 111, [l0, l1, l2, l3, l4, l5], vR a2 :: vI a1 :: vR (some (0, 0, i)) :: st, σ) = (i < gN σ 0 ∧ catS st ≤ 8 ∧ Rn d (fun r σ' => Rn (d + 1) Q (10, 114, [l0, l1, l2, l3, l4, l5], r.toList ++ st, σ')) (9, 0, [some (vR (some (0, 0, i))), some (vI a1), some (vR a2), none], [], σ)) := E_invV (a := [vR a2, vI a1]) i10_111 ((congrArg (fun z => mthQ z 59) o10).trans m0_59) o9 rfl (ek9 i a1 a2) (en9 i a1 a2)
theorem e10_114 {d : Nat} {Q : Option AV → St → Prop} {st : List AV} {σ : St} {l0 l1 l2 l3 l4 l5 : Option AV} {x : Int32} : Rn (d) Q (10, 114, [l0, l1, l2, l3, l4, l5], vI x :: st, σ) = (if x = 0 then Rn (d) Q (10, 121, [l0, l1, l2, l3, l4, l5], st, σ) else Rn (d) Q (10, 117, [l0, l1, l2, l3, l4, l5], st, σ)) := E_if_eq 121 i10_114 (by decide)
theorem e10_117 {d : Nat} {Q : Option AV → St → Prop} {st : List AV} {σ : St} {l0 l1 l2 l3 l4 l5 : Option AV} : Rn (d) Q (10, 117, [l0, l1, l2, l3, l4, l5], st, σ) = Rn (d) Q (10, 118, [l0, l1, l2, l3, l4, l5], vI 1 :: st, σ) := by rw [E_iconst i10_117, ci_1]
theorem e10_118 {d : Nat} {Q : Option AV → St → Prop} {st : List AV} {σ : St} {l0 l1 l2 l3 l4 l5 : Option AV} : Rn (d) Q (10, 118, [l0, l1, l2, l3, l4, l5], st, σ) = Rn (d) Q (10, 122, [l0, l1, l2, l3, l4, l5], st, σ) := E_goto 122 i10_118 (by decide)
theorem e10_121 {d : Nat} {Q : Option AV → St → Prop} {st : List AV} {σ : St} {l0 l1 l2 l3 l4 l5 : Option AV} : Rn (d) Q (10, 121, [l0, l1, l2, l3, l4, l5], st, σ) = Rn (d) Q (10, 122, [l0, l1, l2, l3, l4, l5], vI 0 :: st, σ) := by rw [E_iconst i10_121, ci_0]
theorem e10_122 {d : Nat} {Q : Option AV → St → Prop} {st : List AV} {σ : St} {l0 l1 l2 l3 l4 l5 : Option AV} {x y : Int32} : Rn (d) Q (10, 122, [l0, l1, l2, l3, l4, l5], vI y :: vI x :: st, σ) = Rn (d) Q (10, 123, [l0, l1, l2, l3, l4, l5], vI (x ||| y) :: st, σ) := E_ior i10_122
theorem e10_123 {d : Nat} {Q : Option AV → St → Prop} {st : List AV} {σ : St} {l0 l1 l2 l3 l4 l5 : Option AV} {x : Int32} : Rn (d) Q (10, 123, [l0, l1, l2, l3, l4, l5], vI x :: st, σ) = Rn (d) Q (10, 124, [l0, l1, l2, some (vI x), l4, l5], st, σ) := E_istore_n i10_123 s10_3
theorem e10_124 {d : Nat} {Q : Option AV → St → Prop} {st : List AV} {σ : St} {l0 l1 l2 l3 l5 : Option AV} {x : Int32} : Rn (d) Q (10, 124, [l0, l1, l2, l3, some (vI x), l5], st, σ) = Rn (d) Q (10, 127, [l0, l1, l2, l3, some (vI (x + 1)), l5], st, σ) := by rw [E_iinc i10_124 rfl (by rw [x10]; decide), show Int32.ofInt 1 = (1 : Int32) by decide +kernel]; rfl
theorem e10_127 {d : Nat} {Q : Option AV → St → Prop} {st : List AV} {σ : St} {l0 l1 l2 l3 l4 l5 : Option AV} : Rn (d) Q (10, 127, [l0, l1, l2, l3, l4, l5], st, σ) = Rn (d) Q (10, 10, [l0, l1, l2, l3, l4, l5], st, σ) := E_goto 10 i10_127 (by decide)
theorem e10_130 {d : Nat} {Q : Option AV → St → Prop} {st : List AV} {σ : St} {l0 l1 l2 l4 l5 : Option AV} {x : Int32} : Rn (d) Q (10, 130, [l0, l1, l2, some (vI x), l4, l5], st, σ) = Rn (d) Q (10, 131, [l0, l1, l2, some (vI x), l4, l5], vI x :: st, σ) := E_iload_n i10_130 rfl
theorem e10_131 {d : Nat} {Q : Option AV → St → Prop} {st : List AV} {σ : St} {l0 l1 l2 l3 l4 l5 : Option AV} : Rn (d) Q (10, 131, [l0, l1, l2, l3, l4, l5], st, σ) = Rn (d) Q (10, 132, [l0, l1, l2, l3, l4, l5], vI 1 :: st, σ) := by rw [E_iconst i10_131, ci_1]
theorem e10_132 {d : Nat} {Q : Option AV → St → Prop} {st : List AV} {σ : St} {l0 l1 l2 l3 l4 l5 : Option AV} {x y : Int32} : Rn (d) Q (10, 132, [l0, l1, l2, l3, l4, l5], vI y :: vI x :: st, σ) = Rn (d) Q (10, 133, [l0, l1, l2, l3, l4, l5], vI (x &&& y) :: st, σ) := E_iand i10_132
theorem e10_133 {d : Nat} {Q : Option AV → St → Prop} {st : List AV} {σ : St} {l0 l1 l2 l3 l4 l5 : Option AV} : Rn (d) Q (10, 133, [l0, l1, l2, l3, l4, l5], st, σ) = Rn (d) Q (10, 134, [l0, l1, l2, l3, l4, l5], vI 1 :: st, σ) := by rw [E_iconst i10_133, ci_1]
theorem e10_134 {d : Nat} {Q : Option AV → St → Prop} {st : List AV} {σ : St} {l0 l1 l2 l3 l4 l5 : Option AV} {x y : Int32} : Rn (d) Q (10, 134, [l0, l1, l2, l3, l4, l5], vI y :: vI x :: st, σ) = (if x = y then Rn (d) Q (10, 137, [l0, l1, l2, l3, l4, l5], st, σ) else Rn (d) Q (10, 141, [l0, l1, l2, l3, l4, l5], st, σ)) := E_icmp_ne 141 i10_134 (by decide)
theorem e10_137 {d : Nat} {Q : Option AV → St → Prop} {st : List AV} {σ : St} {l0 l1 l2 l3 l4 l5 : Option AV} : Rn (d) Q (10, 137, [l0, l1, l2, l3, l4, l5], st, σ) = Rn (d) Q (10, 138, [l0, l1, l2, l3, l4, l5], vI 1 :: st, σ) := by rw [E_iconst i10_137, ci_1]
theorem e10_138 {d : Nat} {Q : Option AV → St → Prop} {st : List AV} {σ : St} {l0 l1 l2 l3 l4 l5 : Option AV} : Rn (d) Q (10, 138, [l0, l1, l2, l3, l4, l5], st, σ) = Rn (d) Q (10, 142, [l0, l1, l2, l3, l4, l5], st, σ) := E_goto 142 i10_138 (by decide)
theorem e10_141 {d : Nat} {Q : Option AV → St → Prop} {st : List AV} {σ : St} {l0 l1 l2 l3 l4 l5 : Option AV} : Rn (d) Q (10, 141, [l0, l1, l2, l3, l4, l5], st, σ) = Rn (d) Q (10, 142, [l0, l1, l2, l3, l4, l5], vI 0 :: st, σ) := by rw [E_iconst i10_141, ci_0]
theorem e10_142 {d : Nat} {Q : Option AV → St → Prop} {σ : St} {l0 l1 l2 l3 l4 l5 : Option AV} {x : Int32} : Rn (d) Q (10, 142, [l0, l1, l2, l3, l4, l5], [vI x], σ) = ((x = 0 ∨ x = 1) ∧ Q (some (vI x)) σ) := E_iretZ (st := []) i10_142 r10
theorem i11_0 : ins 11 0 = some (.iconst 0, 1) := (congrArg (fun x : PTy => x.1.lookup 0) q11).trans rfl
theorem i11_1 : ins 11 1 = some (.istore_n 2, 1) := (congrArg (fun x : PTy => x.1.lookup 1) q11).trans rfl
theorem i11_2 : ins 11 2 = some (.iconst 0, 1) := (congrArg (fun x : PTy => x.1.lookup 2) q11).trans rfl
theorem i11_3 : ins 11 3 = some (.istore_n 3, 1) := (congrArg (fun x : PTy => x.1.lookup 3) q11).trans rfl
theorem i11_4 : ins 11 4 = some (.iload_n 3, 1) := (congrArg (fun x : PTy => x.1.lookup 4) q11).trans rfl
theorem i11_5 : ins 11 5 = some (.bipush 8, 2) := (congrArg (fun x : PTy => x.1.lookup 5) q11).trans rfl
theorem i11_7 : ins 11 7 = some (.if_icmp .ge 32, 3) := (congrArg (fun x : PTy => x.1.lookup 7) q11).trans rfl
theorem i11_10 : ins 11 10 = some (.aload_n 0, 1) := (congrArg (fun x : PTy => x.1.lookup 10) q11).trans rfl
theorem i11_11 : ins 11 11 = some (.iload_n 3, 1) := (congrArg (fun x : PTy => x.1.lookup 11) q11).trans rfl
theorem i11_12 : ins 11 12 = some (.invokevirtual 51, 3) := (congrArg (fun x : PTy => x.1.lookup 12) q11).trans rfl
theorem i11_15 : ins 11 15 = some (.ifCond .eq 18, 3) := (congrArg (fun x : PTy => x.1.lookup 15) q11).trans rfl
theorem i11_18 : ins 11 18 = some (.aload_n 0, 1) := (congrArg (fun x : PTy => x.1.lookup 18) q11).trans rfl
theorem i11_19 : ins 11 19 = some (.iload_n 3, 1) := (congrArg (fun x : PTy => x.1.lookup 19) q11).trans rfl
theorem i11_20 : ins 11 20 = some (.aload_n 1, 1) := (congrArg (fun x : PTy => x.1.lookup 20) q11).trans rfl
theorem i11_21 : ins 11 21 = some (.invokevirtual 55, 3) := (congrArg (fun x : PTy => x.1.lookup 21) q11).trans rfl
theorem i11_24 : ins 11 24 = some (.ifCond .eq 9, 3) := (congrArg (fun x : PTy => x.1.lookup 24) q11).trans rfl
theorem i11_27 : ins 11 27 = some (.iload_n 2, 1) := (congrArg (fun x : PTy => x.1.lookup 27) q11).trans rfl
theorem i11_28 : ins 11 28 = some (.iconst 1, 1) := (congrArg (fun x : PTy => x.1.lookup 28) q11).trans rfl
theorem i11_29 : ins 11 29 = some (.iload_n 3, 1) := (congrArg (fun x : PTy => x.1.lookup 29) q11).trans rfl
theorem i11_30 : ins 11 30 = some (.ishl, 1) := (congrArg (fun x : PTy => x.1.lookup 30) q11).trans rfl
theorem i11_31 : ins 11 31 = some (.ior, 1) := (congrArg (fun x : PTy => x.1.lookup 31) q11).trans rfl
theorem i11_32 : ins 11 32 = some (.istore_n 2, 1) := (congrArg (fun x : PTy => x.1.lookup 32) q11).trans rfl
theorem i11_33 : ins 11 33 = some (.iinc 3 1, 3) := (congrArg (fun x : PTy => x.1.lookup 33) q11).trans rfl
theorem i11_36 : ins 11 36 = some (.goto (-32), 3) := (congrArg (fun x : PTy => x.1.lookup 36) q11).trans rfl
theorem i11_39 : ins 11 39 = some (.iload_n 2, 1) := (congrArg (fun x : PTy => x.1.lookup 39) q11).trans rfl
theorem i11_40 : ins 11 40 = some (.ireturn, 1) := (congrArg (fun x : PTy => x.1.lookup 40) q11).trans rfl
theorem e11_0 {d : Nat} {Q : Option AV → St → Prop} {st : List AV} {σ : St} {l0 l1 l2 l3 : Option AV} : Rn (d) Q (11, 0, [l0, l1, l2, l3], st, σ) = Rn (d) Q (11, 1, [l0, l1, l2, l3], vI 0 :: st, σ) := by rw [E_iconst i11_0, ci_0]
theorem s11_2 : okst 11 2 = true := by unfold okst; rw [x11]; rfl
theorem e11_1 {d : Nat} {Q : Option AV → St → Prop} {st : List AV} {σ : St} {l0 l1 l2 l3 : Option AV} {x : Int32} : Rn (d) Q (11, 1, [l0, l1, l2, l3], vI x :: st, σ) = Rn (d) Q (11, 2, [l0, l1, some (vI x), l3], st, σ) := E_istore_n i11_1 s11_2
theorem e11_2 {d : Nat} {Q : Option AV → St → Prop} {st : List AV} {σ : St} {l0 l1 l2 l3 : Option AV} : Rn (d) Q (11, 2, [l0, l1, l2, l3], st, σ) = Rn (d) Q (11, 3, [l0, l1, l2, l3], vI 0 :: st, σ) := by rw [E_iconst i11_2, ci_0]
theorem s11_3 : okst 11 3 = true := by unfold okst; rw [x11]; rfl
theorem e11_3 {d : Nat} {Q : Option AV → St → Prop} {st : List AV} {σ : St} {l0 l1 l2 l3 : Option AV} {x : Int32} : Rn (d) Q (11, 3, [l0, l1, l2, l3], vI x :: st, σ) = Rn (d) Q (11, 4, [l0, l1, l2, some (vI x)], st, σ) := E_istore_n i11_3 s11_3
theorem e11_4 {d : Nat} {Q : Option AV → St → Prop} {st : List AV} {σ : St} {l0 l1 l2 : Option AV} {x : Int32} : Rn (d) Q (11, 4, [l0, l1, l2, some (vI x)], st, σ) = Rn (d) Q (11, 5, [l0, l1, l2, some (vI x)], vI x :: st, σ) := E_iload_n i11_4 rfl
theorem e11_5 {d : Nat} {Q : Option AV → St → Prop} {st : List AV} {σ : St} {l0 l1 l2 l3 : Option AV} : Rn (d) Q (11, 5, [l0, l1, l2, l3], st, σ) = Rn (d) Q (11, 7, [l0, l1, l2, l3], vI 8 :: st, σ) := by rw [E_bipush i11_5, cb_8]
theorem e11_7 {d : Nat} {Q : Option AV → St → Prop} {st : List AV} {σ : St} {l0 l1 l2 l3 : Option AV} {x y : Int32} : Rn (d) Q (11, 7, [l0, l1, l2, l3], vI y :: vI x :: st, σ) = (if y ≤ x then Rn (d) Q (11, 39, [l0, l1, l2, l3], st, σ) else Rn (d) Q (11, 10, [l0, l1, l2, l3], st, σ)) := E_icmp_ge 39 i11_7 (by decide)
theorem e11_10 {d : Nat} {Q : Option AV → St → Prop} {st : List AV} {σ : St} {l1 l2 l3 : Option AV} {x : Option (Nat × Nat × Nat)} : Rn (d) Q (11, 10, [some (vR x), l1, l2, l3], st, σ) = Rn (d) Q (11, 11, [some (vR x), l1, l2, l3], vR x :: st, σ) := E_aload_n i11_10 rfl
theorem e11_11 {d : Nat} {Q : Option AV → St → Prop} {st : List AV} {σ : St} {l0 l1 l2 : Option AV} {x : Int32} : Rn (d) Q (11, 11, [l0, l1, l2, some (vI x)], st, σ) = Rn (d) Q (11, 12, [l0, l1, l2, some (vI x)], vI x :: st, σ) := E_iload_n i11_11 rfl
theorem e11_12 {d : Nat} {Q : Option AV → St → Prop} {st : List AV} {σ : St} {l0 l1 l2 l3 : Option AV} {i : Nat} {a1 : Int32} : Rn (d + 1) Q (11, 12, [l0, l1, l2, l3], vI a1 :: vR (some (0, 0, i)) :: st, σ) = (i < gN σ 0 ∧ catS st ≤ 8 ∧ Rn d (fun r σ' => Rn (d + 1) Q (11, 15, [l0, l1, l2, l3], r.toList ++ st, σ')) (2, 0, [some (vR (some (0, 0, i))), some (vI a1)], [], σ)) := E_invV (a := [vI a1]) i11_12 ((congrArg (fun z => mthQ z 51) o11).trans m0_51) o2 rfl (ek2 i a1) (en2 i a1)
theorem e11_15 {d : Nat} {Q : Option AV → St → Prop} {st : List AV} {σ : St} {l0 l1 l2 l3 : Option AV} {x : Int32} : Rn (d) Q (11, 15, [l0, l1, l2, l3], vI x :: st, σ) = (if x = 0 then Rn (d) Q (11, 33, [l0, l1, l2, l3], st, σ) else Rn (d) Q (11, 18, [l0, l1, l2, l3], st, σ)) := E_if_eq 33 i11_15 (by decide)
theorem e11_18 {d : Nat} {Q : Option AV → St → Prop} {st : List AV} {σ : St} {l1 l2 l3 : Option AV} {x : Option (Nat × Nat × Nat)} : Rn (d) Q (11, 18, [some (vR x), l1, l2, l3], st, σ) = Rn (d) Q (11, 19, [some (vR x), l1, l2, l3], vR x :: st, σ) := E_aload_n i11_18 rfl
theorem e11_19 {d : Nat} {Q : Option AV → St → Prop} {st : List AV} {σ : St} {l0 l1 l2 : Option AV} {x : Int32} : Rn (d) Q (11, 19, [l0, l1, l2, some (vI x)], st, σ) = Rn (d) Q (11, 20, [l0, l1, l2, some (vI x)], vI x :: st, σ) := E_iload_n i11_19 rfl
theorem e11_20 {d : Nat} {Q : Option AV → St → Prop} {st : List AV} {σ : St} {l0 l2 l3 : Option AV} {x : Option (Nat × Nat × Nat)} : Rn (d) Q (11, 20, [l0, some (vR x), l2, l3], st, σ) = Rn (d) Q (11, 21, [l0, some (vR x), l2, l3], vR x :: st, σ) := E_aload_n i11_20 rfl
theorem e11_21 {d : Nat} {Q : Option AV → St → Prop} {st : List AV} {σ : St} {l0 l1 l2 l3 : Option AV} {i : Nat} {a1 : Int32} {a2 : Option (Nat × Nat × Nat)} : Rn (d + 1) Q (11, 21, [l0, l1, l2, l3], vR a2 :: vI a1 :: vR (some (0, 0, i)) :: st, σ) = (i < gN σ 0 ∧ catS st ≤ 8 ∧ Rn d (fun r σ' => Rn (d + 1) Q (11, 24, [l0, l1, l2, l3], r.toList ++ st, σ')) (8, 0, [some (vR (some (0, 0, i))), some (vI a1), some (vR a2)], [], σ)) := E_invV (a := [vR a2, vI a1]) i11_21 ((congrArg (fun z => mthQ z 55) o11).trans m0_55) o8 rfl (ek8 i a1 a2) (en8 i a1 a2)
theorem e11_24 {d : Nat} {Q : Option AV → St → Prop} {st : List AV} {σ : St} {l0 l1 l2 l3 : Option AV} {x : Int32} : Rn (d) Q (11, 24, [l0, l1, l2, l3], vI x :: st, σ) = (if x = 0 then Rn (d) Q (11, 33, [l0, l1, l2, l3], st, σ) else Rn (d) Q (11, 27, [l0, l1, l2, l3], st, σ)) := E_if_eq 33 i11_24 (by decide)
theorem e11_27 {d : Nat} {Q : Option AV → St → Prop} {st : List AV} {σ : St} {l0 l1 l3 : Option AV} {x : Int32} : Rn (d) Q (11, 27, [l0, l1, some (vI x), l3], st, σ) = Rn (d) Q (11, 28, [l0, l1, some (vI x), l3], vI x :: st, σ) := E_iload_n i11_27 rfl
theorem e11_28 {d : Nat} {Q : Option AV → St → Prop} {st : List AV} {σ : St} {l0 l1 l2 l3 : Option AV} : Rn (d) Q (11, 28, [l0, l1, l2, l3], st, σ) = Rn (d) Q (11, 29, [l0, l1, l2, l3], vI 1 :: st, σ) := by rw [E_iconst i11_28, ci_1]
theorem e11_29 {d : Nat} {Q : Option AV → St → Prop} {st : List AV} {σ : St} {l0 l1 l2 : Option AV} {x : Int32} : Rn (d) Q (11, 29, [l0, l1, l2, some (vI x)], st, σ) = Rn (d) Q (11, 30, [l0, l1, l2, some (vI x)], vI x :: st, σ) := E_iload_n i11_29 rfl
theorem e11_30 {d : Nat} {Q : Option AV → St → Prop} {st : List AV} {σ : St} {l0 l1 l2 l3 : Option AV} {x y : Int32} : Rn (d) Q (11, 30, [l0, l1, l2, l3], vI y :: vI x :: st, σ) = Rn (d) Q (11, 31, [l0, l1, l2, l3], vI (x <<< (y &&& 31)) :: st, σ) := E_ishl i11_30
theorem e11_31 {d : Nat} {Q : Option AV → St → Prop} {st : List AV} {σ : St} {l0 l1 l2 l3 : Option AV} {x y : Int32} : Rn (d) Q (11, 31, [l0, l1, l2, l3], vI y :: vI x :: st, σ) = Rn (d) Q (11, 32, [l0, l1, l2, l3], vI (x ||| y) :: st, σ) := E_ior i11_31
theorem e11_32 {d : Nat} {Q : Option AV → St → Prop} {st : List AV} {σ : St} {l0 l1 l2 l3 : Option AV} {x : Int32} : Rn (d) Q (11, 32, [l0, l1, l2, l3], vI x :: st, σ) = Rn (d) Q (11, 33, [l0, l1, some (vI x), l3], st, σ) := E_istore_n i11_32 s11_2
theorem e11_33 {d : Nat} {Q : Option AV → St → Prop} {st : List AV} {σ : St} {l0 l1 l2 : Option AV} {x : Int32} : Rn (d) Q (11, 33, [l0, l1, l2, some (vI x)], st, σ) = Rn (d) Q (11, 36, [l0, l1, l2, some (vI (x + 1))], st, σ) := by rw [E_iinc i11_33 rfl (by rw [x11]; decide), show Int32.ofInt 1 = (1 : Int32) by decide +kernel]; rfl
theorem e11_36 {d : Nat} {Q : Option AV → St → Prop} {st : List AV} {σ : St} {l0 l1 l2 l3 : Option AV} : Rn (d) Q (11, 36, [l0, l1, l2, l3], st, σ) = Rn (d) Q (11, 4, [l0, l1, l2, l3], st, σ) := E_goto 4 i11_36 (by decide)
theorem e11_39 {d : Nat} {Q : Option AV → St → Prop} {st : List AV} {σ : St} {l0 l1 l3 : Option AV} {x : Int32} : Rn (d) Q (11, 39, [l0, l1, some (vI x), l3], st, σ) = Rn (d) Q (11, 40, [l0, l1, some (vI x), l3], vI x :: st, σ) := E_iload_n i11_39 rfl
theorem e11_40 {d : Nat} {Q : Option AV → St → Prop} {σ : St} {l0 l1 l2 l3 : Option AV} {x : Int32} : Rn (d) Q (11, 40, [l0, l1, l2, l3], [vI x], σ) = Q (some (vI x)) σ := E_iretI (st := []) i11_40 r11
theorem i12_0 : ins 12 0 = some (.iconst 0, 1) := (congrArg (fun x : PTy => x.1.lookup 0) q12).trans rfl
theorem i12_1 : ins 12 1 = some (.istore_n 2, 1) := (congrArg (fun x : PTy => x.1.lookup 1) q12).trans rfl
theorem i12_2 : ins 12 2 = some (.iconst 0, 1) := (congrArg (fun x : PTy => x.1.lookup 2) q12).trans rfl
theorem i12_3 : ins 12 3 = some (.istore_n 3, 1) := (congrArg (fun x : PTy => x.1.lookup 3) q12).trans rfl
theorem i12_4 : ins 12 4 = some (.iload_n 3, 1) := (congrArg (fun x : PTy => x.1.lookup 4) q12).trans rfl
theorem i12_5 : ins 12 5 = some (.bipush 8, 2) := (congrArg (fun x : PTy => x.1.lookup 5) q12).trans rfl
theorem i12_7 : ins 12 7 = some (.if_icmp .ge 41, 3) := (congrArg (fun x : PTy => x.1.lookup 7) q12).trans rfl
theorem i12_10 : ins 12 10 = some (.aload_n 0, 1) := (congrArg (fun x : PTy => x.1.lookup 10) q12).trans rfl
theorem i12_11 : ins 12 11 = some (.iload_n 3, 1) := (congrArg (fun x : PTy => x.1.lookup 11) q12).trans rfl
theorem i12_12 : ins 12 12 = some (.invokevirtual 51, 3) := (congrArg (fun x : PTy => x.1.lookup 12) q12).trans rfl
theorem i12_15 : ins 12 15 = some (.ifCond .eq 27, 3) := (congrArg (fun x : PTy => x.1.lookup 15) q12).trans rfl
theorem i12_18 : ins 12 18 = some (.aload_n 0, 1) := (congrArg (fun x : PTy => x.1.lookup 18) q12).trans rfl
theorem i12_19 : ins 12 19 = some (.iload_n 3, 1) := (congrArg (fun x : PTy => x.1.lookup 19) q12).trans rfl
theorem i12_20 : ins 12 20 = some (.aload_n 1, 1) := (congrArg (fun x : PTy => x.1.lookup 20) q12).trans rfl
theorem i12_21 : ins 12 21 = some (.invokevirtual 55, 3) := (congrArg (fun x : PTy => x.1.lookup 21) q12).trans rfl
theorem i12_24 : ins 12 24 = some (.ifCond .ne 18, 3) := (congrArg (fun x : PTy => x.1.lookup 24) q12).trans rfl
theorem i12_27 : ins 12 27 = some (.aload_n 0, 1) := (congrArg (fun x : PTy => x.1.lookup 27) q12).trans rfl
theorem i12_28 : ins 12 28 = some (.iload_n 3, 1) := (congrArg (fun x : PTy => x.1.lookup 28) q12).trans rfl
theorem i12_29 : ins 12 29 = some (.aload_n 1, 1) := (congrArg (fun x : PTy => x.1.lookup 29) q12).trans rfl
theorem i12_30 : ins 12 30 = some (.invokevirtual 62, 3) := (congrArg (fun x : PTy => x.1.lookup 30) q12).trans rfl
theorem i12_33 : ins 12 33 = some (.ifCond .eq 9, 3) := (congrArg (fun x : PTy => x.1.lookup 33) q12).trans rfl
theorem i12_36 : ins 12 36 = some (.iload_n 2, 1) := (congrArg (fun x : PTy => x.1.lookup 36) q12).trans rfl
theorem i12_37 : ins 12 37 = some (.iconst 1, 1) := (congrArg (fun x : PTy => x.1.lookup 37) q12).trans rfl
theorem i12_38 : ins 12 38 = some (.iload_n 3, 1) := (congrArg (fun x : PTy => x.1.lookup 38) q12).trans rfl
theorem i12_39 : ins 12 39 = some (.ishl, 1) := (congrArg (fun x : PTy => x.1.lookup 39) q12).trans rfl
theorem i12_40 : ins 12 40 = some (.ior, 1) := (congrArg (fun x : PTy => x.1.lookup 40) q12).trans rfl
theorem i12_41 : ins 12 41 = some (.istore_n 2, 1) := (congrArg (fun x : PTy => x.1.lookup 41) q12).trans rfl
theorem i12_42 : ins 12 42 = some (.iinc 3 1, 3) := (congrArg (fun x : PTy => x.1.lookup 42) q12).trans rfl
theorem i12_45 : ins 12 45 = some (.goto (-41), 3) := (congrArg (fun x : PTy => x.1.lookup 45) q12).trans rfl
theorem i12_48 : ins 12 48 = some (.iload_n 2, 1) := (congrArg (fun x : PTy => x.1.lookup 48) q12).trans rfl
theorem i12_49 : ins 12 49 = some (.ireturn, 1) := (congrArg (fun x : PTy => x.1.lookup 49) q12).trans rfl
theorem e12_0 {d : Nat} {Q : Option AV → St → Prop} {st : List AV} {σ : St} {l0 l1 l2 l3 : Option AV} : Rn (d) Q (12, 0, [l0, l1, l2, l3], st, σ) = Rn (d) Q (12, 1, [l0, l1, l2, l3], vI 0 :: st, σ) := by rw [E_iconst i12_0, ci_0]
theorem s12_2 : okst 12 2 = true := by unfold okst; rw [x12]; rfl
theorem e12_1 {d : Nat} {Q : Option AV → St → Prop} {st : List AV} {σ : St} {l0 l1 l2 l3 : Option AV} {x : Int32} : Rn (d) Q (12, 1, [l0, l1, l2, l3], vI x :: st, σ) = Rn (d) Q (12, 2, [l0, l1, some (vI x), l3], st, σ) := E_istore_n i12_1 s12_2
theorem e12_2 {d : Nat} {Q : Option AV → St → Prop} {st : List AV} {σ : St} {l0 l1 l2 l3 : Option AV} : Rn (d) Q (12, 2, [l0, l1, l2, l3], st, σ) = Rn (d) Q (12, 3, [l0, l1, l2, l3], vI 0 :: st, σ) := by rw [E_iconst i12_2, ci_0]
theorem s12_3 : okst 12 3 = true := by unfold okst; rw [x12]; rfl
theorem e12_3 {d : Nat} {Q : Option AV → St → Prop} {st : List AV} {σ : St} {l0 l1 l2 l3 : Option AV} {x : Int32} : Rn (d) Q (12, 3, [l0, l1, l2, l3], vI x :: st, σ) = Rn (d) Q (12, 4, [l0, l1, l2, some (vI x)], st, σ) := E_istore_n i12_3 s12_3
theorem e12_4 {d : Nat} {Q : Option AV → St → Prop} {st : List AV} {σ : St} {l0 l1 l2 : Option AV} {x : Int32} : Rn (d) Q (12, 4, [l0, l1, l2, some (vI x)], st, σ) = Rn (d) Q (12, 5, [l0, l1, l2, some (vI x)], vI x :: st, σ) := E_iload_n i12_4 rfl
theorem e12_5 {d : Nat} {Q : Option AV → St → Prop} {st : List AV} {σ : St} {l0 l1 l2 l3 : Option AV} : Rn (d) Q (12, 5, [l0, l1, l2, l3], st, σ) = Rn (d) Q (12, 7, [l0, l1, l2, l3], vI 8 :: st, σ) := by rw [E_bipush i12_5, cb_8]
theorem e12_7 {d : Nat} {Q : Option AV → St → Prop} {st : List AV} {σ : St} {l0 l1 l2 l3 : Option AV} {x y : Int32} : Rn (d) Q (12, 7, [l0, l1, l2, l3], vI y :: vI x :: st, σ) = (if y ≤ x then Rn (d) Q (12, 48, [l0, l1, l2, l3], st, σ) else Rn (d) Q (12, 10, [l0, l1, l2, l3], st, σ)) := E_icmp_ge 48 i12_7 (by decide)
theorem e12_10 {d : Nat} {Q : Option AV → St → Prop} {st : List AV} {σ : St} {l1 l2 l3 : Option AV} {x : Option (Nat × Nat × Nat)} : Rn (d) Q (12, 10, [some (vR x), l1, l2, l3], st, σ) = Rn (d) Q (12, 11, [some (vR x), l1, l2, l3], vR x :: st, σ) := E_aload_n i12_10 rfl
theorem e12_11 {d : Nat} {Q : Option AV → St → Prop} {st : List AV} {σ : St} {l0 l1 l2 : Option AV} {x : Int32} : Rn (d) Q (12, 11, [l0, l1, l2, some (vI x)], st, σ) = Rn (d) Q (12, 12, [l0, l1, l2, some (vI x)], vI x :: st, σ) := E_iload_n i12_11 rfl
theorem e12_12 {d : Nat} {Q : Option AV → St → Prop} {st : List AV} {σ : St} {l0 l1 l2 l3 : Option AV} {i : Nat} {a1 : Int32} : Rn (d + 1) Q (12, 12, [l0, l1, l2, l3], vI a1 :: vR (some (0, 0, i)) :: st, σ) = (i < gN σ 0 ∧ catS st ≤ 8 ∧ Rn d (fun r σ' => Rn (d + 1) Q (12, 15, [l0, l1, l2, l3], r.toList ++ st, σ')) (2, 0, [some (vR (some (0, 0, i))), some (vI a1)], [], σ)) := E_invV (a := [vI a1]) i12_12 ((congrArg (fun z => mthQ z 51) o12).trans m0_51) o2 rfl (ek2 i a1) (en2 i a1)
theorem e12_15 {d : Nat} {Q : Option AV → St → Prop} {st : List AV} {σ : St} {l0 l1 l2 l3 : Option AV} {x : Int32} : Rn (d) Q (12, 15, [l0, l1, l2, l3], vI x :: st, σ) = (if x = 0 then Rn (d) Q (12, 42, [l0, l1, l2, l3], st, σ) else Rn (d) Q (12, 18, [l0, l1, l2, l3], st, σ)) := E_if_eq 42 i12_15 (by decide)
theorem e12_18 {d : Nat} {Q : Option AV → St → Prop} {st : List AV} {σ : St} {l1 l2 l3 : Option AV} {x : Option (Nat × Nat × Nat)} : Rn (d) Q (12, 18, [some (vR x), l1, l2, l3], st, σ) = Rn (d) Q (12, 19, [some (vR x), l1, l2, l3], vR x :: st, σ) := E_aload_n i12_18 rfl
theorem e12_19 {d : Nat} {Q : Option AV → St → Prop} {st : List AV} {σ : St} {l0 l1 l2 : Option AV} {x : Int32} : Rn (d) Q (12, 19, [l0, l1, l2, some (vI x)], st, σ) = Rn (d) Q (12, 20, [l0, l1, l2, some (vI x)], vI x :: st, σ) := E_iload_n i12_19 rfl
theorem e12_20 {d : Nat} {Q : Option AV → St → Prop} {st : List AV} {σ : St} {l0 l2 l3 : Option AV} {x : Option (Nat × Nat × Nat)} : Rn (d) Q (12, 20, [l0, some (vR x), l2, l3], st, σ) = Rn (d) Q (12, 21, [l0, some (vR x), l2, l3], vR x :: st, σ) := E_aload_n i12_20 rfl
theorem e12_21 {d : Nat} {Q : Option AV → St → Prop} {st : List AV} {σ : St} {l0 l1 l2 l3 : Option AV} {i : Nat} {a1 : Int32} {a2 : Option (Nat × Nat × Nat)} : Rn (d + 1) Q (12, 21, [l0, l1, l2, l3], vR a2 :: vI a1 :: vR (some (0, 0, i)) :: st, σ) = (i < gN σ 0 ∧ catS st ≤ 8 ∧ Rn d (fun r σ' => Rn (d + 1) Q (12, 24, [l0, l1, l2, l3], r.toList ++ st, σ')) (8, 0, [some (vR (some (0, 0, i))), some (vI a1), some (vR a2)], [], σ)) := E_invV (a := [vR a2, vI a1]) i12_21 ((congrArg (fun z => mthQ z 55) o12).trans m0_55) o8 rfl (ek8 i a1 a2) (en8 i a1 a2)
theorem e12_24 {d : Nat} {Q : Option AV → St → Prop} {st : List AV} {σ : St} {l0 l1 l2 l3 : Option AV} {x : Int32} : Rn (d) Q (12, 24, [l0, l1, l2, l3], vI x :: st, σ) = (if x = 0 then Rn (d) Q (12, 27, [l0, l1, l2, l3], st, σ) else Rn (d) Q (12, 42, [l0, l1, l2, l3], st, σ)) := E_if_ne 42 i12_24 (by decide)
theorem e12_27 {d : Nat} {Q : Option AV → St → Prop} {st : List AV} {σ : St} {l1 l2 l3 : Option AV} {x : Option (Nat × Nat × Nat)} : Rn (d) Q (12, 27, [some (vR x), l1, l2, l3], st, σ) = Rn (d) Q (12, 28, [some (vR x), l1, l2, l3], vR x :: st, σ) := E_aload_n i12_27 rfl
theorem e12_28 {d : Nat} {Q : Option AV → St → Prop} {st : List AV} {σ : St} {l0 l1 l2 : Option AV} {x : Int32} : Rn (d) Q (12, 28, [l0, l1, l2, some (vI x)], st, σ) = Rn (d) Q (12, 29, [l0, l1, l2, some (vI x)], vI x :: st, σ) := E_iload_n i12_28 rfl
theorem e12_29 {d : Nat} {Q : Option AV → St → Prop} {st : List AV} {σ : St} {l0 l2 l3 : Option AV} {x : Option (Nat × Nat × Nat)} : Rn (d) Q (12, 29, [l0, some (vR x), l2, l3], st, σ) = Rn (d) Q (12, 30, [l0, some (vR x), l2, l3], vR x :: st, σ) := E_aload_n i12_29 rfl
theorem e12_30 {d : Nat} {Q : Option AV → St → Prop} {st : List AV} {σ : St} {l0 l1 l2 l3 : Option AV} {i : Nat} {a1 : Int32} {a2 : Option (Nat × Nat × Nat)} : Rn (d + 1) Q (12, 30, [l0, l1, l2, l3], vR a2 :: vI a1 :: vR (some (0, 0, i)) :: st, σ) = (i < gN σ 0 ∧ catS st ≤ 8 ∧ Rn d (fun r σ' => Rn (d + 1) Q (12, 33, [l0, l1, l2, l3], r.toList ++ st, σ')) (10, 0, [some (vR (some (0, 0, i))), some (vI a1), some (vR a2), none, none, none], [], σ)) := E_invV (a := [vR a2, vI a1]) i12_30 ((congrArg (fun z => mthQ z 62) o12).trans m0_62) o10 rfl (ek10 i a1 a2) (en10 i a1 a2)
theorem e12_33 {d : Nat} {Q : Option AV → St → Prop} {st : List AV} {σ : St} {l0 l1 l2 l3 : Option AV} {x : Int32} : Rn (d) Q (12, 33, [l0, l1, l2, l3], vI x :: st, σ) = (if x = 0 then Rn (d) Q (12, 42, [l0, l1, l2, l3], st, σ) else Rn (d) Q (12, 36, [l0, l1, l2, l3], st, σ)) := E_if_eq 42 i12_33 (by decide)
theorem e12_36 {d : Nat} {Q : Option AV → St → Prop} {st : List AV} {σ : St} {l0 l1 l3 : Option AV} {x : Int32} : Rn (d) Q (12, 36, [l0, l1, some (vI x), l3], st, σ) = Rn (d) Q (12, 37, [l0, l1, some (vI x), l3], vI x :: st, σ) := E_iload_n i12_36 rfl
theorem e12_37 {d : Nat} {Q : Option AV → St → Prop} {st : List AV} {σ : St} {l0 l1 l2 l3 : Option AV} : Rn (d) Q (12, 37, [l0, l1, l2, l3], st, σ) = Rn (d) Q (12, 38, [l0, l1, l2, l3], vI 1 :: st, σ) := by rw [E_iconst i12_37, ci_1]
theorem e12_38 {d : Nat} {Q : Option AV → St → Prop} {st : List AV} {σ : St} {l0 l1 l2 : Option AV} {x : Int32} : Rn (d) Q (12, 38, [l0, l1, l2, some (vI x)], st, σ) = Rn (d) Q (12, 39, [l0, l1, l2, some (vI x)], vI x :: st, σ) := E_iload_n i12_38 rfl
theorem e12_39 {d : Nat} {Q : Option AV → St → Prop} {st : List AV} {σ : St} {l0 l1 l2 l3 : Option AV} {x y : Int32} : Rn (d) Q (12, 39, [l0, l1, l2, l3], vI y :: vI x :: st, σ) = Rn (d) Q (12, 40, [l0, l1, l2, l3], vI (x <<< (y &&& 31)) :: st, σ) := E_ishl i12_39
theorem e12_40 {d : Nat} {Q : Option AV → St → Prop} {st : List AV} {σ : St} {l0 l1 l2 l3 : Option AV} {x y : Int32} : Rn (d) Q (12, 40, [l0, l1, l2, l3], vI y :: vI x :: st, σ) = Rn (d) Q (12, 41, [l0, l1, l2, l3], vI (x ||| y) :: st, σ) := E_ior i12_40
theorem e12_41 {d : Nat} {Q : Option AV → St → Prop} {st : List AV} {σ : St} {l0 l1 l2 l3 : Option AV} {x : Int32} : Rn (d) Q (12, 41, [l0, l1, l2, l3], vI x :: st, σ) = Rn (d) Q (12, 42, [l0, l1, some (vI x), l3], st, σ) := E_istore_n i12_41 s12_2
theorem e12_42 {d : Nat} {Q : Option AV → St → Prop} {st : List AV} {σ : St} {l0 l1 l2 : Option AV} {x : Int32} : Rn (d) Q (12, 42, [l0, l1, l2, some (vI x)], st, σ) = Rn (d) Q (12, 45, [l0, l1, l2, some (vI (x + 1))], st, σ) := by rw [E_iinc i12_42 rfl (by rw [x12]; decide), show Int32.ofInt 1 = (1 : Int32) by decide +kernel]; rfl
theorem e12_45 {d : Nat} {Q : Option AV → St → Prop} {st : List AV} {σ : St} {l0 l1 l2 l3 : Option AV} : Rn (d) Q (12, 45, [l0, l1, l2, l3], st, σ) = Rn (d) Q (12, 4, [l0, l1, l2, l3], st, σ) := E_goto 4 i12_45 (by decide)
theorem e12_48 {d : Nat} {Q : Option AV → St → Prop} {st : List AV} {σ : St} {l0 l1 l3 : Option AV} {x : Int32} : Rn (d) Q (12, 48, [l0, l1, some (vI x), l3], st, σ) = Rn (d) Q (12, 49, [l0, l1, some (vI x), l3], vI x :: st, σ) := E_iload_n i12_48 rfl
theorem e12_49 {d : Nat} {Q : Option AV → St → Prop} {σ : St} {l0 l1 l2 l3 : Option AV} {x : Int32} : Rn (d) Q (12, 49, [l0, l1, l2, l3], [vI x], σ) = Q (some (vI x)) σ := E_iretI (st := []) i12_49 r12
theorem i13_0 : ins 13 0 = some (.iconst 0, 1) := (congrArg (fun x : PTy => x.1.lookup 0) q13).trans rfl
theorem i13_1 : ins 13 1 = some (.istore_n 2, 1) := (congrArg (fun x : PTy => x.1.lookup 1) q13).trans rfl
theorem i13_2 : ins 13 2 = some (.iconst 0, 1) := (congrArg (fun x : PTy => x.1.lookup 2) q13).trans rfl
theorem i13_3 : ins 13 3 = some (.istore_n 3, 1) := (congrArg (fun x : PTy => x.1.lookup 3) q13).trans rfl
theorem i13_4 : ins 13 4 = some (.iload_n 3, 1) := (congrArg (fun x : PTy => x.1.lookup 4) q13).trans rfl
theorem i13_5 : ins 13 5 = some (.bipush 8, 2) := (congrArg (fun x : PTy => x.1.lookup 5) q13).trans rfl
theorem i13_7 : ins 13 7 = some (.if_icmp .ge 38, 3) := (congrArg (fun x : PTy => x.1.lookup 7) q13).trans rfl
theorem i13_10 : ins 13 10 = some (.aload_n 0, 1) := (congrArg (fun x : PTy => x.1.lookup 10) q13).trans rfl
theorem i13_11 : ins 13 11 = some (.iload_n 3, 1) := (congrArg (fun x : PTy => x.1.lookup 11) q13).trans rfl
theorem i13_12 : ins 13 12 = some (.invokevirtual 51, 3) := (congrArg (fun x : PTy => x.1.lookup 12) q13).trans rfl
theorem i13_15 : ins 13 15 = some (.ifCond .eq 24, 3) := (congrArg (fun x : PTy => x.1.lookup 15) q13).trans rfl
theorem i13_18 : ins 13 18 = some (.aload_n 0, 1) := (congrArg (fun x : PTy => x.1.lookup 18) q13).trans rfl
theorem i13_19 : ins 13 19 = some (.getfield 18, 3) := (congrArg (fun x : PTy => x.1.lookup 19) q13).trans rfl
theorem i13_22 : ins 13 22 = some (.iload_n 3, 1) := (congrArg (fun x : PTy => x.1.lookup 22) q13).trans rfl
theorem i13_23 : ins 13 23 = some (.iaload, 1) := (congrArg (fun x : PTy => x.1.lookup 23) q13).trans rfl
theorem i13_24 : ins 13 24 = some (.aload_n 0, 1) := (congrArg (fun x : PTy => x.1.lookup 24) q13).trans rfl
theorem i13_25 : ins 13 25 = some (.getfield 18, 3) := (congrArg (fun x : PTy => x.1.lookup 25) q13).trans rfl
theorem i13_28 : ins 13 28 = some (.iload_n 1, 1) := (congrArg (fun x : PTy => x.1.lookup 28) q13).trans rfl
theorem i13_29 : ins 13 29 = some (.iaload, 1) := (congrArg (fun x : PTy => x.1.lookup 29) q13).trans rfl
theorem i13_30 : ins 13 30 = some (.if_icmp .ne 9, 3) := (congrArg (fun x : PTy => x.1.lookup 30) q13).trans rfl
theorem i13_33 : ins 13 33 = some (.iload_n 2, 1) := (congrArg (fun x : PTy => x.1.lookup 33) q13).trans rfl
theorem i13_34 : ins 13 34 = some (.iconst 1, 1) := (congrArg (fun x : PTy => x.1.lookup 34) q13).trans rfl
theorem i13_35 : ins 13 35 = some (.iload_n 3, 1) := (congrArg (fun x : PTy => x.1.lookup 35) q13).trans rfl
theorem i13_36 : ins 13 36 = some (.ishl, 1) := (congrArg (fun x : PTy => x.1.lookup 36) q13).trans rfl
theorem i13_37 : ins 13 37 = some (.ior, 1) := (congrArg (fun x : PTy => x.1.lookup 37) q13).trans rfl
theorem i13_38 : ins 13 38 = some (.istore_n 2, 1) := (congrArg (fun x : PTy => x.1.lookup 38) q13).trans rfl
theorem i13_39 : ins 13 39 = some (.iinc 3 1, 3) := (congrArg (fun x : PTy => x.1.lookup 39) q13).trans rfl
theorem i13_42 : ins 13 42 = some (.goto (-38), 3) := (congrArg (fun x : PTy => x.1.lookup 42) q13).trans rfl
theorem i13_45 : ins 13 45 = some (.iload_n 2, 1) := (congrArg (fun x : PTy => x.1.lookup 45) q13).trans rfl
theorem i13_46 : ins 13 46 = some (.ireturn, 1) := (congrArg (fun x : PTy => x.1.lookup 46) q13).trans rfl
theorem e13_0 {d : Nat} {Q : Option AV → St → Prop} {st : List AV} {σ : St} {l0 l1 l2 l3 : Option AV} : Rn (d) Q (13, 0, [l0, l1, l2, l3], st, σ) = Rn (d) Q (13, 1, [l0, l1, l2, l3], vI 0 :: st, σ) := by rw [E_iconst i13_0, ci_0]
theorem s13_2 : okst 13 2 = true := by unfold okst; rw [x13]; rfl
theorem e13_1 {d : Nat} {Q : Option AV → St → Prop} {st : List AV} {σ : St} {l0 l1 l2 l3 : Option AV} {x : Int32} : Rn (d) Q (13, 1, [l0, l1, l2, l3], vI x :: st, σ) = Rn (d) Q (13, 2, [l0, l1, some (vI x), l3], st, σ) := E_istore_n i13_1 s13_2
theorem e13_2 {d : Nat} {Q : Option AV → St → Prop} {st : List AV} {σ : St} {l0 l1 l2 l3 : Option AV} : Rn (d) Q (13, 2, [l0, l1, l2, l3], st, σ) = Rn (d) Q (13, 3, [l0, l1, l2, l3], vI 0 :: st, σ) := by rw [E_iconst i13_2, ci_0]
theorem s13_3 : okst 13 3 = true := by unfold okst; rw [x13]; rfl
theorem e13_3 {d : Nat} {Q : Option AV → St → Prop} {st : List AV} {σ : St} {l0 l1 l2 l3 : Option AV} {x : Int32} : Rn (d) Q (13, 3, [l0, l1, l2, l3], vI x :: st, σ) = Rn (d) Q (13, 4, [l0, l1, l2, some (vI x)], st, σ) := E_istore_n i13_3 s13_3
theorem e13_4 {d : Nat} {Q : Option AV → St → Prop} {st : List AV} {σ : St} {l0 l1 l2 : Option AV} {x : Int32} : Rn (d) Q (13, 4, [l0, l1, l2, some (vI x)], st, σ) = Rn (d) Q (13, 5, [l0, l1, l2, some (vI x)], vI x :: st, σ) := E_iload_n i13_4 rfl
theorem e13_5 {d : Nat} {Q : Option AV → St → Prop} {st : List AV} {σ : St} {l0 l1 l2 l3 : Option AV} : Rn (d) Q (13, 5, [l0, l1, l2, l3], st, σ) = Rn (d) Q (13, 7, [l0, l1, l2, l3], vI 8 :: st, σ) := by rw [E_bipush i13_5, cb_8]
theorem e13_7 {d : Nat} {Q : Option AV → St → Prop} {st : List AV} {σ : St} {l0 l1 l2 l3 : Option AV} {x y : Int32} : Rn (d) Q (13, 7, [l0, l1, l2, l3], vI y :: vI x :: st, σ) = (if y ≤ x then Rn (d) Q (13, 45, [l0, l1, l2, l3], st, σ) else Rn (d) Q (13, 10, [l0, l1, l2, l3], st, σ)) := E_icmp_ge 45 i13_7 (by decide)
theorem e13_10 {d : Nat} {Q : Option AV → St → Prop} {st : List AV} {σ : St} {l1 l2 l3 : Option AV} {x : Option (Nat × Nat × Nat)} : Rn (d) Q (13, 10, [some (vR x), l1, l2, l3], st, σ) = Rn (d) Q (13, 11, [some (vR x), l1, l2, l3], vR x :: st, σ) := E_aload_n i13_10 rfl
theorem e13_11 {d : Nat} {Q : Option AV → St → Prop} {st : List AV} {σ : St} {l0 l1 l2 : Option AV} {x : Int32} : Rn (d) Q (13, 11, [l0, l1, l2, some (vI x)], st, σ) = Rn (d) Q (13, 12, [l0, l1, l2, some (vI x)], vI x :: st, σ) := E_iload_n i13_11 rfl
theorem e13_12 {d : Nat} {Q : Option AV → St → Prop} {st : List AV} {σ : St} {l0 l1 l2 l3 : Option AV} {i : Nat} {a1 : Int32} : Rn (d + 1) Q (13, 12, [l0, l1, l2, l3], vI a1 :: vR (some (0, 0, i)) :: st, σ) = (i < gN σ 0 ∧ catS st ≤ 8 ∧ Rn d (fun r σ' => Rn (d + 1) Q (13, 15, [l0, l1, l2, l3], r.toList ++ st, σ')) (2, 0, [some (vR (some (0, 0, i))), some (vI a1)], [], σ)) := E_invV (a := [vI a1]) i13_12 ((congrArg (fun z => mthQ z 51) o13).trans m0_51) o2 rfl (ek2 i a1) (en2 i a1)
theorem e13_15 {d : Nat} {Q : Option AV → St → Prop} {st : List AV} {σ : St} {l0 l1 l2 l3 : Option AV} {x : Int32} : Rn (d) Q (13, 15, [l0, l1, l2, l3], vI x :: st, σ) = (if x = 0 then Rn (d) Q (13, 39, [l0, l1, l2, l3], st, σ) else Rn (d) Q (13, 18, [l0, l1, l2, l3], st, σ)) := E_if_eq 39 i13_15 (by decide)
theorem e13_18 {d : Nat} {Q : Option AV → St → Prop} {st : List AV} {σ : St} {l1 l2 l3 : Option AV} {x : Option (Nat × Nat × Nat)} : Rn (d) Q (13, 18, [some (vR x), l1, l2, l3], st, σ) = Rn (d) Q (13, 19, [some (vR x), l1, l2, l3], vR x :: st, σ) := E_aload_n i13_18 rfl
theorem e13_19 {d : Nat} {Q : Option AV → St → Prop} {st : List AV} {σ : St} {l0 l1 l2 l3 : Option AV} {i : Nat} : Rn (d) Q (13, 19, [l0, l1, l2, l3], vR (some (0, 0, i)) :: st, σ) = (i < gN σ 0 ∧ ¬ gL σ 0 2 i = none ∧ Rn (d) Q (13, 22, [l0, l1, l2, l3], vR (some (0, 3, i)) :: st, σ)) := E_getA i13_19 ((congrArg (fun z => fldQ z 18) o13).trans f0_18) (Or.inl rfl)
theorem e13_22 {d : Nat} {Q : Option AV → St → Prop} {st : List AV} {σ : St} {l0 l1 l2 : Option AV} {x : Int32} : Rn (d) Q (13, 22, [l0, l1, l2, some (vI x)], st, σ) = Rn (d) Q (13, 23, [l0, l1, l2, some (vI x)], vI x :: st, σ) := E_iload_n i13_22 rfl
theorem e13_23 {d : Nat} {Q : Option AV → St → Prop} {st : List AV} {σ : St} {l0 l1 l2 l3 : Option AV} {i : Nat} {j : Int32} : Rn (d) Q (13, 23, [l0, l1, l2, l3], vI j :: vR (some (0, 3, i)) :: st, σ) = (∃ n, gL σ 0 2 i = some n ∧ i < gN σ 0 ∧ (0 ≤ j.toInt ∧ j.toInt < n) ∧ Rn (d) Q (13, 24, [l0, l1, l2, l3], vI (gA σ 0 2 i j.toNatClampNeg) :: st, σ)) := E_iaload1 i13_23 rfl
theorem e13_24 {d : Nat} {Q : Option AV → St → Prop} {st : List AV} {σ : St} {l1 l2 l3 : Option AV} {x : Option (Nat × Nat × Nat)} : Rn (d) Q (13, 24, [some (vR x), l1, l2, l3], st, σ) = Rn (d) Q (13, 25, [some (vR x), l1, l2, l3], vR x :: st, σ) := E_aload_n i13_24 rfl
theorem e13_25 {d : Nat} {Q : Option AV → St → Prop} {st : List AV} {σ : St} {l0 l1 l2 l3 : Option AV} {i : Nat} : Rn (d) Q (13, 25, [l0, l1, l2, l3], vR (some (0, 0, i)) :: st, σ) = (i < gN σ 0 ∧ ¬ gL σ 0 2 i = none ∧ Rn (d) Q (13, 28, [l0, l1, l2, l3], vR (some (0, 3, i)) :: st, σ)) := E_getA i13_25 ((congrArg (fun z => fldQ z 18) o13).trans f0_18) (Or.inl rfl)
theorem e13_28 {d : Nat} {Q : Option AV → St → Prop} {st : List AV} {σ : St} {l0 l2 l3 : Option AV} {x : Int32} : Rn (d) Q (13, 28, [l0, some (vI x), l2, l3], st, σ) = Rn (d) Q (13, 29, [l0, some (vI x), l2, l3], vI x :: st, σ) := E_iload_n i13_28 rfl
theorem e13_29 {d : Nat} {Q : Option AV → St → Prop} {st : List AV} {σ : St} {l0 l1 l2 l3 : Option AV} {i : Nat} {j : Int32} : Rn (d) Q (13, 29, [l0, l1, l2, l3], vI j :: vR (some (0, 3, i)) :: st, σ) = (∃ n, gL σ 0 2 i = some n ∧ i < gN σ 0 ∧ (0 ≤ j.toInt ∧ j.toInt < n) ∧ Rn (d) Q (13, 30, [l0, l1, l2, l3], vI (gA σ 0 2 i j.toNatClampNeg) :: st, σ)) := E_iaload1 i13_29 rfl
theorem e13_30 {d : Nat} {Q : Option AV → St → Prop} {st : List AV} {σ : St} {l0 l1 l2 l3 : Option AV} {x y : Int32} : Rn (d) Q (13, 30, [l0, l1, l2, l3], vI y :: vI x :: st, σ) = (if x = y then Rn (d) Q (13, 33, [l0, l1, l2, l3], st, σ) else Rn (d) Q (13, 39, [l0, l1, l2, l3], st, σ)) := E_icmp_ne 39 i13_30 (by decide)
theorem e13_33 {d : Nat} {Q : Option AV → St → Prop} {st : List AV} {σ : St} {l0 l1 l3 : Option AV} {x : Int32} : Rn (d) Q (13, 33, [l0, l1, some (vI x), l3], st, σ) = Rn (d) Q (13, 34, [l0, l1, some (vI x), l3], vI x :: st, σ) := E_iload_n i13_33 rfl
theorem e13_34 {d : Nat} {Q : Option AV → St → Prop} {st : List AV} {σ : St} {l0 l1 l2 l3 : Option AV} : Rn (d) Q (13, 34, [l0, l1, l2, l3], st, σ) = Rn (d) Q (13, 35, [l0, l1, l2, l3], vI 1 :: st, σ) := by rw [E_iconst i13_34, ci_1]
theorem e13_35 {d : Nat} {Q : Option AV → St → Prop} {st : List AV} {σ : St} {l0 l1 l2 : Option AV} {x : Int32} : Rn (d) Q (13, 35, [l0, l1, l2, some (vI x)], st, σ) = Rn (d) Q (13, 36, [l0, l1, l2, some (vI x)], vI x :: st, σ) := E_iload_n i13_35 rfl
theorem e13_36 {d : Nat} {Q : Option AV → St → Prop} {st : List AV} {σ : St} {l0 l1 l2 l3 : Option AV} {x y : Int32} : Rn (d) Q (13, 36, [l0, l1, l2, l3], vI y :: vI x :: st, σ) = Rn (d) Q (13, 37, [l0, l1, l2, l3], vI (x <<< (y &&& 31)) :: st, σ) := E_ishl i13_36
theorem e13_37 {d : Nat} {Q : Option AV → St → Prop} {st : List AV} {σ : St} {l0 l1 l2 l3 : Option AV} {x y : Int32} : Rn (d) Q (13, 37, [l0, l1, l2, l3], vI y :: vI x :: st, σ) = Rn (d) Q (13, 38, [l0, l1, l2, l3], vI (x ||| y) :: st, σ) := E_ior i13_37
theorem e13_38 {d : Nat} {Q : Option AV → St → Prop} {st : List AV} {σ : St} {l0 l1 l2 l3 : Option AV} {x : Int32} : Rn (d) Q (13, 38, [l0, l1, l2, l3], vI x :: st, σ) = Rn (d) Q (13, 39, [l0, l1, some (vI x), l3], st, σ) := E_istore_n i13_38 s13_2
theorem e13_39 {d : Nat} {Q : Option AV → St → Prop} {st : List AV} {σ : St} {l0 l1 l2 : Option AV} {x : Int32} : Rn (d) Q (13, 39, [l0, l1, l2, some (vI x)], st, σ) = Rn (d) Q (13, 42, [l0, l1, l2, some (vI (x + 1))], st, σ) := by rw [E_iinc i13_39 rfl (by rw [x13]; decide), show Int32.ofInt 1 = (1 : Int32) by decide +kernel]; rfl
theorem e13_42 {d : Nat} {Q : Option AV → St → Prop} {st : List AV} {σ : St} {l0 l1 l2 l3 : Option AV} : Rn (d) Q (13, 42, [l0, l1, l2, l3], st, σ) = Rn (d) Q (13, 4, [l0, l1, l2, l3], st, σ) := E_goto 4 i13_42 (by decide)
theorem e13_45 {d : Nat} {Q : Option AV → St → Prop} {st : List AV} {σ : St} {l0 l1 l3 : Option AV} {x : Int32} : Rn (d) Q (13, 45, [l0, l1, some (vI x), l3], st, σ) = Rn (d) Q (13, 46, [l0, l1, some (vI x), l3], vI x :: st, σ) := E_iload_n i13_45 rfl
theorem e13_46 {d : Nat} {Q : Option AV → St → Prop} {σ : St} {l0 l1 l2 l3 : Option AV} {x : Int32} : Rn (d) Q (13, 46, [l0, l1, l2, l3], [vI x], σ) = Q (some (vI x)) σ := E_iretI (st := []) i13_46 r13
theorem i14_0 : ins 14 0 = some (.aload_n 0, 1) := (congrArg (fun x : PTy => x.1.lookup 0) q14).trans rfl
theorem i14_1 : ins 14 1 = some (.invokespecial 1, 3) := (congrArg (fun x : PTy => x.1.lookup 1) q14).trans rfl
theorem i14_4 : ins 14 4 = some (.aload_n 0, 1) := (congrArg (fun x : PTy => x.1.lookup 4) q14).trans rfl
theorem i14_5 : ins 14 5 = some (.iconst 0, 1) := (congrArg (fun x : PTy => x.1.lookup 5) q14).trans rfl
theorem i14_6 : ins 14 6 = some (.putfield 7, 3) := (congrArg (fun x : PTy => x.1.lookup 6) q14).trans rfl
theorem i14_9 : ins 14 9 = some (.aload_n 0, 1) := (congrArg (fun x : PTy => x.1.lookup 9) q14).trans rfl
theorem i14_10 : ins 14 10 = some (.bipush 6, 2) := (congrArg (fun x : PTy => x.1.lookup 10) q14).trans rfl
theorem i14_12 : ins 14 12 = some (.newarray .boolean, 2) := (congrArg (fun x : PTy => x.1.lookup 12) q14).trans rfl
theorem i14_14 : ins 14 14 = some (.putfield 13, 3) := (congrArg (fun x : PTy => x.1.lookup 14) q14).trans rfl
theorem i14_17 : ins 14 17 = some (.aload_n 0, 1) := (congrArg (fun x : PTy => x.1.lookup 17) q14).trans rfl
theorem i14_18 : ins 14 18 = some (.bipush 6, 2) := (congrArg (fun x : PTy => x.1.lookup 18) q14).trans rfl
theorem i14_20 : ins 14 20 = some (.newarray .int, 2) := (congrArg (fun x : PTy => x.1.lookup 20) q14).trans rfl
theorem i14_22 : ins 14 22 = some (.putfield 17, 3) := (congrArg (fun x : PTy => x.1.lookup 22) q14).trans rfl
theorem i14_25 : ins 14 25 = some (.aload_n 0, 1) := (congrArg (fun x : PTy => x.1.lookup 25) q14).trans rfl
theorem i14_26 : ins 14 26 = some (.bipush 6, 2) := (congrArg (fun x : PTy => x.1.lookup 26) q14).trans rfl
theorem i14_28 : ins 14 28 = some (.newarray .int, 2) := (congrArg (fun x : PTy => x.1.lookup 28) q14).trans rfl
theorem i14_30 : ins 14 30 = some (.putfield 21, 3) := (congrArg (fun x : PTy => x.1.lookup 30) q14).trans rfl
theorem i14_33 : ins 14 33 = some (.return_, 1) := (congrArg (fun x : PTy => x.1.lookup 33) q14).trans rfl
theorem e14_0 {d : Nat} {Q : Option AV → St → Prop} {st : List AV} {σ : St}  {x : Option (Nat × Nat × Nat)} : Rn (d) Q (14, 0, [some (vR x)], st, σ) = Rn (d) Q (14, 1, [some (vR x)], vR x :: st, σ) := E_aload_n i14_0 rfl
theorem e14_1 {d : Nat} {Q : Option AV → St → Prop} {st : List AV} {σ : St} {l0 : Option AV} {x : Nat × Nat × Nat} : Rn (d) Q (14, 1, [l0], vR (some x) :: st, σ) = (catS st ≤ 8 ∧ Rn (d) Q (14, 4, [l0], st, σ)) := E_objInit i14_1 ((congrArg (fun z => mthQ z 1) o14).trans m1_1)
theorem e14_4 {d : Nat} {Q : Option AV → St → Prop} {st : List AV} {σ : St}  {x : Option (Nat × Nat × Nat)} : Rn (d) Q (14, 4, [some (vR x)], st, σ) = Rn (d) Q (14, 5, [some (vR x)], vR x :: st, σ) := E_aload_n i14_4 rfl
theorem e14_5 {d : Nat} {Q : Option AV → St → Prop} {st : List AV} {σ : St} {l0 : Option AV} : Rn (d) Q (14, 5, [l0], st, σ) = Rn (d) Q (14, 6, [l0], vI 0 :: st, σ) := by rw [E_iconst i14_5, ci_0]
theorem e14_6 {d : Nat} {Q : Option AV → St → Prop} {st : List AV} {σ : St} {l0 : Option AV} {i : Nat} {x : Int32} : Rn (d) Q (14, 6, [l0], vI x :: vR (some (1, 0, i)) :: st, σ) = (i < gN σ 1 ∧ Rn (d) Q (14, 9, [l0], st, setI σ 1 0 i x)) := E_putI i14_6 ((congrArg (fun z => fldQ z 7) o14).trans f1_7) rfl (Or.inl rfl)
theorem e14_9 {d : Nat} {Q : Option AV → St → Prop} {st : List AV} {σ : St}  {x : Option (Nat × Nat × Nat)} : Rn (d) Q (14, 9, [some (vR x)], st, σ) = Rn (d) Q (14, 10, [some (vR x)], vR x :: st, σ) := E_aload_n i14_9 rfl
theorem e14_10 {d : Nat} {Q : Option AV → St → Prop} {st : List AV} {σ : St} {l0 : Option AV} : Rn (d) Q (14, 10, [l0], st, σ) = Rn (d) Q (14, 12, [l0], vI 6 :: st, σ) := by rw [E_bipush i14_10, cb_6]
theorem e14_12 {d : Nat} {Q : Option AV → St → Prop} {st : List AV} {σ : St} {l0 : Option AV} {i : Nat} : Rn (d) Q (14, 12, [l0], vI 6 :: vR (some (1, 0, i)) :: st, σ) = (i < gN σ 1 ∧ gL σ 1 1 i = none ∧ Rn (d) Q (14, 17, [l0], st, newA σ 1 1 i 6)) := by rw [E_newarray i14_12 i14_14 ((congrArg (fun z => fldQ z 13) o14).trans f1_13) ⟨rfl, rfl⟩ (by decide) (Or.inr ⟨n14, o14⟩) (by decide +kernel), show (6 : Int32).toNatClampNeg = 6 by decide +kernel]
theorem e14_17 {d : Nat} {Q : Option AV → St → Prop} {st : List AV} {σ : St}  {x : Option (Nat × Nat × Nat)} : Rn (d) Q (14, 17, [some (vR x)], st, σ) = Rn (d) Q (14, 18, [some (vR x)], vR x :: st, σ) := E_aload_n i14_17 rfl
theorem e14_18 {d : Nat} {Q : Option AV → St → Prop} {st : List AV} {σ : St} {l0 : Option AV} : Rn (d) Q (14, 18, [l0], st, σ) = Rn (d) Q (14, 20, [l0], vI 6 :: st, σ) := by rw [E_bipush i14_18, cb_6]
theorem e14_20 {d : Nat} {Q : Option AV → St → Prop} {st : List AV} {σ : St} {l0 : Option AV} {i : Nat} : Rn (d) Q (14, 20, [l0], vI 6 :: vR (some (1, 0, i)) :: st, σ) = (i < gN σ 1 ∧ gL σ 1 2 i = none ∧ Rn (d) Q (14, 25, [l0], st, newA σ 1 2 i 6)) := by rw [E_newarray i14_20 i14_22 ((congrArg (fun z => fldQ z 17) o14).trans f1_17) ⟨rfl, rfl⟩ (by decide) (Or.inr ⟨n14, o14⟩) (by decide +kernel), show (6 : Int32).toNatClampNeg = 6 by decide +kernel]
theorem e14_25 {d : Nat} {Q : Option AV → St → Prop} {st : List AV} {σ : St}  {x : Option (Nat × Nat × Nat)} : Rn (d) Q (14, 25, [some (vR x)], st, σ) = Rn (d) Q (14, 26, [some (vR x)], vR x :: st, σ) := E_aload_n i14_25 rfl
theorem e14_26 {d : Nat} {Q : Option AV → St → Prop} {st : List AV} {σ : St} {l0 : Option AV} : Rn (d) Q (14, 26, [l0], st, σ) = Rn (d) Q (14, 28, [l0], vI 6 :: st, σ) := by rw [E_bipush i14_26, cb_6]
theorem e14_28 {d : Nat} {Q : Option AV → St → Prop} {st : List AV} {σ : St} {l0 : Option AV} {i : Nat} : Rn (d) Q (14, 28, [l0], vI 6 :: vR (some (1, 0, i)) :: st, σ) = (i < gN σ 1 ∧ gL σ 1 3 i = none ∧ Rn (d) Q (14, 33, [l0], st, newA σ 1 3 i 6)) := by rw [E_newarray i14_28 i14_30 ((congrArg (fun z => fldQ z 21) o14).trans f1_21) ⟨rfl, rfl⟩ (by decide) (Or.inr ⟨n14, o14⟩) (by decide +kernel), show (6 : Int32).toNatClampNeg = 6 by decide +kernel]
theorem e14_33 {d : Nat} {Q : Option AV → St → Prop} {σ : St} {l0 : Option AV} : Rn (d) Q (14, 33, [l0], [], σ) = Q none σ := E_ret (st := []) i14_33 r14
theorem i15_0 : ins 15 0 = some (.aload_n 0, 1) := (congrArg (fun x : PTy => x.1.lookup 0) q15).trans rfl
theorem i15_1 : ins 15 1 = some (.getfield 7, 3) := (congrArg (fun x : PTy => x.1.lookup 1) q15).trans rfl
theorem i15_4 : ins 15 4 = some (.bipush 6, 2) := (congrArg (fun x : PTy => x.1.lookup 4) q15).trans rfl
theorem i15_6 : ins 15 6 = some (.if_icmp .ge 43, 3) := (congrArg (fun x : PTy => x.1.lookup 6) q15).trans rfl
theorem i15_9 : ins 15 9 = some (.aload_n 0, 1) := (congrArg (fun x : PTy => x.1.lookup 9) q15).trans rfl
theorem i15_10 : ins 15 10 = some (.getfield 13, 3) := (congrArg (fun x : PTy => x.1.lookup 10) q15).trans rfl
theorem i15_13 : ins 15 13 = some (.aload_n 0, 1) := (congrArg (fun x : PTy => x.1.lookup 13) q15).trans rfl
theorem i15_14 : ins 15 14 = some (.getfield 7, 3) := (congrArg (fun x : PTy => x.1.lookup 14) q15).trans rfl
theorem i15_17 : ins 15 17 = some (.iload_n 1, 1) := (congrArg (fun x : PTy => x.1.lookup 17) q15).trans rfl
theorem i15_18 : ins 15 18 = some (.bastore, 1) := (congrArg (fun x : PTy => x.1.lookup 18) q15).trans rfl
theorem i15_19 : ins 15 19 = some (.aload_n 0, 1) := (congrArg (fun x : PTy => x.1.lookup 19) q15).trans rfl
theorem i15_20 : ins 15 20 = some (.getfield 17, 3) := (congrArg (fun x : PTy => x.1.lookup 20) q15).trans rfl
theorem i15_23 : ins 15 23 = some (.aload_n 0, 1) := (congrArg (fun x : PTy => x.1.lookup 23) q15).trans rfl
theorem i15_24 : ins 15 24 = some (.getfield 7, 3) := (congrArg (fun x : PTy => x.1.lookup 24) q15).trans rfl
theorem i15_27 : ins 15 27 = some (.iload_n 2, 1) := (congrArg (fun x : PTy => x.1.lookup 27) q15).trans rfl
theorem i15_28 : ins 15 28 = some (.iastore, 1) := (congrArg (fun x : PTy => x.1.lookup 28) q15).trans rfl
theorem i15_29 : ins 15 29 = some (.aload_n 0, 1) := (congrArg (fun x : PTy => x.1.lookup 29) q15).trans rfl
theorem i15_30 : ins 15 30 = some (.getfield 21, 3) := (congrArg (fun x : PTy => x.1.lookup 30) q15).trans rfl
theorem i15_33 : ins 15 33 = some (.aload_n 0, 1) := (congrArg (fun x : PTy => x.1.lookup 33) q15).trans rfl
theorem i15_34 : ins 15 34 = some (.getfield 7, 3) := (congrArg (fun x : PTy => x.1.lookup 34) q15).trans rfl
theorem i15_37 : ins 15 37 = some (.iload_n 3, 1) := (congrArg (fun x : PTy => x.1.lookup 37) q15).trans rfl
theorem i15_38 : ins 15 38 = some (.iastore, 1) := (congrArg (fun x : PTy => x.1.lookup 38) q15).trans rfl
theorem i15_39 : ins 15 39 = some (.aload_n 0, 1) := (congrArg (fun x : PTy => x.1.lookup 39) q15).trans rfl
theorem i15_40 : ins 15 40 = some (.dup, 1) := (congrArg (fun x : PTy => x.1.lookup 40) q15).trans rfl
theorem i15_41 : ins 15 41 = some (.getfield 7, 3) := (congrArg (fun x : PTy => x.1.lookup 41) q15).trans rfl
theorem i15_44 : ins 15 44 = some (.iconst 1, 1) := (congrArg (fun x : PTy => x.1.lookup 44) q15).trans rfl
theorem i15_45 : ins 15 45 = some (.iadd, 1) := (congrArg (fun x : PTy => x.1.lookup 45) q15).trans rfl
theorem i15_46 : ins 15 46 = some (.putfield 7, 3) := (congrArg (fun x : PTy => x.1.lookup 46) q15).trans rfl
theorem i15_49 : ins 15 49 = some (.return_, 1) := (congrArg (fun x : PTy => x.1.lookup 49) q15).trans rfl
theorem e15_0 {d : Nat} {Q : Option AV → St → Prop} {st : List AV} {σ : St} {l1 l2 l3 : Option AV} {x : Option (Nat × Nat × Nat)} : Rn (d) Q (15, 0, [some (vR x), l1, l2, l3], st, σ) = Rn (d) Q (15, 1, [some (vR x), l1, l2, l3], vR x :: st, σ) := E_aload_n i15_0 rfl
theorem e15_1 {d : Nat} {Q : Option AV → St → Prop} {st : List AV} {σ : St} {l0 l1 l2 l3 : Option AV} {i : Nat} : Rn (d) Q (15, 1, [l0, l1, l2, l3], vR (some (1, 0, i)) :: st, σ) = (i < gN σ 1 ∧ Rn (d) Q (15, 4, [l0, l1, l2, l3], vI (gI σ 1 0 i) :: st, σ)) := E_getI i15_1 ((congrArg (fun z => fldQ z 7) o15).trans f1_7) rfl
theorem e15_4 {d : Nat} {Q : Option AV → St → Prop} {st : List AV} {σ : St} {l0 l1 l2 l3 : Option AV} : Rn (d) Q (15, 4, [l0, l1, l2, l3], st, σ) = Rn (d) Q (15, 6, [l0, l1, l2, l3], vI 6 :: st, σ) := by rw [E_bipush i15_4, cb_6]
theorem e15_6 {d : Nat} {Q : Option AV → St → Prop} {st : List AV} {σ : St} {l0 l1 l2 l3 : Option AV} {x y : Int32} : Rn (d) Q (15, 6, [l0, l1, l2, l3], vI y :: vI x :: st, σ) = (if y ≤ x then Rn (d) Q (15, 49, [l0, l1, l2, l3], st, σ) else Rn (d) Q (15, 9, [l0, l1, l2, l3], st, σ)) := E_icmp_ge 49 i15_6 (by decide)
theorem e15_9 {d : Nat} {Q : Option AV → St → Prop} {st : List AV} {σ : St} {l1 l2 l3 : Option AV} {x : Option (Nat × Nat × Nat)} : Rn (d) Q (15, 9, [some (vR x), l1, l2, l3], st, σ) = Rn (d) Q (15, 10, [some (vR x), l1, l2, l3], vR x :: st, σ) := E_aload_n i15_9 rfl
theorem e15_10 {d : Nat} {Q : Option AV → St → Prop} {st : List AV} {σ : St} {l0 l1 l2 l3 : Option AV} {i : Nat} : Rn (d) Q (15, 10, [l0, l1, l2, l3], vR (some (1, 0, i)) :: st, σ) = (i < gN σ 1 ∧ ¬ gL σ 1 1 i = none ∧ Rn (d) Q (15, 13, [l0, l1, l2, l3], vR (some (1, 2, i)) :: st, σ)) := E_getA i15_10 ((congrArg (fun z => fldQ z 13) o15).trans f1_13) (Or.inl rfl)
theorem e15_13 {d : Nat} {Q : Option AV → St → Prop} {st : List AV} {σ : St} {l1 l2 l3 : Option AV} {x : Option (Nat × Nat × Nat)} : Rn (d) Q (15, 13, [some (vR x), l1, l2, l3], st, σ) = Rn (d) Q (15, 14, [some (vR x), l1, l2, l3], vR x :: st, σ) := E_aload_n i15_13 rfl
theorem e15_14 {d : Nat} {Q : Option AV → St → Prop} {st : List AV} {σ : St} {l0 l1 l2 l3 : Option AV} {i : Nat} : Rn (d) Q (15, 14, [l0, l1, l2, l3], vR (some (1, 0, i)) :: st, σ) = (i < gN σ 1 ∧ Rn (d) Q (15, 17, [l0, l1, l2, l3], vI (gI σ 1 0 i) :: st, σ)) := E_getI i15_14 ((congrArg (fun z => fldQ z 7) o15).trans f1_7) rfl
theorem e15_17 {d : Nat} {Q : Option AV → St → Prop} {st : List AV} {σ : St} {l0 l2 l3 : Option AV} {x : Int32} : Rn (d) Q (15, 17, [l0, some (vI x), l2, l3], st, σ) = Rn (d) Q (15, 18, [l0, some (vI x), l2, l3], vI x :: st, σ) := E_iload_n i15_17 rfl
theorem e15_18 {d : Nat} {Q : Option AV → St → Prop} {st : List AV} {σ : St} {l0 l1 l2 l3 : Option AV} {i : Nat} {j x : Int32} : Rn (d) Q (15, 18, [l0, l1, l2, l3], vI x :: vI j :: vR (some (1, 2, i)) :: st, σ) = (∃ n, gL σ 1 1 i = some n ∧ i < gN σ 1 ∧ (0 ≤ j.toInt ∧ j.toInt < n) ∧ Rn (d) Q (15, 19, [l0, l1, l2, l3], st, setA σ 1 1 i (upd (gA σ 1 1 i) j.toNatClampNeg (x &&& 1)))) := E_bastore3 i15_18 rfl (by decide)
theorem e15_19 {d : Nat} {Q : Option AV → St → Prop} {st : List AV} {σ : St} {l1 l2 l3 : Option AV} {x : Option (Nat × Nat × Nat)} : Rn (d) Q (15, 19, [some (vR x), l1, l2, l3], st, σ) = Rn (d) Q (15, 20, [some (vR x), l1, l2, l3], vR x :: st, σ) := E_aload_n i15_19 rfl
theorem e15_20 {d : Nat} {Q : Option AV → St → Prop} {st : List AV} {σ : St} {l0 l1 l2 l3 : Option AV} {i : Nat} : Rn (d) Q (15, 20, [l0, l1, l2, l3], vR (some (1, 0, i)) :: st, σ) = (i < gN σ 1 ∧ ¬ gL σ 1 2 i = none ∧ Rn (d) Q (15, 23, [l0, l1, l2, l3], vR (some (1, 3, i)) :: st, σ)) := E_getA i15_20 ((congrArg (fun z => fldQ z 17) o15).trans f1_17) (Or.inl rfl)
theorem e15_23 {d : Nat} {Q : Option AV → St → Prop} {st : List AV} {σ : St} {l1 l2 l3 : Option AV} {x : Option (Nat × Nat × Nat)} : Rn (d) Q (15, 23, [some (vR x), l1, l2, l3], st, σ) = Rn (d) Q (15, 24, [some (vR x), l1, l2, l3], vR x :: st, σ) := E_aload_n i15_23 rfl
theorem e15_24 {d : Nat} {Q : Option AV → St → Prop} {st : List AV} {σ : St} {l0 l1 l2 l3 : Option AV} {i : Nat} : Rn (d) Q (15, 24, [l0, l1, l2, l3], vR (some (1, 0, i)) :: st, σ) = (i < gN σ 1 ∧ Rn (d) Q (15, 27, [l0, l1, l2, l3], vI (gI σ 1 0 i) :: st, σ)) := E_getI i15_24 ((congrArg (fun z => fldQ z 7) o15).trans f1_7) rfl
theorem e15_27 {d : Nat} {Q : Option AV → St → Prop} {st : List AV} {σ : St} {l0 l1 l3 : Option AV} {x : Int32} : Rn (d) Q (15, 27, [l0, l1, some (vI x), l3], st, σ) = Rn (d) Q (15, 28, [l0, l1, some (vI x), l3], vI x :: st, σ) := E_iload_n i15_27 rfl
theorem e15_28 {d : Nat} {Q : Option AV → St → Prop} {st : List AV} {σ : St} {l0 l1 l2 l3 : Option AV} {i : Nat} {j x : Int32} : Rn (d) Q (15, 28, [l0, l1, l2, l3], vI x :: vI j :: vR (some (1, 3, i)) :: st, σ) = (∃ n, gL σ 1 2 i = some n ∧ i < gN σ 1 ∧ (0 ≤ j.toInt ∧ j.toInt < n) ∧ Rn (d) Q (15, 29, [l0, l1, l2, l3], st, setA σ 1 2 i (upd (gA σ 1 2 i) j.toNatClampNeg x))) := E_iastore1 i15_28 rfl (by decide)
theorem e15_29 {d : Nat} {Q : Option AV → St → Prop} {st : List AV} {σ : St} {l1 l2 l3 : Option AV} {x : Option (Nat × Nat × Nat)} : Rn (d) Q (15, 29, [some (vR x), l1, l2, l3], st, σ) = Rn (d) Q (15, 30, [some (vR x), l1, l2, l3], vR x :: st, σ) := E_aload_n i15_29 rfl
theorem e15_30 {d : Nat} {Q : Option AV → St → Prop} {st : List AV} {σ : St} {l0 l1 l2 l3 : Option AV} {i : Nat} : Rn (d) Q (15, 30, [l0, l1, l2, l3], vR (some (1, 0, i)) :: st, σ) = (i < gN σ 1 ∧ ¬ gL σ 1 3 i = none ∧ Rn (d) Q (15, 33, [l0, l1, l2, l3], vR (some (1, 4, i)) :: st, σ)) := E_getA i15_30 ((congrArg (fun z => fldQ z 21) o15).trans f1_21) (Or.inl rfl)
theorem e15_33 {d : Nat} {Q : Option AV → St → Prop} {st : List AV} {σ : St} {l1 l2 l3 : Option AV} {x : Option (Nat × Nat × Nat)} : Rn (d) Q (15, 33, [some (vR x), l1, l2, l3], st, σ) = Rn (d) Q (15, 34, [some (vR x), l1, l2, l3], vR x :: st, σ) := E_aload_n i15_33 rfl
theorem e15_34 {d : Nat} {Q : Option AV → St → Prop} {st : List AV} {σ : St} {l0 l1 l2 l3 : Option AV} {i : Nat} : Rn (d) Q (15, 34, [l0, l1, l2, l3], vR (some (1, 0, i)) :: st, σ) = (i < gN σ 1 ∧ Rn (d) Q (15, 37, [l0, l1, l2, l3], vI (gI σ 1 0 i) :: st, σ)) := E_getI i15_34 ((congrArg (fun z => fldQ z 7) o15).trans f1_7) rfl
theorem e15_37 {d : Nat} {Q : Option AV → St → Prop} {st : List AV} {σ : St} {l0 l1 l2 : Option AV} {x : Int32} : Rn (d) Q (15, 37, [l0, l1, l2, some (vI x)], st, σ) = Rn (d) Q (15, 38, [l0, l1, l2, some (vI x)], vI x :: st, σ) := E_iload_n i15_37 rfl
theorem e15_38 {d : Nat} {Q : Option AV → St → Prop} {st : List AV} {σ : St} {l0 l1 l2 l3 : Option AV} {i : Nat} {j x : Int32} : Rn (d) Q (15, 38, [l0, l1, l2, l3], vI x :: vI j :: vR (some (1, 4, i)) :: st, σ) = (∃ n, gL σ 1 3 i = some n ∧ i < gN σ 1 ∧ (0 ≤ j.toInt ∧ j.toInt < n) ∧ Rn (d) Q (15, 39, [l0, l1, l2, l3], st, setA σ 1 3 i (upd (gA σ 1 3 i) j.toNatClampNeg x))) := E_iastore1 i15_38 rfl (by decide)
theorem e15_39 {d : Nat} {Q : Option AV → St → Prop} {st : List AV} {σ : St} {l1 l2 l3 : Option AV} {x : Option (Nat × Nat × Nat)} : Rn (d) Q (15, 39, [some (vR x), l1, l2, l3], st, σ) = Rn (d) Q (15, 40, [some (vR x), l1, l2, l3], vR x :: st, σ) := E_aload_n i15_39 rfl
theorem e15_40 {d : Nat} {Q : Option AV → St → Prop} {st : List AV} {σ : St} {l0 l1 l2 l3 : Option AV} {x : Option (Nat × Nat × Nat)} : Rn (d) Q (15, 40, [l0, l1, l2, l3], vR x :: st, σ) = Rn (d) Q (15, 41, [l0, l1, l2, l3], vR x :: vR x :: st, σ) := E_dupR i15_40
theorem e15_41 {d : Nat} {Q : Option AV → St → Prop} {st : List AV} {σ : St} {l0 l1 l2 l3 : Option AV} {i : Nat} : Rn (d) Q (15, 41, [l0, l1, l2, l3], vR (some (1, 0, i)) :: st, σ) = (i < gN σ 1 ∧ Rn (d) Q (15, 44, [l0, l1, l2, l3], vI (gI σ 1 0 i) :: st, σ)) := E_getI i15_41 ((congrArg (fun z => fldQ z 7) o15).trans f1_7) rfl
theorem e15_44 {d : Nat} {Q : Option AV → St → Prop} {st : List AV} {σ : St} {l0 l1 l2 l3 : Option AV} : Rn (d) Q (15, 44, [l0, l1, l2, l3], st, σ) = Rn (d) Q (15, 45, [l0, l1, l2, l3], vI 1 :: st, σ) := by rw [E_iconst i15_44, ci_1]
theorem e15_45 {d : Nat} {Q : Option AV → St → Prop} {st : List AV} {σ : St} {l0 l1 l2 l3 : Option AV} {x y : Int32} : Rn (d) Q (15, 45, [l0, l1, l2, l3], vI y :: vI x :: st, σ) = Rn (d) Q (15, 46, [l0, l1, l2, l3], vI (x + y) :: st, σ) := E_iadd i15_45
theorem e15_46 {d : Nat} {Q : Option AV → St → Prop} {st : List AV} {σ : St} {l0 l1 l2 l3 : Option AV} {i : Nat} {x : Int32} : Rn (d) Q (15, 46, [l0, l1, l2, l3], vI x :: vR (some (1, 0, i)) :: st, σ) = (i < gN σ 1 ∧ Rn (d) Q (15, 49, [l0, l1, l2, l3], st, setI σ 1 0 i x)) := E_putI i15_46 ((congrArg (fun z => fldQ z 7) o15).trans f1_7) rfl (Or.inl rfl)
theorem e15_49 {d : Nat} {Q : Option AV → St → Prop} {σ : St} {l0 l1 l2 l3 : Option AV} : Rn (d) Q (15, 49, [l0, l1, l2, l3], [], σ) = Q none σ := E_ret (st := []) i15_49 r15
theorem i16_0 : ins 16 0 = some (.iconst 0, 1) := (congrArg (fun x : PTy => x.1.lookup 0) q16).trans rfl
theorem i16_1 : ins 16 1 = some (.istore_n 2, 1) := (congrArg (fun x : PTy => x.1.lookup 1) q16).trans rfl
theorem i16_2 : ins 16 2 = some (.iconst 0, 1) := (congrArg (fun x : PTy => x.1.lookup 2) q16).trans rfl
theorem i16_3 : ins 16 3 = some (.istore_n 3, 1) := (congrArg (fun x : PTy => x.1.lookup 3) q16).trans rfl
theorem i16_4 : ins 16 4 = some (.iload_n 3, 1) := (congrArg (fun x : PTy => x.1.lookup 4) q16).trans rfl
theorem i16_5 : ins 16 5 = some (.aload_n 0, 1) := (congrArg (fun x : PTy => x.1.lookup 5) q16).trans rfl
theorem i16_6 : ins 16 6 = some (.getfield 7, 3) := (congrArg (fun x : PTy => x.1.lookup 6) q16).trans rfl
theorem i16_9 : ins 16 9 = some (.if_icmp .ge 37, 3) := (congrArg (fun x : PTy => x.1.lookup 9) q16).trans rfl
theorem i16_12 : ins 16 12 = some (.aload_n 0, 1) := (congrArg (fun x : PTy => x.1.lookup 12) q16).trans rfl
theorem i16_13 : ins 16 13 = some (.getfield 13, 3) := (congrArg (fun x : PTy => x.1.lookup 13) q16).trans rfl
theorem i16_16 : ins 16 16 = some (.iload_n 3, 1) := (congrArg (fun x : PTy => x.1.lookup 16) q16).trans rfl
theorem i16_17 : ins 16 17 = some (.baload, 1) := (congrArg (fun x : PTy => x.1.lookup 17) q16).trans rfl
theorem i16_18 : ins 16 18 = some (.ifCond .eq 22, 3) := (congrArg (fun x : PTy => x.1.lookup 18) q16).trans rfl
theorem i16_21 : ins 16 21 = some (.aload_n 0, 1) := (congrArg (fun x : PTy => x.1.lookup 21) q16).trans rfl
theorem i16_22 : ins 16 22 = some (.getfield 17, 3) := (congrArg (fun x : PTy => x.1.lookup 22) q16).trans rfl
theorem i16_25 : ins 16 25 = some (.iload_n 3, 1) := (congrArg (fun x : PTy => x.1.lookup 25) q16).trans rfl
theorem i16_26 : ins 16 26 = some (.iaload, 1) := (congrArg (fun x : PTy => x.1.lookup 26) q16).trans rfl
theorem i16_27 : ins 16 27 = some (.iload_n 1, 1) := (congrArg (fun x : PTy => x.1.lookup 27) q16).trans rfl
theorem i16_28 : ins 16 28 = some (.if_icmp .gt 12, 3) := (congrArg (fun x : PTy => x.1.lookup 28) q16).trans rfl
theorem i16_31 : ins 16 31 = some (.iload_n 2, 1) := (congrArg (fun x : PTy => x.1.lookup 31) q16).trans rfl
theorem i16_32 : ins 16 32 = some (.aload_n 0, 1) := (congrArg (fun x : PTy => x.1.lookup 32) q16).trans rfl
theorem i16_33 : ins 16 33 = some (.getfield 21, 3) := (congrArg (fun x : PTy => x.1.lookup 33) q16).trans rfl
theorem i16_36 : ins 16 36 = some (.iload_n 3, 1) := (congrArg (fun x : PTy => x.1.lookup 36) q16).trans rfl
theorem i16_37 : ins 16 37 = some (.iaload, 1) := (congrArg (fun x : PTy => x.1.lookup 37) q16).trans rfl
theorem i16_38 : ins 16 38 = some (.iadd, 1) := (congrArg (fun x : PTy => x.1.lookup 38) q16).trans rfl
theorem i16_39 : ins 16 39 = some (.istore_n 2, 1) := (congrArg (fun x : PTy => x.1.lookup 39) q16).trans rfl
theorem i16_40 : ins 16 40 = some (.iinc 3 1, 3) := (congrArg (fun x : PTy => x.1.lookup 40) q16).trans rfl
theorem i16_43 : ins 16 43 = some (.goto (-39), 3) := (congrArg (fun x : PTy => x.1.lookup 43) q16).trans rfl
theorem i16_46 : ins 16 46 = some (.iload_n 2, 1) := (congrArg (fun x : PTy => x.1.lookup 46) q16).trans rfl
theorem i16_47 : ins 16 47 = some (.ireturn, 1) := (congrArg (fun x : PTy => x.1.lookup 47) q16).trans rfl
theorem e16_0 {d : Nat} {Q : Option AV → St → Prop} {st : List AV} {σ : St} {l0 l1 l2 l3 : Option AV} : Rn (d) Q (16, 0, [l0, l1, l2, l3], st, σ) = Rn (d) Q (16, 1, [l0, l1, l2, l3], vI 0 :: st, σ) := by rw [E_iconst i16_0, ci_0]
theorem s16_2 : okst 16 2 = true := by unfold okst; rw [x16]; rfl
theorem e16_1 {d : Nat} {Q : Option AV → St → Prop} {st : List AV} {σ : St} {l0 l1 l2 l3 : Option AV} {x : Int32} : Rn (d) Q (16, 1, [l0, l1, l2, l3], vI x :: st, σ) = Rn (d) Q (16, 2, [l0, l1, some (vI x), l3], st, σ) := E_istore_n i16_1 s16_2
theorem e16_2 {d : Nat} {Q : Option AV → St → Prop} {st : List AV} {σ : St} {l0 l1 l2 l3 : Option AV} : Rn (d) Q (16, 2, [l0, l1, l2, l3], st, σ) = Rn (d) Q (16, 3, [l0, l1, l2, l3], vI 0 :: st, σ) := by rw [E_iconst i16_2, ci_0]
theorem s16_3 : okst 16 3 = true := by unfold okst; rw [x16]; rfl
theorem e16_3 {d : Nat} {Q : Option AV → St → Prop} {st : List AV} {σ : St} {l0 l1 l2 l3 : Option AV} {x : Int32} : Rn (d) Q (16, 3, [l0, l1, l2, l3], vI x :: st, σ) = Rn (d) Q (16, 4, [l0, l1, l2, some (vI x)], st, σ) := E_istore_n i16_3 s16_3
theorem e16_4 {d : Nat} {Q : Option AV → St → Prop} {st : List AV} {σ : St} {l0 l1 l2 : Option AV} {x : Int32} : Rn (d) Q (16, 4, [l0, l1, l2, some (vI x)], st, σ) = Rn (d) Q (16, 5, [l0, l1, l2, some (vI x)], vI x :: st, σ) := E_iload_n i16_4 rfl
theorem e16_5 {d : Nat} {Q : Option AV → St → Prop} {st : List AV} {σ : St} {l1 l2 l3 : Option AV} {x : Option (Nat × Nat × Nat)} : Rn (d) Q (16, 5, [some (vR x), l1, l2, l3], st, σ) = Rn (d) Q (16, 6, [some (vR x), l1, l2, l3], vR x :: st, σ) := E_aload_n i16_5 rfl
theorem e16_6 {d : Nat} {Q : Option AV → St → Prop} {st : List AV} {σ : St} {l0 l1 l2 l3 : Option AV} {i : Nat} : Rn (d) Q (16, 6, [l0, l1, l2, l3], vR (some (1, 0, i)) :: st, σ) = (i < gN σ 1 ∧ Rn (d) Q (16, 9, [l0, l1, l2, l3], vI (gI σ 1 0 i) :: st, σ)) := E_getI i16_6 ((congrArg (fun z => fldQ z 7) o16).trans f1_7) rfl
theorem e16_9 {d : Nat} {Q : Option AV → St → Prop} {st : List AV} {σ : St} {l0 l1 l2 l3 : Option AV} {x y : Int32} : Rn (d) Q (16, 9, [l0, l1, l2, l3], vI y :: vI x :: st, σ) = (if y ≤ x then Rn (d) Q (16, 46, [l0, l1, l2, l3], st, σ) else Rn (d) Q (16, 12, [l0, l1, l2, l3], st, σ)) := E_icmp_ge 46 i16_9 (by decide)
theorem e16_12 {d : Nat} {Q : Option AV → St → Prop} {st : List AV} {σ : St} {l1 l2 l3 : Option AV} {x : Option (Nat × Nat × Nat)} : Rn (d) Q (16, 12, [some (vR x), l1, l2, l3], st, σ) = Rn (d) Q (16, 13, [some (vR x), l1, l2, l3], vR x :: st, σ) := E_aload_n i16_12 rfl
theorem e16_13 {d : Nat} {Q : Option AV → St → Prop} {st : List AV} {σ : St} {l0 l1 l2 l3 : Option AV} {i : Nat} : Rn (d) Q (16, 13, [l0, l1, l2, l3], vR (some (1, 0, i)) :: st, σ) = (i < gN σ 1 ∧ ¬ gL σ 1 1 i = none ∧ Rn (d) Q (16, 16, [l0, l1, l2, l3], vR (some (1, 2, i)) :: st, σ)) := E_getA i16_13 ((congrArg (fun z => fldQ z 13) o16).trans f1_13) (Or.inl rfl)
theorem e16_16 {d : Nat} {Q : Option AV → St → Prop} {st : List AV} {σ : St} {l0 l1 l2 : Option AV} {x : Int32} : Rn (d) Q (16, 16, [l0, l1, l2, some (vI x)], st, σ) = Rn (d) Q (16, 17, [l0, l1, l2, some (vI x)], vI x :: st, σ) := E_iload_n i16_16 rfl
theorem e16_17 {d : Nat} {Q : Option AV → St → Prop} {st : List AV} {σ : St} {l0 l1 l2 l3 : Option AV} {i : Nat} {j : Int32} : Rn (d) Q (16, 17, [l0, l1, l2, l3], vI j :: vR (some (1, 2, i)) :: st, σ) = (∃ n, gL σ 1 1 i = some n ∧ i < gN σ 1 ∧ (0 ≤ j.toInt ∧ j.toInt < n) ∧ Rn (d) Q (16, 18, [l0, l1, l2, l3], vI (gA σ 1 1 i j.toNatClampNeg) :: st, σ)) := E_baload3 i16_17 rfl
theorem e16_18 {d : Nat} {Q : Option AV → St → Prop} {st : List AV} {σ : St} {l0 l1 l2 l3 : Option AV} {x : Int32} : Rn (d) Q (16, 18, [l0, l1, l2, l3], vI x :: st, σ) = (if x = 0 then Rn (d) Q (16, 40, [l0, l1, l2, l3], st, σ) else Rn (d) Q (16, 21, [l0, l1, l2, l3], st, σ)) := E_if_eq 40 i16_18 (by decide)
theorem e16_21 {d : Nat} {Q : Option AV → St → Prop} {st : List AV} {σ : St} {l1 l2 l3 : Option AV} {x : Option (Nat × Nat × Nat)} : Rn (d) Q (16, 21, [some (vR x), l1, l2, l3], st, σ) = Rn (d) Q (16, 22, [some (vR x), l1, l2, l3], vR x :: st, σ) := E_aload_n i16_21 rfl
theorem e16_22 {d : Nat} {Q : Option AV → St → Prop} {st : List AV} {σ : St} {l0 l1 l2 l3 : Option AV} {i : Nat} : Rn (d) Q (16, 22, [l0, l1, l2, l3], vR (some (1, 0, i)) :: st, σ) = (i < gN σ 1 ∧ ¬ gL σ 1 2 i = none ∧ Rn (d) Q (16, 25, [l0, l1, l2, l3], vR (some (1, 3, i)) :: st, σ)) := E_getA i16_22 ((congrArg (fun z => fldQ z 17) o16).trans f1_17) (Or.inl rfl)
theorem e16_25 {d : Nat} {Q : Option AV → St → Prop} {st : List AV} {σ : St} {l0 l1 l2 : Option AV} {x : Int32} : Rn (d) Q (16, 25, [l0, l1, l2, some (vI x)], st, σ) = Rn (d) Q (16, 26, [l0, l1, l2, some (vI x)], vI x :: st, σ) := E_iload_n i16_25 rfl
theorem e16_26 {d : Nat} {Q : Option AV → St → Prop} {st : List AV} {σ : St} {l0 l1 l2 l3 : Option AV} {i : Nat} {j : Int32} : Rn (d) Q (16, 26, [l0, l1, l2, l3], vI j :: vR (some (1, 3, i)) :: st, σ) = (∃ n, gL σ 1 2 i = some n ∧ i < gN σ 1 ∧ (0 ≤ j.toInt ∧ j.toInt < n) ∧ Rn (d) Q (16, 27, [l0, l1, l2, l3], vI (gA σ 1 2 i j.toNatClampNeg) :: st, σ)) := E_iaload1 i16_26 rfl
theorem e16_27 {d : Nat} {Q : Option AV → St → Prop} {st : List AV} {σ : St} {l0 l2 l3 : Option AV} {x : Int32} : Rn (d) Q (16, 27, [l0, some (vI x), l2, l3], st, σ) = Rn (d) Q (16, 28, [l0, some (vI x), l2, l3], vI x :: st, σ) := E_iload_n i16_27 rfl
theorem e16_28 {d : Nat} {Q : Option AV → St → Prop} {st : List AV} {σ : St} {l0 l1 l2 l3 : Option AV} {x y : Int32} : Rn (d) Q (16, 28, [l0, l1, l2, l3], vI y :: vI x :: st, σ) = (if y < x then Rn (d) Q (16, 40, [l0, l1, l2, l3], st, σ) else Rn (d) Q (16, 31, [l0, l1, l2, l3], st, σ)) := E_icmp_gt 40 i16_28 (by decide)
theorem e16_31 {d : Nat} {Q : Option AV → St → Prop} {st : List AV} {σ : St} {l0 l1 l3 : Option AV} {x : Int32} : Rn (d) Q (16, 31, [l0, l1, some (vI x), l3], st, σ) = Rn (d) Q (16, 32, [l0, l1, some (vI x), l3], vI x :: st, σ) := E_iload_n i16_31 rfl
theorem e16_32 {d : Nat} {Q : Option AV → St → Prop} {st : List AV} {σ : St} {l1 l2 l3 : Option AV} {x : Option (Nat × Nat × Nat)} : Rn (d) Q (16, 32, [some (vR x), l1, l2, l3], st, σ) = Rn (d) Q (16, 33, [some (vR x), l1, l2, l3], vR x :: st, σ) := E_aload_n i16_32 rfl
theorem e16_33 {d : Nat} {Q : Option AV → St → Prop} {st : List AV} {σ : St} {l0 l1 l2 l3 : Option AV} {i : Nat} : Rn (d) Q (16, 33, [l0, l1, l2, l3], vR (some (1, 0, i)) :: st, σ) = (i < gN σ 1 ∧ ¬ gL σ 1 3 i = none ∧ Rn (d) Q (16, 36, [l0, l1, l2, l3], vR (some (1, 4, i)) :: st, σ)) := E_getA i16_33 ((congrArg (fun z => fldQ z 21) o16).trans f1_21) (Or.inl rfl)
theorem e16_36 {d : Nat} {Q : Option AV → St → Prop} {st : List AV} {σ : St} {l0 l1 l2 : Option AV} {x : Int32} : Rn (d) Q (16, 36, [l0, l1, l2, some (vI x)], st, σ) = Rn (d) Q (16, 37, [l0, l1, l2, some (vI x)], vI x :: st, σ) := E_iload_n i16_36 rfl
theorem e16_37 {d : Nat} {Q : Option AV → St → Prop} {st : List AV} {σ : St} {l0 l1 l2 l3 : Option AV} {i : Nat} {j : Int32} : Rn (d) Q (16, 37, [l0, l1, l2, l3], vI j :: vR (some (1, 4, i)) :: st, σ) = (∃ n, gL σ 1 3 i = some n ∧ i < gN σ 1 ∧ (0 ≤ j.toInt ∧ j.toInt < n) ∧ Rn (d) Q (16, 38, [l0, l1, l2, l3], vI (gA σ 1 3 i j.toNatClampNeg) :: st, σ)) := E_iaload1 i16_37 rfl
theorem e16_38 {d : Nat} {Q : Option AV → St → Prop} {st : List AV} {σ : St} {l0 l1 l2 l3 : Option AV} {x y : Int32} : Rn (d) Q (16, 38, [l0, l1, l2, l3], vI y :: vI x :: st, σ) = Rn (d) Q (16, 39, [l0, l1, l2, l3], vI (x + y) :: st, σ) := E_iadd i16_38
theorem e16_39 {d : Nat} {Q : Option AV → St → Prop} {st : List AV} {σ : St} {l0 l1 l2 l3 : Option AV} {x : Int32} : Rn (d) Q (16, 39, [l0, l1, l2, l3], vI x :: st, σ) = Rn (d) Q (16, 40, [l0, l1, some (vI x), l3], st, σ) := E_istore_n i16_39 s16_2
theorem e16_40 {d : Nat} {Q : Option AV → St → Prop} {st : List AV} {σ : St} {l0 l1 l2 : Option AV} {x : Int32} : Rn (d) Q (16, 40, [l0, l1, l2, some (vI x)], st, σ) = Rn (d) Q (16, 43, [l0, l1, l2, some (vI (x + 1))], st, σ) := by rw [E_iinc i16_40 rfl (by rw [x16]; decide), show Int32.ofInt 1 = (1 : Int32) by decide +kernel]; rfl
theorem e16_43 {d : Nat} {Q : Option AV → St → Prop} {st : List AV} {σ : St} {l0 l1 l2 l3 : Option AV} : Rn (d) Q (16, 43, [l0, l1, l2, l3], st, σ) = Rn (d) Q (16, 4, [l0, l1, l2, l3], st, σ) := E_goto 4 i16_43 (by decide)
theorem e16_46 {d : Nat} {Q : Option AV → St → Prop} {st : List AV} {σ : St} {l0 l1 l3 : Option AV} {x : Int32} : Rn (d) Q (16, 46, [l0, l1, some (vI x), l3], st, σ) = Rn (d) Q (16, 47, [l0, l1, some (vI x), l3], vI x :: st, σ) := E_iload_n i16_46 rfl
theorem e16_47 {d : Nat} {Q : Option AV → St → Prop} {σ : St} {l0 l1 l2 l3 : Option AV} {x : Int32} : Rn (d) Q (16, 47, [l0, l1, l2, l3], [vI x], σ) = Q (some (vI x)) σ := E_iretI (st := []) i16_47 r16
theorem i17_0 : ins 17 0 = some (.iconst 0, 1) := (congrArg (fun x : PTy => x.1.lookup 0) q17).trans rfl
theorem i17_1 : ins 17 1 = some (.istore_n 2, 1) := (congrArg (fun x : PTy => x.1.lookup 1) q17).trans rfl
theorem i17_2 : ins 17 2 = some (.iload_n 2, 1) := (congrArg (fun x : PTy => x.1.lookup 2) q17).trans rfl
theorem i17_3 : ins 17 3 = some (.aload_n 0, 1) := (congrArg (fun x : PTy => x.1.lookup 3) q17).trans rfl
theorem i17_4 : ins 17 4 = some (.getfield 7, 3) := (congrArg (fun x : PTy => x.1.lookup 4) q17).trans rfl
theorem i17_7 : ins 17 7 = some (.if_icmp .ge 35, 3) := (congrArg (fun x : PTy => x.1.lookup 7) q17).trans rfl
theorem i17_10 : ins 17 10 = some (.aload_n 0, 1) := (congrArg (fun x : PTy => x.1.lookup 10) q17).trans rfl
theorem i17_11 : ins 17 11 = some (.getfield 13, 3) := (congrArg (fun x : PTy => x.1.lookup 11) q17).trans rfl
theorem i17_14 : ins 17 14 = some (.iload_n 2, 1) := (congrArg (fun x : PTy => x.1.lookup 14) q17).trans rfl
theorem i17_15 : ins 17 15 = some (.baload, 1) := (congrArg (fun x : PTy => x.1.lookup 15) q17).trans rfl
theorem i17_16 : ins 17 16 = some (.ifCond .ne 20, 3) := (congrArg (fun x : PTy => x.1.lookup 16) q17).trans rfl
theorem i17_19 : ins 17 19 = some (.iload_n 1, 1) := (congrArg (fun x : PTy => x.1.lookup 19) q17).trans rfl
theorem i17_20 : ins 17 20 = some (.aload_n 0, 1) := (congrArg (fun x : PTy => x.1.lookup 20) q17).trans rfl
theorem i17_21 : ins 17 21 = some (.getfield 17, 3) := (congrArg (fun x : PTy => x.1.lookup 21) q17).trans rfl
theorem i17_24 : ins 17 24 = some (.iload_n 2, 1) := (congrArg (fun x : PTy => x.1.lookup 24) q17).trans rfl
theorem i17_25 : ins 17 25 = some (.iaload, 1) := (congrArg (fun x : PTy => x.1.lookup 25) q17).trans rfl
theorem i17_26 : ins 17 26 = some (.if_icmp .gt 10, 3) := (congrArg (fun x : PTy => x.1.lookup 26) q17).trans rfl
theorem i17_29 : ins 17 29 = some (.aload_n 0, 1) := (congrArg (fun x : PTy => x.1.lookup 29) q17).trans rfl
theorem i17_30 : ins 17 30 = some (.getfield 21, 3) := (congrArg (fun x : PTy => x.1.lookup 30) q17).trans rfl
theorem i17_33 : ins 17 33 = some (.iload_n 2, 1) := (congrArg (fun x : PTy => x.1.lookup 33) q17).trans rfl
theorem i17_34 : ins 17 34 = some (.iaload, 1) := (congrArg (fun x : PTy => x.1.lookup 34) q17).trans rfl
theorem i17_35 : ins 17 35 = some (.ireturn, 1) := (congrArg (fun x : PTy => x.1.lookup 35) q17).trans rfl
theorem i17_36 : ins 17 36 = some (.iinc 2 1, 3) := (congrArg (fun x : PTy => x.1.lookup 36) q17).trans rfl
theorem i17_39 : ins 17 39 = some (.goto (-37), 3) := (congrArg (fun x : PTy => x.1.lookup 39) q17).trans rfl
theorem i17_42 : ins 17 42 = some (.iconst 0, 1) := (congrArg (fun x : PTy => x.1.lookup 42) q17).trans rfl
theorem i17_43 : ins 17 43 = some (.ireturn, 1) := (congrArg (fun x : PTy => x.1.lookup 43) q17).trans rfl
theorem e17_0 {d : Nat} {Q : Option AV → St → Prop} {st : List AV} {σ : St} {l0 l1 l2 : Option AV} : Rn (d) Q (17, 0, [l0, l1, l2], st, σ) = Rn (d) Q (17, 1, [l0, l1, l2], vI 0 :: st, σ) := by rw [E_iconst i17_0, ci_0]
theorem s17_2 : okst 17 2 = true := by unfold okst; rw [x17]; rfl
theorem e17_1 {d : Nat} {Q : Option AV → St → Prop} {st : List AV} {σ : St} {l0 l1 l2 : Option AV} {x : Int32} : Rn (d) Q (17, 1, [l0, l1, l2], vI x :: st, σ) = Rn (d) Q (17, 2, [l0, l1, some (vI x)], st, σ) := E_istore_n i17_1 s17_2
theorem e17_2 {d : Nat} {Q : Option AV → St → Prop} {st : List AV} {σ : St} {l0 l1 : Option AV} {x : Int32} : Rn (d) Q (17, 2, [l0, l1, some (vI x)], st, σ) = Rn (d) Q (17, 3, [l0, l1, some (vI x)], vI x :: st, σ) := E_iload_n i17_2 rfl
theorem e17_3 {d : Nat} {Q : Option AV → St → Prop} {st : List AV} {σ : St} {l1 l2 : Option AV} {x : Option (Nat × Nat × Nat)} : Rn (d) Q (17, 3, [some (vR x), l1, l2], st, σ) = Rn (d) Q (17, 4, [some (vR x), l1, l2], vR x :: st, σ) := E_aload_n i17_3 rfl
theorem e17_4 {d : Nat} {Q : Option AV → St → Prop} {st : List AV} {σ : St} {l0 l1 l2 : Option AV} {i : Nat} : Rn (d) Q (17, 4, [l0, l1, l2], vR (some (1, 0, i)) :: st, σ) = (i < gN σ 1 ∧ Rn (d) Q (17, 7, [l0, l1, l2], vI (gI σ 1 0 i) :: st, σ)) := E_getI i17_4 ((congrArg (fun z => fldQ z 7) o17).trans f1_7) rfl
theorem e17_7 {d : Nat} {Q : Option AV → St → Prop} {st : List AV} {σ : St} {l0 l1 l2 : Option AV} {x y : Int32} : Rn (d) Q (17, 7, [l0, l1, l2], vI y :: vI x :: st, σ) = (if y ≤ x then Rn (d) Q (17, 42, [l0, l1, l2], st, σ) else Rn (d) Q (17, 10, [l0, l1, l2], st, σ)) := E_icmp_ge 42 i17_7 (by decide)
theorem e17_10 {d : Nat} {Q : Option AV → St → Prop} {st : List AV} {σ : St} {l1 l2 : Option AV} {x : Option (Nat × Nat × Nat)} : Rn (d) Q (17, 10, [some (vR x), l1, l2], st, σ) = Rn (d) Q (17, 11, [some (vR x), l1, l2], vR x :: st, σ) := E_aload_n i17_10 rfl
theorem e17_11 {d : Nat} {Q : Option AV → St → Prop} {st : List AV} {σ : St} {l0 l1 l2 : Option AV} {i : Nat} : Rn (d) Q (17, 11, [l0, l1, l2], vR (some (1, 0, i)) :: st, σ) = (i < gN σ 1 ∧ ¬ gL σ 1 1 i = none ∧ Rn (d) Q (17, 14, [l0, l1, l2], vR (some (1, 2, i)) :: st, σ)) := E_getA i17_11 ((congrArg (fun z => fldQ z 13) o17).trans f1_13) (Or.inl rfl)
theorem e17_14 {d : Nat} {Q : Option AV → St → Prop} {st : List AV} {σ : St} {l0 l1 : Option AV} {x : Int32} : Rn (d) Q (17, 14, [l0, l1, some (vI x)], st, σ) = Rn (d) Q (17, 15, [l0, l1, some (vI x)], vI x :: st, σ) := E_iload_n i17_14 rfl
theorem e17_15 {d : Nat} {Q : Option AV → St → Prop} {st : List AV} {σ : St} {l0 l1 l2 : Option AV} {i : Nat} {j : Int32} : Rn (d) Q (17, 15, [l0, l1, l2], vI j :: vR (some (1, 2, i)) :: st, σ) = (∃ n, gL σ 1 1 i = some n ∧ i < gN σ 1 ∧ (0 ≤ j.toInt ∧ j.toInt < n) ∧ Rn (d) Q (17, 16, [l0, l1, l2], vI (gA σ 1 1 i j.toNatClampNeg) :: st, σ)) := E_baload3 i17_15 rfl
theorem e17_16 {d : Nat} {Q : Option AV → St → Prop} {st : List AV} {σ : St} {l0 l1 l2 : Option AV} {x : Int32} : Rn (d) Q (17, 16, [l0, l1, l2], vI x :: st, σ) = (if x = 0 then Rn (d) Q (17, 19, [l0, l1, l2], st, σ) else Rn (d) Q (17, 36, [l0, l1, l2], st, σ)) := E_if_ne 36 i17_16 (by decide)
theorem e17_19 {d : Nat} {Q : Option AV → St → Prop} {st : List AV} {σ : St} {l0 l2 : Option AV} {x : Int32} : Rn (d) Q (17, 19, [l0, some (vI x), l2], st, σ) = Rn (d) Q (17, 20, [l0, some (vI x), l2], vI x :: st, σ) := E_iload_n i17_19 rfl
theorem e17_20 {d : Nat} {Q : Option AV → St → Prop} {st : List AV} {σ : St} {l1 l2 : Option AV} {x : Option (Nat × Nat × Nat)} : Rn (d) Q (17, 20, [some (vR x), l1, l2], st, σ) = Rn (d) Q (17, 21, [some (vR x), l1, l2], vR x :: st, σ) := E_aload_n i17_20 rfl
theorem e17_21 {d : Nat} {Q : Option AV → St → Prop} {st : List AV} {σ : St} {l0 l1 l2 : Option AV} {i : Nat} : Rn (d) Q (17, 21, [l0, l1, l2], vR (some (1, 0, i)) :: st, σ) = (i < gN σ 1 ∧ ¬ gL σ 1 2 i = none ∧ Rn (d) Q (17, 24, [l0, l1, l2], vR (some (1, 3, i)) :: st, σ)) := E_getA i17_21 ((congrArg (fun z => fldQ z 17) o17).trans f1_17) (Or.inl rfl)
theorem e17_24 {d : Nat} {Q : Option AV → St → Prop} {st : List AV} {σ : St} {l0 l1 : Option AV} {x : Int32} : Rn (d) Q (17, 24, [l0, l1, some (vI x)], st, σ) = Rn (d) Q (17, 25, [l0, l1, some (vI x)], vI x :: st, σ) := E_iload_n i17_24 rfl
theorem e17_25 {d : Nat} {Q : Option AV → St → Prop} {st : List AV} {σ : St} {l0 l1 l2 : Option AV} {i : Nat} {j : Int32} : Rn (d) Q (17, 25, [l0, l1, l2], vI j :: vR (some (1, 3, i)) :: st, σ) = (∃ n, gL σ 1 2 i = some n ∧ i < gN σ 1 ∧ (0 ≤ j.toInt ∧ j.toInt < n) ∧ Rn (d) Q (17, 26, [l0, l1, l2], vI (gA σ 1 2 i j.toNatClampNeg) :: st, σ)) := E_iaload1 i17_25 rfl
theorem e17_26 {d : Nat} {Q : Option AV → St → Prop} {st : List AV} {σ : St} {l0 l1 l2 : Option AV} {x y : Int32} : Rn (d) Q (17, 26, [l0, l1, l2], vI y :: vI x :: st, σ) = (if y < x then Rn (d) Q (17, 36, [l0, l1, l2], st, σ) else Rn (d) Q (17, 29, [l0, l1, l2], st, σ)) := E_icmp_gt 36 i17_26 (by decide)
theorem e17_29 {d : Nat} {Q : Option AV → St → Prop} {st : List AV} {σ : St} {l1 l2 : Option AV} {x : Option (Nat × Nat × Nat)} : Rn (d) Q (17, 29, [some (vR x), l1, l2], st, σ) = Rn (d) Q (17, 30, [some (vR x), l1, l2], vR x :: st, σ) := E_aload_n i17_29 rfl
theorem e17_30 {d : Nat} {Q : Option AV → St → Prop} {st : List AV} {σ : St} {l0 l1 l2 : Option AV} {i : Nat} : Rn (d) Q (17, 30, [l0, l1, l2], vR (some (1, 0, i)) :: st, σ) = (i < gN σ 1 ∧ ¬ gL σ 1 3 i = none ∧ Rn (d) Q (17, 33, [l0, l1, l2], vR (some (1, 4, i)) :: st, σ)) := E_getA i17_30 ((congrArg (fun z => fldQ z 21) o17).trans f1_21) (Or.inl rfl)
theorem e17_33 {d : Nat} {Q : Option AV → St → Prop} {st : List AV} {σ : St} {l0 l1 : Option AV} {x : Int32} : Rn (d) Q (17, 33, [l0, l1, some (vI x)], st, σ) = Rn (d) Q (17, 34, [l0, l1, some (vI x)], vI x :: st, σ) := E_iload_n i17_33 rfl
theorem e17_34 {d : Nat} {Q : Option AV → St → Prop} {st : List AV} {σ : St} {l0 l1 l2 : Option AV} {i : Nat} {j : Int32} : Rn (d) Q (17, 34, [l0, l1, l2], vI j :: vR (some (1, 4, i)) :: st, σ) = (∃ n, gL σ 1 3 i = some n ∧ i < gN σ 1 ∧ (0 ≤ j.toInt ∧ j.toInt < n) ∧ Rn (d) Q (17, 35, [l0, l1, l2], vI (gA σ 1 3 i j.toNatClampNeg) :: st, σ)) := E_iaload1 i17_34 rfl
theorem e17_35 {d : Nat} {Q : Option AV → St → Prop} {σ : St} {l0 l1 l2 : Option AV} {x : Int32} : Rn (d) Q (17, 35, [l0, l1, l2], [vI x], σ) = Q (some (vI x)) σ := E_iretI (st := []) i17_35 r17
theorem e17_36 {d : Nat} {Q : Option AV → St → Prop} {st : List AV} {σ : St} {l0 l1 : Option AV} {x : Int32} : Rn (d) Q (17, 36, [l0, l1, some (vI x)], st, σ) = Rn (d) Q (17, 39, [l0, l1, some (vI (x + 1))], st, σ) := by rw [E_iinc i17_36 rfl (by rw [x17]; decide), show Int32.ofInt 1 = (1 : Int32) by decide +kernel]; rfl
theorem e17_39 {d : Nat} {Q : Option AV → St → Prop} {st : List AV} {σ : St} {l0 l1 l2 : Option AV} : Rn (d) Q (17, 39, [l0, l1, l2], st, σ) = Rn (d) Q (17, 2, [l0, l1, l2], st, σ) := E_goto 2 i17_39 (by decide)
theorem e17_42 {d : Nat} {Q : Option AV → St → Prop} {st : List AV} {σ : St} {l0 l1 l2 : Option AV} : Rn (d) Q (17, 42, [l0, l1, l2], st, σ) = Rn (d) Q (17, 43, [l0, l1, l2], vI 0 :: st, σ) := by rw [E_iconst i17_42, ci_0]
theorem e17_43 {d : Nat} {Q : Option AV → St → Prop} {σ : St} {l0 l1 l2 : Option AV} {x : Int32} : Rn (d) Q (17, 43, [l0, l1, l2], [vI x], σ) = Q (some (vI x)) σ := E_iretI (st := []) i17_43 r17
theorem i18_0 : ins 18 0 = some (.aload_n 0, 1) := (congrArg (fun x : PTy => x.1.lookup 0) q18).trans rfl
theorem i18_1 : ins 18 1 = some (.invokespecial 3, 3) := (congrArg (fun x : PTy => x.1.lookup 1) q18).trans rfl
theorem i18_4 : ins 18 4 = some (.aload_n 0, 1) := (congrArg (fun x : PTy => x.1.lookup 4) q18).trans rfl
theorem i18_5 : ins 18 5 = some (.sipush 512, 3) := (congrArg (fun x : PTy => x.1.lookup 5) q18).trans rfl
theorem i18_8 : ins 18 8 = some (.newarray .byte, 2) := (congrArg (fun x : PTy => x.1.lookup 8) q18).trans rfl
theorem i18_10 : ins 18 10 = some (.putfield 9, 3) := (congrArg (fun x : PTy => x.1.lookup 10) q18).trans rfl
theorem i18_13 : ins 18 13 = some (.aload_n 0, 1) := (congrArg (fun x : PTy => x.1.lookup 13) q18).trans rfl
theorem i18_14 : ins 18 14 = some (.sipush 512, 3) := (congrArg (fun x : PTy => x.1.lookup 14) q18).trans rfl
theorem i18_17 : ins 18 17 = some (.newarray .int, 2) := (congrArg (fun x : PTy => x.1.lookup 17) q18).trans rfl
theorem i18_19 : ins 18 19 = some (.putfield 15, 3) := (congrArg (fun x : PTy => x.1.lookup 19) q18).trans rfl
theorem i18_22 : ins 18 22 = some (.aload_n 0, 1) := (congrArg (fun x : PTy => x.1.lookup 22) q18).trans rfl
theorem i18_23 : ins 18 23 = some (.sipush 512, 3) := (congrArg (fun x : PTy => x.1.lookup 23) q18).trans rfl
theorem i18_26 : ins 18 26 = some (.newarray .short, 2) := (congrArg (fun x : PTy => x.1.lookup 26) q18).trans rfl
theorem i18_28 : ins 18 28 = some (.putfield 19, 3) := (congrArg (fun x : PTy => x.1.lookup 28) q18).trans rfl
theorem i18_31 : ins 18 31 = some (.aload_n 0, 1) := (congrArg (fun x : PTy => x.1.lookup 31) q18).trans rfl
theorem i18_32 : ins 18 32 = some (.iconst 0, 1) := (congrArg (fun x : PTy => x.1.lookup 32) q18).trans rfl
theorem i18_33 : ins 18 33 = some (.putfield 23, 3) := (congrArg (fun x : PTy => x.1.lookup 33) q18).trans rfl
theorem i18_36 : ins 18 36 = some (.return_, 1) := (congrArg (fun x : PTy => x.1.lookup 36) q18).trans rfl
theorem e18_0 {d : Nat} {Q : Option AV → St → Prop} {st : List AV} {σ : St}  {x : Option (Nat × Nat × Nat)} : Rn (d) Q (18, 0, [some (vR x)], st, σ) = Rn (d) Q (18, 1, [some (vR x)], vR x :: st, σ) := E_aload_n i18_0 rfl
theorem e18_1 {d : Nat} {Q : Option AV → St → Prop} {st : List AV} {σ : St} {l0 : Option AV} {x : Nat × Nat × Nat} : Rn (d) Q (18, 1, [l0], vR (some x) :: st, σ) = (catS st ≤ 8 ∧ Rn (d) Q (18, 4, [l0], st, σ)) := E_objInit i18_1 ((congrArg (fun z => mthQ z 3) o18).trans m2_3)
theorem e18_4 {d : Nat} {Q : Option AV → St → Prop} {st : List AV} {σ : St}  {x : Option (Nat × Nat × Nat)} : Rn (d) Q (18, 4, [some (vR x)], st, σ) = Rn (d) Q (18, 5, [some (vR x)], vR x :: st, σ) := E_aload_n i18_4 rfl
theorem e18_5 {d : Nat} {Q : Option AV → St → Prop} {st : List AV} {σ : St} {l0 : Option AV} : Rn (d) Q (18, 5, [l0], st, σ) = Rn (d) Q (18, 8, [l0], vI 512 :: st, σ) := by rw [E_sipush i18_5, cs_512]
theorem e18_8 {d : Nat} {Q : Option AV → St → Prop} {st : List AV} {σ : St} {l0 : Option AV} {i : Nat} : Rn (d) Q (18, 8, [l0], vI 512 :: vR (some (2, 0, i)) :: st, σ) = (i < gN σ 2 ∧ gL σ 2 0 i = none ∧ Rn (d) Q (18, 13, [l0], st, newA σ 2 0 i 512)) := by rw [E_newarray i18_8 i18_10 ((congrArg (fun z => fldQ z 9) o18).trans f2_9) ⟨rfl, rfl⟩ (by decide) (Or.inr ⟨n18, o18⟩) (by decide +kernel), show (512 : Int32).toNatClampNeg = 512 by decide +kernel]
theorem e18_13 {d : Nat} {Q : Option AV → St → Prop} {st : List AV} {σ : St}  {x : Option (Nat × Nat × Nat)} : Rn (d) Q (18, 13, [some (vR x)], st, σ) = Rn (d) Q (18, 14, [some (vR x)], vR x :: st, σ) := E_aload_n i18_13 rfl
theorem e18_14 {d : Nat} {Q : Option AV → St → Prop} {st : List AV} {σ : St} {l0 : Option AV} : Rn (d) Q (18, 14, [l0], st, σ) = Rn (d) Q (18, 17, [l0], vI 512 :: st, σ) := by rw [E_sipush i18_14, cs_512]
theorem e18_17 {d : Nat} {Q : Option AV → St → Prop} {st : List AV} {σ : St} {l0 : Option AV} {i : Nat} : Rn (d) Q (18, 17, [l0], vI 512 :: vR (some (2, 0, i)) :: st, σ) = (i < gN σ 2 ∧ gL σ 2 1 i = none ∧ Rn (d) Q (18, 22, [l0], st, newA σ 2 1 i 512)) := by rw [E_newarray i18_17 i18_19 ((congrArg (fun z => fldQ z 15) o18).trans f2_15) ⟨rfl, rfl⟩ (by decide) (Or.inr ⟨n18, o18⟩) (by decide +kernel), show (512 : Int32).toNatClampNeg = 512 by decide +kernel]
theorem e18_22 {d : Nat} {Q : Option AV → St → Prop} {st : List AV} {σ : St}  {x : Option (Nat × Nat × Nat)} : Rn (d) Q (18, 22, [some (vR x)], st, σ) = Rn (d) Q (18, 23, [some (vR x)], vR x :: st, σ) := E_aload_n i18_22 rfl
theorem e18_23 {d : Nat} {Q : Option AV → St → Prop} {st : List AV} {σ : St} {l0 : Option AV} : Rn (d) Q (18, 23, [l0], st, σ) = Rn (d) Q (18, 26, [l0], vI 512 :: st, σ) := by rw [E_sipush i18_23, cs_512]
theorem e18_26 {d : Nat} {Q : Option AV → St → Prop} {st : List AV} {σ : St} {l0 : Option AV} {i : Nat} : Rn (d) Q (18, 26, [l0], vI 512 :: vR (some (2, 0, i)) :: st, σ) = (i < gN σ 2 ∧ gL σ 2 2 i = none ∧ Rn (d) Q (18, 31, [l0], st, newA σ 2 2 i 512)) := by rw [E_newarray i18_26 i18_28 ((congrArg (fun z => fldQ z 19) o18).trans f2_19) ⟨rfl, rfl⟩ (by decide) (Or.inr ⟨n18, o18⟩) (by decide +kernel), show (512 : Int32).toNatClampNeg = 512 by decide +kernel]
theorem e18_31 {d : Nat} {Q : Option AV → St → Prop} {st : List AV} {σ : St}  {x : Option (Nat × Nat × Nat)} : Rn (d) Q (18, 31, [some (vR x)], st, σ) = Rn (d) Q (18, 32, [some (vR x)], vR x :: st, σ) := E_aload_n i18_31 rfl
theorem e18_32 {d : Nat} {Q : Option AV → St → Prop} {st : List AV} {σ : St} {l0 : Option AV} : Rn (d) Q (18, 32, [l0], st, σ) = Rn (d) Q (18, 33, [l0], vI 0 :: st, σ) := by rw [E_iconst i18_32, ci_0]
theorem e18_33 {d : Nat} {Q : Option AV → St → Prop} {st : List AV} {σ : St} {l0 : Option AV} {i : Nat} {x : Int32} : Rn (d) Q (18, 33, [l0], vI x :: vR (some (2, 0, i)) :: st, σ) = (i < gN σ 2 ∧ Rn (d) Q (18, 36, [l0], st, setI σ 2 3 i x)) := E_putI i18_33 ((congrArg (fun z => fldQ z 23) o18).trans f2_23) rfl (Or.inl rfl)
theorem e18_36 {d : Nat} {Q : Option AV → St → Prop} {σ : St} {l0 : Option AV} : Rn (d) Q (18, 36, [l0], [], σ) = Q none σ := E_ret (st := []) i18_36 r18
theorem i19_0 : ins 19 0 = some (.aload_n 0, 1) := (congrArg (fun x : PTy => x.1.lookup 0) q19).trans rfl
theorem i19_1 : ins 19 1 = some (.getfield 23, 3) := (congrArg (fun x : PTy => x.1.lookup 1) q19).trans rfl
theorem i19_4 : ins 19 4 = some (.sipush 512, 3) := (congrArg (fun x : PTy => x.1.lookup 4) q19).trans rfl
theorem i19_7 : ins 19 7 = some (.if_icmp .lt 5, 3) := (congrArg (fun x : PTy => x.1.lookup 7) q19).trans rfl
theorem i19_10 : ins 19 10 = some (.iconst 0, 1) := (congrArg (fun x : PTy => x.1.lookup 10) q19).trans rfl
theorem i19_11 : ins 19 11 = some (.ireturn, 1) := (congrArg (fun x : PTy => x.1.lookup 11) q19).trans rfl
theorem i19_12 : ins 19 12 = some (.aload_n 0, 1) := (congrArg (fun x : PTy => x.1.lookup 12) q19).trans rfl
theorem i19_13 : ins 19 13 = some (.getfield 9, 3) := (congrArg (fun x : PTy => x.1.lookup 13) q19).trans rfl
theorem i19_16 : ins 19 16 = some (.aload_n 0, 1) := (congrArg (fun x : PTy => x.1.lookup 16) q19).trans rfl
theorem i19_17 : ins 19 17 = some (.getfield 23, 3) := (congrArg (fun x : PTy => x.1.lookup 17) q19).trans rfl
theorem i19_20 : ins 19 20 = some (.iload_n 1, 1) := (congrArg (fun x : PTy => x.1.lookup 20) q19).trans rfl
theorem i19_21 : ins 19 21 = some (.i2b, 1) := (congrArg (fun x : PTy => x.1.lookup 21) q19).trans rfl
theorem i19_22 : ins 19 22 = some (.bastore, 1) := (congrArg (fun x : PTy => x.1.lookup 22) q19).trans rfl
theorem i19_23 : ins 19 23 = some (.aload_n 0, 1) := (congrArg (fun x : PTy => x.1.lookup 23) q19).trans rfl
theorem i19_24 : ins 19 24 = some (.getfield 15, 3) := (congrArg (fun x : PTy => x.1.lookup 24) q19).trans rfl
theorem i19_27 : ins 19 27 = some (.aload_n 0, 1) := (congrArg (fun x : PTy => x.1.lookup 27) q19).trans rfl
theorem i19_28 : ins 19 28 = some (.getfield 23, 3) := (congrArg (fun x : PTy => x.1.lookup 28) q19).trans rfl
theorem i19_31 : ins 19 31 = some (.iload_n 2, 1) := (congrArg (fun x : PTy => x.1.lookup 31) q19).trans rfl
theorem i19_32 : ins 19 32 = some (.iastore, 1) := (congrArg (fun x : PTy => x.1.lookup 32) q19).trans rfl
theorem i19_33 : ins 19 33 = some (.aload_n 0, 1) := (congrArg (fun x : PTy => x.1.lookup 33) q19).trans rfl
theorem i19_34 : ins 19 34 = some (.getfield 19, 3) := (congrArg (fun x : PTy => x.1.lookup 34) q19).trans rfl
theorem i19_37 : ins 19 37 = some (.aload_n 0, 1) := (congrArg (fun x : PTy => x.1.lookup 37) q19).trans rfl
theorem i19_38 : ins 19 38 = some (.getfield 23, 3) := (congrArg (fun x : PTy => x.1.lookup 38) q19).trans rfl
theorem i19_41 : ins 19 41 = some (.iload_n 3, 1) := (congrArg (fun x : PTy => x.1.lookup 41) q19).trans rfl
theorem i19_42 : ins 19 42 = some (.i2s, 1) := (congrArg (fun x : PTy => x.1.lookup 42) q19).trans rfl
theorem i19_43 : ins 19 43 = some (.sastore, 1) := (congrArg (fun x : PTy => x.1.lookup 43) q19).trans rfl
theorem i19_44 : ins 19 44 = some (.aload_n 0, 1) := (congrArg (fun x : PTy => x.1.lookup 44) q19).trans rfl
theorem i19_45 : ins 19 45 = some (.dup, 1) := (congrArg (fun x : PTy => x.1.lookup 45) q19).trans rfl
theorem i19_46 : ins 19 46 = some (.getfield 23, 3) := (congrArg (fun x : PTy => x.1.lookup 46) q19).trans rfl
theorem i19_49 : ins 19 49 = some (.iconst 1, 1) := (congrArg (fun x : PTy => x.1.lookup 49) q19).trans rfl
theorem i19_50 : ins 19 50 = some (.iadd, 1) := (congrArg (fun x : PTy => x.1.lookup 50) q19).trans rfl
theorem i19_51 : ins 19 51 = some (.putfield 23, 3) := (congrArg (fun x : PTy => x.1.lookup 51) q19).trans rfl
theorem i19_54 : ins 19 54 = some (.iconst 1, 1) := (congrArg (fun x : PTy => x.1.lookup 54) q19).trans rfl
theorem i19_55 : ins 19 55 = some (.ireturn, 1) := (congrArg (fun x : PTy => x.1.lookup 55) q19).trans rfl
theorem e19_0 {d : Nat} {Q : Option AV → St → Prop} {st : List AV} {σ : St} {l1 l2 l3 : Option AV} {x : Option (Nat × Nat × Nat)} : Rn (d) Q (19, 0, [some (vR x), l1, l2, l3], st, σ) = Rn (d) Q (19, 1, [some (vR x), l1, l2, l3], vR x :: st, σ) := E_aload_n i19_0 rfl
theorem e19_1 {d : Nat} {Q : Option AV → St → Prop} {st : List AV} {σ : St} {l0 l1 l2 l3 : Option AV} {i : Nat} : Rn (d) Q (19, 1, [l0, l1, l2, l3], vR (some (2, 0, i)) :: st, σ) = (i < gN σ 2 ∧ Rn (d) Q (19, 4, [l0, l1, l2, l3], vI (gI σ 2 3 i) :: st, σ)) := E_getI i19_1 ((congrArg (fun z => fldQ z 23) o19).trans f2_23) rfl
theorem e19_4 {d : Nat} {Q : Option AV → St → Prop} {st : List AV} {σ : St} {l0 l1 l2 l3 : Option AV} : Rn (d) Q (19, 4, [l0, l1, l2, l3], st, σ) = Rn (d) Q (19, 7, [l0, l1, l2, l3], vI 512 :: st, σ) := by rw [E_sipush i19_4, cs_512]
theorem e19_7 {d : Nat} {Q : Option AV → St → Prop} {st : List AV} {σ : St} {l0 l1 l2 l3 : Option AV} {x y : Int32} : Rn (d) Q (19, 7, [l0, l1, l2, l3], vI y :: vI x :: st, σ) = (if x < y then Rn (d) Q (19, 12, [l0, l1, l2, l3], st, σ) else Rn (d) Q (19, 10, [l0, l1, l2, l3], st, σ)) := E_icmp_lt 12 i19_7 (by decide)
theorem e19_10 {d : Nat} {Q : Option AV → St → Prop} {st : List AV} {σ : St} {l0 l1 l2 l3 : Option AV} : Rn (d) Q (19, 10, [l0, l1, l2, l3], st, σ) = Rn (d) Q (19, 11, [l0, l1, l2, l3], vI 0 :: st, σ) := by rw [E_iconst i19_10, ci_0]
theorem e19_11 {d : Nat} {Q : Option AV → St → Prop} {σ : St} {l0 l1 l2 l3 : Option AV} {x : Int32} : Rn (d) Q (19, 11, [l0, l1, l2, l3], [vI x], σ) = ((x = 0 ∨ x = 1) ∧ Q (some (vI x)) σ) := E_iretZ (st := []) i19_11 r19
theorem e19_12 {d : Nat} {Q : Option AV → St → Prop} {st : List AV} {σ : St} {l1 l2 l3 : Option AV} {x : Option (Nat × Nat × Nat)} : Rn (d) Q (19, 12, [some (vR x), l1, l2, l3], st, σ) = Rn (d) Q (19, 13, [some (vR x), l1, l2, l3], vR x :: st, σ) := E_aload_n i19_12 rfl
theorem e19_13 {d : Nat} {Q : Option AV → St → Prop} {st : List AV} {σ : St} {l0 l1 l2 l3 : Option AV} {i : Nat} : Rn (d) Q (19, 13, [l0, l1, l2, l3], vR (some (2, 0, i)) :: st, σ) = (i < gN σ 2 ∧ ¬ gL σ 2 0 i = none ∧ Rn (d) Q (19, 16, [l0, l1, l2, l3], vR (some (2, 1, i)) :: st, σ)) := E_getA i19_13 ((congrArg (fun z => fldQ z 9) o19).trans f2_9) (Or.inl rfl)
theorem e19_16 {d : Nat} {Q : Option AV → St → Prop} {st : List AV} {σ : St} {l1 l2 l3 : Option AV} {x : Option (Nat × Nat × Nat)} : Rn (d) Q (19, 16, [some (vR x), l1, l2, l3], st, σ) = Rn (d) Q (19, 17, [some (vR x), l1, l2, l3], vR x :: st, σ) := E_aload_n i19_16 rfl
theorem e19_17 {d : Nat} {Q : Option AV → St → Prop} {st : List AV} {σ : St} {l0 l1 l2 l3 : Option AV} {i : Nat} : Rn (d) Q (19, 17, [l0, l1, l2, l3], vR (some (2, 0, i)) :: st, σ) = (i < gN σ 2 ∧ Rn (d) Q (19, 20, [l0, l1, l2, l3], vI (gI σ 2 3 i) :: st, σ)) := E_getI i19_17 ((congrArg (fun z => fldQ z 23) o19).trans f2_23) rfl
theorem e19_20 {d : Nat} {Q : Option AV → St → Prop} {st : List AV} {σ : St} {l0 l2 l3 : Option AV} {x : Int32} : Rn (d) Q (19, 20, [l0, some (vI x), l2, l3], st, σ) = Rn (d) Q (19, 21, [l0, some (vI x), l2, l3], vI x :: st, σ) := E_iload_n i19_20 rfl
theorem e19_21 {d : Nat} {Q : Option AV → St → Prop} {st : List AV} {σ : St} {l0 l1 l2 l3 : Option AV} {x : Int32} : Rn (d) Q (19, 21, [l0, l1, l2, l3], vI x :: st, σ) = Rn (d) Q (19, 22, [l0, l1, l2, l3], vI x.toInt8.toInt32 :: st, σ) := E_i2b i19_21
theorem e19_22 {d : Nat} {Q : Option AV → St → Prop} {st : List AV} {σ : St} {l0 l1 l2 l3 : Option AV} {i : Nat} {j x : Int32} : Rn (d) Q (19, 22, [l0, l1, l2, l3], vI x :: vI j :: vR (some (2, 1, i)) :: st, σ) = (∃ n, gL σ 2 0 i = some n ∧ i < gN σ 2 ∧ (0 ≤ j.toInt ∧ j.toInt < n) ∧ Rn (d) Q (19, 23, [l0, l1, l2, l3], st, setA σ 2 0 i (upd (gA σ 2 0 i) j.toNatClampNeg x.toInt8.toInt32))) := E_bastore0 i19_22 rfl (by decide)
theorem e19_23 {d : Nat} {Q : Option AV → St → Prop} {st : List AV} {σ : St} {l1 l2 l3 : Option AV} {x : Option (Nat × Nat × Nat)} : Rn (d) Q (19, 23, [some (vR x), l1, l2, l3], st, σ) = Rn (d) Q (19, 24, [some (vR x), l1, l2, l3], vR x :: st, σ) := E_aload_n i19_23 rfl
theorem e19_24 {d : Nat} {Q : Option AV → St → Prop} {st : List AV} {σ : St} {l0 l1 l2 l3 : Option AV} {i : Nat} : Rn (d) Q (19, 24, [l0, l1, l2, l3], vR (some (2, 0, i)) :: st, σ) = (i < gN σ 2 ∧ ¬ gL σ 2 1 i = none ∧ Rn (d) Q (19, 27, [l0, l1, l2, l3], vR (some (2, 2, i)) :: st, σ)) := E_getA i19_24 ((congrArg (fun z => fldQ z 15) o19).trans f2_15) (Or.inl rfl)
theorem e19_27 {d : Nat} {Q : Option AV → St → Prop} {st : List AV} {σ : St} {l1 l2 l3 : Option AV} {x : Option (Nat × Nat × Nat)} : Rn (d) Q (19, 27, [some (vR x), l1, l2, l3], st, σ) = Rn (d) Q (19, 28, [some (vR x), l1, l2, l3], vR x :: st, σ) := E_aload_n i19_27 rfl
theorem e19_28 {d : Nat} {Q : Option AV → St → Prop} {st : List AV} {σ : St} {l0 l1 l2 l3 : Option AV} {i : Nat} : Rn (d) Q (19, 28, [l0, l1, l2, l3], vR (some (2, 0, i)) :: st, σ) = (i < gN σ 2 ∧ Rn (d) Q (19, 31, [l0, l1, l2, l3], vI (gI σ 2 3 i) :: st, σ)) := E_getI i19_28 ((congrArg (fun z => fldQ z 23) o19).trans f2_23) rfl
theorem e19_31 {d : Nat} {Q : Option AV → St → Prop} {st : List AV} {σ : St} {l0 l1 l3 : Option AV} {x : Int32} : Rn (d) Q (19, 31, [l0, l1, some (vI x), l3], st, σ) = Rn (d) Q (19, 32, [l0, l1, some (vI x), l3], vI x :: st, σ) := E_iload_n i19_31 rfl
theorem e19_32 {d : Nat} {Q : Option AV → St → Prop} {st : List AV} {σ : St} {l0 l1 l2 l3 : Option AV} {i : Nat} {j x : Int32} : Rn (d) Q (19, 32, [l0, l1, l2, l3], vI x :: vI j :: vR (some (2, 2, i)) :: st, σ) = (∃ n, gL σ 2 1 i = some n ∧ i < gN σ 2 ∧ (0 ≤ j.toInt ∧ j.toInt < n) ∧ Rn (d) Q (19, 33, [l0, l1, l2, l3], st, setA σ 2 1 i (upd (gA σ 2 1 i) j.toNatClampNeg x))) := E_iastore1 i19_32 rfl (by decide)
theorem e19_33 {d : Nat} {Q : Option AV → St → Prop} {st : List AV} {σ : St} {l1 l2 l3 : Option AV} {x : Option (Nat × Nat × Nat)} : Rn (d) Q (19, 33, [some (vR x), l1, l2, l3], st, σ) = Rn (d) Q (19, 34, [some (vR x), l1, l2, l3], vR x :: st, σ) := E_aload_n i19_33 rfl
theorem e19_34 {d : Nat} {Q : Option AV → St → Prop} {st : List AV} {σ : St} {l0 l1 l2 l3 : Option AV} {i : Nat} : Rn (d) Q (19, 34, [l0, l1, l2, l3], vR (some (2, 0, i)) :: st, σ) = (i < gN σ 2 ∧ ¬ gL σ 2 2 i = none ∧ Rn (d) Q (19, 37, [l0, l1, l2, l3], vR (some (2, 3, i)) :: st, σ)) := E_getA i19_34 ((congrArg (fun z => fldQ z 19) o19).trans f2_19) (Or.inl rfl)
theorem e19_37 {d : Nat} {Q : Option AV → St → Prop} {st : List AV} {σ : St} {l1 l2 l3 : Option AV} {x : Option (Nat × Nat × Nat)} : Rn (d) Q (19, 37, [some (vR x), l1, l2, l3], st, σ) = Rn (d) Q (19, 38, [some (vR x), l1, l2, l3], vR x :: st, σ) := E_aload_n i19_37 rfl
theorem e19_38 {d : Nat} {Q : Option AV → St → Prop} {st : List AV} {σ : St} {l0 l1 l2 l3 : Option AV} {i : Nat} : Rn (d) Q (19, 38, [l0, l1, l2, l3], vR (some (2, 0, i)) :: st, σ) = (i < gN σ 2 ∧ Rn (d) Q (19, 41, [l0, l1, l2, l3], vI (gI σ 2 3 i) :: st, σ)) := E_getI i19_38 ((congrArg (fun z => fldQ z 23) o19).trans f2_23) rfl
theorem e19_41 {d : Nat} {Q : Option AV → St → Prop} {st : List AV} {σ : St} {l0 l1 l2 : Option AV} {x : Int32} : Rn (d) Q (19, 41, [l0, l1, l2, some (vI x)], st, σ) = Rn (d) Q (19, 42, [l0, l1, l2, some (vI x)], vI x :: st, σ) := E_iload_n i19_41 rfl
theorem e19_42 {d : Nat} {Q : Option AV → St → Prop} {st : List AV} {σ : St} {l0 l1 l2 l3 : Option AV} {x : Int32} : Rn (d) Q (19, 42, [l0, l1, l2, l3], vI x :: st, σ) = Rn (d) Q (19, 43, [l0, l1, l2, l3], vI x.toInt16.toInt32 :: st, σ) := E_i2s i19_42
theorem e19_43 {d : Nat} {Q : Option AV → St → Prop} {st : List AV} {σ : St} {l0 l1 l2 l3 : Option AV} {i : Nat} {j x : Int32} : Rn (d) Q (19, 43, [l0, l1, l2, l3], vI x :: vI j :: vR (some (2, 3, i)) :: st, σ) = (∃ n, gL σ 2 2 i = some n ∧ i < gN σ 2 ∧ (0 ≤ j.toInt ∧ j.toInt < n) ∧ Rn (d) Q (19, 44, [l0, l1, l2, l3], st, setA σ 2 2 i (upd (gA σ 2 2 i) j.toNatClampNeg x.toInt16.toInt32))) := E_sastore2 i19_43 rfl (by decide)
theorem e19_44 {d : Nat} {Q : Option AV → St → Prop} {st : List AV} {σ : St} {l1 l2 l3 : Option AV} {x : Option (Nat × Nat × Nat)} : Rn (d) Q (19, 44, [some (vR x), l1, l2, l3], st, σ) = Rn (d) Q (19, 45, [some (vR x), l1, l2, l3], vR x :: st, σ) := E_aload_n i19_44 rfl
theorem e19_45 {d : Nat} {Q : Option AV → St → Prop} {st : List AV} {σ : St} {l0 l1 l2 l3 : Option AV} {x : Option (Nat × Nat × Nat)} : Rn (d) Q (19, 45, [l0, l1, l2, l3], vR x :: st, σ) = Rn (d) Q (19, 46, [l0, l1, l2, l3], vR x :: vR x :: st, σ) := E_dupR i19_45
theorem e19_46 {d : Nat} {Q : Option AV → St → Prop} {st : List AV} {σ : St} {l0 l1 l2 l3 : Option AV} {i : Nat} : Rn (d) Q (19, 46, [l0, l1, l2, l3], vR (some (2, 0, i)) :: st, σ) = (i < gN σ 2 ∧ Rn (d) Q (19, 49, [l0, l1, l2, l3], vI (gI σ 2 3 i) :: st, σ)) := E_getI i19_46 ((congrArg (fun z => fldQ z 23) o19).trans f2_23) rfl
theorem e19_49 {d : Nat} {Q : Option AV → St → Prop} {st : List AV} {σ : St} {l0 l1 l2 l3 : Option AV} : Rn (d) Q (19, 49, [l0, l1, l2, l3], st, σ) = Rn (d) Q (19, 50, [l0, l1, l2, l3], vI 1 :: st, σ) := by rw [E_iconst i19_49, ci_1]
theorem e19_50 {d : Nat} {Q : Option AV → St → Prop} {st : List AV} {σ : St} {l0 l1 l2 l3 : Option AV} {x y : Int32} : Rn (d) Q (19, 50, [l0, l1, l2, l3], vI y :: vI x :: st, σ) = Rn (d) Q (19, 51, [l0, l1, l2, l3], vI (x + y) :: st, σ) := E_iadd i19_50
theorem e19_51 {d : Nat} {Q : Option AV → St → Prop} {st : List AV} {σ : St} {l0 l1 l2 l3 : Option AV} {i : Nat} {x : Int32} : Rn (d) Q (19, 51, [l0, l1, l2, l3], vI x :: vR (some (2, 0, i)) :: st, σ) = (i < gN σ 2 ∧ Rn (d) Q (19, 54, [l0, l1, l2, l3], st, setI σ 2 3 i x)) := E_putI i19_51 ((congrArg (fun z => fldQ z 23) o19).trans f2_23) rfl (Or.inl rfl)
theorem e19_54 {d : Nat} {Q : Option AV → St → Prop} {st : List AV} {σ : St} {l0 l1 l2 l3 : Option AV} : Rn (d) Q (19, 54, [l0, l1, l2, l3], st, σ) = Rn (d) Q (19, 55, [l0, l1, l2, l3], vI 1 :: st, σ) := by rw [E_iconst i19_54, ci_1]
theorem e19_55 {d : Nat} {Q : Option AV → St → Prop} {σ : St} {l0 l1 l2 l3 : Option AV} {x : Int32} : Rn (d) Q (19, 55, [l0, l1, l2, l3], [vI x], σ) = ((x = 0 ∨ x = 1) ∧ Q (some (vI x)) σ) := E_iretZ (st := []) i19_55 r19
theorem i20_0 : ins 20 0 = some (.iconst 0, 1) := (congrArg (fun x : PTy => x.1.lookup 0) q20).trans rfl
theorem i20_1 : ins 20 1 = some (.istore_n 3, 1) := (congrArg (fun x : PTy => x.1.lookup 1) q20).trans rfl
theorem i20_2 : ins 20 2 = some (.iconst 0, 1) := (congrArg (fun x : PTy => x.1.lookup 2) q20).trans rfl
theorem i20_3 : ins 20 3 = some (.istore 4, 2) := (congrArg (fun x : PTy => x.1.lookup 3) q20).trans rfl
theorem i20_5 : ins 20 5 = some (.iload 4, 2) := (congrArg (fun x : PTy => x.1.lookup 5) q20).trans rfl
theorem i20_7 : ins 20 7 = some (.aload_n 0, 1) := (congrArg (fun x : PTy => x.1.lookup 7) q20).trans rfl
theorem i20_8 : ins 20 8 = some (.getfield 23, 3) := (congrArg (fun x : PTy => x.1.lookup 8) q20).trans rfl
theorem i20_11 : ins 20 11 = some (.if_icmp .ge 41, 3) := (congrArg (fun x : PTy => x.1.lookup 11) q20).trans rfl
theorem i20_14 : ins 20 14 = some (.aload_n 0, 1) := (congrArg (fun x : PTy => x.1.lookup 14) q20).trans rfl
theorem i20_15 : ins 20 15 = some (.getfield 9, 3) := (congrArg (fun x : PTy => x.1.lookup 15) q20).trans rfl
theorem i20_18 : ins 20 18 = some (.iload 4, 2) := (congrArg (fun x : PTy => x.1.lookup 18) q20).trans rfl
theorem i20_20 : ins 20 20 = some (.baload, 1) := (congrArg (fun x : PTy => x.1.lookup 20) q20).trans rfl
theorem i20_21 : ins 20 21 = some (.iload_n 1, 1) := (congrArg (fun x : PTy => x.1.lookup 21) q20).trans rfl
theorem i20_22 : ins 20 22 = some (.if_icmp .ne 24, 3) := (congrArg (fun x : PTy => x.1.lookup 22) q20).trans rfl
theorem i20_25 : ins 20 25 = some (.aload_n 0, 1) := (congrArg (fun x : PTy => x.1.lookup 25) q20).trans rfl
theorem i20_26 : ins 20 26 = some (.getfield 19, 3) := (congrArg (fun x : PTy => x.1.lookup 26) q20).trans rfl
theorem i20_29 : ins 20 29 = some (.iload 4, 2) := (congrArg (fun x : PTy => x.1.lookup 29) q20).trans rfl
theorem i20_31 : ins 20 31 = some (.saload, 1) := (congrArg (fun x : PTy => x.1.lookup 31) q20).trans rfl
theorem i20_32 : ins 20 32 = some (.iload_n 2, 1) := (congrArg (fun x : PTy => x.1.lookup 32) q20).trans rfl
theorem i20_33 : ins 20 33 = some (.if_icmp .gt 13, 3) := (congrArg (fun x : PTy => x.1.lookup 33) q20).trans rfl
theorem i20_36 : ins 20 36 = some (.iload_n 3, 1) := (congrArg (fun x : PTy => x.1.lookup 36) q20).trans rfl
theorem i20_37 : ins 20 37 = some (.aload_n 0, 1) := (congrArg (fun x : PTy => x.1.lookup 37) q20).trans rfl
theorem i20_38 : ins 20 38 = some (.getfield 15, 3) := (congrArg (fun x : PTy => x.1.lookup 38) q20).trans rfl
theorem i20_41 : ins 20 41 = some (.iload 4, 2) := (congrArg (fun x : PTy => x.1.lookup 41) q20).trans rfl
theorem i20_43 : ins 20 43 = some (.iaload, 1) := (congrArg (fun x : PTy => x.1.lookup 43) q20).trans rfl
theorem i20_44 : ins 20 44 = some (.iadd, 1) := (congrArg (fun x : PTy => x.1.lookup 44) q20).trans rfl
theorem i20_45 : ins 20 45 = some (.istore_n 3, 1) := (congrArg (fun x : PTy => x.1.lookup 45) q20).trans rfl
theorem i20_46 : ins 20 46 = some (.iinc 4 1, 3) := (congrArg (fun x : PTy => x.1.lookup 46) q20).trans rfl
theorem i20_49 : ins 20 49 = some (.goto (-44), 3) := (congrArg (fun x : PTy => x.1.lookup 49) q20).trans rfl
theorem i20_52 : ins 20 52 = some (.iload_n 3, 1) := (congrArg (fun x : PTy => x.1.lookup 52) q20).trans rfl
theorem i20_53 : ins 20 53 = some (.ireturn, 1) := (congrArg (fun x : PTy => x.1.lookup 53) q20).trans rfl
theorem e20_0 {d : Nat} {Q : Option AV → St → Prop} {st : List AV} {σ : St} {l0 l1 l2 l3 l4 : Option AV} : Rn (d) Q (20, 0, [l0, l1, l2, l3, l4], st, σ) = Rn (d) Q (20, 1, [l0, l1, l2, l3, l4], vI 0 :: st, σ) := by rw [E_iconst i20_0, ci_0]
theorem s20_3 : okst 20 3 = true := by unfold okst; rw [x20]; rfl
theorem e20_1 {d : Nat} {Q : Option AV → St → Prop} {st : List AV} {σ : St} {l0 l1 l2 l3 l4 : Option AV} {x : Int32} : Rn (d) Q (20, 1, [l0, l1, l2, l3, l4], vI x :: st, σ) = Rn (d) Q (20, 2, [l0, l1, l2, some (vI x), l4], st, σ) := E_istore_n i20_1 s20_3
theorem e20_2 {d : Nat} {Q : Option AV → St → Prop} {st : List AV} {σ : St} {l0 l1 l2 l3 l4 : Option AV} : Rn (d) Q (20, 2, [l0, l1, l2, l3, l4], st, σ) = Rn (d) Q (20, 3, [l0, l1, l2, l3, l4], vI 0 :: st, σ) := by rw [E_iconst i20_2, ci_0]
theorem s20_4 : okst 20 4 = true := by unfold okst; rw [x20]; rfl
theorem e20_3 {d : Nat} {Q : Option AV → St → Prop} {st : List AV} {σ : St} {l0 l1 l2 l3 l4 : Option AV} {x : Int32} : Rn (d) Q (20, 3, [l0, l1, l2, l3, l4], vI x :: st, σ) = Rn (d) Q (20, 5, [l0, l1, l2, l3, some (vI x)], st, σ) := E_istore i20_3 s20_4
theorem e20_5 {d : Nat} {Q : Option AV → St → Prop} {st : List AV} {σ : St} {l0 l1 l2 l3 : Option AV} {x : Int32} : Rn (d) Q (20, 5, [l0, l1, l2, l3, some (vI x)], st, σ) = Rn (d) Q (20, 7, [l0, l1, l2, l3, some (vI x)], vI x :: st, σ) := E_iload i20_5 rfl
theorem e20_7 {d : Nat} {Q : Option AV → St → Prop} {st : List AV} {σ : St} {l1 l2 l3 l4 : Option AV} {x : Option (Nat × Nat × Nat)} : Rn (d) Q (20, 7, [some (vR x), l1, l2, l3, l4], st, σ) = Rn (d) Q (20, 8, [some (vR x), l1, l2, l3, l4], vR x :: st, σ) := E_aload_n i20_7 rfl
theorem e20_8 {d : Nat} {Q : Option AV → St → Prop} {st : List AV} {σ : St} {l0 l1 l2 l3 l4 : Option AV} {i : Nat} : Rn (d) Q (20, 8, [l0, l1, l2, l3, l4], vR (some (2, 0, i)) :: st, σ) = (i < gN σ 2 ∧ Rn (d) Q (20, 11, [l0, l1, l2, l3, l4], vI (gI σ 2 3 i) :: st, σ)) := E_getI i20_8 ((congrArg (fun z => fldQ z 23) o20).trans f2_23) rfl
theorem e20_11 {d : Nat} {Q : Option AV → St → Prop} {st : List AV} {σ : St} {l0 l1 l2 l3 l4 : Option AV} {x y : Int32} : Rn (d) Q (20, 11, [l0, l1, l2, l3, l4], vI y :: vI x :: st, σ) = (if y ≤ x then Rn (d) Q (20, 52, [l0, l1, l2, l3, l4], st, σ) else Rn (d) Q (20, 14, [l0, l1, l2, l3, l4], st, σ)) := E_icmp_ge 52 i20_11 (by decide)
theorem e20_14 {d : Nat} {Q : Option AV → St → Prop} {st : List AV} {σ : St} {l1 l2 l3 l4 : Option AV} {x : Option (Nat × Nat × Nat)} : Rn (d) Q (20, 14, [some (vR x), l1, l2, l3, l4], st, σ) = Rn (d) Q (20, 15, [some (vR x), l1, l2, l3, l4], vR x :: st, σ) := E_aload_n i20_14 rfl
theorem e20_15 {d : Nat} {Q : Option AV → St → Prop} {st : List AV} {σ : St} {l0 l1 l2 l3 l4 : Option AV} {i : Nat} : Rn (d) Q (20, 15, [l0, l1, l2, l3, l4], vR (some (2, 0, i)) :: st, σ) = (i < gN σ 2 ∧ ¬ gL σ 2 0 i = none ∧ Rn (d) Q (20, 18, [l0, l1, l2, l3, l4], vR (some (2, 1, i)) :: st, σ)) := E_getA i20_15 ((congrArg (fun z => fldQ z 9) o20).trans f2_9) (Or.inl rfl)
theorem e20_18 {d : Nat} {Q : Option AV → St → Prop} {st : List AV} {σ : St} {l0 l1 l2 l3 : Option AV} {x : Int32} : Rn (d) Q (20, 18, [l0, l1, l2, l3, some (vI x)], st, σ) = Rn (d) Q (20, 20, [l0, l1, l2, l3, some (vI x)], vI x :: st, σ) := E_iload i20_18 rfl
theorem e20_20 {d : Nat} {Q : Option AV → St → Prop} {st : List AV} {σ : St} {l0 l1 l2 l3 l4 : Option AV} {i : Nat} {j : Int32} : Rn (d) Q (20, 20, [l0, l1, l2, l3, l4], vI j :: vR (some (2, 1, i)) :: st, σ) = (∃ n, gL σ 2 0 i = some n ∧ i < gN σ 2 ∧ (0 ≤ j.toInt ∧ j.toInt < n) ∧ Rn (d) Q (20, 21, [l0, l1, l2, l3, l4], vI (gA σ 2 0 i j.toNatClampNeg) :: st, σ)) := E_baload0 i20_20 rfl
theorem e20_21 {d : Nat} {Q : Option AV → St → Prop} {st : List AV} {σ : St} {l0 l2 l3 l4 : Option AV} {x : Int32} : Rn (d) Q (20, 21, [l0, some (vI x), l2, l3, l4], st, σ) = Rn (d) Q (20, 22, [l0, some (vI x), l2, l3, l4], vI x :: st, σ) := E_iload_n i20_21 rfl
theorem e20_22 {d : Nat} {Q : Option AV → St → Prop} {st : List AV} {σ : St} {l0 l1 l2 l3 l4 : Option AV} {x y : Int32} : Rn (d) Q (20, 22, [l0, l1, l2, l3, l4], vI y :: vI x :: st, σ) = (if x = y then Rn (d) Q (20, 25, [l0, l1, l2, l3, l4], st, σ) else Rn (d) Q (20, 46, [l0, l1, l2, l3, l4], st, σ)) := E_icmp_ne 46 i20_22 (by decide)
theorem e20_25 {d : Nat} {Q : Option AV → St → Prop} {st : List AV} {σ : St} {l1 l2 l3 l4 : Option AV} {x : Option (Nat × Nat × Nat)} : Rn (d) Q (20, 25, [some (vR x), l1, l2, l3, l4], st, σ) = Rn (d) Q (20, 26, [some (vR x), l1, l2, l3, l4], vR x :: st, σ) := E_aload_n i20_25 rfl
theorem e20_26 {d : Nat} {Q : Option AV → St → Prop} {st : List AV} {σ : St} {l0 l1 l2 l3 l4 : Option AV} {i : Nat} : Rn (d) Q (20, 26, [l0, l1, l2, l3, l4], vR (some (2, 0, i)) :: st, σ) = (i < gN σ 2 ∧ ¬ gL σ 2 2 i = none ∧ Rn (d) Q (20, 29, [l0, l1, l2, l3, l4], vR (some (2, 3, i)) :: st, σ)) := E_getA i20_26 ((congrArg (fun z => fldQ z 19) o20).trans f2_19) (Or.inl rfl)
theorem e20_29 {d : Nat} {Q : Option AV → St → Prop} {st : List AV} {σ : St} {l0 l1 l2 l3 : Option AV} {x : Int32} : Rn (d) Q (20, 29, [l0, l1, l2, l3, some (vI x)], st, σ) = Rn (d) Q (20, 31, [l0, l1, l2, l3, some (vI x)], vI x :: st, σ) := E_iload i20_29 rfl
theorem e20_31 {d : Nat} {Q : Option AV → St → Prop} {st : List AV} {σ : St} {l0 l1 l2 l3 l4 : Option AV} {i : Nat} {j : Int32} : Rn (d) Q (20, 31, [l0, l1, l2, l3, l4], vI j :: vR (some (2, 3, i)) :: st, σ) = (∃ n, gL σ 2 2 i = some n ∧ i < gN σ 2 ∧ (0 ≤ j.toInt ∧ j.toInt < n) ∧ Rn (d) Q (20, 32, [l0, l1, l2, l3, l4], vI (gA σ 2 2 i j.toNatClampNeg) :: st, σ)) := E_saload2 i20_31 rfl
theorem e20_32 {d : Nat} {Q : Option AV → St → Prop} {st : List AV} {σ : St} {l0 l1 l3 l4 : Option AV} {x : Int32} : Rn (d) Q (20, 32, [l0, l1, some (vI x), l3, l4], st, σ) = Rn (d) Q (20, 33, [l0, l1, some (vI x), l3, l4], vI x :: st, σ) := E_iload_n i20_32 rfl
theorem e20_33 {d : Nat} {Q : Option AV → St → Prop} {st : List AV} {σ : St} {l0 l1 l2 l3 l4 : Option AV} {x y : Int32} : Rn (d) Q (20, 33, [l0, l1, l2, l3, l4], vI y :: vI x :: st, σ) = (if y < x then Rn (d) Q (20, 46, [l0, l1, l2, l3, l4], st, σ) else Rn (d) Q (20, 36, [l0, l1, l2, l3, l4], st, σ)) := E_icmp_gt 46 i20_33 (by decide)
theorem e20_36 {d : Nat} {Q : Option AV → St → Prop} {st : List AV} {σ : St} {l0 l1 l2 l4 : Option AV} {x : Int32} : Rn (d) Q (20, 36, [l0, l1, l2, some (vI x), l4], st, σ) = Rn (d) Q (20, 37, [l0, l1, l2, some (vI x), l4], vI x :: st, σ) := E_iload_n i20_36 rfl
theorem e20_37 {d : Nat} {Q : Option AV → St → Prop} {st : List AV} {σ : St} {l1 l2 l3 l4 : Option AV} {x : Option (Nat × Nat × Nat)} : Rn (d) Q (20, 37, [some (vR x), l1, l2, l3, l4], st, σ) = Rn (d) Q (20, 38, [some (vR x), l1, l2, l3, l4], vR x :: st, σ) := E_aload_n i20_37 rfl
theorem e20_38 {d : Nat} {Q : Option AV → St → Prop} {st : List AV} {σ : St} {l0 l1 l2 l3 l4 : Option AV} {i : Nat} : Rn (d) Q (20, 38, [l0, l1, l2, l3, l4], vR (some (2, 0, i)) :: st, σ) = (i < gN σ 2 ∧ ¬ gL σ 2 1 i = none ∧ Rn (d) Q (20, 41, [l0, l1, l2, l3, l4], vR (some (2, 2, i)) :: st, σ)) := E_getA i20_38 ((congrArg (fun z => fldQ z 15) o20).trans f2_15) (Or.inl rfl)
theorem e20_41 {d : Nat} {Q : Option AV → St → Prop} {st : List AV} {σ : St} {l0 l1 l2 l3 : Option AV} {x : Int32} : Rn (d) Q (20, 41, [l0, l1, l2, l3, some (vI x)], st, σ) = Rn (d) Q (20, 43, [l0, l1, l2, l3, some (vI x)], vI x :: st, σ) := E_iload i20_41 rfl
theorem e20_43 {d : Nat} {Q : Option AV → St → Prop} {st : List AV} {σ : St} {l0 l1 l2 l3 l4 : Option AV} {i : Nat} {j : Int32} : Rn (d) Q (20, 43, [l0, l1, l2, l3, l4], vI j :: vR (some (2, 2, i)) :: st, σ) = (∃ n, gL σ 2 1 i = some n ∧ i < gN σ 2 ∧ (0 ≤ j.toInt ∧ j.toInt < n) ∧ Rn (d) Q (20, 44, [l0, l1, l2, l3, l4], vI (gA σ 2 1 i j.toNatClampNeg) :: st, σ)) := E_iaload1 i20_43 rfl
theorem e20_44 {d : Nat} {Q : Option AV → St → Prop} {st : List AV} {σ : St} {l0 l1 l2 l3 l4 : Option AV} {x y : Int32} : Rn (d) Q (20, 44, [l0, l1, l2, l3, l4], vI y :: vI x :: st, σ) = Rn (d) Q (20, 45, [l0, l1, l2, l3, l4], vI (x + y) :: st, σ) := E_iadd i20_44
theorem e20_45 {d : Nat} {Q : Option AV → St → Prop} {st : List AV} {σ : St} {l0 l1 l2 l3 l4 : Option AV} {x : Int32} : Rn (d) Q (20, 45, [l0, l1, l2, l3, l4], vI x :: st, σ) = Rn (d) Q (20, 46, [l0, l1, l2, some (vI x), l4], st, σ) := E_istore_n i20_45 s20_3
theorem e20_46 {d : Nat} {Q : Option AV → St → Prop} {st : List AV} {σ : St} {l0 l1 l2 l3 : Option AV} {x : Int32} : Rn (d) Q (20, 46, [l0, l1, l2, l3, some (vI x)], st, σ) = Rn (d) Q (20, 49, [l0, l1, l2, l3, some (vI (x + 1))], st, σ) := by rw [E_iinc i20_46 rfl (by rw [x20]; decide), show Int32.ofInt 1 = (1 : Int32) by decide +kernel]; rfl
theorem e20_49 {d : Nat} {Q : Option AV → St → Prop} {st : List AV} {σ : St} {l0 l1 l2 l3 l4 : Option AV} : Rn (d) Q (20, 49, [l0, l1, l2, l3, l4], st, σ) = Rn (d) Q (20, 5, [l0, l1, l2, l3, l4], st, σ) := E_goto 5 i20_49 (by decide)
theorem e20_52 {d : Nat} {Q : Option AV → St → Prop} {st : List AV} {σ : St} {l0 l1 l2 l4 : Option AV} {x : Int32} : Rn (d) Q (20, 52, [l0, l1, l2, some (vI x), l4], st, σ) = Rn (d) Q (20, 53, [l0, l1, l2, some (vI x), l4], vI x :: st, σ) := E_iload_n i20_52 rfl
theorem e20_53 {d : Nat} {Q : Option AV → St → Prop} {σ : St} {l0 l1 l2 l3 l4 : Option AV} {x : Int32} : Rn (d) Q (20, 53, [l0, l1, l2, l3, l4], [vI x], σ) = Q (some (vI x)) σ := E_iretI (st := []) i20_53 r20
theorem i21_0 : ins 21 0 = some (.aload_n 0, 1) := (congrArg (fun x : PTy => x.1.lookup 0) q21).trans rfl
theorem i21_1 : ins 21 1 = some (.invokespecial 1, 3) := (congrArg (fun x : PTy => x.1.lookup 1) q21).trans rfl
theorem i21_4 : ins 21 4 = some (.aload_n 0, 1) := (congrArg (fun x : PTy => x.1.lookup 4) q21).trans rfl
theorem i21_5 : ins 21 5 = some (.iconst 3, 1) := (congrArg (fun x : PTy => x.1.lookup 5) q21).trans rfl
theorem i21_6 : ins 21 6 = some (.putfield 7, 3) := (congrArg (fun x : PTy => x.1.lookup 6) q21).trans rfl
theorem i21_9 : ins 21 9 = some (.aload_n 0, 1) := (congrArg (fun x : PTy => x.1.lookup 9) q21).trans rfl
theorem i21_10 : ins 21 10 = some (.iconst 0, 1) := (congrArg (fun x : PTy => x.1.lookup 10) q21).trans rfl
theorem i21_11 : ins 21 11 = some (.putfield 13, 3) := (congrArg (fun x : PTy => x.1.lookup 11) q21).trans rfl
theorem i21_14 : ins 21 14 = some (.aload_n 0, 1) := (congrArg (fun x : PTy => x.1.lookup 14) q21).trans rfl
theorem i21_15 : ins 21 15 = some (.iconst 0, 1) := (congrArg (fun x : PTy => x.1.lookup 15) q21).trans rfl
theorem i21_16 : ins 21 16 = some (.putfield 16, 3) := (congrArg (fun x : PTy => x.1.lookup 16) q21).trans rfl
theorem i21_19 : ins 21 19 = some (.return_, 1) := (congrArg (fun x : PTy => x.1.lookup 19) q21).trans rfl
theorem e21_0 {d : Nat} {Q : Option AV → St → Prop} {st : List AV} {σ : St}  {x : Option (Nat × Nat × Nat)} : Rn (d) Q (21, 0, [some (vR x)], st, σ) = Rn (d) Q (21, 1, [some (vR x)], vR x :: st, σ) := E_aload_n i21_0 rfl
theorem e21_1 {d : Nat} {Q : Option AV → St → Prop} {st : List AV} {σ : St} {l0 : Option AV} {x : Nat × Nat × Nat} : Rn (d) Q (21, 1, [l0], vR (some x) :: st, σ) = (catS st ≤ 8 ∧ Rn (d) Q (21, 4, [l0], st, σ)) := E_objInit i21_1 ((congrArg (fun z => mthQ z 1) o21).trans m3_1)
theorem e21_4 {d : Nat} {Q : Option AV → St → Prop} {st : List AV} {σ : St}  {x : Option (Nat × Nat × Nat)} : Rn (d) Q (21, 4, [some (vR x)], st, σ) = Rn (d) Q (21, 5, [some (vR x)], vR x :: st, σ) := E_aload_n i21_4 rfl
theorem e21_5 {d : Nat} {Q : Option AV → St → Prop} {st : List AV} {σ : St} {l0 : Option AV} : Rn (d) Q (21, 5, [l0], st, σ) = Rn (d) Q (21, 6, [l0], vI 3 :: st, σ) := by rw [E_iconst i21_5, ci_3]
theorem e21_6 {d : Nat} {Q : Option AV → St → Prop} {st : List AV} {σ : St} {l0 : Option AV} {i : Nat} {x : Int32} : Rn (d) Q (21, 6, [l0], vI x :: vR (some (3, 0, i)) :: st, σ) = (i < gN σ 3 ∧ Rn (d) Q (21, 9, [l0], st, setI σ 3 0 i x)) := E_putI i21_6 ((congrArg (fun z => fldQ z 7) o21).trans f3_7) rfl (Or.inl rfl)
theorem e21_9 {d : Nat} {Q : Option AV → St → Prop} {st : List AV} {σ : St}  {x : Option (Nat × Nat × Nat)} : Rn (d) Q (21, 9, [some (vR x)], st, σ) = Rn (d) Q (21, 10, [some (vR x)], vR x :: st, σ) := E_aload_n i21_9 rfl
theorem e21_10 {d : Nat} {Q : Option AV → St → Prop} {st : List AV} {σ : St} {l0 : Option AV} : Rn (d) Q (21, 10, [l0], st, σ) = Rn (d) Q (21, 11, [l0], vI 0 :: st, σ) := by rw [E_iconst i21_10, ci_0]
theorem e21_11 {d : Nat} {Q : Option AV → St → Prop} {st : List AV} {σ : St} {l0 : Option AV} {i : Nat} {x : Int32} : Rn (d) Q (21, 11, [l0], vI x :: vR (some (3, 0, i)) :: st, σ) = (i < gN σ 3 ∧ Rn (d) Q (21, 14, [l0], st, setI σ 3 1 i x)) := E_putI i21_11 ((congrArg (fun z => fldQ z 13) o21).trans f3_13) rfl (Or.inl rfl)
theorem e21_14 {d : Nat} {Q : Option AV → St → Prop} {st : List AV} {σ : St}  {x : Option (Nat × Nat × Nat)} : Rn (d) Q (21, 14, [some (vR x)], st, σ) = Rn (d) Q (21, 15, [some (vR x)], vR x :: st, σ) := E_aload_n i21_14 rfl
theorem e21_15 {d : Nat} {Q : Option AV → St → Prop} {st : List AV} {σ : St} {l0 : Option AV} : Rn (d) Q (21, 15, [l0], st, σ) = Rn (d) Q (21, 16, [l0], vI 0 :: st, σ) := by rw [E_iconst i21_15, ci_0]
theorem e21_16 {d : Nat} {Q : Option AV → St → Prop} {st : List AV} {σ : St} {l0 : Option AV} {i : Nat} {x : Int32} : Rn (d) Q (21, 16, [l0], vI x :: vR (some (3, 0, i)) :: st, σ) = (i < gN σ 3 ∧ Rn (d) Q (21, 19, [l0], st, setI σ 3 2 i x)) := E_putI i21_16 ((congrArg (fun z => fldQ z 16) o21).trans f3_16) rfl (Or.inl rfl)
theorem e21_19 {d : Nat} {Q : Option AV → St → Prop} {σ : St} {l0 : Option AV} : Rn (d) Q (21, 19, [l0], [], σ) = Q none σ := E_ret (st := []) i21_19 r21
theorem i22_0 : ins 22 0 = some (.aload_n 0, 1) := (congrArg (fun x : PTy => x.1.lookup 0) q22).trans rfl
theorem i22_1 : ins 22 1 = some (.getfield 13, 3) := (congrArg (fun x : PTy => x.1.lookup 1) q22).trans rfl
theorem i22_4 : ins 22 4 = some (.iconst 1, 1) := (congrArg (fun x : PTy => x.1.lookup 4) q22).trans rfl
theorem i22_5 : ins 22 5 = some (.if_icmp .ge 5, 3) := (congrArg (fun x : PTy => x.1.lookup 5) q22).trans rfl
theorem i22_8 : ins 22 8 = some (.iconst 0, 1) := (congrArg (fun x : PTy => x.1.lookup 8) q22).trans rfl
theorem i22_9 : ins 22 9 = some (.ireturn, 1) := (congrArg (fun x : PTy => x.1.lookup 9) q22).trans rfl
theorem i22_10 : ins 22 10 = some (.aload_n 0, 1) := (congrArg (fun x : PTy => x.1.lookup 10) q22).trans rfl
theorem i22_11 : ins 22 11 = some (.aload_n 0, 1) := (congrArg (fun x : PTy => x.1.lookup 11) q22).trans rfl
theorem i22_12 : ins 22 12 = some (.getfield 16, 3) := (congrArg (fun x : PTy => x.1.lookup 12) q22).trans rfl
theorem i22_15 : ins 22 15 = some (.iconst 1, 1) := (congrArg (fun x : PTy => x.1.lookup 15) q22).trans rfl
theorem i22_16 : ins 22 16 = some (.iadd, 1) := (congrArg (fun x : PTy => x.1.lookup 16) q22).trans rfl
theorem i22_17 : ins 22 17 = some (.aload_n 0, 1) := (congrArg (fun x : PTy => x.1.lookup 17) q22).trans rfl
theorem i22_18 : ins 22 18 = some (.getfield 13, 3) := (congrArg (fun x : PTy => x.1.lookup 18) q22).trans rfl
theorem i22_21 : ins 22 21 = some (.irem, 1) := (congrArg (fun x : PTy => x.1.lookup 21) q22).trans rfl
theorem i22_22 : ins 22 22 = some (.putfield 16, 3) := (congrArg (fun x : PTy => x.1.lookup 22) q22).trans rfl
theorem i22_25 : ins 22 25 = some (.aload_n 0, 1) := (congrArg (fun x : PTy => x.1.lookup 25) q22).trans rfl
theorem i22_26 : ins 22 26 = some (.getfield 16, 3) := (congrArg (fun x : PTy => x.1.lookup 26) q22).trans rfl
theorem i22_29 : ins 22 29 = some (.ifCond .ne 7, 3) := (congrArg (fun x : PTy => x.1.lookup 29) q22).trans rfl
theorem i22_32 : ins 22 32 = some (.iconst 1, 1) := (congrArg (fun x : PTy => x.1.lookup 32) q22).trans rfl
theorem i22_33 : ins 22 33 = some (.goto 4, 3) := (congrArg (fun x : PTy => x.1.lookup 33) q22).trans rfl
theorem i22_36 : ins 22 36 = some (.iconst 0, 1) := (congrArg (fun x : PTy => x.1.lookup 36) q22).trans rfl
theorem i22_37 : ins 22 37 = some (.ireturn, 1) := (congrArg (fun x : PTy => x.1.lookup 37) q22).trans rfl
theorem e22_0 {d : Nat} {Q : Option AV → St → Prop} {st : List AV} {σ : St}  {x : Option (Nat × Nat × Nat)} : Rn (d) Q (22, 0, [some (vR x)], st, σ) = Rn (d) Q (22, 1, [some (vR x)], vR x :: st, σ) := E_aload_n i22_0 rfl
theorem e22_1 {d : Nat} {Q : Option AV → St → Prop} {st : List AV} {σ : St} {l0 : Option AV} {i : Nat} : Rn (d) Q (22, 1, [l0], vR (some (3, 0, i)) :: st, σ) = (i < gN σ 3 ∧ Rn (d) Q (22, 4, [l0], vI (gI σ 3 1 i) :: st, σ)) := E_getI i22_1 ((congrArg (fun z => fldQ z 13) o22).trans f3_13) rfl
theorem e22_4 {d : Nat} {Q : Option AV → St → Prop} {st : List AV} {σ : St} {l0 : Option AV} : Rn (d) Q (22, 4, [l0], st, σ) = Rn (d) Q (22, 5, [l0], vI 1 :: st, σ) := by rw [E_iconst i22_4, ci_1]
theorem e22_5 {d : Nat} {Q : Option AV → St → Prop} {st : List AV} {σ : St} {l0 : Option AV} {x y : Int32} : Rn (d) Q (22, 5, [l0], vI y :: vI x :: st, σ) = (if y ≤ x then Rn (d) Q (22, 10, [l0], st, σ) else Rn (d) Q (22, 8, [l0], st, σ)) := E_icmp_ge 10 i22_5 (by decide)
theorem e22_8 {d : Nat} {Q : Option AV → St → Prop} {st : List AV} {σ : St} {l0 : Option AV} : Rn (d) Q (22, 8, [l0], st, σ) = Rn (d) Q (22, 9, [l0], vI 0 :: st, σ) := by rw [E_iconst i22_8, ci_0]
theorem e22_9 {d : Nat} {Q : Option AV → St → Prop} {σ : St} {l0 : Option AV} {x : Int32} : Rn (d) Q (22, 9, [l0], [vI x], σ) = ((x = 0 ∨ x = 1) ∧ Q (some (vI x)) σ) := E_iretZ (st := []) i22_9 r22
theorem e22_10 {d : Nat} {Q : Option AV → St → Prop} {st : List AV} {σ : St}  {x : Option (Nat × Nat × Nat)} : Rn (d) Q (22, 10, [some (vR x)], st, σ) = Rn (d) Q (22, 11, [some (vR x)], vR x :: st, σ) := E_aload_n i22_10 rfl
theorem e22_11 {d : Nat} {Q : Option AV → St → Prop} {st : List AV} {σ : St}  {x : Option (Nat × Nat × Nat)} : Rn (d) Q (22, 11, [some (vR x)], st, σ) = Rn (d) Q (22, 12, [some (vR x)], vR x :: st, σ) := E_aload_n i22_11 rfl
theorem e22_12 {d : Nat} {Q : Option AV → St → Prop} {st : List AV} {σ : St} {l0 : Option AV} {i : Nat} : Rn (d) Q (22, 12, [l0], vR (some (3, 0, i)) :: st, σ) = (i < gN σ 3 ∧ Rn (d) Q (22, 15, [l0], vI (gI σ 3 2 i) :: st, σ)) := E_getI i22_12 ((congrArg (fun z => fldQ z 16) o22).trans f3_16) rfl
theorem e22_15 {d : Nat} {Q : Option AV → St → Prop} {st : List AV} {σ : St} {l0 : Option AV} : Rn (d) Q (22, 15, [l0], st, σ) = Rn (d) Q (22, 16, [l0], vI 1 :: st, σ) := by rw [E_iconst i22_15, ci_1]
theorem e22_16 {d : Nat} {Q : Option AV → St → Prop} {st : List AV} {σ : St} {l0 : Option AV} {x y : Int32} : Rn (d) Q (22, 16, [l0], vI y :: vI x :: st, σ) = Rn (d) Q (22, 17, [l0], vI (x + y) :: st, σ) := E_iadd i22_16
theorem e22_17 {d : Nat} {Q : Option AV → St → Prop} {st : List AV} {σ : St}  {x : Option (Nat × Nat × Nat)} : Rn (d) Q (22, 17, [some (vR x)], st, σ) = Rn (d) Q (22, 18, [some (vR x)], vR x :: st, σ) := E_aload_n i22_17 rfl
theorem e22_18 {d : Nat} {Q : Option AV → St → Prop} {st : List AV} {σ : St} {l0 : Option AV} {i : Nat} : Rn (d) Q (22, 18, [l0], vR (some (3, 0, i)) :: st, σ) = (i < gN σ 3 ∧ Rn (d) Q (22, 21, [l0], vI (gI σ 3 1 i) :: st, σ)) := E_getI i22_18 ((congrArg (fun z => fldQ z 13) o22).trans f3_13) rfl
theorem e22_21 {d : Nat} {Q : Option AV → St → Prop} {st : List AV} {σ : St} {l0 : Option AV} {x y : Int32} : Rn (d) Q (22, 21, [l0], vI y :: vI x :: st, σ) = (¬ y = 0 ∧ Rn (d) Q (22, 22, [l0], vI (x - x / y * y) :: st, σ)) := E_irem i22_21
theorem e22_22 {d : Nat} {Q : Option AV → St → Prop} {st : List AV} {σ : St} {l0 : Option AV} {i : Nat} {x : Int32} : Rn (d) Q (22, 22, [l0], vI x :: vR (some (3, 0, i)) :: st, σ) = (i < gN σ 3 ∧ Rn (d) Q (22, 25, [l0], st, setI σ 3 2 i x)) := E_putI i22_22 ((congrArg (fun z => fldQ z 16) o22).trans f3_16) rfl (Or.inl rfl)
theorem e22_25 {d : Nat} {Q : Option AV → St → Prop} {st : List AV} {σ : St}  {x : Option (Nat × Nat × Nat)} : Rn (d) Q (22, 25, [some (vR x)], st, σ) = Rn (d) Q (22, 26, [some (vR x)], vR x :: st, σ) := E_aload_n i22_25 rfl
theorem e22_26 {d : Nat} {Q : Option AV → St → Prop} {st : List AV} {σ : St} {l0 : Option AV} {i : Nat} : Rn (d) Q (22, 26, [l0], vR (some (3, 0, i)) :: st, σ) = (i < gN σ 3 ∧ Rn (d) Q (22, 29, [l0], vI (gI σ 3 2 i) :: st, σ)) := E_getI i22_26 ((congrArg (fun z => fldQ z 16) o22).trans f3_16) rfl
theorem e22_29 {d : Nat} {Q : Option AV → St → Prop} {st : List AV} {σ : St} {l0 : Option AV} {x : Int32} : Rn (d) Q (22, 29, [l0], vI x :: st, σ) = (if x = 0 then Rn (d) Q (22, 32, [l0], st, σ) else Rn (d) Q (22, 36, [l0], st, σ)) := E_if_ne 36 i22_29 (by decide)
theorem e22_32 {d : Nat} {Q : Option AV → St → Prop} {st : List AV} {σ : St} {l0 : Option AV} : Rn (d) Q (22, 32, [l0], st, σ) = Rn (d) Q (22, 33, [l0], vI 1 :: st, σ) := by rw [E_iconst i22_32, ci_1]
theorem e22_33 {d : Nat} {Q : Option AV → St → Prop} {st : List AV} {σ : St} {l0 : Option AV} : Rn (d) Q (22, 33, [l0], st, σ) = Rn (d) Q (22, 37, [l0], st, σ) := E_goto 37 i22_33 (by decide)
theorem e22_36 {d : Nat} {Q : Option AV → St → Prop} {st : List AV} {σ : St} {l0 : Option AV} : Rn (d) Q (22, 36, [l0], st, σ) = Rn (d) Q (22, 37, [l0], vI 0 :: st, σ) := by rw [E_iconst i22_36, ci_0]
theorem e22_37 {d : Nat} {Q : Option AV → St → Prop} {σ : St} {l0 : Option AV} {x : Int32} : Rn (d) Q (22, 37, [l0], [vI x], σ) = ((x = 0 ∨ x = 1) ∧ Q (some (vI x)) σ) := E_iretZ (st := []) i22_37 r22
theorem i23_0 : ins 23 0 = some (.aload_n 0, 1) := (congrArg (fun x : PTy => x.1.lookup 0) q23).trans rfl
theorem i23_1 : ins 23 1 = some (.invokespecial 3, 3) := (congrArg (fun x : PTy => x.1.lookup 1) q23).trans rfl
theorem i23_4 : ins 23 4 = some (.aload_n 0, 1) := (congrArg (fun x : PTy => x.1.lookup 4) q23).trans rfl
theorem i23_5 : ins 23 5 = some (.iconst 5, 1) := (congrArg (fun x : PTy => x.1.lookup 5) q23).trans rfl
theorem i23_6 : ins 23 6 = some (.putfield 9, 3) := (congrArg (fun x : PTy => x.1.lookup 6) q23).trans rfl
theorem i23_9 : ins 23 9 = some (.aload_n 0, 1) := (congrArg (fun x : PTy => x.1.lookup 9) q23).trans rfl
theorem i23_10 : ins 23 10 = some (.bipush (-4), 2) := (congrArg (fun x : PTy => x.1.lookup 10) q23).trans rfl
theorem i23_12 : ins 23 12 = some (.putfield 15, 3) := (congrArg (fun x : PTy => x.1.lookup 12) q23).trans rfl
theorem i23_15 : ins 23 15 = some (.aload_n 0, 1) := (congrArg (fun x : PTy => x.1.lookup 15) q23).trans rfl
theorem i23_16 : ins 23 16 = some (.iload_n 1, 1) := (congrArg (fun x : PTy => x.1.lookup 16) q23).trans rfl
theorem i23_17 : ins 23 17 = some (.putfield 18, 3) := (congrArg (fun x : PTy => x.1.lookup 17) q23).trans rfl
theorem i23_20 : ins 23 20 = some (.aload_n 0, 1) := (congrArg (fun x : PTy => x.1.lookup 20) q23).trans rfl
theorem i23_21 : ins 23 21 = some (.iload_n 2, 1) := (congrArg (fun x : PTy => x.1.lookup 21) q23).trans rfl
theorem i23_22 : ins 23 22 = some (.putfield 21, 3) := (congrArg (fun x : PTy => x.1.lookup 22) q23).trans rfl
theorem i23_25 : ins 23 25 = some (.aload_n 0, 1) := (congrArg (fun x : PTy => x.1.lookup 25) q23).trans rfl
theorem i23_26 : ins 23 26 = some (.iload_n 3, 1) := (congrArg (fun x : PTy => x.1.lookup 26) q23).trans rfl
theorem i23_27 : ins 23 27 = some (.putfield 24, 3) := (congrArg (fun x : PTy => x.1.lookup 27) q23).trans rfl
theorem i23_30 : ins 23 30 = some (.aload_n 0, 1) := (congrArg (fun x : PTy => x.1.lookup 30) q23).trans rfl
theorem i23_31 : ins 23 31 = some (.iload 4, 2) := (congrArg (fun x : PTy => x.1.lookup 31) q23).trans rfl
theorem i23_33 : ins 23 33 = some (.putfield 27, 3) := (congrArg (fun x : PTy => x.1.lookup 33) q23).trans rfl
theorem i23_36 : ins 23 36 = some (.aload_n 0, 1) := (congrArg (fun x : PTy => x.1.lookup 36) q23).trans rfl
theorem i23_37 : ins 23 37 = some (.aload 5, 2) := (congrArg (fun x : PTy => x.1.lookup 37) q23).trans rfl
theorem i23_39 : ins 23 39 = some (.putfield 30, 3) := (congrArg (fun x : PTy => x.1.lookup 39) q23).trans rfl
theorem i23_42 : ins 23 42 = some (.return_, 1) := (congrArg (fun x : PTy => x.1.lookup 42) q23).trans rfl
theorem e23_0 {d : Nat} {Q : Option AV → St → Prop} {st : List AV} {σ : St} {l1 l2 l3 l4 l5 : Option AV} {x : Option (Nat × Nat × Nat)} : Rn (d) Q (23, 0, [some (vR x), l1, l2, l3, l4, l5], st, σ) = Rn (d) Q (23, 1, [some (vR x), l1, l2, l3, l4, l5], vR x :: st, σ) := E_aload_n i23_0 rfl
theorem e23_1 {d : Nat} {Q : Option AV → St → Prop} {st : List AV} {σ : St} {l0 l1 l2 l3 l4 l5 : Option AV} {x : Nat × Nat × Nat} : Rn (d) Q (23, 1, [l0, l1, l2, l3, l4, l5], vR (some x) :: st, σ) = (catS st ≤ 8 ∧ Rn (d) Q (23, 4, [l0, l1, l2, l3, l4, l5], st, σ)) := E_objInit i23_1 ((congrArg (fun z => mthQ z 3) o23).trans m4_3)
theorem e23_4 {d : Nat} {Q : Option AV → St → Prop} {st : List AV} {σ : St} {l1 l2 l3 l4 l5 : Option AV} {x : Option (Nat × Nat × Nat)} : Rn (d) Q (23, 4, [some (vR x), l1, l2, l3, l4, l5], st, σ) = Rn (d) Q (23, 5, [some (vR x), l1, l2, l3, l4, l5], vR x :: st, σ) := E_aload_n i23_4 rfl
theorem e23_5 {d : Nat} {Q : Option AV → St → Prop} {st : List AV} {σ : St} {l0 l1 l2 l3 l4 l5 : Option AV} : Rn (d) Q (23, 5, [l0, l1, l2, l3, l4, l5], st, σ) = Rn (d) Q (23, 6, [l0, l1, l2, l3, l4, l5], vI 5 :: st, σ) := by rw [E_iconst i23_5, ci_5]
theorem e23_6 {d : Nat} {Q : Option AV → St → Prop} {st : List AV} {σ : St} {l0 l1 l2 l3 l4 l5 : Option AV} {i : Nat} {x : Int32} : Rn (d) Q (23, 6, [l0, l1, l2, l3, l4, l5], vI x :: vR (some (4, 0, i)) :: st, σ) = (i < gN σ 4 ∧ Rn (d) Q (23, 9, [l0, l1, l2, l3, l4, l5], st, setI σ 4 5 i x)) := E_putI i23_6 ((congrArg (fun z => fldQ z 9) o23).trans f4_9) rfl (Or.inl rfl)
theorem e23_9 {d : Nat} {Q : Option AV → St → Prop} {st : List AV} {σ : St} {l1 l2 l3 l4 l5 : Option AV} {x : Option (Nat × Nat × Nat)} : Rn (d) Q (23, 9, [some (vR x), l1, l2, l3, l4, l5], st, σ) = Rn (d) Q (23, 10, [some (vR x), l1, l2, l3, l4, l5], vR x :: st, σ) := E_aload_n i23_9 rfl
theorem e23_10 {d : Nat} {Q : Option AV → St → Prop} {st : List AV} {σ : St} {l0 l1 l2 l3 l4 l5 : Option AV} : Rn (d) Q (23, 10, [l0, l1, l2, l3, l4, l5], st, σ) = Rn (d) Q (23, 12, [l0, l1, l2, l3, l4, l5], vI (-4) :: st, σ) := by rw [E_bipush i23_10, cb_m4]
theorem e23_12 {d : Nat} {Q : Option AV → St → Prop} {st : List AV} {σ : St} {l0 l1 l2 l3 l4 l5 : Option AV} {i : Nat} {x : Int32} : Rn (d) Q (23, 12, [l0, l1, l2, l3, l4, l5], vI x :: vR (some (4, 0, i)) :: st, σ) = (i < gN σ 4 ∧ Rn (d) Q (23, 15, [l0, l1, l2, l3, l4, l5], st, setI σ 4 6 i x)) := E_putI i23_12 ((congrArg (fun z => fldQ z 15) o23).trans f4_15) rfl (Or.inl rfl)
theorem e23_15 {d : Nat} {Q : Option AV → St → Prop} {st : List AV} {σ : St} {l1 l2 l3 l4 l5 : Option AV} {x : Option (Nat × Nat × Nat)} : Rn (d) Q (23, 15, [some (vR x), l1, l2, l3, l4, l5], st, σ) = Rn (d) Q (23, 16, [some (vR x), l1, l2, l3, l4, l5], vR x :: st, σ) := E_aload_n i23_15 rfl
theorem e23_16 {d : Nat} {Q : Option AV → St → Prop} {st : List AV} {σ : St} {l0 l2 l3 l4 l5 : Option AV} {x : Int32} : Rn (d) Q (23, 16, [l0, some (vI x), l2, l3, l4, l5], st, σ) = Rn (d) Q (23, 17, [l0, some (vI x), l2, l3, l4, l5], vI x :: st, σ) := E_iload_n i23_16 rfl
theorem e23_17 {d : Nat} {Q : Option AV → St → Prop} {st : List AV} {σ : St} {l0 l1 l2 l3 l4 l5 : Option AV} {i : Nat} {x : Int32} : Rn (d) Q (23, 17, [l0, l1, l2, l3, l4, l5], vI x :: vR (some (4, 0, i)) :: st, σ) = (i < gN σ 4 ∧ Rn (d) Q (23, 20, [l0, l1, l2, l3, l4, l5], st, setI σ 4 0 i x)) := E_putI i23_17 ((congrArg (fun z => fldQ z 18) o23).trans f4_18) rfl (Or.inr ⟨rfl, n23, o23⟩)
theorem e23_20 {d : Nat} {Q : Option AV → St → Prop} {st : List AV} {σ : St} {l1 l2 l3 l4 l5 : Option AV} {x : Option (Nat × Nat × Nat)} : Rn (d) Q (23, 20, [some (vR x), l1, l2, l3, l4, l5], st, σ) = Rn (d) Q (23, 21, [some (vR x), l1, l2, l3, l4, l5], vR x :: st, σ) := E_aload_n i23_20 rfl
theorem e23_21 {d : Nat} {Q : Option AV → St → Prop} {st : List AV} {σ : St} {l0 l1 l3 l4 l5 : Option AV} {x : Int32} : Rn (d) Q (23, 21, [l0, l1, some (vI x), l3, l4, l5], st, σ) = Rn (d) Q (23, 22, [l0, l1, some (vI x), l3, l4, l5], vI x :: st, σ) := E_iload_n i23_21 rfl
theorem e23_22 {d : Nat} {Q : Option AV → St → Prop} {st : List AV} {σ : St} {l0 l1 l2 l3 l4 l5 : Option AV} {i : Nat} {x : Int32} : Rn (d) Q (23, 22, [l0, l1, l2, l3, l4, l5], vI x :: vR (some (4, 0, i)) :: st, σ) = (i < gN σ 4 ∧ Rn (d) Q (23, 25, [l0, l1, l2, l3, l4, l5], st, setI σ 4 1 i x)) := E_putI i23_22 ((congrArg (fun z => fldQ z 21) o23).trans f4_21) rfl (Or.inr ⟨rfl, n23, o23⟩)
theorem e23_25 {d : Nat} {Q : Option AV → St → Prop} {st : List AV} {σ : St} {l1 l2 l3 l4 l5 : Option AV} {x : Option (Nat × Nat × Nat)} : Rn (d) Q (23, 25, [some (vR x), l1, l2, l3, l4, l5], st, σ) = Rn (d) Q (23, 26, [some (vR x), l1, l2, l3, l4, l5], vR x :: st, σ) := E_aload_n i23_25 rfl
theorem e23_26 {d : Nat} {Q : Option AV → St → Prop} {st : List AV} {σ : St} {l0 l1 l2 l4 l5 : Option AV} {x : Int32} : Rn (d) Q (23, 26, [l0, l1, l2, some (vI x), l4, l5], st, σ) = Rn (d) Q (23, 27, [l0, l1, l2, some (vI x), l4, l5], vI x :: st, σ) := E_iload_n i23_26 rfl
theorem e23_27 {d : Nat} {Q : Option AV → St → Prop} {st : List AV} {σ : St} {l0 l1 l2 l3 l4 l5 : Option AV} {i : Nat} {x : Int32} : Rn (d) Q (23, 27, [l0, l1, l2, l3, l4, l5], vI x :: vR (some (4, 0, i)) :: st, σ) = (i < gN σ 4 ∧ Rn (d) Q (23, 30, [l0, l1, l2, l3, l4, l5], st, setI σ 4 2 i x)) := E_putI i23_27 ((congrArg (fun z => fldQ z 24) o23).trans f4_24) rfl (Or.inl rfl)
theorem e23_30 {d : Nat} {Q : Option AV → St → Prop} {st : List AV} {σ : St} {l1 l2 l3 l4 l5 : Option AV} {x : Option (Nat × Nat × Nat)} : Rn (d) Q (23, 30, [some (vR x), l1, l2, l3, l4, l5], st, σ) = Rn (d) Q (23, 31, [some (vR x), l1, l2, l3, l4, l5], vR x :: st, σ) := E_aload_n i23_30 rfl
theorem e23_31 {d : Nat} {Q : Option AV → St → Prop} {st : List AV} {σ : St} {l0 l1 l2 l3 l5 : Option AV} {x : Int32} : Rn (d) Q (23, 31, [l0, l1, l2, l3, some (vI x), l5], st, σ) = Rn (d) Q (23, 33, [l0, l1, l2, l3, some (vI x), l5], vI x :: st, σ) := E_iload i23_31 rfl
theorem e23_33 {d : Nat} {Q : Option AV → St → Prop} {st : List AV} {σ : St} {l0 l1 l2 l3 l4 l5 : Option AV} {i : Nat} {x : Int32} : Rn (d) Q (23, 33, [l0, l1, l2, l3, l4, l5], vI x :: vR (some (4, 0, i)) :: st, σ) = (i < gN σ 4 ∧ Rn (d) Q (23, 36, [l0, l1, l2, l3, l4, l5], st, setI σ 4 3 i x)) := E_putI i23_33 ((congrArg (fun z => fldQ z 27) o23).trans f4_27) rfl (Or.inl rfl)
theorem e23_36 {d : Nat} {Q : Option AV → St → Prop} {st : List AV} {σ : St} {l1 l2 l3 l4 l5 : Option AV} {x : Option (Nat × Nat × Nat)} : Rn (d) Q (23, 36, [some (vR x), l1, l2, l3, l4, l5], st, σ) = Rn (d) Q (23, 37, [some (vR x), l1, l2, l3, l4, l5], vR x :: st, σ) := E_aload_n i23_36 rfl
theorem e23_37 {d : Nat} {Q : Option AV → St → Prop} {st : List AV} {σ : St} {l0 l1 l2 l3 l4 : Option AV} {x : Option (Nat × Nat × Nat)} : Rn (d) Q (23, 37, [l0, l1, l2, l3, l4, some (vR x)], st, σ) = Rn (d) Q (23, 39, [l0, l1, l2, l3, l4, some (vR x)], vR x :: st, σ) := E_aload i23_37 rfl
theorem e23_39 {d : Nat} {Q : Option AV → St → Prop} {st : List AV} {σ : St} {l0 l1 l2 l3 l4 l5 : Option AV} {i j : Nat} : Rn (d) Q (23, 39, [l0, l1, l2, l3, l4, l5], vR (some (0, 0, j)) :: vR (some (4, 0, i)) :: st, σ) = (i < gN σ 4 ∧ Rn (d) Q (23, 42, [l0, l1, l2, l3, l4, l5], st, setR σ 4 4 i (some j))) := E_putR i23_39 ((congrArg (fun z => fldQ z 30) o23).trans f4_30) rfl (Or.inl rfl)
theorem e23_42 {d : Nat} {Q : Option AV → St → Prop} {σ : St} {l0 l1 l2 l3 l4 l5 : Option AV} : Rn (d) Q (23, 42, [l0, l1, l2, l3, l4, l5], [], σ) = Q none σ := E_ret (st := []) i23_42 r23
theorem i24_0 : ins 24 0 = some (.aload_n 0, 1) := (congrArg (fun x : PTy => x.1.lookup 0) q24).trans rfl
theorem i24_1 : ins 24 1 = some (.iload_n 1, 1) := (congrArg (fun x : PTy => x.1.lookup 1) q24).trans rfl
theorem i24_2 : ins 24 2 = some (.putfield 24, 3) := (congrArg (fun x : PTy => x.1.lookup 2) q24).trans rfl
theorem i24_5 : ins 24 5 = some (.aload_n 0, 1) := (congrArg (fun x : PTy => x.1.lookup 5) q24).trans rfl
theorem i24_6 : ins 24 6 = some (.iload_n 2, 1) := (congrArg (fun x : PTy => x.1.lookup 6) q24).trans rfl
theorem i24_7 : ins 24 7 = some (.putfield 27, 3) := (congrArg (fun x : PTy => x.1.lookup 7) q24).trans rfl
theorem i24_10 : ins 24 10 = some (.aload_n 0, 1) := (congrArg (fun x : PTy => x.1.lookup 10) q24).trans rfl
theorem i24_11 : ins 24 11 = some (.aload_n 3, 1) := (congrArg (fun x : PTy => x.1.lookup 11) q24).trans rfl
theorem i24_12 : ins 24 12 = some (.putfield 30, 3) := (congrArg (fun x : PTy => x.1.lookup 12) q24).trans rfl
theorem i24_15 : ins 24 15 = some (.return_, 1) := (congrArg (fun x : PTy => x.1.lookup 15) q24).trans rfl
theorem e24_0 {d : Nat} {Q : Option AV → St → Prop} {st : List AV} {σ : St} {l1 l2 l3 : Option AV} {x : Option (Nat × Nat × Nat)} : Rn (d) Q (24, 0, [some (vR x), l1, l2, l3], st, σ) = Rn (d) Q (24, 1, [some (vR x), l1, l2, l3], vR x :: st, σ) := E_aload_n i24_0 rfl
theorem e24_1 {d : Nat} {Q : Option AV → St → Prop} {st : List AV} {σ : St} {l0 l2 l3 : Option AV} {x : Int32} : Rn (d) Q (24, 1, [l0, some (vI x), l2, l3], st, σ) = Rn (d) Q (24, 2, [l0, some (vI x), l2, l3], vI x :: st, σ) := E_iload_n i24_1 rfl
theorem e24_2 {d : Nat} {Q : Option AV → St → Prop} {st : List AV} {σ : St} {l0 l1 l2 l3 : Option AV} {i : Nat} {x : Int32} : Rn (d) Q (24, 2, [l0, l1, l2, l3], vI x :: vR (some (4, 0, i)) :: st, σ) = (i < gN σ 4 ∧ Rn (d) Q (24, 5, [l0, l1, l2, l3], st, setI σ 4 2 i x)) := E_putI i24_2 ((congrArg (fun z => fldQ z 24) o24).trans f4_24) rfl (Or.inl rfl)
theorem e24_5 {d : Nat} {Q : Option AV → St → Prop} {st : List AV} {σ : St} {l1 l2 l3 : Option AV} {x : Option (Nat × Nat × Nat)} : Rn (d) Q (24, 5, [some (vR x), l1, l2, l3], st, σ) = Rn (d) Q (24, 6, [some (vR x), l1, l2, l3], vR x :: st, σ) := E_aload_n i24_5 rfl
theorem e24_6 {d : Nat} {Q : Option AV → St → Prop} {st : List AV} {σ : St} {l0 l1 l3 : Option AV} {x : Int32} : Rn (d) Q (24, 6, [l0, l1, some (vI x), l3], st, σ) = Rn (d) Q (24, 7, [l0, l1, some (vI x), l3], vI x :: st, σ) := E_iload_n i24_6 rfl
theorem e24_7 {d : Nat} {Q : Option AV → St → Prop} {st : List AV} {σ : St} {l0 l1 l2 l3 : Option AV} {i : Nat} {x : Int32} : Rn (d) Q (24, 7, [l0, l1, l2, l3], vI x :: vR (some (4, 0, i)) :: st, σ) = (i < gN σ 4 ∧ Rn (d) Q (24, 10, [l0, l1, l2, l3], st, setI σ 4 3 i x)) := E_putI i24_7 ((congrArg (fun z => fldQ z 27) o24).trans f4_27) rfl (Or.inl rfl)
theorem e24_10 {d : Nat} {Q : Option AV → St → Prop} {st : List AV} {σ : St} {l1 l2 l3 : Option AV} {x : Option (Nat × Nat × Nat)} : Rn (d) Q (24, 10, [some (vR x), l1, l2, l3], st, σ) = Rn (d) Q (24, 11, [some (vR x), l1, l2, l3], vR x :: st, σ) := E_aload_n i24_10 rfl
theorem e24_11 {d : Nat} {Q : Option AV → St → Prop} {st : List AV} {σ : St} {l0 l1 l2 : Option AV} {x : Option (Nat × Nat × Nat)} : Rn (d) Q (24, 11, [l0, l1, l2, some (vR x)], st, σ) = Rn (d) Q (24, 12, [l0, l1, l2, some (vR x)], vR x :: st, σ) := E_aload_n i24_11 rfl
theorem e24_12 {d : Nat} {Q : Option AV → St → Prop} {st : List AV} {σ : St} {l0 l1 l2 l3 : Option AV} {i j : Nat} : Rn (d) Q (24, 12, [l0, l1, l2, l3], vR (some (0, 0, j)) :: vR (some (4, 0, i)) :: st, σ) = (i < gN σ 4 ∧ Rn (d) Q (24, 15, [l0, l1, l2, l3], st, setR σ 4 4 i (some j))) := E_putR i24_12 ((congrArg (fun z => fldQ z 30) o24).trans f4_30) rfl (Or.inl rfl)
theorem e24_15 {d : Nat} {Q : Option AV → St → Prop} {σ : St} {l0 l1 l2 l3 : Option AV} : Rn (d) Q (24, 15, [l0, l1, l2, l3], [], σ) = Q none σ := E_ret (st := []) i24_15 r24
theorem i25_0 : ins 25 0 = some (.aload_n 0, 1) := (congrArg (fun x : PTy => x.1.lookup 0) q25).trans rfl
theorem i25_1 : ins 25 1 = some (.getfield 15, 3) := (congrArg (fun x : PTy => x.1.lookup 1) q25).trans rfl
theorem i25_4 : ins 25 4 = some (.bipush (-4), 2) := (congrArg (fun x : PTy => x.1.lookup 4) q25).trans rfl
theorem i25_6 : ins 25 6 = some (.if_icmp .eq 15, 3) := (congrArg (fun x : PTy => x.1.lookup 6) q25).trans rfl
theorem i25_9 : ins 25 9 = some (.aload_n 0, 1) := (congrArg (fun x : PTy => x.1.lookup 9) q25).trans rfl
theorem i25_10 : ins 25 10 = some (.getfield 15, 3) := (congrArg (fun x : PTy => x.1.lookup 10) q25).trans rfl
theorem i25_13 : ins 25 13 = some (.iload_n 1, 1) := (congrArg (fun x : PTy => x.1.lookup 13) q25).trans rfl
theorem i25_14 : ins 25 14 = some (.if_icmp .gt 7, 3) := (congrArg (fun x : PTy => x.1.lookup 14) q25).trans rfl
theorem i25_17 : ins 25 17 = some (.iconst 1, 1) := (congrArg (fun x : PTy => x.1.lookup 17) q25).trans rfl
theorem i25_18 : ins 25 18 = some (.goto 4, 3) := (congrArg (fun x : PTy => x.1.lookup 18) q25).trans rfl
theorem i25_21 : ins 25 21 = some (.iconst 0, 1) := (congrArg (fun x : PTy => x.1.lookup 21) q25).trans rfl
theorem i25_22 : ins 25 22 = some (.ireturn, 1) := (congrArg (fun x : PTy => x.1.lookup 22) q25).trans rfl
theorem e25_0 {d : Nat} {Q : Option AV → St → Prop} {st : List AV} {σ : St} {l1 : Option AV} {x : Option (Nat × Nat × Nat)} : Rn (d) Q (25, 0, [some (vR x), l1], st, σ) = Rn (d) Q (25, 1, [some (vR x), l1], vR x :: st, σ) := E_aload_n i25_0 rfl
theorem e25_1 {d : Nat} {Q : Option AV → St → Prop} {st : List AV} {σ : St} {l0 l1 : Option AV} {i : Nat} : Rn (d) Q (25, 1, [l0, l1], vR (some (4, 0, i)) :: st, σ) = (i < gN σ 4 ∧ Rn (d) Q (25, 4, [l0, l1], vI (gI σ 4 6 i) :: st, σ)) := E_getI i25_1 ((congrArg (fun z => fldQ z 15) o25).trans f4_15) rfl
theorem e25_4 {d : Nat} {Q : Option AV → St → Prop} {st : List AV} {σ : St} {l0 l1 : Option AV} : Rn (d) Q (25, 4, [l0, l1], st, σ) = Rn (d) Q (25, 6, [l0, l1], vI (-4) :: st, σ) := by rw [E_bipush i25_4, cb_m4]
theorem e25_6 {d : Nat} {Q : Option AV → St → Prop} {st : List AV} {σ : St} {l0 l1 : Option AV} {x y : Int32} : Rn (d) Q (25, 6, [l0, l1], vI y :: vI x :: st, σ) = (if x = y then Rn (d) Q (25, 21, [l0, l1], st, σ) else Rn (d) Q (25, 9, [l0, l1], st, σ)) := E_icmp_eq 21 i25_6 (by decide)
theorem e25_9 {d : Nat} {Q : Option AV → St → Prop} {st : List AV} {σ : St} {l1 : Option AV} {x : Option (Nat × Nat × Nat)} : Rn (d) Q (25, 9, [some (vR x), l1], st, σ) = Rn (d) Q (25, 10, [some (vR x), l1], vR x :: st, σ) := E_aload_n i25_9 rfl
theorem e25_10 {d : Nat} {Q : Option AV → St → Prop} {st : List AV} {σ : St} {l0 l1 : Option AV} {i : Nat} : Rn (d) Q (25, 10, [l0, l1], vR (some (4, 0, i)) :: st, σ) = (i < gN σ 4 ∧ Rn (d) Q (25, 13, [l0, l1], vI (gI σ 4 6 i) :: st, σ)) := E_getI i25_10 ((congrArg (fun z => fldQ z 15) o25).trans f4_15) rfl
theorem e25_13 {d : Nat} {Q : Option AV → St → Prop} {st : List AV} {σ : St} {l0 : Option AV} {x : Int32} : Rn (d) Q (25, 13, [l0, some (vI x)], st, σ) = Rn (d) Q (25, 14, [l0, some (vI x)], vI x :: st, σ) := E_iload_n i25_13 rfl
theorem e25_14 {d : Nat} {Q : Option AV → St → Prop} {st : List AV} {σ : St} {l0 l1 : Option AV} {x y : Int32} : Rn (d) Q (25, 14, [l0, l1], vI y :: vI x :: st, σ) = (if y < x then Rn (d) Q (25, 21, [l0, l1], st, σ) else Rn (d) Q (25, 17, [l0, l1], st, σ)) := E_icmp_gt 21 i25_14 (by decide)
theorem e25_17 {d : Nat} {Q : Option AV → St → Prop} {st : List AV} {σ : St} {l0 l1 : Option AV} : Rn (d) Q (25, 17, [l0, l1], st, σ) = Rn (d) Q (25, 18, [l0, l1], vI 1 :: st, σ) := by rw [E_iconst i25_17, ci_1]
theorem e25_18 {d : Nat} {Q : Option AV → St → Prop} {st : List AV} {σ : St} {l0 l1 : Option AV} : Rn (d) Q (25, 18, [l0, l1], st, σ) = Rn (d) Q (25, 22, [l0, l1], st, σ) := E_goto 22 i25_18 (by decide)
theorem e25_21 {d : Nat} {Q : Option AV → St → Prop} {st : List AV} {σ : St} {l0 l1 : Option AV} : Rn (d) Q (25, 21, [l0, l1], st, σ) = Rn (d) Q (25, 22, [l0, l1], vI 0 :: st, σ) := by rw [E_iconst i25_21, ci_0]
theorem e25_22 {d : Nat} {Q : Option AV → St → Prop} {σ : St} {l0 l1 : Option AV} {x : Int32} : Rn (d) Q (25, 22, [l0, l1], [vI x], σ) = ((x = 0 ∨ x = 1) ∧ Q (some (vI x)) σ) := E_iretZ (st := []) i25_22 r25
theorem i26_0 : ins 26 0 = some (.aload_n 0, 1) := (congrArg (fun x : PTy => x.1.lookup 0) q26).trans rfl
theorem i26_1 : ins 26 1 = some (.invokespecial 3, 3) := (congrArg (fun x : PTy => x.1.lookup 1) q26).trans rfl
theorem i26_4 : ins 26 4 = some (.aload_n 0, 1) := (congrArg (fun x : PTy => x.1.lookup 4) q26).trans rfl
theorem i26_5 : ins 26 5 = some (.bipush 6, 2) := (congrArg (fun x : PTy => x.1.lookup 5) q26).trans rfl
theorem i26_7 : ins 26 7 = some (.newarray .int, 2) := (congrArg (fun x : PTy => x.1.lookup 7) q26).trans rfl
theorem i26_9 : ins 26 9 = some (.putfield 9, 3) := (congrArg (fun x : PTy => x.1.lookup 9) q26).trans rfl
theorem i26_12 : ins 26 12 = some (.aload_n 0, 1) := (congrArg (fun x : PTy => x.1.lookup 12) q26).trans rfl
theorem i26_13 : ins 26 13 = some (.bipush 6, 2) := (congrArg (fun x : PTy => x.1.lookup 13) q26).trans rfl
theorem i26_15 : ins 26 15 = some (.newarray .int, 2) := (congrArg (fun x : PTy => x.1.lookup 15) q26).trans rfl
theorem i26_17 : ins 26 17 = some (.putfield 15, 3) := (congrArg (fun x : PTy => x.1.lookup 17) q26).trans rfl
theorem i26_20 : ins 26 20 = some (.aload_n 0, 1) := (congrArg (fun x : PTy => x.1.lookup 20) q26).trans rfl
theorem i26_21 : ins 26 21 = some (.bipush 6, 2) := (congrArg (fun x : PTy => x.1.lookup 21) q26).trans rfl
theorem i26_23 : ins 26 23 = some (.newarray .int, 2) := (congrArg (fun x : PTy => x.1.lookup 23) q26).trans rfl
theorem i26_25 : ins 26 25 = some (.putfield 18, 3) := (congrArg (fun x : PTy => x.1.lookup 25) q26).trans rfl
theorem i26_28 : ins 26 28 = some (.aload_n 0, 1) := (congrArg (fun x : PTy => x.1.lookup 28) q26).trans rfl
theorem i26_29 : ins 26 29 = some (.bipush 6, 2) := (congrArg (fun x : PTy => x.1.lookup 29) q26).trans rfl
theorem i26_31 : ins 26 31 = some (.newarray .int, 2) := (congrArg (fun x : PTy => x.1.lookup 31) q26).trans rfl
theorem i26_33 : ins 26 33 = some (.putfield 21, 3) := (congrArg (fun x : PTy => x.1.lookup 33) q26).trans rfl
theorem i26_36 : ins 26 36 = some (.aload_n 0, 1) := (congrArg (fun x : PTy => x.1.lookup 36) q26).trans rfl
theorem i26_37 : ins 26 37 = some (.bipush 7, 2) := (congrArg (fun x : PTy => x.1.lookup 37) q26).trans rfl
theorem i26_39 : ins 26 39 = some (.newarray .int, 2) := (congrArg (fun x : PTy => x.1.lookup 39) q26).trans rfl
theorem i26_41 : ins 26 41 = some (.putfield 24, 3) := (congrArg (fun x : PTy => x.1.lookup 41) q26).trans rfl
theorem i26_44 : ins 26 44 = some (.aload_n 0, 1) := (congrArg (fun x : PTy => x.1.lookup 44) q26).trans rfl
theorem i26_45 : ins 26 45 = some (.bipush 7, 2) := (congrArg (fun x : PTy => x.1.lookup 45) q26).trans rfl
theorem i26_47 : ins 26 47 = some (.newarray .int, 2) := (congrArg (fun x : PTy => x.1.lookup 47) q26).trans rfl
theorem i26_49 : ins 26 49 = some (.putfield 27, 3) := (congrArg (fun x : PTy => x.1.lookup 49) q26).trans rfl
theorem i26_52 : ins 26 52 = some (.aload_n 0, 1) := (congrArg (fun x : PTy => x.1.lookup 52) q26).trans rfl
theorem i26_53 : ins 26 53 = some (.bipush 6, 2) := (congrArg (fun x : PTy => x.1.lookup 53) q26).trans rfl
theorem i26_55 : ins 26 55 = some (.newarray .int, 2) := (congrArg (fun x : PTy => x.1.lookup 55) q26).trans rfl
theorem i26_57 : ins 26 57 = some (.putfield 30, 3) := (congrArg (fun x : PTy => x.1.lookup 57) q26).trans rfl
theorem i26_60 : ins 26 60 = some (.aload_n 0, 1) := (congrArg (fun x : PTy => x.1.lookup 60) q26).trans rfl
theorem i26_61 : ins 26 61 = some (.bipush 6, 2) := (congrArg (fun x : PTy => x.1.lookup 61) q26).trans rfl
theorem i26_63 : ins 26 63 = some (.newarray .int, 2) := (congrArg (fun x : PTy => x.1.lookup 63) q26).trans rfl
theorem i26_65 : ins 26 65 = some (.putfield 33, 3) := (congrArg (fun x : PTy => x.1.lookup 65) q26).trans rfl
theorem i26_68 : ins 26 68 = some (.aload_n 0, 1) := (congrArg (fun x : PTy => x.1.lookup 68) q26).trans rfl
theorem i26_69 : ins 26 69 = some (.iconst 0, 1) := (congrArg (fun x : PTy => x.1.lookup 69) q26).trans rfl
theorem i26_70 : ins 26 70 = some (.putfield 36, 3) := (congrArg (fun x : PTy => x.1.lookup 70) q26).trans rfl
theorem i26_73 : ins 26 73 = some (.aload_n 0, 1) := (congrArg (fun x : PTy => x.1.lookup 73) q26).trans rfl
theorem i26_74 : ins 26 74 = some (.iconst 0, 1) := (congrArg (fun x : PTy => x.1.lookup 74) q26).trans rfl
theorem i26_75 : ins 26 75 = some (.putfield 40, 3) := (congrArg (fun x : PTy => x.1.lookup 75) q26).trans rfl
theorem i26_78 : ins 26 78 = some (.aload_n 0, 1) := (congrArg (fun x : PTy => x.1.lookup 78) q26).trans rfl
theorem i26_79 : ins 26 79 = some (.iconst 0, 1) := (congrArg (fun x : PTy => x.1.lookup 79) q26).trans rfl
theorem i26_80 : ins 26 80 = some (.putfield 43, 3) := (congrArg (fun x : PTy => x.1.lookup 80) q26).trans rfl
theorem i26_83 : ins 26 83 = some (.aload_n 0, 1) := (congrArg (fun x : PTy => x.1.lookup 83) q26).trans rfl
theorem i26_84 : ins 26 84 = some (.iconst 0, 1) := (congrArg (fun x : PTy => x.1.lookup 84) q26).trans rfl
theorem i26_85 : ins 26 85 = some (.putfield 46, 3) := (congrArg (fun x : PTy => x.1.lookup 85) q26).trans rfl
theorem i26_88 : ins 26 88 = some (.return_, 1) := (congrArg (fun x : PTy => x.1.lookup 88) q26).trans rfl
theorem e26_0 {d : Nat} {Q : Option AV → St → Prop} {st : List AV} {σ : St}  {x : Option (Nat × Nat × Nat)} : Rn (d) Q (26, 0, [some (vR x)], st, σ) = Rn (d) Q (26, 1, [some (vR x)], vR x :: st, σ) := E_aload_n i26_0 rfl
theorem e26_1 {d : Nat} {Q : Option AV → St → Prop} {st : List AV} {σ : St} {l0 : Option AV} {x : Nat × Nat × Nat} : Rn (d) Q (26, 1, [l0], vR (some x) :: st, σ) = (catS st ≤ 8 ∧ Rn (d) Q (26, 4, [l0], st, σ)) := E_objInit i26_1 ((congrArg (fun z => mthQ z 3) o26).trans m5_3)
theorem e26_4 {d : Nat} {Q : Option AV → St → Prop} {st : List AV} {σ : St}  {x : Option (Nat × Nat × Nat)} : Rn (d) Q (26, 4, [some (vR x)], st, σ) = Rn (d) Q (26, 5, [some (vR x)], vR x :: st, σ) := E_aload_n i26_4 rfl
theorem e26_5 {d : Nat} {Q : Option AV → St → Prop} {st : List AV} {σ : St} {l0 : Option AV} : Rn (d) Q (26, 5, [l0], st, σ) = Rn (d) Q (26, 7, [l0], vI 6 :: st, σ) := by rw [E_bipush i26_5, cb_6]
theorem e26_7 {d : Nat} {Q : Option AV → St → Prop} {st : List AV} {σ : St} {l0 : Option AV} {i : Nat} : Rn (d) Q (26, 7, [l0], vI 6 :: vR (some (5, 0, i)) :: st, σ) = (i < gN σ 5 ∧ gL σ 5 0 i = none ∧ Rn (d) Q (26, 12, [l0], st, newA σ 5 0 i 6)) := by rw [E_newarray i26_7 i26_9 ((congrArg (fun z => fldQ z 9) o26).trans f5_9) ⟨rfl, rfl⟩ (by decide) (Or.inr ⟨n26, o26⟩) (by decide +kernel), show (6 : Int32).toNatClampNeg = 6 by decide +kernel]
theorem e26_12 {d : Nat} {Q : Option AV → St → Prop} {st : List AV} {σ : St}  {x : Option (Nat × Nat × Nat)} : Rn (d) Q (26, 12, [some (vR x)], st, σ) = Rn (d) Q (26, 13, [some (vR x)], vR x :: st, σ) := E_aload_n i26_12 rfl
theorem e26_13 {d : Nat} {Q : Option AV → St → Prop} {st : List AV} {σ : St} {l0 : Option AV} : Rn (d) Q (26, 13, [l0], st, σ) = Rn (d) Q (26, 15, [l0], vI 6 :: st, σ) := by rw [E_bipush i26_13, cb_6]
theorem e26_15 {d : Nat} {Q : Option AV → St → Prop} {st : List AV} {σ : St} {l0 : Option AV} {i : Nat} : Rn (d) Q (26, 15, [l0], vI 6 :: vR (some (5, 0, i)) :: st, σ) = (i < gN σ 5 ∧ gL σ 5 1 i = none ∧ Rn (d) Q (26, 20, [l0], st, newA σ 5 1 i 6)) := by rw [E_newarray i26_15 i26_17 ((congrArg (fun z => fldQ z 15) o26).trans f5_15) ⟨rfl, rfl⟩ (by decide) (Or.inr ⟨n26, o26⟩) (by decide +kernel), show (6 : Int32).toNatClampNeg = 6 by decide +kernel]
theorem e26_20 {d : Nat} {Q : Option AV → St → Prop} {st : List AV} {σ : St}  {x : Option (Nat × Nat × Nat)} : Rn (d) Q (26, 20, [some (vR x)], st, σ) = Rn (d) Q (26, 21, [some (vR x)], vR x :: st, σ) := E_aload_n i26_20 rfl
theorem e26_21 {d : Nat} {Q : Option AV → St → Prop} {st : List AV} {σ : St} {l0 : Option AV} : Rn (d) Q (26, 21, [l0], st, σ) = Rn (d) Q (26, 23, [l0], vI 6 :: st, σ) := by rw [E_bipush i26_21, cb_6]
theorem e26_23 {d : Nat} {Q : Option AV → St → Prop} {st : List AV} {σ : St} {l0 : Option AV} {i : Nat} : Rn (d) Q (26, 23, [l0], vI 6 :: vR (some (5, 0, i)) :: st, σ) = (i < gN σ 5 ∧ gL σ 5 2 i = none ∧ Rn (d) Q (26, 28, [l0], st, newA σ 5 2 i 6)) := by rw [E_newarray i26_23 i26_25 ((congrArg (fun z => fldQ z 18) o26).trans f5_18) ⟨rfl, rfl⟩ (by decide) (Or.inr ⟨n26, o26⟩) (by decide +kernel), show (6 : Int32).toNatClampNeg = 6 by decide +kernel]
theorem e26_28 {d : Nat} {Q : Option AV → St → Prop} {st : List AV} {σ : St}  {x : Option (Nat × Nat × Nat)} : Rn (d) Q (26, 28, [some (vR x)], st, σ) = Rn (d) Q (26, 29, [some (vR x)], vR x :: st, σ) := E_aload_n i26_28 rfl
theorem e26_29 {d : Nat} {Q : Option AV → St → Prop} {st : List AV} {σ : St} {l0 : Option AV} : Rn (d) Q (26, 29, [l0], st, σ) = Rn (d) Q (26, 31, [l0], vI 6 :: st, σ) := by rw [E_bipush i26_29, cb_6]
theorem e26_31 {d : Nat} {Q : Option AV → St → Prop} {st : List AV} {σ : St} {l0 : Option AV} {i : Nat} : Rn (d) Q (26, 31, [l0], vI 6 :: vR (some (5, 0, i)) :: st, σ) = (i < gN σ 5 ∧ gL σ 5 3 i = none ∧ Rn (d) Q (26, 36, [l0], st, newA σ 5 3 i 6)) := by rw [E_newarray i26_31 i26_33 ((congrArg (fun z => fldQ z 21) o26).trans f5_21) ⟨rfl, rfl⟩ (by decide) (Or.inr ⟨n26, o26⟩) (by decide +kernel), show (6 : Int32).toNatClampNeg = 6 by decide +kernel]
theorem e26_36 {d : Nat} {Q : Option AV → St → Prop} {st : List AV} {σ : St}  {x : Option (Nat × Nat × Nat)} : Rn (d) Q (26, 36, [some (vR x)], st, σ) = Rn (d) Q (26, 37, [some (vR x)], vR x :: st, σ) := E_aload_n i26_36 rfl
theorem e26_37 {d : Nat} {Q : Option AV → St → Prop} {st : List AV} {σ : St} {l0 : Option AV} : Rn (d) Q (26, 37, [l0], st, σ) = Rn (d) Q (26, 39, [l0], vI 7 :: st, σ) := by rw [E_bipush i26_37, cb_7]
theorem e26_39 {d : Nat} {Q : Option AV → St → Prop} {st : List AV} {σ : St} {l0 : Option AV} {i : Nat} : Rn (d) Q (26, 39, [l0], vI 7 :: vR (some (5, 0, i)) :: st, σ) = (i < gN σ 5 ∧ gL σ 5 4 i = none ∧ Rn (d) Q (26, 44, [l0], st, newA σ 5 4 i 7)) := by rw [E_newarray i26_39 i26_41 ((congrArg (fun z => fldQ z 24) o26).trans f5_24) ⟨rfl, rfl⟩ (by decide) (Or.inr ⟨n26, o26⟩) (by decide +kernel), show (7 : Int32).toNatClampNeg = 7 by decide +kernel]
theorem e26_44 {d : Nat} {Q : Option AV → St → Prop} {st : List AV} {σ : St}  {x : Option (Nat × Nat × Nat)} : Rn (d) Q (26, 44, [some (vR x)], st, σ) = Rn (d) Q (26, 45, [some (vR x)], vR x :: st, σ) := E_aload_n i26_44 rfl
theorem e26_45 {d : Nat} {Q : Option AV → St → Prop} {st : List AV} {σ : St} {l0 : Option AV} : Rn (d) Q (26, 45, [l0], st, σ) = Rn (d) Q (26, 47, [l0], vI 7 :: st, σ) := by rw [E_bipush i26_45, cb_7]
theorem e26_47 {d : Nat} {Q : Option AV → St → Prop} {st : List AV} {σ : St} {l0 : Option AV} {i : Nat} : Rn (d) Q (26, 47, [l0], vI 7 :: vR (some (5, 0, i)) :: st, σ) = (i < gN σ 5 ∧ gL σ 5 5 i = none ∧ Rn (d) Q (26, 52, [l0], st, newA σ 5 5 i 7)) := by rw [E_newarray i26_47 i26_49 ((congrArg (fun z => fldQ z 27) o26).trans f5_27) ⟨rfl, rfl⟩ (by decide) (Or.inr ⟨n26, o26⟩) (by decide +kernel), show (7 : Int32).toNatClampNeg = 7 by decide +kernel]
theorem e26_52 {d : Nat} {Q : Option AV → St → Prop} {st : List AV} {σ : St}  {x : Option (Nat × Nat × Nat)} : Rn (d) Q (26, 52, [some (vR x)], st, σ) = Rn (d) Q (26, 53, [some (vR x)], vR x :: st, σ) := E_aload_n i26_52 rfl
theorem e26_53 {d : Nat} {Q : Option AV → St → Prop} {st : List AV} {σ : St} {l0 : Option AV} : Rn (d) Q (26, 53, [l0], st, σ) = Rn (d) Q (26, 55, [l0], vI 6 :: st, σ) := by rw [E_bipush i26_53, cb_6]
theorem e26_55 {d : Nat} {Q : Option AV → St → Prop} {st : List AV} {σ : St} {l0 : Option AV} {i : Nat} : Rn (d) Q (26, 55, [l0], vI 6 :: vR (some (5, 0, i)) :: st, σ) = (i < gN σ 5 ∧ gL σ 5 6 i = none ∧ Rn (d) Q (26, 60, [l0], st, newA σ 5 6 i 6)) := by rw [E_newarray i26_55 i26_57 ((congrArg (fun z => fldQ z 30) o26).trans f5_30) ⟨rfl, rfl⟩ (by decide) (Or.inr ⟨n26, o26⟩) (by decide +kernel), show (6 : Int32).toNatClampNeg = 6 by decide +kernel]
theorem e26_60 {d : Nat} {Q : Option AV → St → Prop} {st : List AV} {σ : St}  {x : Option (Nat × Nat × Nat)} : Rn (d) Q (26, 60, [some (vR x)], st, σ) = Rn (d) Q (26, 61, [some (vR x)], vR x :: st, σ) := E_aload_n i26_60 rfl
theorem e26_61 {d : Nat} {Q : Option AV → St → Prop} {st : List AV} {σ : St} {l0 : Option AV} : Rn (d) Q (26, 61, [l0], st, σ) = Rn (d) Q (26, 63, [l0], vI 6 :: st, σ) := by rw [E_bipush i26_61, cb_6]
theorem e26_63 {d : Nat} {Q : Option AV → St → Prop} {st : List AV} {σ : St} {l0 : Option AV} {i : Nat} : Rn (d) Q (26, 63, [l0], vI 6 :: vR (some (5, 0, i)) :: st, σ) = (i < gN σ 5 ∧ gL σ 5 7 i = none ∧ Rn (d) Q (26, 68, [l0], st, newA σ 5 7 i 6)) := by rw [E_newarray i26_63 i26_65 ((congrArg (fun z => fldQ z 33) o26).trans f5_33) ⟨rfl, rfl⟩ (by decide) (Or.inr ⟨n26, o26⟩) (by decide +kernel), show (6 : Int32).toNatClampNeg = 6 by decide +kernel]
theorem e26_68 {d : Nat} {Q : Option AV → St → Prop} {st : List AV} {σ : St}  {x : Option (Nat × Nat × Nat)} : Rn (d) Q (26, 68, [some (vR x)], st, σ) = Rn (d) Q (26, 69, [some (vR x)], vR x :: st, σ) := E_aload_n i26_68 rfl
theorem e26_69 {d : Nat} {Q : Option AV → St → Prop} {st : List AV} {σ : St} {l0 : Option AV} : Rn (d) Q (26, 69, [l0], st, σ) = Rn (d) Q (26, 70, [l0], vI 0 :: st, σ) := by rw [E_iconst i26_69, ci_0]
theorem e26_70 {d : Nat} {Q : Option AV → St → Prop} {st : List AV} {σ : St} {l0 : Option AV} {i : Nat} {x : Int32} : Rn (d) Q (26, 70, [l0], vI x :: vR (some (5, 0, i)) :: st, σ) = (i < gN σ 5 ∧ Rn (d) Q (26, 73, [l0], st, setI σ 5 8 i x)) := E_putI i26_70 ((congrArg (fun z => fldQ z 36) o26).trans f5_36) rfl (Or.inl rfl)
theorem e26_73 {d : Nat} {Q : Option AV → St → Prop} {st : List AV} {σ : St}  {x : Option (Nat × Nat × Nat)} : Rn (d) Q (26, 73, [some (vR x)], st, σ) = Rn (d) Q (26, 74, [some (vR x)], vR x :: st, σ) := E_aload_n i26_73 rfl
theorem e26_74 {d : Nat} {Q : Option AV → St → Prop} {st : List AV} {σ : St} {l0 : Option AV} : Rn (d) Q (26, 74, [l0], st, σ) = Rn (d) Q (26, 75, [l0], vI 0 :: st, σ) := by rw [E_iconst i26_74, ci_0]
theorem e26_75 {d : Nat} {Q : Option AV → St → Prop} {st : List AV} {σ : St} {l0 : Option AV} {i : Nat} {x : Int32} : Rn (d) Q (26, 75, [l0], vI x :: vR (some (5, 0, i)) :: st, σ) = (i < gN σ 5 ∧ Rn (d) Q (26, 78, [l0], st, setI σ 5 9 i x)) := E_putI i26_75 ((congrArg (fun z => fldQ z 40) o26).trans f5_40) rfl (Or.inl rfl)
theorem e26_78 {d : Nat} {Q : Option AV → St → Prop} {st : List AV} {σ : St}  {x : Option (Nat × Nat × Nat)} : Rn (d) Q (26, 78, [some (vR x)], st, σ) = Rn (d) Q (26, 79, [some (vR x)], vR x :: st, σ) := E_aload_n i26_78 rfl
theorem e26_79 {d : Nat} {Q : Option AV → St → Prop} {st : List AV} {σ : St} {l0 : Option AV} : Rn (d) Q (26, 79, [l0], st, σ) = Rn (d) Q (26, 80, [l0], vI 0 :: st, σ) := by rw [E_iconst i26_79, ci_0]
theorem e26_80 {d : Nat} {Q : Option AV → St → Prop} {st : List AV} {σ : St} {l0 : Option AV} {i : Nat} {x : Int32} : Rn (d) Q (26, 80, [l0], vI x :: vR (some (5, 0, i)) :: st, σ) = (i < gN σ 5 ∧ Rn (d) Q (26, 83, [l0], st, setI σ 5 10 i x)) := E_putI i26_80 ((congrArg (fun z => fldQ z 43) o26).trans f5_43) rfl (Or.inl rfl)
theorem e26_83 {d : Nat} {Q : Option AV → St → Prop} {st : List AV} {σ : St}  {x : Option (Nat × Nat × Nat)} : Rn (d) Q (26, 83, [some (vR x)], st, σ) = Rn (d) Q (26, 84, [some (vR x)], vR x :: st, σ) := E_aload_n i26_83 rfl
theorem e26_84 {d : Nat} {Q : Option AV → St → Prop} {st : List AV} {σ : St} {l0 : Option AV} : Rn (d) Q (26, 84, [l0], st, σ) = Rn (d) Q (26, 85, [l0], vI 0 :: st, σ) := by rw [E_iconst i26_84, ci_0]
theorem e26_85 {d : Nat} {Q : Option AV → St → Prop} {st : List AV} {σ : St} {l0 : Option AV} {i : Nat} {x : Int32} : Rn (d) Q (26, 85, [l0], vI x :: vR (some (5, 0, i)) :: st, σ) = (i < gN σ 5 ∧ Rn (d) Q (26, 88, [l0], st, setI σ 5 11 i x)) := E_putI i26_85 ((congrArg (fun z => fldQ z 46) o26).trans f5_46) rfl (Or.inl rfl)
theorem e26_88 {d : Nat} {Q : Option AV → St → Prop} {σ : St} {l0 : Option AV} : Rn (d) Q (26, 88, [l0], [], σ) = Q none σ := E_ret (st := []) i26_88 r26
theorem i27_0 : ins 27 0 = some (.aload_n 0, 1) := (congrArg (fun x : PTy => x.1.lookup 0) q27).trans rfl
theorem i27_1 : ins 27 1 = some (.iconst 0, 1) := (congrArg (fun x : PTy => x.1.lookup 1) q27).trans rfl
theorem i27_2 : ins 27 2 = some (.putfield 36, 3) := (congrArg (fun x : PTy => x.1.lookup 2) q27).trans rfl
theorem i27_5 : ins 27 5 = some (.aload_n 0, 1) := (congrArg (fun x : PTy => x.1.lookup 5) q27).trans rfl
theorem i27_6 : ins 27 6 = some (.iconst 0, 1) := (congrArg (fun x : PTy => x.1.lookup 6) q27).trans rfl
theorem i27_7 : ins 27 7 = some (.putfield 40, 3) := (congrArg (fun x : PTy => x.1.lookup 7) q27).trans rfl
theorem i27_10 : ins 27 10 = some (.return_, 1) := (congrArg (fun x : PTy => x.1.lookup 10) q27).trans rfl
theorem e27_0 {d : Nat} {Q : Option AV → St → Prop} {st : List AV} {σ : St}  {x : Option (Nat × Nat × Nat)} : Rn (d) Q (27, 0, [some (vR x)], st, σ) = Rn (d) Q (27, 1, [some (vR x)], vR x :: st, σ) := E_aload_n i27_0 rfl
theorem e27_1 {d : Nat} {Q : Option AV → St → Prop} {st : List AV} {σ : St} {l0 : Option AV} : Rn (d) Q (27, 1, [l0], st, σ) = Rn (d) Q (27, 2, [l0], vI 0 :: st, σ) := by rw [E_iconst i27_1, ci_0]
theorem e27_2 {d : Nat} {Q : Option AV → St → Prop} {st : List AV} {σ : St} {l0 : Option AV} {i : Nat} {x : Int32} : Rn (d) Q (27, 2, [l0], vI x :: vR (some (5, 0, i)) :: st, σ) = (i < gN σ 5 ∧ Rn (d) Q (27, 5, [l0], st, setI σ 5 8 i x)) := E_putI i27_2 ((congrArg (fun z => fldQ z 36) o27).trans f5_36) rfl (Or.inl rfl)
theorem e27_5 {d : Nat} {Q : Option AV → St → Prop} {st : List AV} {σ : St}  {x : Option (Nat × Nat × Nat)} : Rn (d) Q (27, 5, [some (vR x)], st, σ) = Rn (d) Q (27, 6, [some (vR x)], vR x :: st, σ) := E_aload_n i27_5 rfl
theorem e27_6 {d : Nat} {Q : Option AV → St → Prop} {st : List AV} {σ : St} {l0 : Option AV} : Rn (d) Q (27, 6, [l0], st, σ) = Rn (d) Q (27, 7, [l0], vI 0 :: st, σ) := by rw [E_iconst i27_6, ci_0]
theorem e27_7 {d : Nat} {Q : Option AV → St → Prop} {st : List AV} {σ : St} {l0 : Option AV} {i : Nat} {x : Int32} : Rn (d) Q (27, 7, [l0], vI x :: vR (some (5, 0, i)) :: st, σ) = (i < gN σ 5 ∧ Rn (d) Q (27, 10, [l0], st, setI σ 5 9 i x)) := E_putI i27_7 ((congrArg (fun z => fldQ z 40) o27).trans f5_40) rfl (Or.inl rfl)
theorem e27_10 {d : Nat} {Q : Option AV → St → Prop} {σ : St} {l0 : Option AV} : Rn (d) Q (27, 10, [l0], [], σ) = Q none σ := E_ret (st := []) i27_10 r27
theorem i28_0 : ins 28 0 = some (.aload_n 0, 1) := (congrArg (fun x : PTy => x.1.lookup 0) q28).trans rfl
theorem i28_1 : ins 28 1 = some (.getfield 40, 3) := (congrArg (fun x : PTy => x.1.lookup 1) q28).trans rfl
theorem i28_4 : ins 28 4 = some (.bipush 6, 2) := (congrArg (fun x : PTy => x.1.lookup 4) q28).trans rfl
theorem i28_6 : ins 28 6 = some (.if_icmp .ge 39, 3) := (congrArg (fun x : PTy => x.1.lookup 6) q28).trans rfl
theorem i28_9 : ins 28 9 = some (.aload_n 0, 1) := (congrArg (fun x : PTy => x.1.lookup 9) q28).trans rfl
theorem i28_10 : ins 28 10 = some (.getfield 30, 3) := (congrArg (fun x : PTy => x.1.lookup 10) q28).trans rfl
theorem i28_13 : ins 28 13 = some (.aload_n 0, 1) := (congrArg (fun x : PTy => x.1.lookup 13) q28).trans rfl
theorem i28_14 : ins 28 14 = some (.getfield 40, 3) := (congrArg (fun x : PTy => x.1.lookup 14) q28).trans rfl
theorem i28_17 : ins 28 17 = some (.aload_n 1, 1) := (congrArg (fun x : PTy => x.1.lookup 17) q28).trans rfl
theorem i28_18 : ins 28 18 = some (.getfield 49, 3) := (congrArg (fun x : PTy => x.1.lookup 18) q28).trans rfl
theorem i28_21 : ins 28 21 = some (.iastore, 1) := (congrArg (fun x : PTy => x.1.lookup 21) q28).trans rfl
theorem i28_22 : ins 28 22 = some (.aload_n 0, 1) := (congrArg (fun x : PTy => x.1.lookup 22) q28).trans rfl
theorem i28_23 : ins 28 23 = some (.getfield 33, 3) := (congrArg (fun x : PTy => x.1.lookup 23) q28).trans rfl
theorem i28_26 : ins 28 26 = some (.aload_n 0, 1) := (congrArg (fun x : PTy => x.1.lookup 26) q28).trans rfl
theorem i28_27 : ins 28 27 = some (.getfield 40, 3) := (congrArg (fun x : PTy => x.1.lookup 27) q28).trans rfl
theorem i28_30 : ins 28 30 = some (.aload_n 1, 1) := (congrArg (fun x : PTy => x.1.lookup 30) q28).trans rfl
theorem i28_31 : ins 28 31 = some (.getfield 53, 3) := (congrArg (fun x : PTy => x.1.lookup 31) q28).trans rfl
theorem i28_34 : ins 28 34 = some (.iastore, 1) := (congrArg (fun x : PTy => x.1.lookup 34) q28).trans rfl
theorem i28_35 : ins 28 35 = some (.aload_n 0, 1) := (congrArg (fun x : PTy => x.1.lookup 35) q28).trans rfl
theorem i28_36 : ins 28 36 = some (.dup, 1) := (congrArg (fun x : PTy => x.1.lookup 36) q28).trans rfl
theorem i28_37 : ins 28 37 = some (.getfield 40, 3) := (congrArg (fun x : PTy => x.1.lookup 37) q28).trans rfl
theorem i28_40 : ins 28 40 = some (.iconst 1, 1) := (congrArg (fun x : PTy => x.1.lookup 40) q28).trans rfl
theorem i28_41 : ins 28 41 = some (.iadd, 1) := (congrArg (fun x : PTy => x.1.lookup 41) q28).trans rfl
theorem i28_42 : ins 28 42 = some (.putfield 40, 3) := (congrArg (fun x : PTy => x.1.lookup 42) q28).trans rfl
theorem i28_45 : ins 28 45 = some (.return_, 1) := (congrArg (fun x : PTy => x.1.lookup 45) q28).trans rfl
theorem e28_0 {d : Nat} {Q : Option AV → St → Prop} {st : List AV} {σ : St} {l1 : Option AV} {x : Option (Nat × Nat × Nat)} : Rn (d) Q (28, 0, [some (vR x), l1], st, σ) = Rn (d) Q (28, 1, [some (vR x), l1], vR x :: st, σ) := E_aload_n i28_0 rfl
theorem e28_1 {d : Nat} {Q : Option AV → St → Prop} {st : List AV} {σ : St} {l0 l1 : Option AV} {i : Nat} : Rn (d) Q (28, 1, [l0, l1], vR (some (5, 0, i)) :: st, σ) = (i < gN σ 5 ∧ Rn (d) Q (28, 4, [l0, l1], vI (gI σ 5 9 i) :: st, σ)) := E_getI i28_1 ((congrArg (fun z => fldQ z 40) o28).trans f5_40) rfl
theorem e28_4 {d : Nat} {Q : Option AV → St → Prop} {st : List AV} {σ : St} {l0 l1 : Option AV} : Rn (d) Q (28, 4, [l0, l1], st, σ) = Rn (d) Q (28, 6, [l0, l1], vI 6 :: st, σ) := by rw [E_bipush i28_4, cb_6]
theorem e28_6 {d : Nat} {Q : Option AV → St → Prop} {st : List AV} {σ : St} {l0 l1 : Option AV} {x y : Int32} : Rn (d) Q (28, 6, [l0, l1], vI y :: vI x :: st, σ) = (if y ≤ x then Rn (d) Q (28, 45, [l0, l1], st, σ) else Rn (d) Q (28, 9, [l0, l1], st, σ)) := E_icmp_ge 45 i28_6 (by decide)
theorem e28_9 {d : Nat} {Q : Option AV → St → Prop} {st : List AV} {σ : St} {l1 : Option AV} {x : Option (Nat × Nat × Nat)} : Rn (d) Q (28, 9, [some (vR x), l1], st, σ) = Rn (d) Q (28, 10, [some (vR x), l1], vR x :: st, σ) := E_aload_n i28_9 rfl
theorem e28_10 {d : Nat} {Q : Option AV → St → Prop} {st : List AV} {σ : St} {l0 l1 : Option AV} {i : Nat} : Rn (d) Q (28, 10, [l0, l1], vR (some (5, 0, i)) :: st, σ) = (i < gN σ 5 ∧ ¬ gL σ 5 6 i = none ∧ Rn (d) Q (28, 13, [l0, l1], vR (some (5, 7, i)) :: st, σ)) := E_getA i28_10 ((congrArg (fun z => fldQ z 30) o28).trans f5_30) (Or.inl rfl)
theorem e28_13 {d : Nat} {Q : Option AV → St → Prop} {st : List AV} {σ : St} {l1 : Option AV} {x : Option (Nat × Nat × Nat)} : Rn (d) Q (28, 13, [some (vR x), l1], st, σ) = Rn (d) Q (28, 14, [some (vR x), l1], vR x :: st, σ) := E_aload_n i28_13 rfl
theorem e28_14 {d : Nat} {Q : Option AV → St → Prop} {st : List AV} {σ : St} {l0 l1 : Option AV} {i : Nat} : Rn (d) Q (28, 14, [l0, l1], vR (some (5, 0, i)) :: st, σ) = (i < gN σ 5 ∧ Rn (d) Q (28, 17, [l0, l1], vI (gI σ 5 9 i) :: st, σ)) := E_getI i28_14 ((congrArg (fun z => fldQ z 40) o28).trans f5_40) rfl
theorem e28_17 {d : Nat} {Q : Option AV → St → Prop} {st : List AV} {σ : St} {l0 : Option AV} {x : Option (Nat × Nat × Nat)} : Rn (d) Q (28, 17, [l0, some (vR x)], st, σ) = Rn (d) Q (28, 18, [l0, some (vR x)], vR x :: st, σ) := E_aload_n i28_17 rfl
theorem e28_18 {d : Nat} {Q : Option AV → St → Prop} {st : List AV} {σ : St} {l0 l1 : Option AV} {i : Nat} : Rn (d) Q (28, 18, [l0, l1], vR (some (9, 0, i)) :: st, σ) = (i < gN σ 9 ∧ Rn (d) Q (28, 21, [l0, l1], vI (gI σ 9 3 i) :: st, σ)) := E_getI i28_18 ((congrArg (fun z => fldQ z 49) o28).trans f5_49) rfl
theorem e28_21 {d : Nat} {Q : Option AV → St → Prop} {st : List AV} {σ : St} {l0 l1 : Option AV} {i : Nat} {j x : Int32} : Rn (d) Q (28, 21, [l0, l1], vI x :: vI j :: vR (some (5, 7, i)) :: st, σ) = (∃ n, gL σ 5 6 i = some n ∧ i < gN σ 5 ∧ (0 ≤ j.toInt ∧ j.toInt < n) ∧ Rn (d) Q (28, 22, [l0, l1], st, setA σ 5 6 i (upd (gA σ 5 6 i) j.toNatClampNeg x))) := E_iastore1 i28_21 rfl (by decide)
theorem e28_22 {d : Nat} {Q : Option AV → St → Prop} {st : List AV} {σ : St} {l1 : Option AV} {x : Option (Nat × Nat × Nat)} : Rn (d) Q (28, 22, [some (vR x), l1], st, σ) = Rn (d) Q (28, 23, [some (vR x), l1], vR x :: st, σ) := E_aload_n i28_22 rfl
theorem e28_23 {d : Nat} {Q : Option AV → St → Prop} {st : List AV} {σ : St} {l0 l1 : Option AV} {i : Nat} : Rn (d) Q (28, 23, [l0, l1], vR (some (5, 0, i)) :: st, σ) = (i < gN σ 5 ∧ ¬ gL σ 5 7 i = none ∧ Rn (d) Q (28, 26, [l0, l1], vR (some (5, 8, i)) :: st, σ)) := E_getA i28_23 ((congrArg (fun z => fldQ z 33) o28).trans f5_33) (Or.inl rfl)
theorem e28_26 {d : Nat} {Q : Option AV → St → Prop} {st : List AV} {σ : St} {l1 : Option AV} {x : Option (Nat × Nat × Nat)} : Rn (d) Q (28, 26, [some (vR x), l1], st, σ) = Rn (d) Q (28, 27, [some (vR x), l1], vR x :: st, σ) := E_aload_n i28_26 rfl
theorem e28_27 {d : Nat} {Q : Option AV → St → Prop} {st : List AV} {σ : St} {l0 l1 : Option AV} {i : Nat} : Rn (d) Q (28, 27, [l0, l1], vR (some (5, 0, i)) :: st, σ) = (i < gN σ 5 ∧ Rn (d) Q (28, 30, [l0, l1], vI (gI σ 5 9 i) :: st, σ)) := E_getI i28_27 ((congrArg (fun z => fldQ z 40) o28).trans f5_40) rfl
theorem e28_30 {d : Nat} {Q : Option AV → St → Prop} {st : List AV} {σ : St} {l0 : Option AV} {x : Option (Nat × Nat × Nat)} : Rn (d) Q (28, 30, [l0, some (vR x)], st, σ) = Rn (d) Q (28, 31, [l0, some (vR x)], vR x :: st, σ) := E_aload_n i28_30 rfl
theorem e28_31 {d : Nat} {Q : Option AV → St → Prop} {st : List AV} {σ : St} {l0 l1 : Option AV} {i : Nat} : Rn (d) Q (28, 31, [l0, l1], vR (some (9, 0, i)) :: st, σ) = (i < gN σ 9 ∧ Rn (d) Q (28, 34, [l0, l1], vI (gI σ 9 1 i) :: st, σ)) := E_getI i28_31 ((congrArg (fun z => fldQ z 53) o28).trans f5_53) rfl
theorem e28_34 {d : Nat} {Q : Option AV → St → Prop} {st : List AV} {σ : St} {l0 l1 : Option AV} {i : Nat} {j x : Int32} : Rn (d) Q (28, 34, [l0, l1], vI x :: vI j :: vR (some (5, 8, i)) :: st, σ) = (∃ n, gL σ 5 7 i = some n ∧ i < gN σ 5 ∧ (0 ≤ j.toInt ∧ j.toInt < n) ∧ Rn (d) Q (28, 35, [l0, l1], st, setA σ 5 7 i (upd (gA σ 5 7 i) j.toNatClampNeg x))) := E_iastore1 i28_34 rfl (by decide)
theorem e28_35 {d : Nat} {Q : Option AV → St → Prop} {st : List AV} {σ : St} {l1 : Option AV} {x : Option (Nat × Nat × Nat)} : Rn (d) Q (28, 35, [some (vR x), l1], st, σ) = Rn (d) Q (28, 36, [some (vR x), l1], vR x :: st, σ) := E_aload_n i28_35 rfl
theorem e28_36 {d : Nat} {Q : Option AV → St → Prop} {st : List AV} {σ : St} {l0 l1 : Option AV} {x : Option (Nat × Nat × Nat)} : Rn (d) Q (28, 36, [l0, l1], vR x :: st, σ) = Rn (d) Q (28, 37, [l0, l1], vR x :: vR x :: st, σ) := E_dupR i28_36
theorem e28_37 {d : Nat} {Q : Option AV → St → Prop} {st : List AV} {σ : St} {l0 l1 : Option AV} {i : Nat} : Rn (d) Q (28, 37, [l0, l1], vR (some (5, 0, i)) :: st, σ) = (i < gN σ 5 ∧ Rn (d) Q (28, 40, [l0, l1], vI (gI σ 5 9 i) :: st, σ)) := E_getI i28_37 ((congrArg (fun z => fldQ z 40) o28).trans f5_40) rfl
theorem e28_40 {d : Nat} {Q : Option AV → St → Prop} {st : List AV} {σ : St} {l0 l1 : Option AV} : Rn (d) Q (28, 40, [l0, l1], st, σ) = Rn (d) Q (28, 41, [l0, l1], vI 1 :: st, σ) := by rw [E_iconst i28_40, ci_1]
theorem e28_41 {d : Nat} {Q : Option AV → St → Prop} {st : List AV} {σ : St} {l0 l1 : Option AV} {x y : Int32} : Rn (d) Q (28, 41, [l0, l1], vI y :: vI x :: st, σ) = Rn (d) Q (28, 42, [l0, l1], vI (x + y) :: st, σ) := E_iadd i28_41
theorem e28_42 {d : Nat} {Q : Option AV → St → Prop} {st : List AV} {σ : St} {l0 l1 : Option AV} {i : Nat} {x : Int32} : Rn (d) Q (28, 42, [l0, l1], vI x :: vR (some (5, 0, i)) :: st, σ) = (i < gN σ 5 ∧ Rn (d) Q (28, 45, [l0, l1], st, setI σ 5 9 i x)) := E_putI i28_42 ((congrArg (fun z => fldQ z 40) o28).trans f5_40) rfl (Or.inl rfl)
theorem e28_45 {d : Nat} {Q : Option AV → St → Prop} {σ : St} {l0 l1 : Option AV} : Rn (d) Q (28, 45, [l0, l1], [], σ) = Q none σ := E_ret (st := []) i28_45 r28
theorem i29_0 : ins 29 0 = some (.aload_n 0, 1) := (congrArg (fun x : PTy => x.1.lookup 0) q29).trans rfl
theorem i29_1 : ins 29 1 = some (.getfield 36, 3) := (congrArg (fun x : PTy => x.1.lookup 1) q29).trans rfl
theorem i29_4 : ins 29 4 = some (.bipush 6, 2) := (congrArg (fun x : PTy => x.1.lookup 4) q29).trans rfl
theorem i29_6 : ins 29 6 = some (.if_icmp .ge 33, 3) := (congrArg (fun x : PTy => x.1.lookup 6) q29).trans rfl
theorem i29_9 : ins 29 9 = some (.aload_n 0, 1) := (congrArg (fun x : PTy => x.1.lookup 9) q29).trans rfl
theorem i29_10 : ins 29 10 = some (.getfield 9, 3) := (congrArg (fun x : PTy => x.1.lookup 10) q29).trans rfl
theorem i29_13 : ins 29 13 = some (.aload_n 0, 1) := (congrArg (fun x : PTy => x.1.lookup 13) q29).trans rfl
theorem i29_14 : ins 29 14 = some (.getfield 36, 3) := (congrArg (fun x : PTy => x.1.lookup 14) q29).trans rfl
theorem i29_17 : ins 29 17 = some (.iload_n 1, 1) := (congrArg (fun x : PTy => x.1.lookup 17) q29).trans rfl
theorem i29_18 : ins 29 18 = some (.iastore, 1) := (congrArg (fun x : PTy => x.1.lookup 18) q29).trans rfl
theorem i29_19 : ins 29 19 = some (.aload_n 0, 1) := (congrArg (fun x : PTy => x.1.lookup 19) q29).trans rfl
theorem i29_20 : ins 29 20 = some (.getfield 15, 3) := (congrArg (fun x : PTy => x.1.lookup 20) q29).trans rfl
theorem i29_23 : ins 29 23 = some (.aload_n 0, 1) := (congrArg (fun x : PTy => x.1.lookup 23) q29).trans rfl
theorem i29_24 : ins 29 24 = some (.getfield 36, 3) := (congrArg (fun x : PTy => x.1.lookup 24) q29).trans rfl
theorem i29_27 : ins 29 27 = some (.iload_n 2, 1) := (congrArg (fun x : PTy => x.1.lookup 27) q29).trans rfl
theorem i29_28 : ins 29 28 = some (.iastore, 1) := (congrArg (fun x : PTy => x.1.lookup 28) q29).trans rfl
theorem i29_29 : ins 29 29 = some (.aload_n 0, 1) := (congrArg (fun x : PTy => x.1.lookup 29) q29).trans rfl
theorem i29_30 : ins 29 30 = some (.dup, 1) := (congrArg (fun x : PTy => x.1.lookup 30) q29).trans rfl
theorem i29_31 : ins 29 31 = some (.getfield 36, 3) := (congrArg (fun x : PTy => x.1.lookup 31) q29).trans rfl
theorem i29_34 : ins 29 34 = some (.iconst 1, 1) := (congrArg (fun x : PTy => x.1.lookup 34) q29).trans rfl
theorem i29_35 : ins 29 35 = some (.iadd, 1) := (congrArg (fun x : PTy => x.1.lookup 35) q29).trans rfl
theorem i29_36 : ins 29 36 = some (.putfield 36, 3) := (congrArg (fun x : PTy => x.1.lookup 36) q29).trans rfl
theorem i29_39 : ins 29 39 = some (.return_, 1) := (congrArg (fun x : PTy => x.1.lookup 39) q29).trans rfl
theorem e29_0 {d : Nat} {Q : Option AV → St → Prop} {st : List AV} {σ : St} {l1 l2 : Option AV} {x : Option (Nat × Nat × Nat)} : Rn (d) Q (29, 0, [some (vR x), l1, l2], st, σ) = Rn (d) Q (29, 1, [some (vR x), l1, l2], vR x :: st, σ) := E_aload_n i29_0 rfl
theorem e29_1 {d : Nat} {Q : Option AV → St → Prop} {st : List AV} {σ : St} {l0 l1 l2 : Option AV} {i : Nat} : Rn (d) Q (29, 1, [l0, l1, l2], vR (some (5, 0, i)) :: st, σ) = (i < gN σ 5 ∧ Rn (d) Q (29, 4, [l0, l1, l2], vI (gI σ 5 8 i) :: st, σ)) := E_getI i29_1 ((congrArg (fun z => fldQ z 36) o29).trans f5_36) rfl
theorem e29_4 {d : Nat} {Q : Option AV → St → Prop} {st : List AV} {σ : St} {l0 l1 l2 : Option AV} : Rn (d) Q (29, 4, [l0, l1, l2], st, σ) = Rn (d) Q (29, 6, [l0, l1, l2], vI 6 :: st, σ) := by rw [E_bipush i29_4, cb_6]
theorem e29_6 {d : Nat} {Q : Option AV → St → Prop} {st : List AV} {σ : St} {l0 l1 l2 : Option AV} {x y : Int32} : Rn (d) Q (29, 6, [l0, l1, l2], vI y :: vI x :: st, σ) = (if y ≤ x then Rn (d) Q (29, 39, [l0, l1, l2], st, σ) else Rn (d) Q (29, 9, [l0, l1, l2], st, σ)) := E_icmp_ge 39 i29_6 (by decide)
theorem e29_9 {d : Nat} {Q : Option AV → St → Prop} {st : List AV} {σ : St} {l1 l2 : Option AV} {x : Option (Nat × Nat × Nat)} : Rn (d) Q (29, 9, [some (vR x), l1, l2], st, σ) = Rn (d) Q (29, 10, [some (vR x), l1, l2], vR x :: st, σ) := E_aload_n i29_9 rfl
theorem e29_10 {d : Nat} {Q : Option AV → St → Prop} {st : List AV} {σ : St} {l0 l1 l2 : Option AV} {i : Nat} : Rn (d) Q (29, 10, [l0, l1, l2], vR (some (5, 0, i)) :: st, σ) = (i < gN σ 5 ∧ ¬ gL σ 5 0 i = none ∧ Rn (d) Q (29, 13, [l0, l1, l2], vR (some (5, 1, i)) :: st, σ)) := E_getA i29_10 ((congrArg (fun z => fldQ z 9) o29).trans f5_9) (Or.inl rfl)
theorem e29_13 {d : Nat} {Q : Option AV → St → Prop} {st : List AV} {σ : St} {l1 l2 : Option AV} {x : Option (Nat × Nat × Nat)} : Rn (d) Q (29, 13, [some (vR x), l1, l2], st, σ) = Rn (d) Q (29, 14, [some (vR x), l1, l2], vR x :: st, σ) := E_aload_n i29_13 rfl
theorem e29_14 {d : Nat} {Q : Option AV → St → Prop} {st : List AV} {σ : St} {l0 l1 l2 : Option AV} {i : Nat} : Rn (d) Q (29, 14, [l0, l1, l2], vR (some (5, 0, i)) :: st, σ) = (i < gN σ 5 ∧ Rn (d) Q (29, 17, [l0, l1, l2], vI (gI σ 5 8 i) :: st, σ)) := E_getI i29_14 ((congrArg (fun z => fldQ z 36) o29).trans f5_36) rfl
theorem e29_17 {d : Nat} {Q : Option AV → St → Prop} {st : List AV} {σ : St} {l0 l2 : Option AV} {x : Int32} : Rn (d) Q (29, 17, [l0, some (vI x), l2], st, σ) = Rn (d) Q (29, 18, [l0, some (vI x), l2], vI x :: st, σ) := E_iload_n i29_17 rfl
theorem e29_18 {d : Nat} {Q : Option AV → St → Prop} {st : List AV} {σ : St} {l0 l1 l2 : Option AV} {i : Nat} {j x : Int32} : Rn (d) Q (29, 18, [l0, l1, l2], vI x :: vI j :: vR (some (5, 1, i)) :: st, σ) = (∃ n, gL σ 5 0 i = some n ∧ i < gN σ 5 ∧ (0 ≤ j.toInt ∧ j.toInt < n) ∧ Rn (d) Q (29, 19, [l0, l1, l2], st, setA σ 5 0 i (upd (gA σ 5 0 i) j.toNatClampNeg x))) := E_iastore1 i29_18 rfl (by decide)
theorem e29_19 {d : Nat} {Q : Option AV → St → Prop} {st : List AV} {σ : St} {l1 l2 : Option AV} {x : Option (Nat × Nat × Nat)} : Rn (d) Q (29, 19, [some (vR x), l1, l2], st, σ) = Rn (d) Q (29, 20, [some (vR x), l1, l2], vR x :: st, σ) := E_aload_n i29_19 rfl
theorem e29_20 {d : Nat} {Q : Option AV → St → Prop} {st : List AV} {σ : St} {l0 l1 l2 : Option AV} {i : Nat} : Rn (d) Q (29, 20, [l0, l1, l2], vR (some (5, 0, i)) :: st, σ) = (i < gN σ 5 ∧ ¬ gL σ 5 1 i = none ∧ Rn (d) Q (29, 23, [l0, l1, l2], vR (some (5, 2, i)) :: st, σ)) := E_getA i29_20 ((congrArg (fun z => fldQ z 15) o29).trans f5_15) (Or.inl rfl)
theorem e29_23 {d : Nat} {Q : Option AV → St → Prop} {st : List AV} {σ : St} {l1 l2 : Option AV} {x : Option (Nat × Nat × Nat)} : Rn (d) Q (29, 23, [some (vR x), l1, l2], st, σ) = Rn (d) Q (29, 24, [some (vR x), l1, l2], vR x :: st, σ) := E_aload_n i29_23 rfl
theorem e29_24 {d : Nat} {Q : Option AV → St → Prop} {st : List AV} {σ : St} {l0 l1 l2 : Option AV} {i : Nat} : Rn (d) Q (29, 24, [l0, l1, l2], vR (some (5, 0, i)) :: st, σ) = (i < gN σ 5 ∧ Rn (d) Q (29, 27, [l0, l1, l2], vI (gI σ 5 8 i) :: st, σ)) := E_getI i29_24 ((congrArg (fun z => fldQ z 36) o29).trans f5_36) rfl
theorem e29_27 {d : Nat} {Q : Option AV → St → Prop} {st : List AV} {σ : St} {l0 l1 : Option AV} {x : Int32} : Rn (d) Q (29, 27, [l0, l1, some (vI x)], st, σ) = Rn (d) Q (29, 28, [l0, l1, some (vI x)], vI x :: st, σ) := E_iload_n i29_27 rfl
theorem e29_28 {d : Nat} {Q : Option AV → St → Prop} {st : List AV} {σ : St} {l0 l1 l2 : Option AV} {i : Nat} {j x : Int32} : Rn (d) Q (29, 28, [l0, l1, l2], vI x :: vI j :: vR (some (5, 2, i)) :: st, σ) = (∃ n, gL σ 5 1 i = some n ∧ i < gN σ 5 ∧ (0 ≤ j.toInt ∧ j.toInt < n) ∧ Rn (d) Q (29, 29, [l0, l1, l2], st, setA σ 5 1 i (upd (gA σ 5 1 i) j.toNatClampNeg x))) := E_iastore1 i29_28 rfl (by decide)
theorem e29_29 {d : Nat} {Q : Option AV → St → Prop} {st : List AV} {σ : St} {l1 l2 : Option AV} {x : Option (Nat × Nat × Nat)} : Rn (d) Q (29, 29, [some (vR x), l1, l2], st, σ) = Rn (d) Q (29, 30, [some (vR x), l1, l2], vR x :: st, σ) := E_aload_n i29_29 rfl
theorem e29_30 {d : Nat} {Q : Option AV → St → Prop} {st : List AV} {σ : St} {l0 l1 l2 : Option AV} {x : Option (Nat × Nat × Nat)} : Rn (d) Q (29, 30, [l0, l1, l2], vR x :: st, σ) = Rn (d) Q (29, 31, [l0, l1, l2], vR x :: vR x :: st, σ) := E_dupR i29_30
theorem e29_31 {d : Nat} {Q : Option AV → St → Prop} {st : List AV} {σ : St} {l0 l1 l2 : Option AV} {i : Nat} : Rn (d) Q (29, 31, [l0, l1, l2], vR (some (5, 0, i)) :: st, σ) = (i < gN σ 5 ∧ Rn (d) Q (29, 34, [l0, l1, l2], vI (gI σ 5 8 i) :: st, σ)) := E_getI i29_31 ((congrArg (fun z => fldQ z 36) o29).trans f5_36) rfl
theorem e29_34 {d : Nat} {Q : Option AV → St → Prop} {st : List AV} {σ : St} {l0 l1 l2 : Option AV} : Rn (d) Q (29, 34, [l0, l1, l2], st, σ) = Rn (d) Q (29, 35, [l0, l1, l2], vI 1 :: st, σ) := by rw [E_iconst i29_34, ci_1]
theorem e29_35 {d : Nat} {Q : Option AV → St → Prop} {st : List AV} {σ : St} {l0 l1 l2 : Option AV} {x y : Int32} : Rn (d) Q (29, 35, [l0, l1, l2], vI y :: vI x :: st, σ) = Rn (d) Q (29, 36, [l0, l1, l2], vI (x + y) :: st, σ) := E_iadd i29_35
theorem e29_36 {d : Nat} {Q : Option AV → St → Prop} {st : List AV} {σ : St} {l0 l1 l2 : Option AV} {i : Nat} {x : Int32} : Rn (d) Q (29, 36, [l0, l1, l2], vI x :: vR (some (5, 0, i)) :: st, σ) = (i < gN σ 5 ∧ Rn (d) Q (29, 39, [l0, l1, l2], st, setI σ 5 8 i x)) := E_putI i29_36 ((congrArg (fun z => fldQ z 36) o29).trans f5_36) rfl (Or.inl rfl)
theorem e29_39 {d : Nat} {Q : Option AV → St → Prop} {σ : St} {l0 l1 l2 : Option AV} : Rn (d) Q (29, 39, [l0, l1, l2], [], σ) = Q none σ := E_ret (st := []) i29_39 r29
theorem i30_0 : ins 30 0 = some (.aload_n 0, 1) := (congrArg (fun x : PTy => x.1.lookup 0) q30).trans rfl
theorem i30_1 : ins 30 1 = some (.iconst (-1), 1) := (congrArg (fun x : PTy => x.1.lookup 1) q30).trans rfl
theorem i30_2 : ins 30 2 = some (.putfield 43, 3) := (congrArg (fun x : PTy => x.1.lookup 2) q30).trans rfl
theorem i30_5 : ins 30 5 = some (.aload_n 0, 1) := (congrArg (fun x : PTy => x.1.lookup 5) q30).trans rfl
theorem i30_6 : ins 30 6 = some (.iconst 0, 1) := (congrArg (fun x : PTy => x.1.lookup 6) q30).trans rfl
theorem i30_7 : ins 30 7 = some (.putfield 46, 3) := (congrArg (fun x : PTy => x.1.lookup 7) q30).trans rfl
theorem i30_10 : ins 30 10 = some (.aload_n 0, 1) := (congrArg (fun x : PTy => x.1.lookup 10) q30).trans rfl
theorem i30_11 : ins 30 11 = some (.invokevirtual 55, 3) := (congrArg (fun x : PTy => x.1.lookup 11) q30).trans rfl
theorem i30_14 : ins 30 14 = some (.aload_n 0, 1) := (congrArg (fun x : PTy => x.1.lookup 14) q30).trans rfl
theorem i30_15 : ins 30 15 = some (.iconst 0, 1) := (congrArg (fun x : PTy => x.1.lookup 15) q30).trans rfl
theorem i30_16 : ins 30 16 = some (.iconst 0, 1) := (congrArg (fun x : PTy => x.1.lookup 16) q30).trans rfl
theorem i30_17 : ins 30 17 = some (.iconst 0, 1) := (congrArg (fun x : PTy => x.1.lookup 17) q30).trans rfl
theorem i30_18 : ins 30 18 = some (.invokevirtual 58, 3) := (congrArg (fun x : PTy => x.1.lookup 18) q30).trans rfl
theorem i30_21 : ins 30 21 = some (.return_, 1) := (congrArg (fun x : PTy => x.1.lookup 21) q30).trans rfl
theorem e30_0 {d : Nat} {Q : Option AV → St → Prop} {st : List AV} {σ : St}  {x : Option (Nat × Nat × Nat)} : Rn (d) Q (30, 0, [some (vR x)], st, σ) = Rn (d) Q (30, 1, [some (vR x)], vR x :: st, σ) := E_aload_n i30_0 rfl
theorem e30_1 {d : Nat} {Q : Option AV → St → Prop} {st : List AV} {σ : St} {l0 : Option AV} : Rn (d) Q (30, 1, [l0], st, σ) = Rn (d) Q (30, 2, [l0], vI (-1) :: st, σ) := by rw [E_iconst i30_1, ci_m1]
theorem e30_2 {d : Nat} {Q : Option AV → St → Prop} {st : List AV} {σ : St} {l0 : Option AV} {i : Nat} {x : Int32} : Rn (d) Q (30, 2, [l0], vI x :: vR (some (5, 0, i)) :: st, σ) = (i < gN σ 5 ∧ Rn (d) Q (30, 5, [l0], st, setI σ 5 10 i x)) := E_putI i30_2 ((congrArg (fun z => fldQ z 43) o30).trans f5_43) rfl (Or.inl rfl)
theorem e30_5 {d : Nat} {Q : Option AV → St → Prop} {st : List AV} {σ : St}  {x : Option (Nat × Nat × Nat)} : Rn (d) Q (30, 5, [some (vR x)], st, σ) = Rn (d) Q (30, 6, [some (vR x)], vR x :: st, σ) := E_aload_n i30_5 rfl
theorem e30_6 {d : Nat} {Q : Option AV → St → Prop} {st : List AV} {σ : St} {l0 : Option AV} : Rn (d) Q (30, 6, [l0], st, σ) = Rn (d) Q (30, 7, [l0], vI 0 :: st, σ) := by rw [E_iconst i30_6, ci_0]
theorem e30_7 {d : Nat} {Q : Option AV → St → Prop} {st : List AV} {σ : St} {l0 : Option AV} {i : Nat} {x : Int32} : Rn (d) Q (30, 7, [l0], vI x :: vR (some (5, 0, i)) :: st, σ) = (i < gN σ 5 ∧ Rn (d) Q (30, 10, [l0], st, setI σ 5 11 i x)) := E_putI i30_7 ((congrArg (fun z => fldQ z 46) o30).trans f5_46) rfl (Or.inl rfl)
theorem e30_10 {d : Nat} {Q : Option AV → St → Prop} {st : List AV} {σ : St}  {x : Option (Nat × Nat × Nat)} : Rn (d) Q (30, 10, [some (vR x)], st, σ) = Rn (d) Q (30, 11, [some (vR x)], vR x :: st, σ) := E_aload_n i30_10 rfl
theorem e30_11 {d : Nat} {Q : Option AV → St → Prop} {st : List AV} {σ : St} {l0 : Option AV} {i : Nat} : Rn (d + 1) Q (30, 11, [l0], vR (some (5, 0, i)) :: st, σ) = (i < gN σ 5 ∧ catS st ≤ 8 ∧ Rn d (fun r σ' => Rn (d + 1) Q (30, 14, [l0], r.toList ++ st, σ')) (31, 0, [some (vR (some (5, 0, i))), none, none], [], σ)) := E_invV (a := []) i30_11 ((congrArg (fun z => mthQ z 55) o30).trans m5_55) o31 rfl (ek31 i) (en31 i)
theorem e30_14 {d : Nat} {Q : Option AV → St → Prop} {st : List AV} {σ : St}  {x : Option (Nat × Nat × Nat)} : Rn (d) Q (30, 14, [some (vR x)], st, σ) = Rn (d) Q (30, 15, [some (vR x)], vR x :: st, σ) := E_aload_n i30_14 rfl
theorem e30_15 {d : Nat} {Q : Option AV → St → Prop} {st : List AV} {σ : St} {l0 : Option AV} : Rn (d) Q (30, 15, [l0], st, σ) = Rn (d) Q (30, 16, [l0], vI 0 :: st, σ) := by rw [E_iconst i30_15, ci_0]
theorem e30_16 {d : Nat} {Q : Option AV → St → Prop} {st : List AV} {σ : St} {l0 : Option AV} : Rn (d) Q (30, 16, [l0], st, σ) = Rn (d) Q (30, 17, [l0], vI 0 :: st, σ) := by rw [E_iconst i30_16, ci_0]
theorem e30_17 {d : Nat} {Q : Option AV → St → Prop} {st : List AV} {σ : St} {l0 : Option AV} : Rn (d) Q (30, 17, [l0], st, σ) = Rn (d) Q (30, 18, [l0], vI 0 :: st, σ) := by rw [E_iconst i30_17, ci_0]
theorem e30_18 {d : Nat} {Q : Option AV → St → Prop} {st : List AV} {σ : St} {l0 : Option AV} {i : Nat} {a1 : Int32} {a2 : Int32} {a3 : Int32} : Rn (d + 1) Q (30, 18, [l0], vI a3 :: vI a2 :: vI a1 :: vR (some (5, 0, i)) :: st, σ) = (i < gN σ 5 ∧ catS st ≤ 8 ∧ Rn d (fun r σ' => Rn (d + 1) Q (30, 21, [l0], r.toList ++ st, σ')) (34, 0, [some (vR (some (5, 0, i))), some (vI a1), some (vI a2), some (vI a3), none], [], σ)) := E_invV (a := [vI a3, vI a2, vI a1]) i30_18 ((congrArg (fun z => mthQ z 58) o30).trans m5_58) o34 rfl (ek34 i a1 a2 a3) (en34 i a1 a2 a3)
theorem e30_21 {d : Nat} {Q : Option AV → St → Prop} {σ : St} {l0 : Option AV} : Rn (d) Q (30, 21, [l0], [], σ) = Q none σ := E_ret (st := []) i30_21 r30
theorem i31_0 : ins 31 0 = some (.aload_n 0, 1) := (congrArg (fun x : PTy => x.1.lookup 0) q31).trans rfl
theorem i31_1 : ins 31 1 = some (.getfield 24, 3) := (congrArg (fun x : PTy => x.1.lookup 1) q31).trans rfl
theorem i31_4 : ins 31 4 = some (.aload_n 0, 1) := (congrArg (fun x : PTy => x.1.lookup 4) q31).trans rfl
theorem i31_5 : ins 31 5 = some (.getfield 36, 3) := (congrArg (fun x : PTy => x.1.lookup 5) q31).trans rfl
theorem i31_8 : ins 31 8 = some (.iconst 0, 1) := (congrArg (fun x : PTy => x.1.lookup 8) q31).trans rfl
theorem i31_9 : ins 31 9 = some (.iastore, 1) := (congrArg (fun x : PTy => x.1.lookup 9) q31).trans rfl
theorem i31_10 : ins 31 10 = some (.aload_n 0, 1) := (congrArg (fun x : PTy => x.1.lookup 10) q31).trans rfl
theorem i31_11 : ins 31 11 = some (.getfield 27, 3) := (congrArg (fun x : PTy => x.1.lookup 11) q31).trans rfl
theorem i31_14 : ins 31 14 = some (.aload_n 0, 1) := (congrArg (fun x : PTy => x.1.lookup 14) q31).trans rfl
theorem i31_15 : ins 31 15 = some (.getfield 36, 3) := (congrArg (fun x : PTy => x.1.lookup 15) q31).trans rfl
theorem i31_18 : ins 31 18 = some (.iconst 0, 1) := (congrArg (fun x : PTy => x.1.lookup 18) q31).trans rfl
theorem i31_19 : ins 31 19 = some (.iastore, 1) := (congrArg (fun x : PTy => x.1.lookup 19) q31).trans rfl
theorem i31_20 : ins 31 20 = some (.aload_n 0, 1) := (congrArg (fun x : PTy => x.1.lookup 20) q31).trans rfl
theorem i31_21 : ins 31 21 = some (.getfield 36, 3) := (congrArg (fun x : PTy => x.1.lookup 21) q31).trans rfl
theorem i31_24 : ins 31 24 = some (.iconst 1, 1) := (congrArg (fun x : PTy => x.1.lookup 24) q31).trans rfl
theorem i31_25 : ins 31 25 = some (.isub, 1) := (congrArg (fun x : PTy => x.1.lookup 25) q31).trans rfl
theorem i31_26 : ins 31 26 = some (.istore_n 1, 1) := (congrArg (fun x : PTy => x.1.lookup 26) q31).trans rfl
theorem i31_27 : ins 31 27 = some (.iload_n 1, 1) := (congrArg (fun x : PTy => x.1.lookup 27) q31).trans rfl
theorem i31_28 : ins 31 28 = some (.ifCond .lt 55, 3) := (congrArg (fun x : PTy => x.1.lookup 28) q31).trans rfl
theorem i31_31 : ins 31 31 = some (.aload_n 0, 1) := (congrArg (fun x : PTy => x.1.lookup 31) q31).trans rfl
theorem i31_32 : ins 31 32 = some (.iload_n 1, 1) := (congrArg (fun x : PTy => x.1.lookup 32) q31).trans rfl
theorem i31_33 : ins 31 33 = some (.invokevirtual 62, 3) := (congrArg (fun x : PTy => x.1.lookup 33) q31).trans rfl
theorem i31_36 : ins 31 36 = some (.istore_n 2, 1) := (congrArg (fun x : PTy => x.1.lookup 36) q31).trans rfl
theorem i31_37 : ins 31 37 = some (.aload_n 0, 1) := (congrArg (fun x : PTy => x.1.lookup 37) q31).trans rfl
theorem i31_38 : ins 31 38 = some (.getfield 24, 3) := (congrArg (fun x : PTy => x.1.lookup 38) q31).trans rfl
theorem i31_41 : ins 31 41 = some (.iload_n 1, 1) := (congrArg (fun x : PTy => x.1.lookup 41) q31).trans rfl
theorem i31_42 : ins 31 42 = some (.aload_n 0, 1) := (congrArg (fun x : PTy => x.1.lookup 42) q31).trans rfl
theorem i31_43 : ins 31 43 = some (.getfield 24, 3) := (congrArg (fun x : PTy => x.1.lookup 43) q31).trans rfl
theorem i31_46 : ins 31 46 = some (.iload_n 1, 1) := (congrArg (fun x : PTy => x.1.lookup 46) q31).trans rfl
theorem i31_47 : ins 31 47 = some (.iconst 1, 1) := (congrArg (fun x : PTy => x.1.lookup 47) q31).trans rfl
theorem i31_48 : ins 31 48 = some (.iadd, 1) := (congrArg (fun x : PTy => x.1.lookup 48) q31).trans rfl
theorem i31_49 : ins 31 49 = some (.iaload, 1) := (congrArg (fun x : PTy => x.1.lookup 49) q31).trans rfl
theorem i31_50 : ins 31 50 = some (.iload_n 2, 1) := (congrArg (fun x : PTy => x.1.lookup 50) q31).trans rfl
theorem i31_51 : ins 31 51 = some (.ifCond .le 7, 3) := (congrArg (fun x : PTy => x.1.lookup 51) q31).trans rfl
theorem i31_54 : ins 31 54 = some (.iconst 1, 1) := (congrArg (fun x : PTy => x.1.lookup 54) q31).trans rfl
theorem i31_55 : ins 31 55 = some (.goto 4, 3) := (congrArg (fun x : PTy => x.1.lookup 55) q31).trans rfl
theorem i31_58 : ins 31 58 = some (.iconst 0, 1) := (congrArg (fun x : PTy => x.1.lookup 58) q31).trans rfl
theorem i31_59 : ins 31 59 = some (.iadd, 1) := (congrArg (fun x : PTy => x.1.lookup 59) q31).trans rfl
theorem i31_60 : ins 31 60 = some (.iastore, 1) := (congrArg (fun x : PTy => x.1.lookup 60) q31).trans rfl
theorem i31_61 : ins 31 61 = some (.aload_n 0, 1) := (congrArg (fun x : PTy => x.1.lookup 61) q31).trans rfl
theorem i31_62 : ins 31 62 = some (.getfield 27, 3) := (congrArg (fun x : PTy => x.1.lookup 62) q31).trans rfl
theorem i31_65 : ins 31 65 = some (.iload_n 1, 1) := (congrArg (fun x : PTy => x.1.lookup 65) q31).trans rfl
theorem i31_66 : ins 31 66 = some (.aload_n 0, 1) := (congrArg (fun x : PTy => x.1.lookup 66) q31).trans rfl
theorem i31_67 : ins 31 67 = some (.getfield 27, 3) := (congrArg (fun x : PTy => x.1.lookup 67) q31).trans rfl
theorem i31_70 : ins 31 70 = some (.iload_n 1, 1) := (congrArg (fun x : PTy => x.1.lookup 70) q31).trans rfl
theorem i31_71 : ins 31 71 = some (.iconst 1, 1) := (congrArg (fun x : PTy => x.1.lookup 71) q31).trans rfl
theorem i31_72 : ins 31 72 = some (.iadd, 1) := (congrArg (fun x : PTy => x.1.lookup 72) q31).trans rfl
theorem i31_73 : ins 31 73 = some (.iaload, 1) := (congrArg (fun x : PTy => x.1.lookup 73) q31).trans rfl
theorem i31_74 : ins 31 74 = some (.iload_n 2, 1) := (congrArg (fun x : PTy => x.1.lookup 74) q31).trans rfl
theorem i31_75 : ins 31 75 = some (.iadd, 1) := (congrArg (fun x : PTy => x.1.lookup 75) q31).trans rfl
theorem i31_76 : ins 31 76 = some (.iastore, 1) := (congrArg (fun x : PTy => x.1.lookup 76) q31).trans rfl
theorem i31_77 : ins 31 77 = some (.iinc 1 (-1), 3) := (congrArg (fun x : PTy => x.1.lookup 77) q31).trans rfl
theorem i31_80 : ins 31 80 = some (.goto (-53), 3) := (congrArg (fun x : PTy => x.1.lookup 80) q31).trans rfl
theorem i31_83 : ins 31 83 = some (.return_, 1) := (congrArg (fun x : PTy => x.1.lookup 83) q31).trans rfl
theorem e31_0 {d : Nat} {Q : Option AV → St → Prop} {st : List AV} {σ : St} {l1 l2 : Option AV} {x : Option (Nat × Nat × Nat)} : Rn (d) Q (31, 0, [some (vR x), l1, l2], st, σ) = Rn (d) Q (31, 1, [some (vR x), l1, l2], vR x :: st, σ) := E_aload_n i31_0 rfl
theorem e31_1 {d : Nat} {Q : Option AV → St → Prop} {st : List AV} {σ : St} {l0 l1 l2 : Option AV} {i : Nat} : Rn (d) Q (31, 1, [l0, l1, l2], vR (some (5, 0, i)) :: st, σ) = (i < gN σ 5 ∧ ¬ gL σ 5 4 i = none ∧ Rn (d) Q (31, 4, [l0, l1, l2], vR (some (5, 5, i)) :: st, σ)) := E_getA i31_1 ((congrArg (fun z => fldQ z 24) o31).trans f5_24) (Or.inl rfl)
theorem e31_4 {d : Nat} {Q : Option AV → St → Prop} {st : List AV} {σ : St} {l1 l2 : Option AV} {x : Option (Nat × Nat × Nat)} : Rn (d) Q (31, 4, [some (vR x), l1, l2], st, σ) = Rn (d) Q (31, 5, [some (vR x), l1, l2], vR x :: st, σ) := E_aload_n i31_4 rfl
theorem e31_5 {d : Nat} {Q : Option AV → St → Prop} {st : List AV} {σ : St} {l0 l1 l2 : Option AV} {i : Nat} : Rn (d) Q (31, 5, [l0, l1, l2], vR (some (5, 0, i)) :: st, σ) = (i < gN σ 5 ∧ Rn (d) Q (31, 8, [l0, l1, l2], vI (gI σ 5 8 i) :: st, σ)) := E_getI i31_5 ((congrArg (fun z => fldQ z 36) o31).trans f5_36) rfl
theorem e31_8 {d : Nat} {Q : Option AV → St → Prop} {st : List AV} {σ : St} {l0 l1 l2 : Option AV} : Rn (d) Q (31, 8, [l0, l1, l2], st, σ) = Rn (d) Q (31, 9, [l0, l1, l2], vI 0 :: st, σ) := by rw [E_iconst i31_8, ci_0]
theorem e31_9 {d : Nat} {Q : Option AV → St → Prop} {st : List AV} {σ : St} {l0 l1 l2 : Option AV} {i : Nat} {j x : Int32} : Rn (d) Q (31, 9, [l0, l1, l2], vI x :: vI j :: vR (some (5, 5, i)) :: st, σ) = (∃ n, gL σ 5 4 i = some n ∧ i < gN σ 5 ∧ (0 ≤ j.toInt ∧ j.toInt < n) ∧ Rn (d) Q (31, 10, [l0, l1, l2], st, setA σ 5 4 i (upd (gA σ 5 4 i) j.toNatClampNeg x))) := E_iastore1 i31_9 rfl (by decide)
theorem e31_10 {d : Nat} {Q : Option AV → St → Prop} {st : List AV} {σ : St} {l1 l2 : Option AV} {x : Option (Nat × Nat × Nat)} : Rn (d) Q (31, 10, [some (vR x), l1, l2], st, σ) = Rn (d) Q (31, 11, [some (vR x), l1, l2], vR x :: st, σ) := E_aload_n i31_10 rfl
theorem e31_11 {d : Nat} {Q : Option AV → St → Prop} {st : List AV} {σ : St} {l0 l1 l2 : Option AV} {i : Nat} : Rn (d) Q (31, 11, [l0, l1, l2], vR (some (5, 0, i)) :: st, σ) = (i < gN σ 5 ∧ ¬ gL σ 5 5 i = none ∧ Rn (d) Q (31, 14, [l0, l1, l2], vR (some (5, 6, i)) :: st, σ)) := E_getA i31_11 ((congrArg (fun z => fldQ z 27) o31).trans f5_27) (Or.inl rfl)
theorem e31_14 {d : Nat} {Q : Option AV → St → Prop} {st : List AV} {σ : St} {l1 l2 : Option AV} {x : Option (Nat × Nat × Nat)} : Rn (d) Q (31, 14, [some (vR x), l1, l2], st, σ) = Rn (d) Q (31, 15, [some (vR x), l1, l2], vR x :: st, σ) := E_aload_n i31_14 rfl
theorem e31_15 {d : Nat} {Q : Option AV → St → Prop} {st : List AV} {σ : St} {l0 l1 l2 : Option AV} {i : Nat} : Rn (d) Q (31, 15, [l0, l1, l2], vR (some (5, 0, i)) :: st, σ) = (i < gN σ 5 ∧ Rn (d) Q (31, 18, [l0, l1, l2], vI (gI σ 5 8 i) :: st, σ)) := E_getI i31_15 ((congrArg (fun z => fldQ z 36) o31).trans f5_36) rfl
theorem e31_18 {d : Nat} {Q : Option AV → St → Prop} {st : List AV} {σ : St} {l0 l1 l2 : Option AV} : Rn (d) Q (31, 18, [l0, l1, l2], st, σ) = Rn (d) Q (31, 19, [l0, l1, l2], vI 0 :: st, σ) := by rw [E_iconst i31_18, ci_0]
theorem e31_19 {d : Nat} {Q : Option AV → St → Prop} {st : List AV} {σ : St} {l0 l1 l2 : Option AV} {i : Nat} {j x : Int32} : Rn (d) Q (31, 19, [l0, l1, l2], vI x :: vI j :: vR (some (5, 6, i)) :: st, σ) = (∃ n, gL σ 5 5 i = some n ∧ i < gN σ 5 ∧ (0 ≤ j.toInt ∧ j.toInt < n) ∧ Rn (d) Q (31, 20, [l0, l1, l2], st, setA σ 5 5 i (upd (gA σ 5 5 i) j.toNatClampNeg x))) := E_iastore1 i31_19 rfl (by decide)
theorem e31_20 {d : Nat} {Q : Option AV → St → Prop} {st : List AV} {σ : St} {l1 l2 : Option AV} {x : Option (Nat × Nat × Nat)} : Rn (d) Q (31, 20, [some (vR x), l1, l2], st, σ) = Rn (d) Q (31, 21, [some (vR x), l1, l2], vR x :: st, σ) := E_aload_n i31_20 rfl
theorem e31_21 {d : Nat} {Q : Option AV → St → Prop} {st : List AV} {σ : St} {l0 l1 l2 : Option AV} {i : Nat} : Rn (d) Q (31, 21, [l0, l1, l2], vR (some (5, 0, i)) :: st, σ) = (i < gN σ 5 ∧ Rn (d) Q (31, 24, [l0, l1, l2], vI (gI σ 5 8 i) :: st, σ)) := E_getI i31_21 ((congrArg (fun z => fldQ z 36) o31).trans f5_36) rfl
theorem e31_24 {d : Nat} {Q : Option AV → St → Prop} {st : List AV} {σ : St} {l0 l1 l2 : Option AV} : Rn (d) Q (31, 24, [l0, l1, l2], st, σ) = Rn (d) Q (31, 25, [l0, l1, l2], vI 1 :: st, σ) := by rw [E_iconst i31_24, ci_1]
theorem e31_25 {d : Nat} {Q : Option AV → St → Prop} {st : List AV} {σ : St} {l0 l1 l2 : Option AV} {x y : Int32} : Rn (d) Q (31, 25, [l0, l1, l2], vI y :: vI x :: st, σ) = Rn (d) Q (31, 26, [l0, l1, l2], vI (x - y) :: st, σ) := E_isub i31_25
theorem s31_1 : okst 31 1 = true := by unfold okst; rw [x31]; rfl
theorem e31_26 {d : Nat} {Q : Option AV → St → Prop} {st : List AV} {σ : St} {l0 l1 l2 : Option AV} {x : Int32} : Rn (d) Q (31, 26, [l0, l1, l2], vI x :: st, σ) = Rn (d) Q (31, 27, [l0, some (vI x), l2], st, σ) := E_istore_n i31_26 s31_1
theorem e31_27 {d : Nat} {Q : Option AV → St → Prop} {st : List AV} {σ : St} {l0 l2 : Option AV} {x : Int32} : Rn (d) Q (31, 27, [l0, some (vI x), l2], st, σ) = Rn (d) Q (31, 28, [l0, some (vI x), l2], vI x :: st, σ) := E_iload_n i31_27 rfl
theorem e31_28 {d : Nat} {Q : Option AV → St → Prop} {st : List AV} {σ : St} {l0 l1 l2 : Option AV} {x : Int32} : Rn (d) Q (31, 28, [l0, l1, l2], vI x :: st, σ) = (if x < 0 then Rn (d) Q (31, 83, [l0, l1, l2], st, σ) else Rn (d) Q (31, 31, [l0, l1, l2], st, σ)) := E_if_lt 83 i31_28 (by decide)
theorem e31_31 {d : Nat} {Q : Option AV → St → Prop} {st : List AV} {σ : St} {l1 l2 : Option AV} {x : Option (Nat × Nat × Nat)} : Rn (d) Q (31, 31, [some (vR x), l1, l2], st, σ) = Rn (d) Q (31, 32, [some (vR x), l1, l2], vR x :: st, σ) := E_aload_n i31_31 rfl
theorem e31_32 {d : Nat} {Q : Option AV → St → Prop} {st : List AV} {σ : St} {l0 l2 : Option AV} {x : Int32} : Rn (d) Q (31, 32, [l0, some (vI x), l2], st, σ) = Rn (d) Q (31, 33, [l0, some (vI x), l2], vI x :: st, σ) := E_iload_n i31_32 rfl
theorem e31_33 {d : Nat} {Q : Option AV → St → Prop} {st : List AV} {σ : St} {l0 l1 l2 : Option AV} {i : Nat} {a1 : Int32} : Rn (d + 1) Q (31, 33, [l0, l1, l2], vI a1 :: vR (some (5, 0, i)) :: st, σ) = (i < gN σ 5 ∧ catS st ≤ 8 ∧ Rn d (fun r σ' => Rn (d + 1) Q (31, 36, [l0, l1, l2], r.toList ++ st, σ')) (32, 0, [some (vR (some (5, 0, i))), some (vI a1), none, none, none], [], σ)) := E_invV (a := [vI a1]) i31_33 ((congrArg (fun z => mthQ z 62) o31).trans m5_62) o32 rfl (ek32 i a1) (en32 i a1)
theorem s31_2 : okst 31 2 = true := by unfold okst; rw [x31]; rfl
theorem e31_36 {d : Nat} {Q : Option AV → St → Prop} {st : List AV} {σ : St} {l0 l1 l2 : Option AV} {x : Int32} : Rn (d) Q (31, 36, [l0, l1, l2], vI x :: st, σ) = Rn (d) Q (31, 37, [l0, l1, some (vI x)], st, σ) := E_istore_n i31_36 s31_2
theorem e31_37 {d : Nat} {Q : Option AV → St → Prop} {st : List AV} {σ : St} {l1 l2 : Option AV} {x : Option (Nat × Nat × Nat)} : Rn (d) Q (31, 37, [some (vR x), l1, l2], st, σ) = Rn (d) Q (31, 38, [some (vR x), l1, l2], vR x :: st, σ) := E_aload_n i31_37 rfl
theorem e31_38 {d : Nat} {Q : Option AV → St → Prop} {st : List AV} {σ : St} {l0 l1 l2 : Option AV} {i : Nat} : Rn (d) Q (31, 38, [l0, l1, l2], vR (some (5, 0, i)) :: st, σ) = (i < gN σ 5 ∧ ¬ gL σ 5 4 i = none ∧ Rn (d) Q (31, 41, [l0, l1, l2], vR (some (5, 5, i)) :: st, σ)) := E_getA i31_38 ((congrArg (fun z => fldQ z 24) o31).trans f5_24) (Or.inl rfl)
theorem e31_41 {d : Nat} {Q : Option AV → St → Prop} {st : List AV} {σ : St} {l0 l2 : Option AV} {x : Int32} : Rn (d) Q (31, 41, [l0, some (vI x), l2], st, σ) = Rn (d) Q (31, 42, [l0, some (vI x), l2], vI x :: st, σ) := E_iload_n i31_41 rfl
theorem e31_42 {d : Nat} {Q : Option AV → St → Prop} {st : List AV} {σ : St} {l1 l2 : Option AV} {x : Option (Nat × Nat × Nat)} : Rn (d) Q (31, 42, [some (vR x), l1, l2], st, σ) = Rn (d) Q (31, 43, [some (vR x), l1, l2], vR x :: st, σ) := E_aload_n i31_42 rfl
theorem e31_43 {d : Nat} {Q : Option AV → St → Prop} {st : List AV} {σ : St} {l0 l1 l2 : Option AV} {i : Nat} : Rn (d) Q (31, 43, [l0, l1, l2], vR (some (5, 0, i)) :: st, σ) = (i < gN σ 5 ∧ ¬ gL σ 5 4 i = none ∧ Rn (d) Q (31, 46, [l0, l1, l2], vR (some (5, 5, i)) :: st, σ)) := E_getA i31_43 ((congrArg (fun z => fldQ z 24) o31).trans f5_24) (Or.inl rfl)
theorem e31_46 {d : Nat} {Q : Option AV → St → Prop} {st : List AV} {σ : St} {l0 l2 : Option AV} {x : Int32} : Rn (d) Q (31, 46, [l0, some (vI x), l2], st, σ) = Rn (d) Q (31, 47, [l0, some (vI x), l2], vI x :: st, σ) := E_iload_n i31_46 rfl
theorem e31_47 {d : Nat} {Q : Option AV → St → Prop} {st : List AV} {σ : St} {l0 l1 l2 : Option AV} : Rn (d) Q (31, 47, [l0, l1, l2], st, σ) = Rn (d) Q (31, 48, [l0, l1, l2], vI 1 :: st, σ) := by rw [E_iconst i31_47, ci_1]
theorem e31_48 {d : Nat} {Q : Option AV → St → Prop} {st : List AV} {σ : St} {l0 l1 l2 : Option AV} {x y : Int32} : Rn (d) Q (31, 48, [l0, l1, l2], vI y :: vI x :: st, σ) = Rn (d) Q (31, 49, [l0, l1, l2], vI (x + y) :: st, σ) := E_iadd i31_48
theorem e31_49 {d : Nat} {Q : Option AV → St → Prop} {st : List AV} {σ : St} {l0 l1 l2 : Option AV} {i : Nat} {j : Int32} : Rn (d) Q (31, 49, [l0, l1, l2], vI j :: vR (some (5, 5, i)) :: st, σ) = (∃ n, gL σ 5 4 i = some n ∧ i < gN σ 5 ∧ (0 ≤ j.toInt ∧ j.toInt < n) ∧ Rn (d) Q (31, 50, [l0, l1, l2], vI (gA σ 5 4 i j.toNatClampNeg) :: st, σ)) := E_iaload1 i31_49 rfl
theorem e31_50 {d : Nat} {Q : Option AV → St → Prop} {st : List AV} {σ : St} {l0 l1 : Option AV} {x : Int32} : Rn (d) Q (31, 50, [l0, l1, some (vI x)], st, σ) = Rn (d) Q (31, 51, [l0, l1, some (vI x)], vI x :: st, σ) := E_iload_n i31_50 rfl
theorem e31_51 {d : Nat} {Q : Option AV → St → Prop} {st : List AV} {σ : St} {l0 l1 l2 : Option AV} {x : Int32} : Rn (d) Q (31, 51, [l0, l1, l2], vI x :: st, σ) = (if x ≤ 0 then Rn (d) Q (31, 58, [l0, l1, l2], st, σ) else Rn (d) Q (31, 54, [l0, l1, l2], st, σ)) := E_if_le 58 i31_51 (by decide)
theorem e31_54 {d : Nat} {Q : Option AV → St → Prop} {st : List AV} {σ : St} {l0 l1 l2 : Option AV} : Rn (d) Q (31, 54, [l0, l1, l2], st, σ) = Rn (d) Q (31, 55, [l0, l1, l2], vI 1 :: st, σ) := by rw [E_iconst i31_54, ci_1]
theorem e31_55 {d : Nat} {Q : Option AV → St → Prop} {st : List AV} {σ : St} {l0 l1 l2 : Option AV} : Rn (d) Q (31, 55, [l0, l1, l2], st, σ) = Rn (d) Q (31, 59, [l0, l1, l2], st, σ) := E_goto 59 i31_55 (by decide)
theorem e31_58 {d : Nat} {Q : Option AV → St → Prop} {st : List AV} {σ : St} {l0 l1 l2 : Option AV} : Rn (d) Q (31, 58, [l0, l1, l2], st, σ) = Rn (d) Q (31, 59, [l0, l1, l2], vI 0 :: st, σ) := by rw [E_iconst i31_58, ci_0]
theorem e31_59 {d : Nat} {Q : Option AV → St → Prop} {st : List AV} {σ : St} {l0 l1 l2 : Option AV} {x y : Int32} : Rn (d) Q (31, 59, [l0, l1, l2], vI y :: vI x :: st, σ) = Rn (d) Q (31, 60, [l0, l1, l2], vI (x + y) :: st, σ) := E_iadd i31_59
theorem e31_60 {d : Nat} {Q : Option AV → St → Prop} {st : List AV} {σ : St} {l0 l1 l2 : Option AV} {i : Nat} {j x : Int32} : Rn (d) Q (31, 60, [l0, l1, l2], vI x :: vI j :: vR (some (5, 5, i)) :: st, σ) = (∃ n, gL σ 5 4 i = some n ∧ i < gN σ 5 ∧ (0 ≤ j.toInt ∧ j.toInt < n) ∧ Rn (d) Q (31, 61, [l0, l1, l2], st, setA σ 5 4 i (upd (gA σ 5 4 i) j.toNatClampNeg x))) := E_iastore1 i31_60 rfl (by decide)
theorem e31_61 {d : Nat} {Q : Option AV → St → Prop} {st : List AV} {σ : St} {l1 l2 : Option AV} {x : Option (Nat × Nat × Nat)} : Rn (d) Q (31, 61, [some (vR x), l1, l2], st, σ) = Rn (d) Q (31, 62, [some (vR x), l1, l2], vR x :: st, σ) := E_aload_n i31_61 rfl
theorem e31_62 {d : Nat} {Q : Option AV → St → Prop} {st : List AV} {σ : St} {l0 l1 l2 : Option AV} {i : Nat} : Rn (d) Q (31, 62, [l0, l1, l2], vR (some (5, 0, i)) :: st, σ) = (i < gN σ 5 ∧ ¬ gL σ 5 5 i = none ∧ Rn (d) Q (31, 65, [l0, l1, l2], vR (some (5, 6, i)) :: st, σ)) := E_getA i31_62 ((congrArg (fun z => fldQ z 27) o31).trans f5_27) (Or.inl rfl)
theorem e31_65 {d : Nat} {Q : Option AV → St → Prop} {st : List AV} {σ : St} {l0 l2 : Option AV} {x : Int32} : Rn (d) Q (31, 65, [l0, some (vI x), l2], st, σ) = Rn (d) Q (31, 66, [l0, some (vI x), l2], vI x :: st, σ) := E_iload_n i31_65 rfl
theorem e31_66 {d : Nat} {Q : Option AV → St → Prop} {st : List AV} {σ : St} {l1 l2 : Option AV} {x : Option (Nat × Nat × Nat)} : Rn (d) Q (31, 66, [some (vR x), l1, l2], st, σ) = Rn (d) Q (31, 67, [some (vR x), l1, l2], vR x :: st, σ) := E_aload_n i31_66 rfl
theorem e31_67 {d : Nat} {Q : Option AV → St → Prop} {st : List AV} {σ : St} {l0 l1 l2 : Option AV} {i : Nat} : Rn (d) Q (31, 67, [l0, l1, l2], vR (some (5, 0, i)) :: st, σ) = (i < gN σ 5 ∧ ¬ gL σ 5 5 i = none ∧ Rn (d) Q (31, 70, [l0, l1, l2], vR (some (5, 6, i)) :: st, σ)) := E_getA i31_67 ((congrArg (fun z => fldQ z 27) o31).trans f5_27) (Or.inl rfl)
theorem e31_70 {d : Nat} {Q : Option AV → St → Prop} {st : List AV} {σ : St} {l0 l2 : Option AV} {x : Int32} : Rn (d) Q (31, 70, [l0, some (vI x), l2], st, σ) = Rn (d) Q (31, 71, [l0, some (vI x), l2], vI x :: st, σ) := E_iload_n i31_70 rfl
theorem e31_71 {d : Nat} {Q : Option AV → St → Prop} {st : List AV} {σ : St} {l0 l1 l2 : Option AV} : Rn (d) Q (31, 71, [l0, l1, l2], st, σ) = Rn (d) Q (31, 72, [l0, l1, l2], vI 1 :: st, σ) := by rw [E_iconst i31_71, ci_1]
theorem e31_72 {d : Nat} {Q : Option AV → St → Prop} {st : List AV} {σ : St} {l0 l1 l2 : Option AV} {x y : Int32} : Rn (d) Q (31, 72, [l0, l1, l2], vI y :: vI x :: st, σ) = Rn (d) Q (31, 73, [l0, l1, l2], vI (x + y) :: st, σ) := E_iadd i31_72
theorem e31_73 {d : Nat} {Q : Option AV → St → Prop} {st : List AV} {σ : St} {l0 l1 l2 : Option AV} {i : Nat} {j : Int32} : Rn (d) Q (31, 73, [l0, l1, l2], vI j :: vR (some (5, 6, i)) :: st, σ) = (∃ n, gL σ 5 5 i = some n ∧ i < gN σ 5 ∧ (0 ≤ j.toInt ∧ j.toInt < n) ∧ Rn (d) Q (31, 74, [l0, l1, l2], vI (gA σ 5 5 i j.toNatClampNeg) :: st, σ)) := E_iaload1 i31_73 rfl
theorem e31_74 {d : Nat} {Q : Option AV → St → Prop} {st : List AV} {σ : St} {l0 l1 : Option AV} {x : Int32} : Rn (d) Q (31, 74, [l0, l1, some (vI x)], st, σ) = Rn (d) Q (31, 75, [l0, l1, some (vI x)], vI x :: st, σ) := E_iload_n i31_74 rfl
theorem e31_75 {d : Nat} {Q : Option AV → St → Prop} {st : List AV} {σ : St} {l0 l1 l2 : Option AV} {x y : Int32} : Rn (d) Q (31, 75, [l0, l1, l2], vI y :: vI x :: st, σ) = Rn (d) Q (31, 76, [l0, l1, l2], vI (x + y) :: st, σ) := E_iadd i31_75
theorem e31_76 {d : Nat} {Q : Option AV → St → Prop} {st : List AV} {σ : St} {l0 l1 l2 : Option AV} {i : Nat} {j x : Int32} : Rn (d) Q (31, 76, [l0, l1, l2], vI x :: vI j :: vR (some (5, 6, i)) :: st, σ) = (∃ n, gL σ 5 5 i = some n ∧ i < gN σ 5 ∧ (0 ≤ j.toInt ∧ j.toInt < n) ∧ Rn (d) Q (31, 77, [l0, l1, l2], st, setA σ 5 5 i (upd (gA σ 5 5 i) j.toNatClampNeg x))) := E_iastore1 i31_76 rfl (by decide)
theorem e31_77 {d : Nat} {Q : Option AV → St → Prop} {st : List AV} {σ : St} {l0 l2 : Option AV} {x : Int32} : Rn (d) Q (31, 77, [l0, some (vI x), l2], st, σ) = Rn (d) Q (31, 80, [l0, some (vI (x + (-1))), l2], st, σ) := by rw [E_iinc i31_77 rfl (by rw [x31]; decide), show Int32.ofInt (-1) = (-1 : Int32) by decide +kernel]; rfl
theorem e31_80 {d : Nat} {Q : Option AV → St → Prop} {st : List AV} {σ : St} {l0 l1 l2 : Option AV} : Rn (d) Q (31, 80, [l0, l1, l2], st, σ) = Rn (d) Q (31, 27, [l0, l1, l2], st, σ) := E_goto 27 i31_80 (by decide)
theorem e31_83 {d : Nat} {Q : Option AV → St → Prop} {σ : St} {l0 l1 l2 : Option AV} : Rn (d) Q (31, 83, [l0, l1, l2], [], σ) = Q none σ := E_ret (st := []) i31_83 r31
theorem i32_0 : ins 32 0 = some (.iconst 0, 1) := (congrArg (fun x : PTy => x.1.lookup 0) q32).trans rfl
theorem i32_1 : ins 32 1 = some (.istore_n 2, 1) := (congrArg (fun x : PTy => x.1.lookup 1) q32).trans rfl
theorem i32_2 : ins 32 2 = some (.iconst 0, 1) := (congrArg (fun x : PTy => x.1.lookup 2) q32).trans rfl
theorem i32_3 : ins 32 3 = some (.istore_n 3, 1) := (congrArg (fun x : PTy => x.1.lookup 3) q32).trans rfl
theorem i32_4 : ins 32 4 = some (.iload_n 3, 1) := (congrArg (fun x : PTy => x.1.lookup 4) q32).trans rfl
theorem i32_5 : ins 32 5 = some (.aload_n 0, 1) := (congrArg (fun x : PTy => x.1.lookup 5) q32).trans rfl
theorem i32_6 : ins 32 6 = some (.getfield 40, 3) := (congrArg (fun x : PTy => x.1.lookup 6) q32).trans rfl
theorem i32_9 : ins 32 9 = some (.if_icmp .ge 50, 3) := (congrArg (fun x : PTy => x.1.lookup 9) q32).trans rfl
theorem i32_12 : ins 32 12 = some (.aload_n 0, 1) := (congrArg (fun x : PTy => x.1.lookup 12) q32).trans rfl
theorem i32_13 : ins 32 13 = some (.getfield 30, 3) := (congrArg (fun x : PTy => x.1.lookup 13) q32).trans rfl
theorem i32_16 : ins 32 16 = some (.iload_n 3, 1) := (congrArg (fun x : PTy => x.1.lookup 16) q32).trans rfl
theorem i32_17 : ins 32 17 = some (.iaload, 1) := (congrArg (fun x : PTy => x.1.lookup 17) q32).trans rfl
theorem i32_18 : ins 32 18 = some (.iconst 1, 1) := (congrArg (fun x : PTy => x.1.lookup 18) q32).trans rfl
theorem i32_19 : ins 32 19 = some (.iadd, 1) := (congrArg (fun x : PTy => x.1.lookup 19) q32).trans rfl
theorem i32_20 : ins 32 20 = some (.aload_n 0, 1) := (congrArg (fun x : PTy => x.1.lookup 20) q32).trans rfl
theorem i32_21 : ins 32 21 = some (.getfield 33, 3) := (congrArg (fun x : PTy => x.1.lookup 21) q32).trans rfl
theorem i32_24 : ins 32 24 = some (.iload_n 3, 1) := (congrArg (fun x : PTy => x.1.lookup 24) q32).trans rfl
theorem i32_25 : ins 32 25 = some (.iaload, 1) := (congrArg (fun x : PTy => x.1.lookup 25) q32).trans rfl
theorem i32_26 : ins 32 26 = some (.invokestatic 66, 3) := (congrArg (fun x : PTy => x.1.lookup 26) q32).trans rfl
theorem i32_29 : ins 32 29 = some (.istore 4, 2) := (congrArg (fun x : PTy => x.1.lookup 29) q32).trans rfl
theorem i32_31 : ins 32 31 = some (.aload_n 0, 1) := (congrArg (fun x : PTy => x.1.lookup 31) q32).trans rfl
theorem i32_32 : ins 32 32 = some (.iload_n 3, 1) := (congrArg (fun x : PTy => x.1.lookup 32) q32).trans rfl
theorem i32_33 : ins 32 33 = some (.iload_n 1, 1) := (congrArg (fun x : PTy => x.1.lookup 33) q32).trans rfl
theorem i32_34 : ins 32 34 = some (.invokevirtual 70, 3) := (congrArg (fun x : PTy => x.1.lookup 34) q32).trans rfl
theorem i32_37 : ins 32 37 = some (.ifCond .eq 16, 3) := (congrArg (fun x : PTy => x.1.lookup 37) q32).trans rfl
theorem i32_40 : ins 32 40 = some (.iload_n 2, 1) := (congrArg (fun x : PTy => x.1.lookup 40) q32).trans rfl
theorem i32_41 : ins 32 41 = some (.ifCond .eq 9, 3) := (congrArg (fun x : PTy => x.1.lookup 41) q32).trans rfl
theorem i32_44 : ins 32 44 = some (.iload 4, 2) := (congrArg (fun x : PTy => x.1.lookup 44) q32).trans rfl
theorem i32_46 : ins 32 46 = some (.iload_n 2, 1) := (congrArg (fun x : PTy => x.1.lookup 46) q32).trans rfl
theorem i32_47 : ins 32 47 = some (.if_icmp .ge 6, 3) := (congrArg (fun x : PTy => x.1.lookup 47) q32).trans rfl
theorem i32_50 : ins 32 50 = some (.iload 4, 2) := (congrArg (fun x : PTy => x.1.lookup 50) q32).trans rfl
theorem i32_52 : ins 32 52 = some (.istore_n 2, 1) := (congrArg (fun x : PTy => x.1.lookup 52) q32).trans rfl
theorem i32_53 : ins 32 53 = some (.iinc 3 1, 3) := (congrArg (fun x : PTy => x.1.lookup 53) q32).trans rfl
theorem i32_56 : ins 32 56 = some (.goto (-52), 3) := (congrArg (fun x : PTy => x.1.lookup 56) q32).trans rfl
theorem i32_59 : ins 32 59 = some (.iload_n 2, 1) := (congrArg (fun x : PTy => x.1.lookup 59) q32).trans rfl
theorem i32_60 : ins 32 60 = some (.ireturn, 1) := (congrArg (fun x : PTy => x.1.lookup 60) q32).trans rfl
theorem e32_0 {d : Nat} {Q : Option AV → St → Prop} {st : List AV} {σ : St} {l0 l1 l2 l3 l4 : Option AV} : Rn (d) Q (32, 0, [l0, l1, l2, l3, l4], st, σ) = Rn (d) Q (32, 1, [l0, l1, l2, l3, l4], vI 0 :: st, σ) := by rw [E_iconst i32_0, ci_0]
theorem s32_2 : okst 32 2 = true := by unfold okst; rw [x32]; rfl
theorem e32_1 {d : Nat} {Q : Option AV → St → Prop} {st : List AV} {σ : St} {l0 l1 l2 l3 l4 : Option AV} {x : Int32} : Rn (d) Q (32, 1, [l0, l1, l2, l3, l4], vI x :: st, σ) = Rn (d) Q (32, 2, [l0, l1, some (vI x), l3, l4], st, σ) := E_istore_n i32_1 s32_2
theorem e32_2 {d : Nat} {Q : Option AV → St → Prop} {st : List AV} {σ : St} {l0 l1 l2 l3 l4 : Option AV} : Rn (d) Q (32, 2, [l0, l1, l2, l3, l4], st, σ) = Rn (d) Q (32, 3, [l0, l1, l2, l3, l4], vI 0 :: st, σ) := by rw [E_iconst i32_2, ci_0]
theorem s32_3 : okst 32 3 = true := by unfold okst; rw [x32]; rfl
theorem e32_3 {d : Nat} {Q : Option AV → St → Prop} {st : List AV} {σ : St} {l0 l1 l2 l3 l4 : Option AV} {x : Int32} : Rn (d) Q (32, 3, [l0, l1, l2, l3, l4], vI x :: st, σ) = Rn (d) Q (32, 4, [l0, l1, l2, some (vI x), l4], st, σ) := E_istore_n i32_3 s32_3
theorem e32_4 {d : Nat} {Q : Option AV → St → Prop} {st : List AV} {σ : St} {l0 l1 l2 l4 : Option AV} {x : Int32} : Rn (d) Q (32, 4, [l0, l1, l2, some (vI x), l4], st, σ) = Rn (d) Q (32, 5, [l0, l1, l2, some (vI x), l4], vI x :: st, σ) := E_iload_n i32_4 rfl
theorem e32_5 {d : Nat} {Q : Option AV → St → Prop} {st : List AV} {σ : St} {l1 l2 l3 l4 : Option AV} {x : Option (Nat × Nat × Nat)} : Rn (d) Q (32, 5, [some (vR x), l1, l2, l3, l4], st, σ) = Rn (d) Q (32, 6, [some (vR x), l1, l2, l3, l4], vR x :: st, σ) := E_aload_n i32_5 rfl
theorem e32_6 {d : Nat} {Q : Option AV → St → Prop} {st : List AV} {σ : St} {l0 l1 l2 l3 l4 : Option AV} {i : Nat} : Rn (d) Q (32, 6, [l0, l1, l2, l3, l4], vR (some (5, 0, i)) :: st, σ) = (i < gN σ 5 ∧ Rn (d) Q (32, 9, [l0, l1, l2, l3, l4], vI (gI σ 5 9 i) :: st, σ)) := E_getI i32_6 ((congrArg (fun z => fldQ z 40) o32).trans f5_40) rfl
theorem e32_9 {d : Nat} {Q : Option AV → St → Prop} {st : List AV} {σ : St} {l0 l1 l2 l3 l4 : Option AV} {x y : Int32} : Rn (d) Q (32, 9, [l0, l1, l2, l3, l4], vI y :: vI x :: st, σ) = (if y ≤ x then Rn (d) Q (32, 59, [l0, l1, l2, l3, l4], st, σ) else Rn (d) Q (32, 12, [l0, l1, l2, l3, l4], st, σ)) := E_icmp_ge 59 i32_9 (by decide)
theorem e32_12 {d : Nat} {Q : Option AV → St → Prop} {st : List AV} {σ : St} {l1 l2 l3 l4 : Option AV} {x : Option (Nat × Nat × Nat)} : Rn (d) Q (32, 12, [some (vR x), l1, l2, l3, l4], st, σ) = Rn (d) Q (32, 13, [some (vR x), l1, l2, l3, l4], vR x :: st, σ) := E_aload_n i32_12 rfl
theorem e32_13 {d : Nat} {Q : Option AV → St → Prop} {st : List AV} {σ : St} {l0 l1 l2 l3 l4 : Option AV} {i : Nat} : Rn (d) Q (32, 13, [l0, l1, l2, l3, l4], vR (some (5, 0, i)) :: st, σ) = (i < gN σ 5 ∧ ¬ gL σ 5 6 i = none ∧ Rn (d) Q (32, 16, [l0, l1, l2, l3, l4], vR (some (5, 7, i)) :: st, σ)) := E_getA i32_13 ((congrArg (fun z => fldQ z 30) o32).trans f5_30) (Or.inl rfl)
theorem e32_16 {d : Nat} {Q : Option AV → St → Prop} {st : List AV} {σ : St} {l0 l1 l2 l4 : Option AV} {x : Int32} : Rn (d) Q (32, 16, [l0, l1, l2, some (vI x), l4], st, σ) = Rn (d) Q (32, 17, [l0, l1, l2, some (vI x), l4], vI x :: st, σ) := E_iload_n i32_16 rfl
theorem e32_17 {d : Nat} {Q : Option AV → St → Prop} {st : List AV} {σ : St} {l0 l1 l2 l3 l4 : Option AV} {i : Nat} {j : Int32} : Rn (d) Q (32, 17, [l0, l1, l2, l3, l4], vI j :: vR (some (5, 7, i)) :: st, σ) = (∃ n, gL σ 5 6 i = some n ∧ i < gN σ 5 ∧ (0 ≤ j.toInt ∧ j.toInt < n) ∧ Rn (d) Q (32, 18, [l0, l1, l2, l3, l4], vI (gA σ 5 6 i j.toNatClampNeg) :: st, σ)) := E_iaload1 i32_17 rfl
theorem e32_18 {d : Nat} {Q : Option AV → St → Prop} {st : List AV} {σ : St} {l0 l1 l2 l3 l4 : Option AV} : Rn (d) Q (32, 18, [l0, l1, l2, l3, l4], st, σ) = Rn (d) Q (32, 19, [l0, l1, l2, l3, l4], vI 1 :: st, σ) := by rw [E_iconst i32_18, ci_1]
theorem e32_19 {d : Nat} {Q : Option AV → St → Prop} {st : List AV} {σ : St} {l0 l1 l2 l3 l4 : Option AV} {x y : Int32} : Rn (d) Q (32, 19, [l0, l1, l2, l3, l4], vI y :: vI x :: st, σ) = Rn (d) Q (32, 20, [l0, l1, l2, l3, l4], vI (x + y) :: st, σ) := E_iadd i32_19
theorem e32_20 {d : Nat} {Q : Option AV → St → Prop} {st : List AV} {σ : St} {l1 l2 l3 l4 : Option AV} {x : Option (Nat × Nat × Nat)} : Rn (d) Q (32, 20, [some (vR x), l1, l2, l3, l4], st, σ) = Rn (d) Q (32, 21, [some (vR x), l1, l2, l3, l4], vR x :: st, σ) := E_aload_n i32_20 rfl
theorem e32_21 {d : Nat} {Q : Option AV → St → Prop} {st : List AV} {σ : St} {l0 l1 l2 l3 l4 : Option AV} {i : Nat} : Rn (d) Q (32, 21, [l0, l1, l2, l3, l4], vR (some (5, 0, i)) :: st, σ) = (i < gN σ 5 ∧ ¬ gL σ 5 7 i = none ∧ Rn (d) Q (32, 24, [l0, l1, l2, l3, l4], vR (some (5, 8, i)) :: st, σ)) := E_getA i32_21 ((congrArg (fun z => fldQ z 33) o32).trans f5_33) (Or.inl rfl)
theorem e32_24 {d : Nat} {Q : Option AV → St → Prop} {st : List AV} {σ : St} {l0 l1 l2 l4 : Option AV} {x : Int32} : Rn (d) Q (32, 24, [l0, l1, l2, some (vI x), l4], st, σ) = Rn (d) Q (32, 25, [l0, l1, l2, some (vI x), l4], vI x :: st, σ) := E_iload_n i32_24 rfl
theorem e32_25 {d : Nat} {Q : Option AV → St → Prop} {st : List AV} {σ : St} {l0 l1 l2 l3 l4 : Option AV} {i : Nat} {j : Int32} : Rn (d) Q (32, 25, [l0, l1, l2, l3, l4], vI j :: vR (some (5, 8, i)) :: st, σ) = (∃ n, gL σ 5 7 i = some n ∧ i < gN σ 5 ∧ (0 ≤ j.toInt ∧ j.toInt < n) ∧ Rn (d) Q (32, 26, [l0, l1, l2, l3, l4], vI (gA σ 5 7 i j.toNatClampNeg) :: st, σ)) := E_iaload1 i32_25 rfl
theorem e32_26 {d : Nat} {Q : Option AV → St → Prop} {st : List AV} {σ : St} {l0 l1 l2 l3 l4 : Option AV} {a0 : Int32} {a1 : Int32} : Rn (d + 1) Q (32, 26, [l0, l1, l2, l3, l4], vI a1 :: vI a0 :: st, σ) = (catS st ≤ 8 ∧ Rn d (fun r σ' => Rn (d + 1) Q (32, 29, [l0, l1, l2, l3, l4], r.toList ++ st, σ')) (112, 0, [some (vI a0), some (vI a1)], [], σ)) := E_invS4 (a := [vI a1, vI a0]) i32_26 ((congrArg (fun z => mthQ z 66) o32).trans m5_66) rfl (ek112 a0 a1) (en112 a0 a1)
theorem s32_4 : okst 32 4 = true := by unfold okst; rw [x32]; rfl
theorem e32_29 {d : Nat} {Q : Option AV → St → Prop} {st : List AV} {σ : St} {l0 l1 l2 l3 l4 : Option AV} {x : Int32} : Rn (d) Q (32, 29, [l0, l1, l2, l3, l4], vI x :: st, σ) = Rn (d) Q (32, 31, [l0, l1, l2, l3, some (vI x)], st, σ) := E_istore i32_29 s32_4
theorem e32_31 {d : Nat} {Q : Option AV → St → Prop} {st : List AV} {σ : St} {l1 l2 l3 l4 : Option AV} {x : Option (Nat × Nat × Nat)} : Rn (d) Q (32, 31, [some (vR x), l1, l2, l3, l4], st, σ) = Rn (d) Q (32, 32, [some (vR x), l1, l2, l3, l4], vR x :: st, σ) := E_aload_n i32_31 rfl
theorem e32_32 {d : Nat} {Q : Option AV → St → Prop} {st : List AV} {σ : St} {l0 l1 l2 l4 : Option AV} {x : Int32} : Rn (d) Q (32, 32, [l0, l1, l2, some (vI x), l4], st, σ) = Rn (d) Q (32, 33, [l0, l1, l2, some (vI x), l4], vI x :: st, σ) := E_iload_n i32_32 rfl
theorem e32_33 {d : Nat} {Q : Option AV → St → Prop} {st : List AV} {σ : St} {l0 l2 l3 l4 : Option AV} {x : Int32} : Rn (d) Q (32, 33, [l0, some (vI x), l2, l3, l4], st, σ) = Rn (d) Q (32, 34, [l0, some (vI x), l2, l3, l4], vI x :: st, σ) := E_iload_n i32_33 rfl
theorem e32_34 {d : Nat} {Q : Option AV → St → Prop} {st : List AV} {σ : St} {l0 l1 l2 l3 l4 : Option AV} {i : Nat} {a1 : Int32} {a2 : Int32} : Rn (d + 1) Q (32, 34, [l0, l1, l2, l3, l4], vI a2 :: vI a1 :: vR (some (5, 0, i)) :: st, σ) = (i < gN σ 5 ∧ catS st ≤ 8 ∧ Rn d (fun r σ' => Rn (d + 1) Q (32, 37, [l0, l1, l2, l3, l4], r.toList ++ st, σ')) (33, 0, [some (vR (some (5, 0, i))), some (vI a1), some (vI a2)], [], σ)) := E_invV (a := [vI a2, vI a1]) i32_34 ((congrArg (fun z => mthQ z 70) o32).trans m5_70) o33 rfl (ek33 i a1 a2) (en33 i a1 a2)
theorem e32_37 {d : Nat} {Q : Option AV → St → Prop} {st : List AV} {σ : St} {l0 l1 l2 l3 l4 : Option AV} {x : Int32} : Rn (d) Q (32, 37, [l0, l1, l2, l3, l4], vI x :: st, σ) = (if x = 0 then Rn (d) Q (32, 53, [l0, l1, l2, l3, l4], st, σ) else Rn (d) Q (32, 40, [l0, l1, l2, l3, l4], st, σ)) := E_if_eq 53 i32_37 (by decide)
theorem e32_40 {d : Nat} {Q : Option AV → St → Prop} {st : List AV} {σ : St} {l0 l1 l3 l4 : Option AV} {x : Int32} : Rn (d) Q (32, 40, [l0, l1, some (vI x), l3, l4], st, σ) = Rn (d) Q (32, 41, [l0, l1, some (vI x), l3, l4], vI x :: st, σ) := E_iload_n i32_40 rfl
theorem e32_41 {d : Nat} {Q : Option AV → St → Prop} {st : List AV} {σ : St} {l0 l1 l2 l3 l4 : Option AV} {x : Int32} : Rn (d) Q (32, 41, [l0, l1, l2, l3, l4], vI x :: st, σ) = (if x = 0 then Rn (d) Q (32, 50, [l0, l1, l2, l3, l4], st, σ) else Rn (d) Q (32, 44, [l0, l1, l2, l3, l4], st, σ)) := E_if_eq 50 i32_41 (by decide)
theorem e32_44 {d : Nat} {Q : Option AV → St → Prop} {st : List AV} {σ : St} {l0 l1 l2 l3 : Option AV} {x : Int32} : Rn (d) Q (32, 44, [l0, l1, l2, l3, some (vI x)], st, σ) = Rn (d) Q (32, 46, [l0, l1, l2, l3, some (vI x)], vI x :: st, σ) := E_iload i32_44 rfl
theorem e32_46 {d : Nat} {Q : Option AV → St → Prop} {st : List AV} {σ : St} {l0 l1 l3 l4 : Option AV} {x : Int32} : Rn (d) Q (32, 46, [l0, l1, some (vI x), l3, l4], st, σ) = Rn (d) Q (32, 47, [l0, l1, some (vI x), l3, l4], vI x :: st, σ) := E_iload_n i32_46 rfl
theorem e32_47 {d : Nat} {Q : Option AV → St → Prop} {st : List AV} {σ : St} {l0 l1 l2 l3 l4 : Option AV} {x y : Int32} : Rn (d) Q (32, 47, [l0, l1, l2, l3, l4], vI y :: vI x :: st, σ) = (if y ≤ x then Rn (d) Q (32, 53, [l0, l1, l2, l3, l4], st, σ) else Rn (d) Q (32, 50, [l0, l1, l2, l3, l4], st, σ)) := E_icmp_ge 53 i32_47 (by decide)
theorem e32_50 {d : Nat} {Q : Option AV → St → Prop} {st : List AV} {σ : St} {l0 l1 l2 l3 : Option AV} {x : Int32} : Rn (d) Q (32, 50, [l0, l1, l2, l3, some (vI x)], st, σ) = Rn (d) Q (32, 52, [l0, l1, l2, l3, some (vI x)], vI x :: st, σ) := E_iload i32_50 rfl
theorem e32_52 {d : Nat} {Q : Option AV → St → Prop} {st : List AV} {σ : St} {l0 l1 l2 l3 l4 : Option AV} {x : Int32} : Rn (d) Q (32, 52, [l0, l1, l2, l3, l4], vI x :: st, σ) = Rn (d) Q (32, 53, [l0, l1, some (vI x), l3, l4], st, σ) := E_istore_n i32_52 s32_2
theorem e32_53 {d : Nat} {Q : Option AV → St → Prop} {st : List AV} {σ : St} {l0 l1 l2 l4 : Option AV} {x : Int32} : Rn (d) Q (32, 53, [l0, l1, l2, some (vI x), l4], st, σ) = Rn (d) Q (32, 56, [l0, l1, l2, some (vI (x + 1)), l4], st, σ) := by rw [E_iinc i32_53 rfl (by rw [x32]; decide), show Int32.ofInt 1 = (1 : Int32) by decide +kernel]; rfl
theorem e32_56 {d : Nat} {Q : Option AV → St → Prop} {st : List AV} {σ : St} {l0 l1 l2 l3 l4 : Option AV} : Rn (d) Q (32, 56, [l0, l1, l2, l3, l4], st, σ) = Rn (d) Q (32, 4, [l0, l1, l2, l3, l4], st, σ) := E_goto 4 i32_56 (by decide)
theorem e32_59 {d : Nat} {Q : Option AV → St → Prop} {st : List AV} {σ : St} {l0 l1 l3 l4 : Option AV} {x : Int32} : Rn (d) Q (32, 59, [l0, l1, some (vI x), l3, l4], st, σ) = Rn (d) Q (32, 60, [l0, l1, some (vI x), l3, l4], vI x :: st, σ) := E_iload_n i32_59 rfl
theorem e32_60 {d : Nat} {Q : Option AV → St → Prop} {σ : St} {l0 l1 l2 l3 l4 : Option AV} {x : Int32} : Rn (d) Q (32, 60, [l0, l1, l2, l3, l4], [vI x], σ) = Q (some (vI x)) σ := E_iretI (st := []) i32_60 r32
theorem i33_0 : ins 33 0 = some (.aload_n 0, 1) := (congrArg (fun x : PTy => x.1.lookup 0) q33).trans rfl
theorem i33_1 : ins 33 1 = some (.getfield 15, 3) := (congrArg (fun x : PTy => x.1.lookup 1) q33).trans rfl
theorem i33_4 : ins 33 4 = some (.iload_n 2, 1) := (congrArg (fun x : PTy => x.1.lookup 4) q33).trans rfl
theorem i33_5 : ins 33 5 = some (.iaload, 1) := (congrArg (fun x : PTy => x.1.lookup 5) q33).trans rfl
theorem i33_6 : ins 33 6 = some (.iload_n 1, 1) := (congrArg (fun x : PTy => x.1.lookup 6) q33).trans rfl
theorem i33_7 : ins 33 7 = some (.ishr, 1) := (congrArg (fun x : PTy => x.1.lookup 7) q33).trans rfl
theorem i33_8 : ins 33 8 = some (.iconst 1, 1) := (congrArg (fun x : PTy => x.1.lookup 8) q33).trans rfl
theorem i33_9 : ins 33 9 = some (.iand, 1) := (congrArg (fun x : PTy => x.1.lookup 9) q33).trans rfl
theorem i33_10 : ins 33 10 = some (.iconst 1, 1) := (congrArg (fun x : PTy => x.1.lookup 10) q33).trans rfl
theorem i33_11 : ins 33 11 = some (.if_icmp .ne 18, 3) := (congrArg (fun x : PTy => x.1.lookup 11) q33).trans rfl
theorem i33_14 : ins 33 14 = some (.aload_n 0, 1) := (congrArg (fun x : PTy => x.1.lookup 14) q33).trans rfl
theorem i33_15 : ins 33 15 = some (.getfield 30, 3) := (congrArg (fun x : PTy => x.1.lookup 15) q33).trans rfl
theorem i33_18 : ins 33 18 = some (.iload_n 1, 1) := (congrArg (fun x : PTy => x.1.lookup 18) q33).trans rfl
theorem i33_19 : ins 33 19 = some (.iaload, 1) := (congrArg (fun x : PTy => x.1.lookup 19) q33).trans rfl
theorem i33_20 : ins 33 20 = some (.bipush 12, 2) := (congrArg (fun x : PTy => x.1.lookup 20) q33).trans rfl
theorem i33_22 : ins 33 22 = some (.if_icmp .ge 7, 3) := (congrArg (fun x : PTy => x.1.lookup 22) q33).trans rfl
theorem i33_25 : ins 33 25 = some (.iconst 1, 1) := (congrArg (fun x : PTy => x.1.lookup 25) q33).trans rfl
theorem i33_26 : ins 33 26 = some (.goto 4, 3) := (congrArg (fun x : PTy => x.1.lookup 26) q33).trans rfl
theorem i33_29 : ins 33 29 = some (.iconst 0, 1) := (congrArg (fun x : PTy => x.1.lookup 29) q33).trans rfl
theorem i33_30 : ins 33 30 = some (.ireturn, 1) := (congrArg (fun x : PTy => x.1.lookup 30) q33).trans rfl
theorem e33_0 {d : Nat} {Q : Option AV → St → Prop} {st : List AV} {σ : St} {l1 l2 : Option AV} {x : Option (Nat × Nat × Nat)} : Rn (d) Q (33, 0, [some (vR x), l1, l2], st, σ) = Rn (d) Q (33, 1, [some (vR x), l1, l2], vR x :: st, σ) := E_aload_n i33_0 rfl
theorem e33_1 {d : Nat} {Q : Option AV → St → Prop} {st : List AV} {σ : St} {l0 l1 l2 : Option AV} {i : Nat} : Rn (d) Q (33, 1, [l0, l1, l2], vR (some (5, 0, i)) :: st, σ) = (i < gN σ 5 ∧ ¬ gL σ 5 1 i = none ∧ Rn (d) Q (33, 4, [l0, l1, l2], vR (some (5, 2, i)) :: st, σ)) := E_getA i33_1 ((congrArg (fun z => fldQ z 15) o33).trans f5_15) (Or.inl rfl)
theorem e33_4 {d : Nat} {Q : Option AV → St → Prop} {st : List AV} {σ : St} {l0 l1 : Option AV} {x : Int32} : Rn (d) Q (33, 4, [l0, l1, some (vI x)], st, σ) = Rn (d) Q (33, 5, [l0, l1, some (vI x)], vI x :: st, σ) := E_iload_n i33_4 rfl
theorem e33_5 {d : Nat} {Q : Option AV → St → Prop} {st : List AV} {σ : St} {l0 l1 l2 : Option AV} {i : Nat} {j : Int32} : Rn (d) Q (33, 5, [l0, l1, l2], vI j :: vR (some (5, 2, i)) :: st, σ) = (∃ n, gL σ 5 1 i = some n ∧ i < gN σ 5 ∧ (0 ≤ j.toInt ∧ j.toInt < n) ∧ Rn (d) Q (33, 6, [l0, l1, l2], vI (gA σ 5 1 i j.toNatClampNeg) :: st, σ)) := E_iaload1 i33_5 rfl
theorem e33_6 {d : Nat} {Q : Option AV → St → Prop} {st : List AV} {σ : St} {l0 l2 : Option AV} {x : Int32} : Rn (d) Q (33, 6, [l0, some (vI x), l2], st, σ) = Rn (d) Q (33, 7, [l0, some (vI x), l2], vI x :: st, σ) := E_iload_n i33_6 rfl
theorem e33_7 {d : Nat} {Q : Option AV → St → Prop} {st : List AV} {σ : St} {l0 l1 l2 : Option AV} {x y : Int32} : Rn (d) Q (33, 7, [l0, l1, l2], vI y :: vI x :: st, σ) = Rn (d) Q (33, 8, [l0, l1, l2], vI (x >>> (y &&& 31)) :: st, σ) := E_ishr i33_7
theorem e33_8 {d : Nat} {Q : Option AV → St → Prop} {st : List AV} {σ : St} {l0 l1 l2 : Option AV} : Rn (d) Q (33, 8, [l0, l1, l2], st, σ) = Rn (d) Q (33, 9, [l0, l1, l2], vI 1 :: st, σ) := by rw [E_iconst i33_8, ci_1]
theorem e33_9 {d : Nat} {Q : Option AV → St → Prop} {st : List AV} {σ : St} {l0 l1 l2 : Option AV} {x y : Int32} : Rn (d) Q (33, 9, [l0, l1, l2], vI y :: vI x :: st, σ) = Rn (d) Q (33, 10, [l0, l1, l2], vI (x &&& y) :: st, σ) := E_iand i33_9
theorem e33_10 {d : Nat} {Q : Option AV → St → Prop} {st : List AV} {σ : St} {l0 l1 l2 : Option AV} : Rn (d) Q (33, 10, [l0, l1, l2], st, σ) = Rn (d) Q (33, 11, [l0, l1, l2], vI 1 :: st, σ) := by rw [E_iconst i33_10, ci_1]
theorem e33_11 {d : Nat} {Q : Option AV → St → Prop} {st : List AV} {σ : St} {l0 l1 l2 : Option AV} {x y : Int32} : Rn (d) Q (33, 11, [l0, l1, l2], vI y :: vI x :: st, σ) = (if x = y then Rn (d) Q (33, 14, [l0, l1, l2], st, σ) else Rn (d) Q (33, 29, [l0, l1, l2], st, σ)) := E_icmp_ne 29 i33_11 (by decide)
theorem e33_14 {d : Nat} {Q : Option AV → St → Prop} {st : List AV} {σ : St} {l1 l2 : Option AV} {x : Option (Nat × Nat × Nat)} : Rn (d) Q (33, 14, [some (vR x), l1, l2], st, σ) = Rn (d) Q (33, 15, [some (vR x), l1, l2], vR x :: st, σ) := E_aload_n i33_14 rfl
theorem e33_15 {d : Nat} {Q : Option AV → St → Prop} {st : List AV} {σ : St} {l0 l1 l2 : Option AV} {i : Nat} : Rn (d) Q (33, 15, [l0, l1, l2], vR (some (5, 0, i)) :: st, σ) = (i < gN σ 5 ∧ ¬ gL σ 5 6 i = none ∧ Rn (d) Q (33, 18, [l0, l1, l2], vR (some (5, 7, i)) :: st, σ)) := E_getA i33_15 ((congrArg (fun z => fldQ z 30) o33).trans f5_30) (Or.inl rfl)
theorem e33_18 {d : Nat} {Q : Option AV → St → Prop} {st : List AV} {σ : St} {l0 l2 : Option AV} {x : Int32} : Rn (d) Q (33, 18, [l0, some (vI x), l2], st, σ) = Rn (d) Q (33, 19, [l0, some (vI x), l2], vI x :: st, σ) := E_iload_n i33_18 rfl
theorem e33_19 {d : Nat} {Q : Option AV → St → Prop} {st : List AV} {σ : St} {l0 l1 l2 : Option AV} {i : Nat} {j : Int32} : Rn (d) Q (33, 19, [l0, l1, l2], vI j :: vR (some (5, 7, i)) :: st, σ) = (∃ n, gL σ 5 6 i = some n ∧ i < gN σ 5 ∧ (0 ≤ j.toInt ∧ j.toInt < n) ∧ Rn (d) Q (33, 20, [l0, l1, l2], vI (gA σ 5 6 i j.toNatClampNeg) :: st, σ)) := E_iaload1 i33_19 rfl
theorem e33_20 {d : Nat} {Q : Option AV → St → Prop} {st : List AV} {σ : St} {l0 l1 l2 : Option AV} : Rn (d) Q (33, 20, [l0, l1, l2], st, σ) = Rn (d) Q (33, 22, [l0, l1, l2], vI 12 :: st, σ) := by rw [E_bipush i33_20, cb_12]
theorem e33_22 {d : Nat} {Q : Option AV → St → Prop} {st : List AV} {σ : St} {l0 l1 l2 : Option AV} {x y : Int32} : Rn (d) Q (33, 22, [l0, l1, l2], vI y :: vI x :: st, σ) = (if y ≤ x then Rn (d) Q (33, 29, [l0, l1, l2], st, σ) else Rn (d) Q (33, 25, [l0, l1, l2], st, σ)) := E_icmp_ge 29 i33_22 (by decide)
theorem e33_25 {d : Nat} {Q : Option AV → St → Prop} {st : List AV} {σ : St} {l0 l1 l2 : Option AV} : Rn (d) Q (33, 25, [l0, l1, l2], st, σ) = Rn (d) Q (33, 26, [l0, l1, l2], vI 1 :: st, σ) := by rw [E_iconst i33_25, ci_1]
theorem e33_26 {d : Nat} {Q : Option AV → St → Prop} {st : List AV} {σ : St} {l0 l1 l2 : Option AV} : Rn (d) Q (33, 26, [l0, l1, l2], st, σ) = Rn (d) Q (33, 30, [l0, l1, l2], st, σ) := E_goto 30 i33_26 (by decide)
theorem e33_29 {d : Nat} {Q : Option AV → St → Prop} {st : List AV} {σ : St} {l0 l1 l2 : Option AV} : Rn (d) Q (33, 29, [l0, l1, l2], st, σ) = Rn (d) Q (33, 30, [l0, l1, l2], vI 0 :: st, σ) := by rw [E_iconst i33_29, ci_0]
theorem e33_30 {d : Nat} {Q : Option AV → St → Prop} {σ : St} {l0 l1 l2 : Option AV} {x : Int32} : Rn (d) Q (33, 30, [l0, l1, l2], [vI x], σ) = ((x = 0 ∨ x = 1) ∧ Q (some (vI x)) σ) := E_iretZ (st := []) i33_30 r33
theorem i34_0 : ins 34 0 = some (.aload_n 0, 1) := (congrArg (fun x : PTy => x.1.lookup 0) q34).trans rfl
theorem i34_1 : ins 34 1 = some (.iload_n 1, 1) := (congrArg (fun x : PTy => x.1.lookup 1) q34).trans rfl
theorem i34_2 : ins 34 2 = some (.iload_n 2, 1) := (congrArg (fun x : PTy => x.1.lookup 2) q34).trans rfl
theorem i34_3 : ins 34 3 = some (.iload_n 3, 1) := (congrArg (fun x : PTy => x.1.lookup 3) q34).trans rfl
theorem i34_4 : ins 34 4 = some (.invokevirtual 74, 3) := (congrArg (fun x : PTy => x.1.lookup 4) q34).trans rfl
theorem i34_7 : ins 34 7 = some (.ifCond .ne 4, 3) := (congrArg (fun x : PTy => x.1.lookup 7) q34).trans rfl
theorem i34_10 : ins 34 10 = some (.return_, 1) := (congrArg (fun x : PTy => x.1.lookup 10) q34).trans rfl
theorem i34_11 : ins 34 11 = some (.iload_n 1, 1) := (congrArg (fun x : PTy => x.1.lookup 11) q34).trans rfl
theorem i34_12 : ins 34 12 = some (.aload_n 0, 1) := (congrArg (fun x : PTy => x.1.lookup 12) q34).trans rfl
theorem i34_13 : ins 34 13 = some (.getfield 36, 3) := (congrArg (fun x : PTy => x.1.lookup 13) q34).trans rfl
theorem i34_16 : ins 34 16 = some (.if_icmp .lt 29, 3) := (congrArg (fun x : PTy => x.1.lookup 16) q34).trans rfl
theorem i34_19 : ins 34 19 = some (.aload_n 0, 1) := (congrArg (fun x : PTy => x.1.lookup 19) q34).trans rfl
theorem i34_20 : ins 34 20 = some (.iload_n 2, 1) := (congrArg (fun x : PTy => x.1.lookup 20) q34).trans rfl
theorem i34_21 : ins 34 21 = some (.putfield 43, 3) := (congrArg (fun x : PTy => x.1.lookup 21) q34).trans rfl
theorem i34_24 : ins 34 24 = some (.aload_n 0, 1) := (congrArg (fun x : PTy => x.1.lookup 24) q34).trans rfl
theorem i34_25 : ins 34 25 = some (.iload_n 3, 1) := (congrArg (fun x : PTy => x.1.lookup 25) q34).trans rfl
theorem i34_26 : ins 34 26 = some (.putfield 46, 3) := (congrArg (fun x : PTy => x.1.lookup 26) q34).trans rfl
theorem i34_29 : ins 34 29 = some (.aload_n 0, 1) := (congrArg (fun x : PTy => x.1.lookup 29) q34).trans rfl
theorem i34_30 : ins 34 30 = some (.getfield 18, 3) := (congrArg (fun x : PTy => x.1.lookup 30) q34).trans rfl
theorem i34_33 : ins 34 33 = some (.iconst 0, 1) := (congrArg (fun x : PTy => x.1.lookup 33) q34).trans rfl
theorem i34_34 : ins 34 34 = some (.aload_n 0, 1) := (congrArg (fun x : PTy => x.1.lookup 34) q34).trans rfl
theorem i34_35 : ins 34 35 = some (.getfield 21, 3) := (congrArg (fun x : PTy => x.1.lookup 35) q34).trans rfl
theorem i34_38 : ins 34 38 = some (.iconst 0, 1) := (congrArg (fun x : PTy => x.1.lookup 38) q34).trans rfl
theorem i34_39 : ins 34 39 = some (.bipush 6, 2) := (congrArg (fun x : PTy => x.1.lookup 39) q34).trans rfl
theorem i34_41 : ins 34 41 = some (.invokestatic 78, 3) := (congrArg (fun x : PTy => x.1.lookup 41) q34).trans rfl
theorem i34_44 : ins 34 44 = some (.return_, 1) := (congrArg (fun x : PTy => x.1.lookup 44) q34).trans rfl
theorem i34_45 : ins 34 45 = some (.iconst 0, 1) := (congrArg (fun x : PTy => x.1.lookup 45) q34).trans rfl
theorem i34_46 : ins 34 46 = some (.istore 4, 2) := (congrArg (fun x : PTy => x.1.lookup 46) q34).trans rfl
theorem i34_48 : ins 34 48 = some (.iload 4, 2) := (congrArg (fun x : PTy => x.1.lookup 48) q34).trans rfl
theorem i34_50 : ins 34 50 = some (.aload_n 0, 1) := (congrArg (fun x : PTy => x.1.lookup 50) q34).trans rfl
theorem i34_51 : ins 34 51 = some (.getfield 40, 3) := (congrArg (fun x : PTy => x.1.lookup 51) q34).trans rfl
theorem i34_54 : ins 34 54 = some (.if_icmp .ge 78, 3) := (congrArg (fun x : PTy => x.1.lookup 54) q34).trans rfl
theorem i34_57 : ins 34 57 = some (.aload_n 0, 1) := (congrArg (fun x : PTy => x.1.lookup 57) q34).trans rfl
theorem i34_58 : ins 34 58 = some (.iload 4, 2) := (congrArg (fun x : PTy => x.1.lookup 58) q34).trans rfl
theorem i34_60 : ins 34 60 = some (.iload_n 1, 1) := (congrArg (fun x : PTy => x.1.lookup 60) q34).trans rfl
theorem i34_61 : ins 34 61 = some (.invokevirtual 70, 3) := (congrArg (fun x : PTy => x.1.lookup 61) q34).trans rfl
theorem i34_64 : ins 34 64 = some (.ifCond .eq 62, 3) := (congrArg (fun x : PTy => x.1.lookup 64) q34).trans rfl
theorem i34_67 : ins 34 67 = some (.aload_n 0, 1) := (congrArg (fun x : PTy => x.1.lookup 67) q34).trans rfl
theorem i34_68 : ins 34 68 = some (.getfield 30, 3) := (congrArg (fun x : PTy => x.1.lookup 68) q34).trans rfl
theorem i34_71 : ins 34 71 = some (.iload 4, 2) := (congrArg (fun x : PTy => x.1.lookup 71) q34).trans rfl
theorem i34_73 : ins 34 73 = some (.dup2, 1) := (congrArg (fun x : PTy => x.1.lookup 73) q34).trans rfl
theorem i34_74 : ins 34 74 = some (.iaload, 1) := (congrArg (fun x : PTy => x.1.lookup 74) q34).trans rfl
theorem i34_75 : ins 34 75 = some (.iconst 1, 1) := (congrArg (fun x : PTy => x.1.lookup 75) q34).trans rfl
theorem i34_76 : ins 34 76 = some (.iadd, 1) := (congrArg (fun x : PTy => x.1.lookup 76) q34).trans rfl
theorem i34_77 : ins 34 77 = some (.iastore, 1) := (congrArg (fun x : PTy => x.1.lookup 77) q34).trans rfl
theorem i34_78 : ins 34 78 = some (.aload_n 0, 1) := (congrArg (fun x : PTy => x.1.lookup 78) q34).trans rfl
theorem i34_79 : ins 34 79 = some (.getfield 18, 3) := (congrArg (fun x : PTy => x.1.lookup 79) q34).trans rfl
theorem i34_82 : ins 34 82 = some (.iload_n 1, 1) := (congrArg (fun x : PTy => x.1.lookup 82) q34).trans rfl
theorem i34_83 : ins 34 83 = some (.iload 4, 2) := (congrArg (fun x : PTy => x.1.lookup 83) q34).trans rfl
theorem i34_85 : ins 34 85 = some (.iastore, 1) := (congrArg (fun x : PTy => x.1.lookup 85) q34).trans rfl
theorem i34_86 : ins 34 86 = some (.aload_n 0, 1) := (congrArg (fun x : PTy => x.1.lookup 86) q34).trans rfl
theorem i34_87 : ins 34 87 = some (.iload_n 1, 1) := (congrArg (fun x : PTy => x.1.lookup 87) q34).trans rfl
theorem i34_88 : ins 34 88 = some (.iconst 1, 1) := (congrArg (fun x : PTy => x.1.lookup 88) q34).trans rfl
theorem i34_89 : ins 34 89 = some (.iadd, 1) := (congrArg (fun x : PTy => x.1.lookup 89) q34).trans rfl
theorem i34_90 : ins 34 90 = some (.iload_n 2, 1) := (congrArg (fun x : PTy => x.1.lookup 90) q34).trans rfl
theorem i34_91 : ins 34 91 = some (.iconst 1, 1) := (congrArg (fun x : PTy => x.1.lookup 91) q34).trans rfl
theorem i34_92 : ins 34 92 = some (.iadd, 1) := (congrArg (fun x : PTy => x.1.lookup 92) q34).trans rfl
theorem i34_93 : ins 34 93 = some (.iload_n 3, 1) := (congrArg (fun x : PTy => x.1.lookup 93) q34).trans rfl
theorem i34_94 : ins 34 94 = some (.aload_n 0, 1) := (congrArg (fun x : PTy => x.1.lookup 94) q34).trans rfl
theorem i34_95 : ins 34 95 = some (.getfield 30, 3) := (congrArg (fun x : PTy => x.1.lookup 95) q34).trans rfl
theorem i34_98 : ins 34 98 = some (.iload 4, 2) := (congrArg (fun x : PTy => x.1.lookup 98) q34).trans rfl
theorem i34_100 : ins 34 100 = some (.iaload, 1) := (congrArg (fun x : PTy => x.1.lookup 100) q34).trans rfl
theorem i34_101 : ins 34 101 = some (.aload_n 0, 1) := (congrArg (fun x : PTy => x.1.lookup 101) q34).trans rfl
theorem i34_102 : ins 34 102 = some (.getfield 33, 3) := (congrArg (fun x : PTy => x.1.lookup 102) q34).trans rfl
theorem i34_105 : ins 34 105 = some (.iload 4, 2) := (congrArg (fun x : PTy => x.1.lookup 105) q34).trans rfl
theorem i34_107 : ins 34 107 = some (.iaload, 1) := (congrArg (fun x : PTy => x.1.lookup 107) q34).trans rfl
theorem i34_108 : ins 34 108 = some (.invokestatic 66, 3) := (congrArg (fun x : PTy => x.1.lookup 108) q34).trans rfl
theorem i34_111 : ins 34 111 = some (.iadd, 1) := (congrArg (fun x : PTy => x.1.lookup 111) q34).trans rfl
theorem i34_112 : ins 34 112 = some (.invokevirtual 58, 3) := (congrArg (fun x : PTy => x.1.lookup 112) q34).trans rfl
theorem i34_115 : ins 34 115 = some (.aload_n 0, 1) := (congrArg (fun x : PTy => x.1.lookup 115) q34).trans rfl
theorem i34_116 : ins 34 116 = some (.getfield 30, 3) := (congrArg (fun x : PTy => x.1.lookup 116) q34).trans rfl
theorem i34_119 : ins 34 119 = some (.iload 4, 2) := (congrArg (fun x : PTy => x.1.lookup 119) q34).trans rfl
theorem i34_121 : ins 34 121 = some (.dup2, 1) := (congrArg (fun x : PTy => x.1.lookup 121) q34).trans rfl
theorem i34_122 : ins 34 122 = some (.iaload, 1) := (congrArg (fun x : PTy => x.1.lookup 122) q34).trans rfl
theorem i34_123 : ins 34 123 = some (.iconst 1, 1) := (congrArg (fun x : PTy => x.1.lookup 123) q34).trans rfl
theorem i34_124 : ins 34 124 = some (.isub, 1) := (congrArg (fun x : PTy => x.1.lookup 124) q34).trans rfl
theorem i34_125 : ins 34 125 = some (.iastore, 1) := (congrArg (fun x : PTy => x.1.lookup 125) q34).trans rfl
theorem i34_126 : ins 34 126 = some (.iinc 4 1, 3) := (congrArg (fun x : PTy => x.1.lookup 126) q34).trans rfl
theorem i34_129 : ins 34 129 = some (.goto (-81), 3) := (congrArg (fun x : PTy => x.1.lookup 129) q34).trans rfl
theorem i34_132 : ins 34 132 = some (.aload_n 0, 1) := (congrArg (fun x : PTy => x.1.lookup 132) q34).trans rfl
theorem i34_133 : ins 34 133 = some (.getfield 18, 3) := (congrArg (fun x : PTy => x.1.lookup 133) q34).trans rfl
theorem i34_136 : ins 34 136 = some (.iload_n 1, 1) := (congrArg (fun x : PTy => x.1.lookup 136) q34).trans rfl
theorem i34_137 : ins 34 137 = some (.bipush (-4), 2) := (congrArg (fun x : PTy => x.1.lookup 137) q34).trans rfl
theorem i34_139 : ins 34 139 = some (.iastore, 1) := (congrArg (fun x : PTy => x.1.lookup 139) q34).trans rfl
theorem i34_140 : ins 34 140 = some (.aload_n 0, 1) := (congrArg (fun x : PTy => x.1.lookup 140) q34).trans rfl
theorem i34_141 : ins 34 141 = some (.iload_n 1, 1) := (congrArg (fun x : PTy => x.1.lookup 141) q34).trans rfl
theorem i34_142 : ins 34 142 = some (.iconst 1, 1) := (congrArg (fun x : PTy => x.1.lookup 142) q34).trans rfl
theorem i34_143 : ins 34 143 = some (.iadd, 1) := (congrArg (fun x : PTy => x.1.lookup 143) q34).trans rfl
theorem i34_144 : ins 34 144 = some (.iload_n 2, 1) := (congrArg (fun x : PTy => x.1.lookup 144) q34).trans rfl
theorem i34_145 : ins 34 145 = some (.iload_n 3, 1) := (congrArg (fun x : PTy => x.1.lookup 145) q34).trans rfl
theorem i34_146 : ins 34 146 = some (.invokevirtual 58, 3) := (congrArg (fun x : PTy => x.1.lookup 146) q34).trans rfl
theorem i34_149 : ins 34 149 = some (.return_, 1) := (congrArg (fun x : PTy => x.1.lookup 149) q34).trans rfl
theorem e34_0 {d : Nat} {Q : Option AV → St → Prop} {st : List AV} {σ : St} {l1 l2 l3 l4 : Option AV} {x : Option (Nat × Nat × Nat)} : Rn (d) Q (34, 0, [some (vR x), l1, l2, l3, l4], st, σ) = Rn (d) Q (34, 1, [some (vR x), l1, l2, l3, l4], vR x :: st, σ) := E_aload_n i34_0 rfl
theorem e34_1 {d : Nat} {Q : Option AV → St → Prop} {st : List AV} {σ : St} {l0 l2 l3 l4 : Option AV} {x : Int32} : Rn (d) Q (34, 1, [l0, some (vI x), l2, l3, l4], st, σ) = Rn (d) Q (34, 2, [l0, some (vI x), l2, l3, l4], vI x :: st, σ) := E_iload_n i34_1 rfl
theorem e34_2 {d : Nat} {Q : Option AV → St → Prop} {st : List AV} {σ : St} {l0 l1 l3 l4 : Option AV} {x : Int32} : Rn (d) Q (34, 2, [l0, l1, some (vI x), l3, l4], st, σ) = Rn (d) Q (34, 3, [l0, l1, some (vI x), l3, l4], vI x :: st, σ) := E_iload_n i34_2 rfl
theorem e34_3 {d : Nat} {Q : Option AV → St → Prop} {st : List AV} {σ : St} {l0 l1 l2 l4 : Option AV} {x : Int32} : Rn (d) Q (34, 3, [l0, l1, l2, some (vI x), l4], st, σ) = Rn (d) Q (34, 4, [l0, l1, l2, some (vI x), l4], vI x :: st, σ) := E_iload_n i34_3 rfl
theorem e34_4 {d : Nat} {Q : Option AV → St → Prop} {st : List AV} {σ : St} {l0 l1 l2 l3 l4 : Option AV} {i : Nat} {a1 : Int32} {a2 : Int32} {a3 : Int32} : Rn (d + 1) Q (34, 4, [l0, l1, l2, l3, l4], vI a3 :: vI a2 :: vI a1 :: vR (some (5, 0, i)) :: st, σ) = (i < gN σ 5 ∧ catS st ≤ 8 ∧ Rn d (fun r σ' => Rn (d + 1) Q (34, 7, [l0, l1, l2, l3, l4], r.toList ++ st, σ')) (35, 0, [some (vR (some (5, 0, i))), some (vI a1), some (vI a2), some (vI a3), none], [], σ)) := E_invV (a := [vI a3, vI a2, vI a1]) i34_4 ((congrArg (fun z => mthQ z 74) o34).trans m5_74) o35 rfl (ek35 i a1 a2 a3) (en35 i a1 a2 a3)
theorem e34_7 {d : Nat} {Q : Option AV → St → Prop} {st : List AV} {σ : St} {l0 l1 l2 l3 l4 : Option AV} {x : Int32} : Rn (d) Q (34, 7, [l0, l1, l2, l3, l4], vI x :: st, σ) = (if x = 0 then Rn (d) Q (34, 10, [l0, l1, l2, l3, l4], st, σ) else Rn (d) Q (34, 11, [l0, l1, l2, l3, l4], st, σ)) := E_if_ne 11 i34_7 (by decide)
theorem e34_10 {d : Nat} {Q : Option AV → St → Prop} {σ : St} {l0 l1 l2 l3 l4 : Option AV} : Rn (d) Q (34, 10, [l0, l1, l2, l3, l4], [], σ) = Q none σ := E_ret (st := []) i34_10 r34
theorem e34_11 {d : Nat} {Q : Option AV → St → Prop} {st : List AV} {σ : St} {l0 l2 l3 l4 : Option AV} {x : Int32} : Rn (d) Q (34, 11, [l0, some (vI x), l2, l3, l4], st, σ) = Rn (d) Q (34, 12, [l0, some (vI x), l2, l3, l4], vI x :: st, σ) := E_iload_n i34_11 rfl
theorem e34_12 {d : Nat} {Q : Option AV → St → Prop} {st : List AV} {σ : St} {l1 l2 l3 l4 : Option AV} {x : Option (Nat × Nat × Nat)} : Rn (d) Q (34, 12, [some (vR x), l1, l2, l3, l4], st, σ) = Rn (d) Q (34, 13, [some (vR x), l1, l2, l3, l4], vR x :: st, σ) := E_aload_n i34_12 rfl
theorem e34_13 {d : Nat} {Q : Option AV → St → Prop} {st : List AV} {σ : St} {l0 l1 l2 l3 l4 : Option AV} {i : Nat} : Rn (d) Q (34, 13, [l0, l1, l2, l3, l4], vR (some (5, 0, i)) :: st, σ) = (i < gN σ 5 ∧ Rn (d) Q (34, 16, [l0, l1, l2, l3, l4], vI (gI σ 5 8 i) :: st, σ)) := E_getI i34_13 ((congrArg (fun z => fldQ z 36) o34).trans f5_36) rfl
theorem e34_16 {d : Nat} {Q : Option AV → St → Prop} {st : List AV} {σ : St} {l0 l1 l2 l3 l4 : Option AV} {x y : Int32} : Rn (d) Q (34, 16, [l0, l1, l2, l3, l4], vI y :: vI x :: st, σ) = (if x < y then Rn (d) Q (34, 45, [l0, l1, l2, l3, l4], st, σ) else Rn (d) Q (34, 19, [l0, l1, l2, l3, l4], st, σ)) := E_icmp_lt 45 i34_16 (by decide)
theorem e34_19 {d : Nat} {Q : Option AV → St → Prop} {st : List AV} {σ : St} {l1 l2 l3 l4 : Option AV} {x : Option (Nat × Nat × Nat)} : Rn (d) Q (34, 19, [some (vR x), l1, l2, l3, l4], st, σ) = Rn (d) Q (34, 20, [some (vR x), l1, l2, l3, l4], vR x :: st, σ) := E_aload_n i34_19 rfl
theorem e34_20 {d : Nat} {Q : Option AV → St → Prop} {st : List AV} {σ : St} {l0 l1 l3 l4 : Option AV} {x : Int32} : Rn (d) Q (34, 20, [l0, l1, some (vI x), l3, l4], st, σ) = Rn (d) Q (34, 21, [l0, l1, some (vI x), l3, l4], vI x :: st, σ) := E_iload_n i34_20 rfl
theorem e34_21 {d : Nat} {Q : Option AV → St → Prop} {st : List AV} {σ : St} {l0 l1 l2 l3 l4 : Option AV} {i : Nat} {x : Int32} : Rn (d) Q (34, 21, [l0, l1, l2, l3, l4], vI x :: vR (some (5, 0, i)) :: st, σ) = (i < gN σ 5 ∧ Rn (d) Q (34, 24, [l0, l1, l2, l3, l4], st, setI σ 5 10 i x)) := E_putI i34_21 ((congrArg (fun z => fldQ z 43) o34).trans f5_43) rfl (Or.inl rfl)
theorem e34_24 {d : Nat} {Q : Option AV → St → Prop} {st : List AV} {σ : St} {l1 l2 l3 l4 : Option AV} {x : Option (Nat × Nat × Nat)} : Rn (d) Q (34, 24, [some (vR x), l1, l2, l3, l4], st, σ) = Rn (d) Q (34, 25, [some (vR x), l1, l2, l3, l4], vR x :: st, σ) := E_aload_n i34_24 rfl
theorem e34_25 {d : Nat} {Q : Option AV → St → Prop} {st : List AV} {σ : St} {l0 l1 l2 l4 : Option AV} {x : Int32} : Rn (d) Q (34, 25, [l0, l1, l2, some (vI x), l4], st, σ) = Rn (d) Q (34, 26, [l0, l1, l2, some (vI x), l4], vI x :: st, σ) := E_iload_n i34_25 rfl
theorem e34_26 {d : Nat} {Q : Option AV → St → Prop} {st : List AV} {σ : St} {l0 l1 l2 l3 l4 : Option AV} {i : Nat} {x : Int32} : Rn (d) Q (34, 26, [l0, l1, l2, l3, l4], vI x :: vR (some (5, 0, i)) :: st, σ) = (i < gN σ 5 ∧ Rn (d) Q (34, 29, [l0, l1, l2, l3, l4], st, setI σ 5 11 i x)) := E_putI i34_26 ((congrArg (fun z => fldQ z 46) o34).trans f5_46) rfl (Or.inl rfl)
theorem e34_29 {d : Nat} {Q : Option AV → St → Prop} {st : List AV} {σ : St} {l1 l2 l3 l4 : Option AV} {x : Option (Nat × Nat × Nat)} : Rn (d) Q (34, 29, [some (vR x), l1, l2, l3, l4], st, σ) = Rn (d) Q (34, 30, [some (vR x), l1, l2, l3, l4], vR x :: st, σ) := E_aload_n i34_29 rfl
theorem e34_30 {d : Nat} {Q : Option AV → St → Prop} {st : List AV} {σ : St} {l0 l1 l2 l3 l4 : Option AV} {i : Nat} : Rn (d) Q (34, 30, [l0, l1, l2, l3, l4], vR (some (5, 0, i)) :: st, σ) = (i < gN σ 5 ∧ ¬ gL σ 5 2 i = none ∧ Rn (d) Q (34, 33, [l0, l1, l2, l3, l4], vR (some (5, 3, i)) :: st, σ)) := E_getA i34_30 ((congrArg (fun z => fldQ z 18) o34).trans f5_18) (Or.inl rfl)
theorem e34_33 {d : Nat} {Q : Option AV → St → Prop} {st : List AV} {σ : St} {l0 l1 l2 l3 l4 : Option AV} : Rn (d) Q (34, 33, [l0, l1, l2, l3, l4], st, σ) = Rn (d) Q (34, 34, [l0, l1, l2, l3, l4], vI 0 :: st, σ) := by rw [E_iconst i34_33, ci_0]
theorem e34_34 {d : Nat} {Q : Option AV → St → Prop} {st : List AV} {σ : St} {l1 l2 l3 l4 : Option AV} {x : Option (Nat × Nat × Nat)} : Rn (d) Q (34, 34, [some (vR x), l1, l2, l3, l4], st, σ) = Rn (d) Q (34, 35, [some (vR x), l1, l2, l3, l4], vR x :: st, σ) := E_aload_n i34_34 rfl
theorem e34_35 {d : Nat} {Q : Option AV → St → Prop} {st : List AV} {σ : St} {l0 l1 l2 l3 l4 : Option AV} {i : Nat} : Rn (d) Q (34, 35, [l0, l1, l2, l3, l4], vR (some (5, 0, i)) :: st, σ) = (i < gN σ 5 ∧ ¬ gL σ 5 3 i = none ∧ Rn (d) Q (34, 38, [l0, l1, l2, l3, l4], vR (some (5, 4, i)) :: st, σ)) := E_getA i34_35 ((congrArg (fun z => fldQ z 21) o34).trans f5_21) (Or.inl rfl)
theorem e34_38 {d : Nat} {Q : Option AV → St → Prop} {st : List AV} {σ : St} {l0 l1 l2 l3 l4 : Option AV} : Rn (d) Q (34, 38, [l0, l1, l2, l3, l4], st, σ) = Rn (d) Q (34, 39, [l0, l1, l2, l3, l4], vI 0 :: st, σ) := by rw [E_iconst i34_38, ci_0]
theorem e34_39 {d : Nat} {Q : Option AV → St → Prop} {st : List AV} {σ : St} {l0 l1 l2 l3 l4 : Option AV} : Rn (d) Q (34, 39, [l0, l1, l2, l3, l4], st, σ) = Rn (d) Q (34, 41, [l0, l1, l2, l3, l4], vI 6 :: st, σ) := by rw [E_bipush i34_39, cb_6]
theorem e34_44 {d : Nat} {Q : Option AV → St → Prop} {σ : St} {l0 l1 l2 l3 l4 : Option AV} : Rn (d) Q (34, 44, [l0, l1, l2, l3, l4], [], σ) = Q none σ := E_ret (st := []) i34_44 r34
theorem e34_45 {d : Nat} {Q : Option AV → St → Prop} {st : List AV} {σ : St} {l0 l1 l2 l3 l4 : Option AV} : Rn (d) Q (34, 45, [l0, l1, l2, l3, l4], st, σ) = Rn (d) Q (34, 46, [l0, l1, l2, l3, l4], vI 0 :: st, σ) := by rw [E_iconst i34_45, ci_0]
theorem s34_4 : okst 34 4 = true := by unfold okst; rw [x34]; rfl
theorem e34_46 {d : Nat} {Q : Option AV → St → Prop} {st : List AV} {σ : St} {l0 l1 l2 l3 l4 : Option AV} {x : Int32} : Rn (d) Q (34, 46, [l0, l1, l2, l3, l4], vI x :: st, σ) = Rn (d) Q (34, 48, [l0, l1, l2, l3, some (vI x)], st, σ) := E_istore i34_46 s34_4
theorem e34_48 {d : Nat} {Q : Option AV → St → Prop} {st : List AV} {σ : St} {l0 l1 l2 l3 : Option AV} {x : Int32} : Rn (d) Q (34, 48, [l0, l1, l2, l3, some (vI x)], st, σ) = Rn (d) Q (34, 50, [l0, l1, l2, l3, some (vI x)], vI x :: st, σ) := E_iload i34_48 rfl
theorem e34_50 {d : Nat} {Q : Option AV → St → Prop} {st : List AV} {σ : St} {l1 l2 l3 l4 : Option AV} {x : Option (Nat × Nat × Nat)} : Rn (d) Q (34, 50, [some (vR x), l1, l2, l3, l4], st, σ) = Rn (d) Q (34, 51, [some (vR x), l1, l2, l3, l4], vR x :: st, σ) := E_aload_n i34_50 rfl
theorem e34_51 {d : Nat} {Q : Option AV → St → Prop} {st : List AV} {σ : St} {l0 l1 l2 l3 l4 : Option AV} {i : Nat} : Rn (d) Q (34, 51, [l0, l1, l2, l3, l4], vR (some (5, 0, i)) :: st, σ) = (i < gN σ 5 ∧ Rn (d) Q (34, 54, [l0, l1, l2, l3, l4], vI (gI σ 5 9 i) :: st, σ)) := E_getI i34_51 ((congrArg (fun z => fldQ z 40) o34).trans f5_40) rfl
theorem e34_54 {d : Nat} {Q : Option AV → St → Prop} {st : List AV} {σ : St} {l0 l1 l2 l3 l4 : Option AV} {x y : Int32} : Rn (d) Q (34, 54, [l0, l1, l2, l3, l4], vI y :: vI x :: st, σ) = (if y ≤ x then Rn (d) Q (34, 132, [l0, l1, l2, l3, l4], st, σ) else Rn (d) Q (34, 57, [l0, l1, l2, l3, l4], st, σ)) := E_icmp_ge 132 i34_54 (by decide)
theorem e34_57 {d : Nat} {Q : Option AV → St → Prop} {st : List AV} {σ : St} {l1 l2 l3 l4 : Option AV} {x : Option (Nat × Nat × Nat)} : Rn (d) Q (34, 57, [some (vR x), l1, l2, l3, l4], st, σ) = Rn (d) Q (34, 58, [some (vR x), l1, l2, l3, l4], vR x :: st, σ) := E_aload_n i34_57 rfl
theorem e34_58 {d : Nat} {Q : Option AV → St → Prop} {st : List AV} {σ : St} {l0 l1 l2 l3 : Option AV} {x : Int32} : Rn (d) Q (34, 58, [l0, l1, l2, l3, some (vI x)], st, σ) = Rn (d) Q (34, 60, [l0, l1, l2, l3, some (vI x)], vI x :: st, σ) := E_iload i34_58 rfl
theorem e34_60 {d : Nat} {Q : Option AV → St → Prop} {st : List AV} {σ : St} {l0 l2 l3 l4 : Option AV} {x : Int32} : Rn (d) Q (34, 60, [l0, some (vI x), l2, l3, l4], st, σ) = Rn (d) Q (34, 61, [l0, some (vI x), l2, l3, l4], vI x :: st, σ) := E_iload_n i34_60 rfl
theorem e34_61 {d : Nat} {Q : Option AV → St → Prop} {st : List AV} {σ : St} {l0 l1 l2 l3 l4 : Option AV} {i : Nat} {a1 : Int32} {a2 : Int32} : Rn (d + 1) Q (34, 61, [l0, l1, l2, l3, l4], vI a2 :: vI a1 :: vR (some (5, 0, i)) :: st, σ) = (i < gN σ 5 ∧ catS st ≤ 8 ∧ Rn d (fun r σ' => Rn (d + 1) Q (34, 64, [l0, l1, l2, l3, l4], r.toList ++ st, σ')) (33, 0, [some (vR (some (5, 0, i))), some (vI a1), some (vI a2)], [], σ)) := E_invV (a := [vI a2, vI a1]) i34_61 ((congrArg (fun z => mthQ z 70) o34).trans m5_70) o33 rfl (ek33 i a1 a2) (en33 i a1 a2)
theorem e34_64 {d : Nat} {Q : Option AV → St → Prop} {st : List AV} {σ : St} {l0 l1 l2 l3 l4 : Option AV} {x : Int32} : Rn (d) Q (34, 64, [l0, l1, l2, l3, l4], vI x :: st, σ) = (if x = 0 then Rn (d) Q (34, 126, [l0, l1, l2, l3, l4], st, σ) else Rn (d) Q (34, 67, [l0, l1, l2, l3, l4], st, σ)) := E_if_eq 126 i34_64 (by decide)
theorem e34_67 {d : Nat} {Q : Option AV → St → Prop} {st : List AV} {σ : St} {l1 l2 l3 l4 : Option AV} {x : Option (Nat × Nat × Nat)} : Rn (d) Q (34, 67, [some (vR x), l1, l2, l3, l4], st, σ) = Rn (d) Q (34, 68, [some (vR x), l1, l2, l3, l4], vR x :: st, σ) := E_aload_n i34_67 rfl
theorem e34_68 {d : Nat} {Q : Option AV → St → Prop} {st : List AV} {σ : St} {l0 l1 l2 l3 l4 : Option AV} {i : Nat} : Rn (d) Q (34, 68, [l0, l1, l2, l3, l4], vR (some (5, 0, i)) :: st, σ) = (i < gN σ 5 ∧ ¬ gL σ 5 6 i = none ∧ Rn (d) Q (34, 71, [l0, l1, l2, l3, l4], vR (some (5, 7, i)) :: st, σ)) := E_getA i34_68 ((congrArg (fun z => fldQ z 30) o34).trans f5_30) (Or.inl rfl)
theorem e34_71 {d : Nat} {Q : Option AV → St → Prop} {st : List AV} {σ : St} {l0 l1 l2 l3 : Option AV} {x : Int32} : Rn (d) Q (34, 71, [l0, l1, l2, l3, some (vI x)], st, σ) = Rn (d) Q (34, 73, [l0, l1, l2, l3, some (vI x)], vI x :: st, σ) := E_iload i34_71 rfl
theorem e34_73 {d : Nat} {Q : Option AV → St → Prop} {st : List AV} {σ : St} {l0 l1 l2 l3 l4 : Option AV} {x : Int32} {y : Option (Nat × Nat × Nat)} : Rn (d) Q (34, 73, [l0, l1, l2, l3, l4], vI x :: vR y :: st, σ) = Rn (d) Q (34, 74, [l0, l1, l2, l3, l4], vI x :: vR y :: vI x :: vR y :: st, σ) := E_dup2 i34_73
theorem e34_74 {d : Nat} {Q : Option AV → St → Prop} {st : List AV} {σ : St} {l0 l1 l2 l3 l4 : Option AV} {i : Nat} {j : Int32} : Rn (d) Q (34, 74, [l0, l1, l2, l3, l4], vI j :: vR (some (5, 7, i)) :: st, σ) = (∃ n, gL σ 5 6 i = some n ∧ i < gN σ 5 ∧ (0 ≤ j.toInt ∧ j.toInt < n) ∧ Rn (d) Q (34, 75, [l0, l1, l2, l3, l4], vI (gA σ 5 6 i j.toNatClampNeg) :: st, σ)) := E_iaload1 i34_74 rfl
theorem e34_75 {d : Nat} {Q : Option AV → St → Prop} {st : List AV} {σ : St} {l0 l1 l2 l3 l4 : Option AV} : Rn (d) Q (34, 75, [l0, l1, l2, l3, l4], st, σ) = Rn (d) Q (34, 76, [l0, l1, l2, l3, l4], vI 1 :: st, σ) := by rw [E_iconst i34_75, ci_1]
theorem e34_76 {d : Nat} {Q : Option AV → St → Prop} {st : List AV} {σ : St} {l0 l1 l2 l3 l4 : Option AV} {x y : Int32} : Rn (d) Q (34, 76, [l0, l1, l2, l3, l4], vI y :: vI x :: st, σ) = Rn (d) Q (34, 77, [l0, l1, l2, l3, l4], vI (x + y) :: st, σ) := E_iadd i34_76
theorem e34_77 {d : Nat} {Q : Option AV → St → Prop} {st : List AV} {σ : St} {l0 l1 l2 l3 l4 : Option AV} {i : Nat} {j x : Int32} : Rn (d) Q (34, 77, [l0, l1, l2, l3, l4], vI x :: vI j :: vR (some (5, 7, i)) :: st, σ) = (∃ n, gL σ 5 6 i = some n ∧ i < gN σ 5 ∧ (0 ≤ j.toInt ∧ j.toInt < n) ∧ Rn (d) Q (34, 78, [l0, l1, l2, l3, l4], st, setA σ 5 6 i (upd (gA σ 5 6 i) j.toNatClampNeg x))) := E_iastore1 i34_77 rfl (by decide)
theorem e34_78 {d : Nat} {Q : Option AV → St → Prop} {st : List AV} {σ : St} {l1 l2 l3 l4 : Option AV} {x : Option (Nat × Nat × Nat)} : Rn (d) Q (34, 78, [some (vR x), l1, l2, l3, l4], st, σ) = Rn (d) Q (34, 79, [some (vR x), l1, l2, l3, l4], vR x :: st, σ) := E_aload_n i34_78 rfl
theorem e34_79 {d : Nat} {Q : Option AV → St → Prop} {st : List AV} {σ : St} {l0 l1 l2 l3 l4 : Option AV} {i : Nat} : Rn (d) Q (34, 79, [l0, l1, l2, l3, l4], vR (some (5, 0, i)) :: st, σ) = (i < gN σ 5 ∧ ¬ gL σ 5 2 i = none ∧ Rn (d) Q (34, 82, [l0, l1, l2, l3, l4], vR (some (5, 3, i)) :: st, σ)) := E_getA i34_79 ((congrArg (fun z => fldQ z 18) o34).trans f5_18) (Or.inl rfl)
theorem e34_82 {d : Nat} {Q : Option AV → St → Prop} {st : List AV} {σ : St} {l0 l2 l3 l4 : Option AV} {x : Int32} : Rn (d) Q (34, 82, [l0, some (vI x), l2, l3, l4], st, σ) = Rn (d) Q (34, 83, [l0, some (vI x), l2, l3, l4], vI x :: st, σ) := E_iload_n i34_82 rfl
theorem e34_83 {d : Nat} {Q : Option AV → St → Prop} {st : List AV} {σ : St} {l0 l1 l2 l3 : Option AV} {x : Int32} : Rn (d) Q (34, 83, [l0, l1, l2, l3, some (vI x)], st, σ) = Rn (d) Q (34, 85, [l0, l1, l2, l3, some (vI x)], vI x :: st, σ) := E_iload i34_83 rfl
theorem e34_85 {d : Nat} {Q : Option AV → St → Prop} {st : List AV} {σ : St} {l0 l1 l2 l3 l4 : Option AV} {i : Nat} {j x : Int32} : Rn (d) Q (34, 85, [l0, l1, l2, l3, l4], vI x :: vI j :: vR (some (5, 3, i)) :: st, σ) = (∃ n, gL σ 5 2 i = some n ∧ i < gN σ 5 ∧ (0 ≤ j.toInt ∧ j.toInt < n) ∧ Rn (d) Q (34, 86, [l0, l1, l2, l3, l4], st, setA σ 5 2 i (upd (gA σ 5 2 i) j.toNatClampNeg x))) := E_iastore1 i34_85 rfl (by decide)
theorem e34_86 {d : Nat} {Q : Option AV → St → Prop} {st : List AV} {σ : St} {l1 l2 l3 l4 : Option AV} {x : Option (Nat × Nat × Nat)} : Rn (d) Q (34, 86, [some (vR x), l1, l2, l3, l4], st, σ) = Rn (d) Q (34, 87, [some (vR x), l1, l2, l3, l4], vR x :: st, σ) := E_aload_n i34_86 rfl
theorem e34_87 {d : Nat} {Q : Option AV → St → Prop} {st : List AV} {σ : St} {l0 l2 l3 l4 : Option AV} {x : Int32} : Rn (d) Q (34, 87, [l0, some (vI x), l2, l3, l4], st, σ) = Rn (d) Q (34, 88, [l0, some (vI x), l2, l3, l4], vI x :: st, σ) := E_iload_n i34_87 rfl
theorem e34_88 {d : Nat} {Q : Option AV → St → Prop} {st : List AV} {σ : St} {l0 l1 l2 l3 l4 : Option AV} : Rn (d) Q (34, 88, [l0, l1, l2, l3, l4], st, σ) = Rn (d) Q (34, 89, [l0, l1, l2, l3, l4], vI 1 :: st, σ) := by rw [E_iconst i34_88, ci_1]
theorem e34_89 {d : Nat} {Q : Option AV → St → Prop} {st : List AV} {σ : St} {l0 l1 l2 l3 l4 : Option AV} {x y : Int32} : Rn (d) Q (34, 89, [l0, l1, l2, l3, l4], vI y :: vI x :: st, σ) = Rn (d) Q (34, 90, [l0, l1, l2, l3, l4], vI (x + y) :: st, σ) := E_iadd i34_89
theorem e34_90 {d : Nat} {Q : Option AV → St → Prop} {st : List AV} {σ : St} {l0 l1 l3 l4 : Option AV} {x : Int32} : Rn (d) Q (34, 90, [l0, l1, some (vI x), l3, l4], st, σ) = Rn (d) Q (34, 91, [l0, l1, some (vI x), l3, l4], vI x :: st, σ) := E_iload_n i34_90 rfl
theorem e34_91 {d : Nat} {Q : Option AV → St → Prop} {st : List AV} {σ : St} {l0 l1 l2 l3 l4 : Option AV} : Rn (d) Q (34, 91, [l0, l1, l2, l3, l4], st, σ) = Rn (d) Q (34, 92, [l0, l1, l2, l3, l4], vI 1 :: st, σ) := by rw [E_iconst i34_91, ci_1]
theorem e34_92 {d : Nat} {Q : Option AV → St → Prop} {st : List AV} {σ : St} {l0 l1 l2 l3 l4 : Option AV} {x y : Int32} : Rn (d) Q (34, 92, [l0, l1, l2, l3, l4], vI y :: vI x :: st, σ) = Rn (d) Q (34, 93, [l0, l1, l2, l3, l4], vI (x + y) :: st, σ) := E_iadd i34_92
theorem e34_93 {d : Nat} {Q : Option AV → St → Prop} {st : List AV} {σ : St} {l0 l1 l2 l4 : Option AV} {x : Int32} : Rn (d) Q (34, 93, [l0, l1, l2, some (vI x), l4], st, σ) = Rn (d) Q (34, 94, [l0, l1, l2, some (vI x), l4], vI x :: st, σ) := E_iload_n i34_93 rfl
theorem e34_94 {d : Nat} {Q : Option AV → St → Prop} {st : List AV} {σ : St} {l1 l2 l3 l4 : Option AV} {x : Option (Nat × Nat × Nat)} : Rn (d) Q (34, 94, [some (vR x), l1, l2, l3, l4], st, σ) = Rn (d) Q (34, 95, [some (vR x), l1, l2, l3, l4], vR x :: st, σ) := E_aload_n i34_94 rfl
theorem e34_95 {d : Nat} {Q : Option AV → St → Prop} {st : List AV} {σ : St} {l0 l1 l2 l3 l4 : Option AV} {i : Nat} : Rn (d) Q (34, 95, [l0, l1, l2, l3, l4], vR (some (5, 0, i)) :: st, σ) = (i < gN σ 5 ∧ ¬ gL σ 5 6 i = none ∧ Rn (d) Q (34, 98, [l0, l1, l2, l3, l4], vR (some (5, 7, i)) :: st, σ)) := E_getA i34_95 ((congrArg (fun z => fldQ z 30) o34).trans f5_30) (Or.inl rfl)
theorem e34_98 {d : Nat} {Q : Option AV → St → Prop} {st : List AV} {σ : St} {l0 l1 l2 l3 : Option AV} {x : Int32} : Rn (d) Q (34, 98, [l0, l1, l2, l3, some (vI x)], st, σ) = Rn (d) Q (34, 100, [l0, l1, l2, l3, some (vI x)], vI x :: st, σ) := E_iload i34_98 rfl
theorem e34_100 {d : Nat} {Q : Option AV → St → Prop} {st : List AV} {σ : St} {l0 l1 l2 l3 l4 : Option AV} {i : Nat} {j : Int32} : Rn (d) Q (34, 100, [l0, l1, l2, l3, l4], vI j :: vR (some (5, 7, i)) :: st, σ) = (∃ n, gL σ 5 6 i = some n ∧ i < gN σ 5 ∧ (0 ≤ j.toInt ∧ j.toInt < n) ∧ Rn (d) Q (34, 101, [l0, l1, l2, l3, l4], vI (gA σ 5 6 i j.toNatClampNeg) :: st, σ)) := E_iaload1 i34_100 rfl
theorem e34_101 {d : Nat} {Q : Option AV → St → Prop} {st : List AV} {σ : St} {l1 l2 l3 l4 : Option AV} {x : Option (Nat × Nat × Nat)} : Rn (d) Q (34, 101, [some (vR x), l1, l2, l3, l4], st, σ) = Rn (d) Q (34, 102, [some (vR x), l1, l2, l3, l4], vR x :: st, σ) := E_aload_n i34_101 rfl
theorem e34_102 {d : Nat} {Q : Option AV → St → Prop} {st : List AV} {σ : St} {l0 l1 l2 l3 l4 : Option AV} {i : Nat} : Rn (d) Q (34, 102, [l0, l1, l2, l3, l4], vR (some (5, 0, i)) :: st, σ) = (i < gN σ 5 ∧ ¬ gL σ 5 7 i = none ∧ Rn (d) Q (34, 105, [l0, l1, l2, l3, l4], vR (some (5, 8, i)) :: st, σ)) := E_getA i34_102 ((congrArg (fun z => fldQ z 33) o34).trans f5_33) (Or.inl rfl)
theorem e34_105 {d : Nat} {Q : Option AV → St → Prop} {st : List AV} {σ : St} {l0 l1 l2 l3 : Option AV} {x : Int32} : Rn (d) Q (34, 105, [l0, l1, l2, l3, some (vI x)], st, σ) = Rn (d) Q (34, 107, [l0, l1, l2, l3, some (vI x)], vI x :: st, σ) := E_iload i34_105 rfl
theorem e34_107 {d : Nat} {Q : Option AV → St → Prop} {st : List AV} {σ : St} {l0 l1 l2 l3 l4 : Option AV} {i : Nat} {j : Int32} : Rn (d) Q (34, 107, [l0, l1, l2, l3, l4], vI j :: vR (some (5, 8, i)) :: st, σ) = (∃ n, gL σ 5 7 i = some n ∧ i < gN σ 5 ∧ (0 ≤ j.toInt ∧ j.toInt < n) ∧ Rn (d) Q (34, 108, [l0, l1, l2, l3, l4], vI (gA σ 5 7 i j.toNatClampNeg) :: st, σ)) := E_iaload1 i34_107 rfl
theorem e34_108 {d : Nat} {Q : Option AV → St → Prop} {st : List AV} {σ : St} {l0 l1 l2 l3 l4 : Option AV} {a0 : Int32} {a1 : Int32} : Rn (d + 1) Q (34, 108, [l0, l1, l2, l3, l4], vI a1 :: vI a0 :: st, σ) = (catS st ≤ 8 ∧ Rn d (fun r σ' => Rn (d + 1) Q (34, 111, [l0, l1, l2, l3, l4], r.toList ++ st, σ')) (112, 0, [some (vI a0), some (vI a1)], [], σ)) := E_invS4 (a := [vI a1, vI a0]) i34_108 ((congrArg (fun z => mthQ z 66) o34).trans m5_66) rfl (ek112 a0 a1) (en112 a0 a1)
theorem e34_111 {d : Nat} {Q : Option AV → St → Prop} {st : List AV} {σ : St} {l0 l1 l2 l3 l4 : Option AV} {x y : Int32} : Rn (d) Q (34, 111, [l0, l1, l2, l3, l4], vI y :: vI x :: st, σ) = Rn (d) Q (34, 112, [l0, l1, l2, l3, l4], vI (x + y) :: st, σ) := E_iadd i34_111
theorem e34_112 {d : Nat} {Q : Option AV → St → Prop} {st : List AV} {σ : St} {l0 l1 l2 l3 l4 : Option AV} {i : Nat} {a1 : Int32} {a2 : Int32} {a3 : Int32} : Rn (d + 1) Q (34, 112, [l0, l1, l2, l3, l4], vI a3 :: vI a2 :: vI a1 :: vR (some (5, 0, i)) :: st, σ) = (i < gN σ 5 ∧ catS st ≤ 8 ∧ Rn d (fun r σ' => Rn (d + 1) Q (34, 115, [l0, l1, l2, l3, l4], r.toList ++ st, σ')) (34, 0, [some (vR (some (5, 0, i))), some (vI a1), some (vI a2), some (vI a3), none], [], σ)) := E_invV (a := [vI a3, vI a2, vI a1]) i34_112 ((congrArg (fun z => mthQ z 58) o34).trans m5_58) o34 rfl (ek34 i a1 a2 a3) (en34 i a1 a2 a3)
theorem e34_115 {d : Nat} {Q : Option AV → St → Prop} {st : List AV} {σ : St} {l1 l2 l3 l4 : Option AV} {x : Option (Nat × Nat × Nat)} : Rn (d) Q (34, 115, [some (vR x), l1, l2, l3, l4], st, σ) = Rn (d) Q (34, 116, [some (vR x), l1, l2, l3, l4], vR x :: st, σ) := E_aload_n i34_115 rfl
theorem e34_116 {d : Nat} {Q : Option AV → St → Prop} {st : List AV} {σ : St} {l0 l1 l2 l3 l4 : Option AV} {i : Nat} : Rn (d) Q (34, 116, [l0, l1, l2, l3, l4], vR (some (5, 0, i)) :: st, σ) = (i < gN σ 5 ∧ ¬ gL σ 5 6 i = none ∧ Rn (d) Q (34, 119, [l0, l1, l2, l3, l4], vR (some (5, 7, i)) :: st, σ)) := E_getA i34_116 ((congrArg (fun z => fldQ z 30) o34).trans f5_30) (Or.inl rfl)
theorem e34_119 {d : Nat} {Q : Option AV → St → Prop} {st : List AV} {σ : St} {l0 l1 l2 l3 : Option AV} {x : Int32} : Rn (d) Q (34, 119, [l0, l1, l2, l3, some (vI x)], st, σ) = Rn (d) Q (34, 121, [l0, l1, l2, l3, some (vI x)], vI x :: st, σ) := E_iload i34_119 rfl
theorem e34_121 {d : Nat} {Q : Option AV → St → Prop} {st : List AV} {σ : St} {l0 l1 l2 l3 l4 : Option AV} {x : Int32} {y : Option (Nat × Nat × Nat)} : Rn (d) Q (34, 121, [l0, l1, l2, l3, l4], vI x :: vR y :: st, σ) = Rn (d) Q (34, 122, [l0, l1, l2, l3, l4], vI x :: vR y :: vI x :: vR y :: st, σ) := E_dup2 i34_121
theorem e34_122 {d : Nat} {Q : Option AV → St → Prop} {st : List AV} {σ : St} {l0 l1 l2 l3 l4 : Option AV} {i : Nat} {j : Int32} : Rn (d) Q (34, 122, [l0, l1, l2, l3, l4], vI j :: vR (some (5, 7, i)) :: st, σ) = (∃ n, gL σ 5 6 i = some n ∧ i < gN σ 5 ∧ (0 ≤ j.toInt ∧ j.toInt < n) ∧ Rn (d) Q (34, 123, [l0, l1, l2, l3, l4], vI (gA σ 5 6 i j.toNatClampNeg) :: st, σ)) := E_iaload1 i34_122 rfl
theorem e34_123 {d : Nat} {Q : Option AV → St → Prop} {st : List AV} {σ : St} {l0 l1 l2 l3 l4 : Option AV} : Rn (d) Q (34, 123, [l0, l1, l2, l3, l4], st, σ) = Rn (d) Q (34, 124, [l0, l1, l2, l3, l4], vI 1 :: st, σ) := by rw [E_iconst i34_123, ci_1]
theorem e34_124 {d : Nat} {Q : Option AV → St → Prop} {st : List AV} {σ : St} {l0 l1 l2 l3 l4 : Option AV} {x y : Int32} : Rn (d) Q (34, 124, [l0, l1, l2, l3, l4], vI y :: vI x :: st, σ) = Rn (d) Q (34, 125, [l0, l1, l2, l3, l4], vI (x - y) :: st, σ) := E_isub i34_124
theorem e34_125 {d : Nat} {Q : Option AV → St → Prop} {st : List AV} {σ : St} {l0 l1 l2 l3 l4 : Option AV} {i : Nat} {j x : Int32} : Rn (d) Q (34, 125, [l0, l1, l2, l3, l4], vI x :: vI j :: vR (some (5, 7, i)) :: st, σ) = (∃ n, gL σ 5 6 i = some n ∧ i < gN σ 5 ∧ (0 ≤ j.toInt ∧ j.toInt < n) ∧ Rn (d) Q (34, 126, [l0, l1, l2, l3, l4], st, setA σ 5 6 i (upd (gA σ 5 6 i) j.toNatClampNeg x))) := E_iastore1 i34_125 rfl (by decide)
theorem e34_126 {d : Nat} {Q : Option AV → St → Prop} {st : List AV} {σ : St} {l0 l1 l2 l3 : Option AV} {x : Int32} : Rn (d) Q (34, 126, [l0, l1, l2, l3, some (vI x)], st, σ) = Rn (d) Q (34, 129, [l0, l1, l2, l3, some (vI (x + 1))], st, σ) := by rw [E_iinc i34_126 rfl (by rw [x34]; decide), show Int32.ofInt 1 = (1 : Int32) by decide +kernel]; rfl
theorem e34_129 {d : Nat} {Q : Option AV → St → Prop} {st : List AV} {σ : St} {l0 l1 l2 l3 l4 : Option AV} : Rn (d) Q (34, 129, [l0, l1, l2, l3, l4], st, σ) = Rn (d) Q (34, 48, [l0, l1, l2, l3, l4], st, σ) := E_goto 48 i34_129 (by decide)
theorem e34_132 {d : Nat} {Q : Option AV → St → Prop} {st : List AV} {σ : St} {l1 l2 l3 l4 : Option AV} {x : Option (Nat × Nat × Nat)} : Rn (d) Q (34, 132, [some (vR x), l1, l2, l3, l4], st, σ) = Rn (d) Q (34, 133, [some (vR x), l1, l2, l3, l4], vR x :: st, σ) := E_aload_n i34_132 rfl
theorem e34_133 {d : Nat} {Q : Option AV → St → Prop} {st : List AV} {σ : St} {l0 l1 l2 l3 l4 : Option AV} {i : Nat} : Rn (d) Q (34, 133, [l0, l1, l2, l3, l4], vR (some (5, 0, i)) :: st, σ) = (i < gN σ 5 ∧ ¬ gL σ 5 2 i = none ∧ Rn (d) Q (34, 136, [l0, l1, l2, l3, l4], vR (some (5, 3, i)) :: st, σ)) := E_getA i34_133 ((congrArg (fun z => fldQ z 18) o34).trans f5_18) (Or.inl rfl)
theorem e34_136 {d : Nat} {Q : Option AV → St → Prop} {st : List AV} {σ : St} {l0 l2 l3 l4 : Option AV} {x : Int32} : Rn (d) Q (34, 136, [l0, some (vI x), l2, l3, l4], st, σ) = Rn (d) Q (34, 137, [l0, some (vI x), l2, l3, l4], vI x :: st, σ) := E_iload_n i34_136 rfl
theorem e34_137 {d : Nat} {Q : Option AV → St → Prop} {st : List AV} {σ : St} {l0 l1 l2 l3 l4 : Option AV} : Rn (d) Q (34, 137, [l0, l1, l2, l3, l4], st, σ) = Rn (d) Q (34, 139, [l0, l1, l2, l3, l4], vI (-4) :: st, σ) := by rw [E_bipush i34_137, cb_m4]
theorem e34_139 {d : Nat} {Q : Option AV → St → Prop} {st : List AV} {σ : St} {l0 l1 l2 l3 l4 : Option AV} {i : Nat} {j x : Int32} : Rn (d) Q (34, 139, [l0, l1, l2, l3, l4], vI x :: vI j :: vR (some (5, 3, i)) :: st, σ) = (∃ n, gL σ 5 2 i = some n ∧ i < gN σ 5 ∧ (0 ≤ j.toInt ∧ j.toInt < n) ∧ Rn (d) Q (34, 140, [l0, l1, l2, l3, l4], st, setA σ 5 2 i (upd (gA σ 5 2 i) j.toNatClampNeg x))) := E_iastore1 i34_139 rfl (by decide)
theorem e34_140 {d : Nat} {Q : Option AV → St → Prop} {st : List AV} {σ : St} {l1 l2 l3 l4 : Option AV} {x : Option (Nat × Nat × Nat)} : Rn (d) Q (34, 140, [some (vR x), l1, l2, l3, l4], st, σ) = Rn (d) Q (34, 141, [some (vR x), l1, l2, l3, l4], vR x :: st, σ) := E_aload_n i34_140 rfl
theorem e34_141 {d : Nat} {Q : Option AV → St → Prop} {st : List AV} {σ : St} {l0 l2 l3 l4 : Option AV} {x : Int32} : Rn (d) Q (34, 141, [l0, some (vI x), l2, l3, l4], st, σ) = Rn (d) Q (34, 142, [l0, some (vI x), l2, l3, l4], vI x :: st, σ) := E_iload_n i34_141 rfl
theorem e34_142 {d : Nat} {Q : Option AV → St → Prop} {st : List AV} {σ : St} {l0 l1 l2 l3 l4 : Option AV} : Rn (d) Q (34, 142, [l0, l1, l2, l3, l4], st, σ) = Rn (d) Q (34, 143, [l0, l1, l2, l3, l4], vI 1 :: st, σ) := by rw [E_iconst i34_142, ci_1]
theorem e34_143 {d : Nat} {Q : Option AV → St → Prop} {st : List AV} {σ : St} {l0 l1 l2 l3 l4 : Option AV} {x y : Int32} : Rn (d) Q (34, 143, [l0, l1, l2, l3, l4], vI y :: vI x :: st, σ) = Rn (d) Q (34, 144, [l0, l1, l2, l3, l4], vI (x + y) :: st, σ) := E_iadd i34_143
theorem e34_144 {d : Nat} {Q : Option AV → St → Prop} {st : List AV} {σ : St} {l0 l1 l3 l4 : Option AV} {x : Int32} : Rn (d) Q (34, 144, [l0, l1, some (vI x), l3, l4], st, σ) = Rn (d) Q (34, 145, [l0, l1, some (vI x), l3, l4], vI x :: st, σ) := E_iload_n i34_144 rfl
theorem e34_145 {d : Nat} {Q : Option AV → St → Prop} {st : List AV} {σ : St} {l0 l1 l2 l4 : Option AV} {x : Int32} : Rn (d) Q (34, 145, [l0, l1, l2, some (vI x), l4], st, σ) = Rn (d) Q (34, 146, [l0, l1, l2, some (vI x), l4], vI x :: st, σ) := E_iload_n i34_145 rfl
theorem e34_146 {d : Nat} {Q : Option AV → St → Prop} {st : List AV} {σ : St} {l0 l1 l2 l3 l4 : Option AV} {i : Nat} {a1 : Int32} {a2 : Int32} {a3 : Int32} : Rn (d + 1) Q (34, 146, [l0, l1, l2, l3, l4], vI a3 :: vI a2 :: vI a1 :: vR (some (5, 0, i)) :: st, σ) = (i < gN σ 5 ∧ catS st ≤ 8 ∧ Rn d (fun r σ' => Rn (d + 1) Q (34, 149, [l0, l1, l2, l3, l4], r.toList ++ st, σ')) (34, 0, [some (vR (some (5, 0, i))), some (vI a1), some (vI a2), some (vI a3), none], [], σ)) := E_invV (a := [vI a3, vI a2, vI a1]) i34_146 ((congrArg (fun z => mthQ z 58) o34).trans m5_58) o34 rfl (ek34 i a1 a2 a3) (en34 i a1 a2 a3)
theorem e34_149 {d : Nat} {Q : Option AV → St → Prop} {σ : St} {l0 l1 l2 l3 l4 : Option AV} : Rn (d) Q (34, 149, [l0, l1, l2, l3, l4], [], σ) = Q none σ := E_ret (st := []) i34_149 r34
theorem i35_0 : ins 35 0 = some (.iload_n 2, 1) := (congrArg (fun x : PTy => x.1.lookup 0) q35).trans rfl
theorem i35_1 : ins 35 1 = some (.aload_n 0, 1) := (congrArg (fun x : PTy => x.1.lookup 1) q35).trans rfl
theorem i35_2 : ins 35 2 = some (.getfield 24, 3) := (congrArg (fun x : PTy => x.1.lookup 2) q35).trans rfl
theorem i35_5 : ins 35 5 = some (.iload_n 1, 1) := (congrArg (fun x : PTy => x.1.lookup 5) q35).trans rfl
theorem i35_6 : ins 35 6 = some (.iaload, 1) := (congrArg (fun x : PTy => x.1.lookup 6) q35).trans rfl
theorem i35_7 : ins 35 7 = some (.iadd, 1) := (congrArg (fun x : PTy => x.1.lookup 7) q35).trans rfl
theorem i35_8 : ins 35 8 = some (.istore 4, 2) := (congrArg (fun x : PTy => x.1.lookup 8) q35).trans rfl
theorem i35_10 : ins 35 10 = some (.iload 4, 2) := (congrArg (fun x : PTy => x.1.lookup 10) q35).trans rfl
theorem i35_12 : ins 35 12 = some (.aload_n 0, 1) := (congrArg (fun x : PTy => x.1.lookup 12) q35).trans rfl
theorem i35_13 : ins 35 13 = some (.getfield 43, 3) := (congrArg (fun x : PTy => x.1.lookup 13) q35).trans rfl
theorem i35_16 : ins 35 16 = some (.if_icmp .eq 18, 3) := (congrArg (fun x : PTy => x.1.lookup 16) q35).trans rfl
theorem i35_19 : ins 35 19 = some (.iload 4, 2) := (congrArg (fun x : PTy => x.1.lookup 19) q35).trans rfl
theorem i35_21 : ins 35 21 = some (.aload_n 0, 1) := (congrArg (fun x : PTy => x.1.lookup 21) q35).trans rfl
theorem i35_22 : ins 35 22 = some (.getfield 43, 3) := (congrArg (fun x : PTy => x.1.lookup 22) q35).trans rfl
theorem i35_25 : ins 35 25 = some (.if_icmp .le 7, 3) := (congrArg (fun x : PTy => x.1.lookup 25) q35).trans rfl
theorem i35_28 : ins 35 28 = some (.iconst 1, 1) := (congrArg (fun x : PTy => x.1.lookup 28) q35).trans rfl
theorem i35_29 : ins 35 29 = some (.goto 4, 3) := (congrArg (fun x : PTy => x.1.lookup 29) q35).trans rfl
theorem i35_32 : ins 35 32 = some (.iconst 0, 1) := (congrArg (fun x : PTy => x.1.lookup 32) q35).trans rfl
theorem i35_33 : ins 35 33 = some (.ireturn, 1) := (congrArg (fun x : PTy => x.1.lookup 33) q35).trans rfl
theorem i35_34 : ins 35 34 = some (.iload_n 3, 1) := (congrArg (fun x : PTy => x.1.lookup 34) q35).trans rfl
theorem i35_35 : ins 35 35 = some (.aload_n 0, 1) := (congrArg (fun x : PTy => x.1.lookup 35) q35).trans rfl
theorem i35_36 : ins 35 36 = some (.getfield 27, 3) := (congrArg (fun x : PTy => x.1.lookup 36) q35).trans rfl
theorem i35_39 : ins 35 39 = some (.iload_n 1, 1) := (congrArg (fun x : PTy => x.1.lookup 39) q35).trans rfl
theorem i35_40 : ins 35 40 = some (.iaload, 1) := (congrArg (fun x : PTy => x.1.lookup 40) q35).trans rfl
theorem i35_41 : ins 35 41 = some (.iadd, 1) := (congrArg (fun x : PTy => x.1.lookup 41) q35).trans rfl
theorem i35_42 : ins 35 42 = some (.aload_n 0, 1) := (congrArg (fun x : PTy => x.1.lookup 42) q35).trans rfl
theorem i35_43 : ins 35 43 = some (.getfield 46, 3) := (congrArg (fun x : PTy => x.1.lookup 43) q35).trans rfl
theorem i35_46 : ins 35 46 = some (.if_icmp .ge 7, 3) := (congrArg (fun x : PTy => x.1.lookup 46) q35).trans rfl
theorem i35_49 : ins 35 49 = some (.iconst 1, 1) := (congrArg (fun x : PTy => x.1.lookup 49) q35).trans rfl
theorem i35_50 : ins 35 50 = some (.goto 4, 3) := (congrArg (fun x : PTy => x.1.lookup 50) q35).trans rfl
theorem i35_53 : ins 35 53 = some (.iconst 0, 1) := (congrArg (fun x : PTy => x.1.lookup 53) q35).trans rfl
theorem i35_54 : ins 35 54 = some (.ireturn, 1) := (congrArg (fun x : PTy => x.1.lookup 54) q35).trans rfl
theorem e35_0 {d : Nat} {Q : Option AV → St → Prop} {st : List AV} {σ : St} {l0 l1 l3 l4 : Option AV} {x : Int32} : Rn (d) Q (35, 0, [l0, l1, some (vI x), l3, l4], st, σ) = Rn (d) Q (35, 1, [l0, l1, some (vI x), l3, l4], vI x :: st, σ) := E_iload_n i35_0 rfl
theorem e35_1 {d : Nat} {Q : Option AV → St → Prop} {st : List AV} {σ : St} {l1 l2 l3 l4 : Option AV} {x : Option (Nat × Nat × Nat)} : Rn (d) Q (35, 1, [some (vR x), l1, l2, l3, l4], st, σ) = Rn (d) Q (35, 2, [some (vR x), l1, l2, l3, l4], vR x :: st, σ) := E_aload_n i35_1 rfl
theorem e35_2 {d : Nat} {Q : Option AV → St → Prop} {st : List AV} {σ : St} {l0 l1 l2 l3 l4 : Option AV} {i : Nat} : Rn (d) Q (35, 2, [l0, l1, l2, l3, l4], vR (some (5, 0, i)) :: st, σ) = (i < gN σ 5 ∧ ¬ gL σ 5 4 i = none ∧ Rn (d) Q (35, 5, [l0, l1, l2, l3, l4], vR (some (5, 5, i)) :: st, σ)) := E_getA i35_2 ((congrArg (fun z => fldQ z 24) o35).trans f5_24) (Or.inl rfl)
theorem e35_5 {d : Nat} {Q : Option AV → St → Prop} {st : List AV} {σ : St} {l0 l2 l3 l4 : Option AV} {x : Int32} : Rn (d) Q (35, 5, [l0, some (vI x), l2, l3, l4], st, σ) = Rn (d) Q (35, 6, [l0, some (vI x), l2, l3, l4], vI x :: st, σ) := E_iload_n i35_5 rfl
theorem e35_6 {d : Nat} {Q : Option AV → St → Prop} {st : List AV} {σ : St} {l0 l1 l2 l3 l4 : Option AV} {i : Nat} {j : Int32} : Rn (d) Q (35, 6, [l0, l1, l2, l3, l4], vI j :: vR (some (5, 5, i)) :: st, σ) = (∃ n, gL σ 5 4 i = some n ∧ i < gN σ 5 ∧ (0 ≤ j.toInt ∧ j.toInt < n) ∧ Rn (d) Q (35, 7, [l0, l1, l2, l3, l4], vI (gA σ 5 4 i j.toNatClampNeg) :: st, σ)) := E_iaload1 i35_6 rfl
theorem e35_7 {d : Nat} {Q : Option AV → St → Prop} {st : List AV} {σ : St} {l0 l1 l2 l3 l4 : Option AV} {x y : Int32} : Rn (d) Q (35, 7, [l0, l1, l2, l3, l4], vI y :: vI x :: st, σ) = Rn (d) Q (35, 8, [l0, l1, l2, l3, l4], vI (x + y) :: st, σ) := E_iadd i35_7
theorem s35_4 : okst 35 4 = true := by unfold okst; rw [x35]; rfl
theorem e35_8 {d : Nat} {Q : Option AV → St → Prop} {st : List AV} {σ : St} {l0 l1 l2 l3 l4 : Option AV} {x : Int32} : Rn (d) Q (35, 8, [l0, l1, l2, l3, l4], vI x :: st, σ) = Rn (d) Q (35, 10, [l0, l1, l2, l3, some (vI x)], st, σ) := E_istore i35_8 s35_4
theorem e35_10 {d : Nat} {Q : Option AV → St → Prop} {st : List AV} {σ : St} {l0 l1 l2 l3 : Option AV} {x : Int32} : Rn (d) Q (35, 10, [l0, l1, l2, l3, some (vI x)], st, σ) = Rn (d) Q (35, 12, [l0, l1, l2, l3, some (vI x)], vI x :: st, σ) := E_iload i35_10 rfl
theorem e35_12 {d : Nat} {Q : Option AV → St → Prop} {st : List AV} {σ : St} {l1 l2 l3 l4 : Option AV} {x : Option (Nat × Nat × Nat)} : Rn (d) Q (35, 12, [some (vR x), l1, l2, l3, l4], st, σ) = Rn (d) Q (35, 13, [some (vR x), l1, l2, l3, l4], vR x :: st, σ) := E_aload_n i35_12 rfl
theorem e35_13 {d : Nat} {Q : Option AV → St → Prop} {st : List AV} {σ : St} {l0 l1 l2 l3 l4 : Option AV} {i : Nat} : Rn (d) Q (35, 13, [l0, l1, l2, l3, l4], vR (some (5, 0, i)) :: st, σ) = (i < gN σ 5 ∧ Rn (d) Q (35, 16, [l0, l1, l2, l3, l4], vI (gI σ 5 10 i) :: st, σ)) := E_getI i35_13 ((congrArg (fun z => fldQ z 43) o35).trans f5_43) rfl
theorem e35_16 {d : Nat} {Q : Option AV → St → Prop} {st : List AV} {σ : St} {l0 l1 l2 l3 l4 : Option AV} {x y : Int32} : Rn (d) Q (35, 16, [l0, l1, l2, l3, l4], vI y :: vI x :: st, σ) = (if x = y then Rn (d) Q (35, 34, [l0, l1, l2, l3, l4], st, σ) else Rn (d) Q (35, 19, [l0, l1, l2, l3, l4], st, σ)) := E_icmp_eq 34 i35_16 (by decide)
theorem e35_19 {d : Nat} {Q : Option AV → St → Prop} {st : List AV} {σ : St} {l0 l1 l2 l3 : Option AV} {x : Int32} : Rn (d) Q (35, 19, [l0, l1, l2, l3, some (vI x)], st, σ) = Rn (d) Q (35, 21, [l0, l1, l2, l3, some (vI x)], vI x :: st, σ) := E_iload i35_19 rfl
theorem e35_21 {d : Nat} {Q : Option AV → St → Prop} {st : List AV} {σ : St} {l1 l2 l3 l4 : Option AV} {x : Option (Nat × Nat × Nat)} : Rn (d) Q (35, 21, [some (vR x), l1, l2, l3, l4], st, σ) = Rn (d) Q (35, 22, [some (vR x), l1, l2, l3, l4], vR x :: st, σ) := E_aload_n i35_21 rfl
theorem e35_22 {d : Nat} {Q : Option AV → St → Prop} {st : List AV} {σ : St} {l0 l1 l2 l3 l4 : Option AV} {i : Nat} : Rn (d) Q (35, 22, [l0, l1, l2, l3, l4], vR (some (5, 0, i)) :: st, σ) = (i < gN σ 5 ∧ Rn (d) Q (35, 25, [l0, l1, l2, l3, l4], vI (gI σ 5 10 i) :: st, σ)) := E_getI i35_22 ((congrArg (fun z => fldQ z 43) o35).trans f5_43) rfl
theorem e35_25 {d : Nat} {Q : Option AV → St → Prop} {st : List AV} {σ : St} {l0 l1 l2 l3 l4 : Option AV} {x y : Int32} : Rn (d) Q (35, 25, [l0, l1, l2, l3, l4], vI y :: vI x :: st, σ) = (if x ≤ y then Rn (d) Q (35, 32, [l0, l1, l2, l3, l4], st, σ) else Rn (d) Q (35, 28, [l0, l1, l2, l3, l4], st, σ)) := E_icmp_le 32 i35_25 (by decide)
theorem e35_28 {d : Nat} {Q : Option AV → St → Prop} {st : List AV} {σ : St} {l0 l1 l2 l3 l4 : Option AV} : Rn (d) Q (35, 28, [l0, l1, l2, l3, l4], st, σ) = Rn (d) Q (35, 29, [l0, l1, l2, l3, l4], vI 1 :: st, σ) := by rw [E_iconst i35_28, ci_1]
theorem e35_29 {d : Nat} {Q : Option AV → St → Prop} {st : List AV} {σ : St} {l0 l1 l2 l3 l4 : Option AV} : Rn (d) Q (35, 29, [l0, l1, l2, l3, l4], st, σ) = Rn (d) Q (35, 33, [l0, l1, l2, l3, l4], st, σ) := E_goto 33 i35_29 (by decide)
theorem e35_32 {d : Nat} {Q : Option AV → St → Prop} {st : List AV} {σ : St} {l0 l1 l2 l3 l4 : Option AV} : Rn (d) Q (35, 32, [l0, l1, l2, l3, l4], st, σ) = Rn (d) Q (35, 33, [l0, l1, l2, l3, l4], vI 0 :: st, σ) := by rw [E_iconst i35_32, ci_0]
theorem e35_33 {d : Nat} {Q : Option AV → St → Prop} {σ : St} {l0 l1 l2 l3 l4 : Option AV} {x : Int32} : Rn (d) Q (35, 33, [l0, l1, l2, l3, l4], [vI x], σ) = ((x = 0 ∨ x = 1) ∧ Q (some (vI x)) σ) := E_iretZ (st := []) i35_33 r35
theorem e35_34 {d : Nat} {Q : Option AV → St → Prop} {st : List AV} {σ : St} {l0 l1 l2 l4 : Option AV} {x : Int32} : Rn (d) Q (35, 34, [l0, l1, l2, some (vI x), l4], st, σ) = Rn (d) Q (35, 35, [l0, l1, l2, some (vI x), l4], vI x :: st, σ) := E_iload_n i35_34 rfl
theorem e35_35 {d : Nat} {Q : Option AV → St → Prop} {st : List AV} {σ : St} {l1 l2 l3 l4 : Option AV} {x : Option (Nat × Nat × Nat)} : Rn (d) Q (35, 35, [some (vR x), l1, l2, l3, l4], st, σ) = Rn (d) Q (35, 36, [some (vR x), l1, l2, l3, l4], vR x :: st, σ) := E_aload_n i35_35 rfl
theorem e35_36 {d : Nat} {Q : Option AV → St → Prop} {st : List AV} {σ : St} {l0 l1 l2 l3 l4 : Option AV} {i : Nat} : Rn (d) Q (35, 36, [l0, l1, l2, l3, l4], vR (some (5, 0, i)) :: st, σ) = (i < gN σ 5 ∧ ¬ gL σ 5 5 i = none ∧ Rn (d) Q (35, 39, [l0, l1, l2, l3, l4], vR (some (5, 6, i)) :: st, σ)) := E_getA i35_36 ((congrArg (fun z => fldQ z 27) o35).trans f5_27) (Or.inl rfl)
theorem e35_39 {d : Nat} {Q : Option AV → St → Prop} {st : List AV} {σ : St} {l0 l2 l3 l4 : Option AV} {x : Int32} : Rn (d) Q (35, 39, [l0, some (vI x), l2, l3, l4], st, σ) = Rn (d) Q (35, 40, [l0, some (vI x), l2, l3, l4], vI x :: st, σ) := E_iload_n i35_39 rfl
theorem e35_40 {d : Nat} {Q : Option AV → St → Prop} {st : List AV} {σ : St} {l0 l1 l2 l3 l4 : Option AV} {i : Nat} {j : Int32} : Rn (d) Q (35, 40, [l0, l1, l2, l3, l4], vI j :: vR (some (5, 6, i)) :: st, σ) = (∃ n, gL σ 5 5 i = some n ∧ i < gN σ 5 ∧ (0 ≤ j.toInt ∧ j.toInt < n) ∧ Rn (d) Q (35, 41, [l0, l1, l2, l3, l4], vI (gA σ 5 5 i j.toNatClampNeg) :: st, σ)) := E_iaload1 i35_40 rfl
theorem e35_41 {d : Nat} {Q : Option AV → St → Prop} {st : List AV} {σ : St} {l0 l1 l2 l3 l4 : Option AV} {x y : Int32} : Rn (d) Q (35, 41, [l0, l1, l2, l3, l4], vI y :: vI x :: st, σ) = Rn (d) Q (35, 42, [l0, l1, l2, l3, l4], vI (x + y) :: st, σ) := E_iadd i35_41
theorem e35_42 {d : Nat} {Q : Option AV → St → Prop} {st : List AV} {σ : St} {l1 l2 l3 l4 : Option AV} {x : Option (Nat × Nat × Nat)} : Rn (d) Q (35, 42, [some (vR x), l1, l2, l3, l4], st, σ) = Rn (d) Q (35, 43, [some (vR x), l1, l2, l3, l4], vR x :: st, σ) := E_aload_n i35_42 rfl
theorem e35_43 {d : Nat} {Q : Option AV → St → Prop} {st : List AV} {σ : St} {l0 l1 l2 l3 l4 : Option AV} {i : Nat} : Rn (d) Q (35, 43, [l0, l1, l2, l3, l4], vR (some (5, 0, i)) :: st, σ) = (i < gN σ 5 ∧ Rn (d) Q (35, 46, [l0, l1, l2, l3, l4], vI (gI σ 5 11 i) :: st, σ)) := E_getI i35_43 ((congrArg (fun z => fldQ z 46) o35).trans f5_46) rfl
theorem e35_46 {d : Nat} {Q : Option AV → St → Prop} {st : List AV} {σ : St} {l0 l1 l2 l3 l4 : Option AV} {x y : Int32} : Rn (d) Q (35, 46, [l0, l1, l2, l3, l4], vI y :: vI x :: st, σ) = (if y ≤ x then Rn (d) Q (35, 53, [l0, l1, l2, l3, l4], st, σ) else Rn (d) Q (35, 49, [l0, l1, l2, l3, l4], st, σ)) := E_icmp_ge 53 i35_46 (by decide)
theorem e35_49 {d : Nat} {Q : Option AV → St → Prop} {st : List AV} {σ : St} {l0 l1 l2 l3 l4 : Option AV} : Rn (d) Q (35, 49, [l0, l1, l2, l3, l4], st, σ) = Rn (d) Q (35, 50, [l0, l1, l2, l3, l4], vI 1 :: st, σ) := by rw [E_iconst i35_49, ci_1]
theorem e35_50 {d : Nat} {Q : Option AV → St → Prop} {st : List AV} {σ : St} {l0 l1 l2 l3 l4 : Option AV} : Rn (d) Q (35, 50, [l0, l1, l2, l3, l4], st, σ) = Rn (d) Q (35, 54, [l0, l1, l2, l3, l4], st, σ) := E_goto 54 i35_50 (by decide)
theorem e35_53 {d : Nat} {Q : Option AV → St → Prop} {st : List AV} {σ : St} {l0 l1 l2 l3 l4 : Option AV} : Rn (d) Q (35, 53, [l0, l1, l2, l3, l4], st, σ) = Rn (d) Q (35, 54, [l0, l1, l2, l3, l4], vI 0 :: st, σ) := by rw [E_iconst i35_53, ci_0]
theorem e35_54 {d : Nat} {Q : Option AV → St → Prop} {σ : St} {l0 l1 l2 l3 l4 : Option AV} {x : Int32} : Rn (d) Q (35, 54, [l0, l1, l2, l3, l4], [vI x], σ) = ((x = 0 ∨ x = 1) ∧ Q (some (vI x)) σ) := E_iretZ (st := []) i35_54 r35
theorem i36_0 : ins 36 0 = some (.iconst 0, 1) := (congrArg (fun x : PTy => x.1.lookup 0) q36).trans rfl
theorem i36_1 : ins 36 1 = some (.istore_n 2, 1) := (congrArg (fun x : PTy => x.1.lookup 1) q36).trans rfl
theorem i36_2 : ins 36 2 = some (.iload_n 2, 1) := (congrArg (fun x : PTy => x.1.lookup 2) q36).trans rfl
theorem i36_3 : ins 36 3 = some (.aload_n 0, 1) := (congrArg (fun x : PTy => x.1.lookup 3) q36).trans rfl
theorem i36_4 : ins 36 4 = some (.getfield 36, 3) := (congrArg (fun x : PTy => x.1.lookup 4) q36).trans rfl
theorem i36_7 : ins 36 7 = some (.if_icmp .ge 26, 3) := (congrArg (fun x : PTy => x.1.lookup 7) q36).trans rfl
theorem i36_10 : ins 36 10 = some (.aload_n 0, 1) := (congrArg (fun x : PTy => x.1.lookup 10) q36).trans rfl
theorem i36_11 : ins 36 11 = some (.getfield 9, 3) := (congrArg (fun x : PTy => x.1.lookup 11) q36).trans rfl
theorem i36_14 : ins 36 14 = some (.iload_n 2, 1) := (congrArg (fun x : PTy => x.1.lookup 14) q36).trans rfl
theorem i36_15 : ins 36 15 = some (.iaload, 1) := (congrArg (fun x : PTy => x.1.lookup 15) q36).trans rfl
theorem i36_16 : ins 36 16 = some (.iload_n 1, 1) := (congrArg (fun x : PTy => x.1.lookup 16) q36).trans rfl
theorem i36_17 : ins 36 17 = some (.if_icmp .ne 10, 3) := (congrArg (fun x : PTy => x.1.lookup 17) q36).trans rfl
theorem i36_20 : ins 36 20 = some (.aload_n 0, 1) := (congrArg (fun x : PTy => x.1.lookup 20) q36).trans rfl
theorem i36_21 : ins 36 21 = some (.getfield 21, 3) := (congrArg (fun x : PTy => x.1.lookup 21) q36).trans rfl
theorem i36_24 : ins 36 24 = some (.iload_n 2, 1) := (congrArg (fun x : PTy => x.1.lookup 24) q36).trans rfl
theorem i36_25 : ins 36 25 = some (.iaload, 1) := (congrArg (fun x : PTy => x.1.lookup 25) q36).trans rfl
theorem i36_26 : ins 36 26 = some (.ireturn, 1) := (congrArg (fun x : PTy => x.1.lookup 26) q36).trans rfl
theorem i36_27 : ins 36 27 = some (.iinc 2 1, 3) := (congrArg (fun x : PTy => x.1.lookup 27) q36).trans rfl
theorem i36_30 : ins 36 30 = some (.goto (-28), 3) := (congrArg (fun x : PTy => x.1.lookup 30) q36).trans rfl
theorem i36_33 : ins 36 33 = some (.bipush (-4), 2) := (congrArg (fun x : PTy => x.1.lookup 33) q36).trans rfl
theorem i36_35 : ins 36 35 = some (.ireturn, 1) := (congrArg (fun x : PTy => x.1.lookup 35) q36).trans rfl
theorem e36_0 {d : Nat} {Q : Option AV → St → Prop} {st : List AV} {σ : St} {l0 l1 l2 : Option AV} : Rn (d) Q (36, 0, [l0, l1, l2], st, σ) = Rn (d) Q (36, 1, [l0, l1, l2], vI 0 :: st, σ) := by rw [E_iconst i36_0, ci_0]
theorem s36_2 : okst 36 2 = true := by unfold okst; rw [x36]; rfl
theorem e36_1 {d : Nat} {Q : Option AV → St → Prop} {st : List AV} {σ : St} {l0 l1 l2 : Option AV} {x : Int32} : Rn (d) Q (36, 1, [l0, l1, l2], vI x :: st, σ) = Rn (d) Q (36, 2, [l0, l1, some (vI x)], st, σ) := E_istore_n i36_1 s36_2
theorem e36_2 {d : Nat} {Q : Option AV → St → Prop} {st : List AV} {σ : St} {l0 l1 : Option AV} {x : Int32} : Rn (d) Q (36, 2, [l0, l1, some (vI x)], st, σ) = Rn (d) Q (36, 3, [l0, l1, some (vI x)], vI x :: st, σ) := E_iload_n i36_2 rfl
theorem e36_3 {d : Nat} {Q : Option AV → St → Prop} {st : List AV} {σ : St} {l1 l2 : Option AV} {x : Option (Nat × Nat × Nat)} : Rn (d) Q (36, 3, [some (vR x), l1, l2], st, σ) = Rn (d) Q (36, 4, [some (vR x), l1, l2], vR x :: st, σ) := E_aload_n i36_3 rfl
theorem e36_4 {d : Nat} {Q : Option AV → St → Prop} {st : List AV} {σ : St} {l0 l1 l2 : Option AV} {i : Nat} : Rn (d) Q (36, 4, [l0, l1, l2], vR (some (5, 0, i)) :: st, σ) = (i < gN σ 5 ∧ Rn (d) Q (36, 7, [l0, l1, l2], vI (gI σ 5 8 i) :: st, σ)) := E_getI i36_4 ((congrArg (fun z => fldQ z 36) o36).trans f5_36) rfl
theorem e36_7 {d : Nat} {Q : Option AV → St → Prop} {st : List AV} {σ : St} {l0 l1 l2 : Option AV} {x y : Int32} : Rn (d) Q (36, 7, [l0, l1, l2], vI y :: vI x :: st, σ) = (if y ≤ x then Rn (d) Q (36, 33, [l0, l1, l2], st, σ) else Rn (d) Q (36, 10, [l0, l1, l2], st, σ)) := E_icmp_ge 33 i36_7 (by decide)
theorem e36_10 {d : Nat} {Q : Option AV → St → Prop} {st : List AV} {σ : St} {l1 l2 : Option AV} {x : Option (Nat × Nat × Nat)} : Rn (d) Q (36, 10, [some (vR x), l1, l2], st, σ) = Rn (d) Q (36, 11, [some (vR x), l1, l2], vR x :: st, σ) := E_aload_n i36_10 rfl
theorem e36_11 {d : Nat} {Q : Option AV → St → Prop} {st : List AV} {σ : St} {l0 l1 l2 : Option AV} {i : Nat} : Rn (d) Q (36, 11, [l0, l1, l2], vR (some (5, 0, i)) :: st, σ) = (i < gN σ 5 ∧ ¬ gL σ 5 0 i = none ∧ Rn (d) Q (36, 14, [l0, l1, l2], vR (some (5, 1, i)) :: st, σ)) := E_getA i36_11 ((congrArg (fun z => fldQ z 9) o36).trans f5_9) (Or.inl rfl)
theorem e36_14 {d : Nat} {Q : Option AV → St → Prop} {st : List AV} {σ : St} {l0 l1 : Option AV} {x : Int32} : Rn (d) Q (36, 14, [l0, l1, some (vI x)], st, σ) = Rn (d) Q (36, 15, [l0, l1, some (vI x)], vI x :: st, σ) := E_iload_n i36_14 rfl
theorem e36_15 {d : Nat} {Q : Option AV → St → Prop} {st : List AV} {σ : St} {l0 l1 l2 : Option AV} {i : Nat} {j : Int32} : Rn (d) Q (36, 15, [l0, l1, l2], vI j :: vR (some (5, 1, i)) :: st, σ) = (∃ n, gL σ 5 0 i = some n ∧ i < gN σ 5 ∧ (0 ≤ j.toInt ∧ j.toInt < n) ∧ Rn (d) Q (36, 16, [l0, l1, l2], vI (gA σ 5 0 i j.toNatClampNeg) :: st, σ)) := E_iaload1 i36_15 rfl
theorem e36_16 {d : Nat} {Q : Option AV → St → Prop} {st : List AV} {σ : St} {l0 l2 : Option AV} {x : Int32} : Rn (d) Q (36, 16, [l0, some (vI x), l2], st, σ) = Rn (d) Q (36, 17, [l0, some (vI x), l2], vI x :: st, σ) := E_iload_n i36_16 rfl
theorem e36_17 {d : Nat} {Q : Option AV → St → Prop} {st : List AV} {σ : St} {l0 l1 l2 : Option AV} {x y : Int32} : Rn (d) Q (36, 17, [l0, l1, l2], vI y :: vI x :: st, σ) = (if x = y then Rn (d) Q (36, 20, [l0, l1, l2], st, σ) else Rn (d) Q (36, 27, [l0, l1, l2], st, σ)) := E_icmp_ne 27 i36_17 (by decide)
theorem e36_20 {d : Nat} {Q : Option AV → St → Prop} {st : List AV} {σ : St} {l1 l2 : Option AV} {x : Option (Nat × Nat × Nat)} : Rn (d) Q (36, 20, [some (vR x), l1, l2], st, σ) = Rn (d) Q (36, 21, [some (vR x), l1, l2], vR x :: st, σ) := E_aload_n i36_20 rfl
theorem e36_21 {d : Nat} {Q : Option AV → St → Prop} {st : List AV} {σ : St} {l0 l1 l2 : Option AV} {i : Nat} : Rn (d) Q (36, 21, [l0, l1, l2], vR (some (5, 0, i)) :: st, σ) = (i < gN σ 5 ∧ ¬ gL σ 5 3 i = none ∧ Rn (d) Q (36, 24, [l0, l1, l2], vR (some (5, 4, i)) :: st, σ)) := E_getA i36_21 ((congrArg (fun z => fldQ z 21) o36).trans f5_21) (Or.inl rfl)
theorem e36_24 {d : Nat} {Q : Option AV → St → Prop} {st : List AV} {σ : St} {l0 l1 : Option AV} {x : Int32} : Rn (d) Q (36, 24, [l0, l1, some (vI x)], st, σ) = Rn (d) Q (36, 25, [l0, l1, some (vI x)], vI x :: st, σ) := E_iload_n i36_24 rfl
theorem e36_25 {d : Nat} {Q : Option AV → St → Prop} {st : List AV} {σ : St} {l0 l1 l2 : Option AV} {i : Nat} {j : Int32} : Rn (d) Q (36, 25, [l0, l1, l2], vI j :: vR (some (5, 4, i)) :: st, σ) = (∃ n, gL σ 5 3 i = some n ∧ i < gN σ 5 ∧ (0 ≤ j.toInt ∧ j.toInt < n) ∧ Rn (d) Q (36, 26, [l0, l1, l2], vI (gA σ 5 3 i j.toNatClampNeg) :: st, σ)) := E_iaload1 i36_25 rfl
theorem e36_26 {d : Nat} {Q : Option AV → St → Prop} {σ : St} {l0 l1 l2 : Option AV} {x : Int32} : Rn (d) Q (36, 26, [l0, l1, l2], [vI x], σ) = Q (some (vI x)) σ := E_iretI (st := []) i36_26 r36
theorem e36_27 {d : Nat} {Q : Option AV → St → Prop} {st : List AV} {σ : St} {l0 l1 : Option AV} {x : Int32} : Rn (d) Q (36, 27, [l0, l1, some (vI x)], st, σ) = Rn (d) Q (36, 30, [l0, l1, some (vI (x + 1))], st, σ) := by rw [E_iinc i36_27 rfl (by rw [x36]; decide), show Int32.ofInt 1 = (1 : Int32) by decide +kernel]; rfl
theorem e36_30 {d : Nat} {Q : Option AV → St → Prop} {st : List AV} {σ : St} {l0 l1 l2 : Option AV} : Rn (d) Q (36, 30, [l0, l1, l2], st, σ) = Rn (d) Q (36, 2, [l0, l1, l2], st, σ) := E_goto 2 i36_30 (by decide)
theorem e36_33 {d : Nat} {Q : Option AV → St → Prop} {st : List AV} {σ : St} {l0 l1 l2 : Option AV} : Rn (d) Q (36, 33, [l0, l1, l2], st, σ) = Rn (d) Q (36, 35, [l0, l1, l2], vI (-4) :: st, σ) := by rw [E_bipush i36_33, cb_m4]
theorem e36_35 {d : Nat} {Q : Option AV → St → Prop} {σ : St} {l0 l1 l2 : Option AV} {x : Int32} : Rn (d) Q (36, 35, [l0, l1, l2], [vI x], σ) = Q (some (vI x)) σ := E_iretI (st := []) i36_35 r36
theorem i37_0 : ins 37 0 = some (.aload_n 0, 1) := (congrArg (fun x : PTy => x.1.lookup 0) q37).trans rfl
theorem i37_1 : ins 37 1 = some (.invokespecial 3, 3) := (congrArg (fun x : PTy => x.1.lookup 1) q37).trans rfl
theorem i37_4 : ins 37 4 = some (.aload_n 0, 1) := (congrArg (fun x : PTy => x.1.lookup 4) q37).trans rfl
theorem i37_5 : ins 37 5 = some (.iconst (-1), 1) := (congrArg (fun x : PTy => x.1.lookup 5) q37).trans rfl
theorem i37_6 : ins 37 6 = some (.putfield 11, 3) := (congrArg (fun x : PTy => x.1.lookup 6) q37).trans rfl
theorem i37_9 : ins 37 9 = some (.aload_n 0, 1) := (congrArg (fun x : PTy => x.1.lookup 9) q37).trans rfl
theorem i37_10 : ins 37 10 = some (.iconst 0, 1) := (congrArg (fun x : PTy => x.1.lookup 10) q37).trans rfl
theorem i37_11 : ins 37 11 = some (.putfield 15, 3) := (congrArg (fun x : PTy => x.1.lookup 11) q37).trans rfl
theorem i37_14 : ins 37 14 = some (.aload_n 0, 1) := (congrArg (fun x : PTy => x.1.lookup 14) q37).trans rfl
theorem i37_15 : ins 37 15 = some (.bipush 30, 2) := (congrArg (fun x : PTy => x.1.lookup 15) q37).trans rfl
theorem i37_17 : ins 37 17 = some (.newarray .int, 2) := (congrArg (fun x : PTy => x.1.lookup 17) q37).trans rfl
theorem i37_19 : ins 37 19 = some (.putfield 18, 3) := (congrArg (fun x : PTy => x.1.lookup 19) q37).trans rfl
theorem i37_22 : ins 37 22 = some (.return_, 1) := (congrArg (fun x : PTy => x.1.lookup 22) q37).trans rfl
theorem e37_0 {d : Nat} {Q : Option AV → St → Prop} {st : List AV} {σ : St}  {x : Option (Nat × Nat × Nat)} : Rn (d) Q (37, 0, [some (vR x)], st, σ) = Rn (d) Q (37, 1, [some (vR x)], vR x :: st, σ) := E_aload_n i37_0 rfl
theorem e37_1 {d : Nat} {Q : Option AV → St → Prop} {st : List AV} {σ : St} {l0 : Option AV} {x : Nat × Nat × Nat} : Rn (d) Q (37, 1, [l0], vR (some x) :: st, σ) = (catS st ≤ 8 ∧ Rn (d) Q (37, 4, [l0], st, σ)) := E_objInit i37_1 ((congrArg (fun z => mthQ z 3) o37).trans m6_3)
theorem e37_4 {d : Nat} {Q : Option AV → St → Prop} {st : List AV} {σ : St}  {x : Option (Nat × Nat × Nat)} : Rn (d) Q (37, 4, [some (vR x)], st, σ) = Rn (d) Q (37, 5, [some (vR x)], vR x :: st, σ) := E_aload_n i37_4 rfl
theorem e37_5 {d : Nat} {Q : Option AV → St → Prop} {st : List AV} {σ : St} {l0 : Option AV} : Rn (d) Q (37, 5, [l0], st, σ) = Rn (d) Q (37, 6, [l0], vI (-1) :: st, σ) := by rw [E_iconst i37_5, ci_m1]
theorem e37_6 {d : Nat} {Q : Option AV → St → Prop} {st : List AV} {σ : St} {l0 : Option AV} {i : Nat} {x : Int32} : Rn (d) Q (37, 6, [l0], vI x :: vR (some (6, 0, i)) :: st, σ) = (i < gN σ 6 ∧ Rn (d) Q (37, 9, [l0], st, setI σ 6 0 i x)) := E_putI i37_6 ((congrArg (fun z => fldQ z 11) o37).trans f6_11) rfl (Or.inl rfl)
theorem e37_9 {d : Nat} {Q : Option AV → St → Prop} {st : List AV} {σ : St}  {x : Option (Nat × Nat × Nat)} : Rn (d) Q (37, 9, [some (vR x)], st, σ) = Rn (d) Q (37, 10, [some (vR x)], vR x :: st, σ) := E_aload_n i37_9 rfl
theorem e37_10 {d : Nat} {Q : Option AV → St → Prop} {st : List AV} {σ : St} {l0 : Option AV} : Rn (d) Q (37, 10, [l0], st, σ) = Rn (d) Q (37, 11, [l0], vI 0 :: st, σ) := by rw [E_iconst i37_10, ci_0]
theorem e37_11 {d : Nat} {Q : Option AV → St → Prop} {st : List AV} {σ : St} {l0 : Option AV} {i : Nat} {x : Int32} : Rn (d) Q (37, 11, [l0], vI x :: vR (some (6, 0, i)) :: st, σ) = (i < gN σ 6 ∧ Rn (d) Q (37, 14, [l0], st, setI σ 6 1 i x)) := E_putI i37_11 ((congrArg (fun z => fldQ z 15) o37).trans f6_15) rfl (Or.inl rfl)
theorem e37_14 {d : Nat} {Q : Option AV → St → Prop} {st : List AV} {σ : St}  {x : Option (Nat × Nat × Nat)} : Rn (d) Q (37, 14, [some (vR x)], st, σ) = Rn (d) Q (37, 15, [some (vR x)], vR x :: st, σ) := E_aload_n i37_14 rfl
theorem e37_15 {d : Nat} {Q : Option AV → St → Prop} {st : List AV} {σ : St} {l0 : Option AV} : Rn (d) Q (37, 15, [l0], st, σ) = Rn (d) Q (37, 17, [l0], vI 30 :: st, σ) := by rw [E_bipush i37_15, cb_30]
theorem e37_17 {d : Nat} {Q : Option AV → St → Prop} {st : List AV} {σ : St} {l0 : Option AV} {i : Nat} : Rn (d) Q (37, 17, [l0], vI 30 :: vR (some (6, 0, i)) :: st, σ) = (i < gN σ 6 ∧ gL σ 6 2 i = none ∧ Rn (d) Q (37, 22, [l0], st, newA σ 6 2 i 30)) := by rw [E_newarray i37_17 i37_19 ((congrArg (fun z => fldQ z 18) o37).trans f6_18) ⟨rfl, rfl⟩ (by decide) (Or.inr ⟨n37, o37⟩) (by decide +kernel), show (30 : Int32).toNatClampNeg = 30 by decide +kernel]
theorem e37_22 {d : Nat} {Q : Option AV → St → Prop} {σ : St} {l0 : Option AV} : Rn (d) Q (37, 22, [l0], [], σ) = Q none σ := E_ret (st := []) i37_22 r37
theorem i38_0 : ins 38 0 = some (.aload_n 0, 1) := (congrArg (fun x : PTy => x.1.lookup 0) q38).trans rfl
theorem i38_1 : ins 38 1 = some (.iload_n 1, 1) := (congrArg (fun x : PTy => x.1.lookup 1) q38).trans rfl
theorem i38_2 : ins 38 2 = some (.putfield 11, 3) := (congrArg (fun x : PTy => x.1.lookup 2) q38).trans rfl
theorem i38_5 : ins 38 5 = some (.aload_n 0, 1) := (congrArg (fun x : PTy => x.1.lookup 5) q38).trans rfl
theorem i38_6 : ins 38 6 = some (.iload_n 2, 1) := (congrArg (fun x : PTy => x.1.lookup 6) q38).trans rfl
theorem i38_7 : ins 38 7 = some (.putfield 15, 3) := (congrArg (fun x : PTy => x.1.lookup 7) q38).trans rfl
theorem i38_10 : ins 38 10 = some (.aload_n 0, 1) := (congrArg (fun x : PTy => x.1.lookup 10) q38).trans rfl
theorem i38_11 : ins 38 11 = some (.getfield 18, 3) := (congrArg (fun x : PTy => x.1.lookup 11) q38).trans rfl
theorem i38_14 : ins 38 14 = some (.iconst 0, 1) := (congrArg (fun x : PTy => x.1.lookup 14) q38).trans rfl
theorem i38_15 : ins 38 15 = some (.invokestatic 22, 3) := (congrArg (fun x : PTy => x.1.lookup 15) q38).trans rfl
theorem i38_18 : ins 38 18 = some (.return_, 1) := (congrArg (fun x : PTy => x.1.lookup 18) q38).trans rfl
theorem e38_0 {d : Nat} {Q : Option AV → St → Prop} {st : List AV} {σ : St} {l1 l2 : Option AV} {x : Option (Nat × Nat × Nat)} : Rn (d) Q (38, 0, [some (vR x), l1, l2], st, σ) = Rn (d) Q (38, 1, [some (vR x), l1, l2], vR x :: st, σ) := E_aload_n i38_0 rfl
theorem e38_1 {d : Nat} {Q : Option AV → St → Prop} {st : List AV} {σ : St} {l0 l2 : Option AV} {x : Int32} : Rn (d) Q (38, 1, [l0, some (vI x), l2], st, σ) = Rn (d) Q (38, 2, [l0, some (vI x), l2], vI x :: st, σ) := E_iload_n i38_1 rfl
theorem e38_2 {d : Nat} {Q : Option AV → St → Prop} {st : List AV} {σ : St} {l0 l1 l2 : Option AV} {i : Nat} {x : Int32} : Rn (d) Q (38, 2, [l0, l1, l2], vI x :: vR (some (6, 0, i)) :: st, σ) = (i < gN σ 6 ∧ Rn (d) Q (38, 5, [l0, l1, l2], st, setI σ 6 0 i x)) := E_putI i38_2 ((congrArg (fun z => fldQ z 11) o38).trans f6_11) rfl (Or.inl rfl)
theorem e38_5 {d : Nat} {Q : Option AV → St → Prop} {st : List AV} {σ : St} {l1 l2 : Option AV} {x : Option (Nat × Nat × Nat)} : Rn (d) Q (38, 5, [some (vR x), l1, l2], st, σ) = Rn (d) Q (38, 6, [some (vR x), l1, l2], vR x :: st, σ) := E_aload_n i38_5 rfl
theorem e38_6 {d : Nat} {Q : Option AV → St → Prop} {st : List AV} {σ : St} {l0 l1 : Option AV} {x : Int32} : Rn (d) Q (38, 6, [l0, l1, some (vI x)], st, σ) = Rn (d) Q (38, 7, [l0, l1, some (vI x)], vI x :: st, σ) := E_iload_n i38_6 rfl
theorem e38_7 {d : Nat} {Q : Option AV → St → Prop} {st : List AV} {σ : St} {l0 l1 l2 : Option AV} {i : Nat} {x : Int32} : Rn (d) Q (38, 7, [l0, l1, l2], vI x :: vR (some (6, 0, i)) :: st, σ) = (i < gN σ 6 ∧ Rn (d) Q (38, 10, [l0, l1, l2], st, setI σ 6 1 i x)) := E_putI i38_7 ((congrArg (fun z => fldQ z 15) o38).trans f6_15) rfl (Or.inl rfl)
theorem e38_10 {d : Nat} {Q : Option AV → St → Prop} {st : List AV} {σ : St} {l1 l2 : Option AV} {x : Option (Nat × Nat × Nat)} : Rn (d) Q (38, 10, [some (vR x), l1, l2], st, σ) = Rn (d) Q (38, 11, [some (vR x), l1, l2], vR x :: st, σ) := E_aload_n i38_10 rfl
theorem e38_11 {d : Nat} {Q : Option AV → St → Prop} {st : List AV} {σ : St} {l0 l1 l2 : Option AV} {i : Nat} : Rn (d) Q (38, 11, [l0, l1, l2], vR (some (6, 0, i)) :: st, σ) = (i < gN σ 6 ∧ ¬ gL σ 6 2 i = none ∧ Rn (d) Q (38, 14, [l0, l1, l2], vR (some (6, 3, i)) :: st, σ)) := E_getA i38_11 ((congrArg (fun z => fldQ z 18) o38).trans f6_18) (Or.inl rfl)
theorem e38_14 {d : Nat} {Q : Option AV → St → Prop} {st : List AV} {σ : St} {l0 l1 l2 : Option AV} : Rn (d) Q (38, 14, [l0, l1, l2], st, σ) = Rn (d) Q (38, 15, [l0, l1, l2], vI 0 :: st, σ) := by rw [E_iconst i38_14, ci_0]
theorem e38_15 {d : Nat} {Q : Option AV → St → Prop} {st : List AV} {σ : St} {l0 l1 l2 : Option AV} {a0 : Option (Nat × Nat × Nat)} {a1 : Int32} : Rn (d + 1) Q (38, 15, [l0, l1, l2], vI a1 :: vR a0 :: st, σ) = (catS st ≤ 8 ∧ Rn d (fun r σ' => Rn (d + 1) Q (38, 18, [l0, l1, l2], r.toList ++ st, σ')) (217, 0, [some (vR a0), some (vI a1), none, none], [], σ)) := E_invS1 (a := [vI a1, vR a0]) i38_15 ((congrArg (fun z => mthQ z 22) o38).trans m6_22) rfl (ek217 a0 a1) (en217 a0 a1)
theorem e38_18 {d : Nat} {Q : Option AV → St → Prop} {σ : St} {l0 l1 l2 : Option AV} : Rn (d) Q (38, 18, [l0, l1, l2], [], σ) = Q none σ := E_ret (st := []) i38_18 r38
theorem i39_0 : ins 39 0 = some (.aload_n 0, 1) := (congrArg (fun x : PTy => x.1.lookup 0) q39).trans rfl
theorem i39_1 : ins 39 1 = some (.getfield 11, 3) := (congrArg (fun x : PTy => x.1.lookup 1) q39).trans rfl
theorem i39_4 : ins 39 4 = some (.iconst (-1), 1) := (congrArg (fun x : PTy => x.1.lookup 4) q39).trans rfl
theorem i39_5 : ins 39 5 = some (.if_icmp .ne 6, 3) := (congrArg (fun x : PTy => x.1.lookup 5) q39).trans rfl
theorem i39_8 : ins 39 8 = some (.bipush (-11), 2) := (congrArg (fun x : PTy => x.1.lookup 8) q39).trans rfl
theorem i39_10 : ins 39 10 = some (.ireturn, 1) := (congrArg (fun x : PTy => x.1.lookup 10) q39).trans rfl
theorem i39_11 : ins 39 11 = some (.aload_n 0, 1) := (congrArg (fun x : PTy => x.1.lookup 11) q39).trans rfl
theorem i39_12 : ins 39 12 = some (.getfield 11, 3) := (congrArg (fun x : PTy => x.1.lookup 12) q39).trans rfl
theorem i39_15 : ins 39 15 = some (.iload_n 1, 1) := (congrArg (fun x : PTy => x.1.lookup 15) q39).trans rfl
theorem i39_16 : ins 39 16 = some (.if_icmp .eq 6, 3) := (congrArg (fun x : PTy => x.1.lookup 16) q39).trans rfl
theorem i39_19 : ins 39 19 = some (.bipush (-12), 2) := (congrArg (fun x : PTy => x.1.lookup 19) q39).trans rfl
theorem i39_21 : ins 39 21 = some (.ireturn, 1) := (congrArg (fun x : PTy => x.1.lookup 21) q39).trans rfl
theorem i39_22 : ins 39 22 = some (.iload_n 2, 1) := (congrArg (fun x : PTy => x.1.lookup 22) q39).trans rfl
theorem i39_23 : ins 39 23 = some (.ifCond .lt 21, 3) := (congrArg (fun x : PTy => x.1.lookup 23) q39).trans rfl
theorem i39_26 : ins 39 26 = some (.iload_n 2, 1) := (congrArg (fun x : PTy => x.1.lookup 26) q39).trans rfl
theorem i39_27 : ins 39 27 = some (.aload_n 0, 1) := (congrArg (fun x : PTy => x.1.lookup 27) q39).trans rfl
theorem i39_28 : ins 39 28 = some (.getfield 15, 3) := (congrArg (fun x : PTy => x.1.lookup 28) q39).trans rfl
theorem i39_31 : ins 39 31 = some (.if_icmp .gt 13, 3) := (congrArg (fun x : PTy => x.1.lookup 31) q39).trans rfl
theorem i39_34 : ins 39 34 = some (.iload_n 3, 1) := (congrArg (fun x : PTy => x.1.lookup 34) q39).trans rfl
theorem i39_35 : ins 39 35 = some (.aload_n 0, 1) := (congrArg (fun x : PTy => x.1.lookup 35) q39).trans rfl
theorem i39_36 : ins 39 36 = some (.getfield 15, 3) := (congrArg (fun x : PTy => x.1.lookup 36) q39).trans rfl
theorem i39_39 : ins 39 39 = some (.iload_n 2, 1) := (congrArg (fun x : PTy => x.1.lookup 39) q39).trans rfl
theorem i39_40 : ins 39 40 = some (.isub, 1) := (congrArg (fun x : PTy => x.1.lookup 40) q39).trans rfl
theorem i39_41 : ins 39 41 = some (.if_icmp .le 8, 3) := (congrArg (fun x : PTy => x.1.lookup 41) q39).trans rfl
theorem i39_44 : ins 39 44 = some (.bipush (-13), 2) := (congrArg (fun x : PTy => x.1.lookup 44) q39).trans rfl
theorem i39_46 : ins 39 46 = some (.goto 4, 3) := (congrArg (fun x : PTy => x.1.lookup 46) q39).trans rfl
theorem i39_49 : ins 39 49 = some (.iconst 0, 1) := (congrArg (fun x : PTy => x.1.lookup 49) q39).trans rfl
theorem i39_50 : ins 39 50 = some (.ireturn, 1) := (congrArg (fun x : PTy => x.1.lookup 50) q39).trans rfl
theorem e39_0 {d : Nat} {Q : Option AV → St → Prop} {st : List AV} {σ : St} {l1 l2 l3 : Option AV} {x : Option (Nat × Nat × Nat)} : Rn (d) Q (39, 0, [some (vR x), l1, l2, l3], st, σ) = Rn (d) Q (39, 1, [some (vR x), l1, l2, l3], vR x :: st, σ) := E_aload_n i39_0 rfl
theorem e39_1 {d : Nat} {Q : Option AV → St → Prop} {st : List AV} {σ : St} {l0 l1 l2 l3 : Option AV} {i : Nat} : Rn (d) Q (39, 1, [l0, l1, l2, l3], vR (some (6, 0, i)) :: st, σ) = (i < gN σ 6 ∧ Rn (d) Q (39, 4, [l0, l1, l2, l3], vI (gI σ 6 0 i) :: st, σ)) := E_getI i39_1 ((congrArg (fun z => fldQ z 11) o39).trans f6_11) rfl
theorem e39_4 {d : Nat} {Q : Option AV → St → Prop} {st : List AV} {σ : St} {l0 l1 l2 l3 : Option AV} : Rn (d) Q (39, 4, [l0, l1, l2, l3], st, σ) = Rn (d) Q (39, 5, [l0, l1, l2, l3], vI (-1) :: st, σ) := by rw [E_iconst i39_4, ci_m1]
theorem e39_5 {d : Nat} {Q : Option AV → St → Prop} {st : List AV} {σ : St} {l0 l1 l2 l3 : Option AV} {x y : Int32} : Rn (d) Q (39, 5, [l0, l1, l2, l3], vI y :: vI x :: st, σ) = (if x = y then Rn (d) Q (39, 8, [l0, l1, l2, l3], st, σ) else Rn (d) Q (39, 11, [l0, l1, l2, l3], st, σ)) := E_icmp_ne 11 i39_5 (by decide)
theorem e39_8 {d : Nat} {Q : Option AV → St → Prop} {st : List AV} {σ : St} {l0 l1 l2 l3 : Option AV} : Rn (d) Q (39, 8, [l0, l1, l2, l3], st, σ) = Rn (d) Q (39, 10, [l0, l1, l2, l3], vI (-11) :: st, σ) := by rw [E_bipush i39_8, cb_m11]
theorem e39_10 {d : Nat} {Q : Option AV → St → Prop} {σ : St} {l0 l1 l2 l3 : Option AV} {x : Int32} : Rn (d) Q (39, 10, [l0, l1, l2, l3], [vI x], σ) = Q (some (vI x)) σ := E_iretI (st := []) i39_10 r39
theorem e39_11 {d : Nat} {Q : Option AV → St → Prop} {st : List AV} {σ : St} {l1 l2 l3 : Option AV} {x : Option (Nat × Nat × Nat)} : Rn (d) Q (39, 11, [some (vR x), l1, l2, l3], st, σ) = Rn (d) Q (39, 12, [some (vR x), l1, l2, l3], vR x :: st, σ) := E_aload_n i39_11 rfl
theorem e39_12 {d : Nat} {Q : Option AV → St → Prop} {st : List AV} {σ : St} {l0 l1 l2 l3 : Option AV} {i : Nat} : Rn (d) Q (39, 12, [l0, l1, l2, l3], vR (some (6, 0, i)) :: st, σ) = (i < gN σ 6 ∧ Rn (d) Q (39, 15, [l0, l1, l2, l3], vI (gI σ 6 0 i) :: st, σ)) := E_getI i39_12 ((congrArg (fun z => fldQ z 11) o39).trans f6_11) rfl
theorem e39_15 {d : Nat} {Q : Option AV → St → Prop} {st : List AV} {σ : St} {l0 l2 l3 : Option AV} {x : Int32} : Rn (d) Q (39, 15, [l0, some (vI x), l2, l3], st, σ) = Rn (d) Q (39, 16, [l0, some (vI x), l2, l3], vI x :: st, σ) := E_iload_n i39_15 rfl
theorem e39_16 {d : Nat} {Q : Option AV → St → Prop} {st : List AV} {σ : St} {l0 l1 l2 l3 : Option AV} {x y : Int32} : Rn (d) Q (39, 16, [l0, l1, l2, l3], vI y :: vI x :: st, σ) = (if x = y then Rn (d) Q (39, 22, [l0, l1, l2, l3], st, σ) else Rn (d) Q (39, 19, [l0, l1, l2, l3], st, σ)) := E_icmp_eq 22 i39_16 (by decide)
theorem e39_19 {d : Nat} {Q : Option AV → St → Prop} {st : List AV} {σ : St} {l0 l1 l2 l3 : Option AV} : Rn (d) Q (39, 19, [l0, l1, l2, l3], st, σ) = Rn (d) Q (39, 21, [l0, l1, l2, l3], vI (-12) :: st, σ) := by rw [E_bipush i39_19, cb_m12]
theorem e39_21 {d : Nat} {Q : Option AV → St → Prop} {σ : St} {l0 l1 l2 l3 : Option AV} {x : Int32} : Rn (d) Q (39, 21, [l0, l1, l2, l3], [vI x], σ) = Q (some (vI x)) σ := E_iretI (st := []) i39_21 r39
theorem e39_22 {d : Nat} {Q : Option AV → St → Prop} {st : List AV} {σ : St} {l0 l1 l3 : Option AV} {x : Int32} : Rn (d) Q (39, 22, [l0, l1, some (vI x), l3], st, σ) = Rn (d) Q (39, 23, [l0, l1, some (vI x), l3], vI x :: st, σ) := E_iload_n i39_22 rfl
theorem e39_23 {d : Nat} {Q : Option AV → St → Prop} {st : List AV} {σ : St} {l0 l1 l2 l3 : Option AV} {x : Int32} : Rn (d) Q (39, 23, [l0, l1, l2, l3], vI x :: st, σ) = (if x < 0 then Rn (d) Q (39, 44, [l0, l1, l2, l3], st, σ) else Rn (d) Q (39, 26, [l0, l1, l2, l3], st, σ)) := E_if_lt 44 i39_23 (by decide)
theorem e39_26 {d : Nat} {Q : Option AV → St → Prop} {st : List AV} {σ : St} {l0 l1 l3 : Option AV} {x : Int32} : Rn (d) Q (39, 26, [l0, l1, some (vI x), l3], st, σ) = Rn (d) Q (39, 27, [l0, l1, some (vI x), l3], vI x :: st, σ) := E_iload_n i39_26 rfl
theorem e39_27 {d : Nat} {Q : Option AV → St → Prop} {st : List AV} {σ : St} {l1 l2 l3 : Option AV} {x : Option (Nat × Nat × Nat)} : Rn (d) Q (39, 27, [some (vR x), l1, l2, l3], st, σ) = Rn (d) Q (39, 28, [some (vR x), l1, l2, l3], vR x :: st, σ) := E_aload_n i39_27 rfl
theorem e39_28 {d : Nat} {Q : Option AV → St → Prop} {st : List AV} {σ : St} {l0 l1 l2 l3 : Option AV} {i : Nat} : Rn (d) Q (39, 28, [l0, l1, l2, l3], vR (some (6, 0, i)) :: st, σ) = (i < gN σ 6 ∧ Rn (d) Q (39, 31, [l0, l1, l2, l3], vI (gI σ 6 1 i) :: st, σ)) := E_getI i39_28 ((congrArg (fun z => fldQ z 15) o39).trans f6_15) rfl
theorem e39_31 {d : Nat} {Q : Option AV → St → Prop} {st : List AV} {σ : St} {l0 l1 l2 l3 : Option AV} {x y : Int32} : Rn (d) Q (39, 31, [l0, l1, l2, l3], vI y :: vI x :: st, σ) = (if y < x then Rn (d) Q (39, 44, [l0, l1, l2, l3], st, σ) else Rn (d) Q (39, 34, [l0, l1, l2, l3], st, σ)) := E_icmp_gt 44 i39_31 (by decide)
theorem e39_34 {d : Nat} {Q : Option AV → St → Prop} {st : List AV} {σ : St} {l0 l1 l2 : Option AV} {x : Int32} : Rn (d) Q (39, 34, [l0, l1, l2, some (vI x)], st, σ) = Rn (d) Q (39, 35, [l0, l1, l2, some (vI x)], vI x :: st, σ) := E_iload_n i39_34 rfl
theorem e39_35 {d : Nat} {Q : Option AV → St → Prop} {st : List AV} {σ : St} {l1 l2 l3 : Option AV} {x : Option (Nat × Nat × Nat)} : Rn (d) Q (39, 35, [some (vR x), l1, l2, l3], st, σ) = Rn (d) Q (39, 36, [some (vR x), l1, l2, l3], vR x :: st, σ) := E_aload_n i39_35 rfl
theorem e39_36 {d : Nat} {Q : Option AV → St → Prop} {st : List AV} {σ : St} {l0 l1 l2 l3 : Option AV} {i : Nat} : Rn (d) Q (39, 36, [l0, l1, l2, l3], vR (some (6, 0, i)) :: st, σ) = (i < gN σ 6 ∧ Rn (d) Q (39, 39, [l0, l1, l2, l3], vI (gI σ 6 1 i) :: st, σ)) := E_getI i39_36 ((congrArg (fun z => fldQ z 15) o39).trans f6_15) rfl
theorem e39_39 {d : Nat} {Q : Option AV → St → Prop} {st : List AV} {σ : St} {l0 l1 l3 : Option AV} {x : Int32} : Rn (d) Q (39, 39, [l0, l1, some (vI x), l3], st, σ) = Rn (d) Q (39, 40, [l0, l1, some (vI x), l3], vI x :: st, σ) := E_iload_n i39_39 rfl
theorem e39_40 {d : Nat} {Q : Option AV → St → Prop} {st : List AV} {σ : St} {l0 l1 l2 l3 : Option AV} {x y : Int32} : Rn (d) Q (39, 40, [l0, l1, l2, l3], vI y :: vI x :: st, σ) = Rn (d) Q (39, 41, [l0, l1, l2, l3], vI (x - y) :: st, σ) := E_isub i39_40
theorem e39_41 {d : Nat} {Q : Option AV → St → Prop} {st : List AV} {σ : St} {l0 l1 l2 l3 : Option AV} {x y : Int32} : Rn (d) Q (39, 41, [l0, l1, l2, l3], vI y :: vI x :: st, σ) = (if x ≤ y then Rn (d) Q (39, 49, [l0, l1, l2, l3], st, σ) else Rn (d) Q (39, 44, [l0, l1, l2, l3], st, σ)) := E_icmp_le 49 i39_41 (by decide)
theorem e39_44 {d : Nat} {Q : Option AV → St → Prop} {st : List AV} {σ : St} {l0 l1 l2 l3 : Option AV} : Rn (d) Q (39, 44, [l0, l1, l2, l3], st, σ) = Rn (d) Q (39, 46, [l0, l1, l2, l3], vI (-13) :: st, σ) := by rw [E_bipush i39_44, cb_m13]
theorem e39_46 {d : Nat} {Q : Option AV → St → Prop} {st : List AV} {σ : St} {l0 l1 l2 l3 : Option AV} : Rn (d) Q (39, 46, [l0, l1, l2, l3], st, σ) = Rn (d) Q (39, 50, [l0, l1, l2, l3], st, σ) := E_goto 50 i39_46 (by decide)
theorem e39_49 {d : Nat} {Q : Option AV → St → Prop} {st : List AV} {σ : St} {l0 l1 l2 l3 : Option AV} : Rn (d) Q (39, 49, [l0, l1, l2, l3], st, σ) = Rn (d) Q (39, 50, [l0, l1, l2, l3], vI 0 :: st, σ) := by rw [E_iconst i39_49, ci_0]
theorem e39_50 {d : Nat} {Q : Option AV → St → Prop} {σ : St} {l0 l1 l2 l3 : Option AV} {x : Int32} : Rn (d) Q (39, 50, [l0, l1, l2, l3], [vI x], σ) = Q (some (vI x)) σ := E_iretI (st := []) i39_50 r39
theorem i40_0 : ins 40 0 = some (.aload_n 0, 1) := (congrArg (fun x : PTy => x.1.lookup 0) q40).trans rfl
theorem i40_1 : ins 40 1 = some (.getfield 11, 3) := (congrArg (fun x : PTy => x.1.lookup 1) q40).trans rfl
theorem i40_4 : ins 40 4 = some (.ifCond .ne 14, 3) := (congrArg (fun x : PTy => x.1.lookup 4) q40).trans rfl
theorem i40_7 : ins 40 7 = some (.aload_n 0, 1) := (congrArg (fun x : PTy => x.1.lookup 7) q40).trans rfl
theorem i40_8 : ins 40 8 = some (.getfield 18, 3) := (congrArg (fun x : PTy => x.1.lookup 8) q40).trans rfl
theorem i40_11 : ins 40 11 = some (.iload_n 1, 1) := (congrArg (fun x : PTy => x.1.lookup 11) q40).trans rfl
theorem i40_12 : ins 40 12 = some (.iload_n 2, 1) := (congrArg (fun x : PTy => x.1.lookup 12) q40).trans rfl
theorem i40_13 : ins 40 13 = some (.i2b, 1) := (congrArg (fun x : PTy => x.1.lookup 13) q40).trans rfl
theorem i40_14 : ins 40 14 = some (.iastore, 1) := (congrArg (fun x : PTy => x.1.lookup 14) q40).trans rfl
theorem i40_15 : ins 40 15 = some (.goto 29, 3) := (congrArg (fun x : PTy => x.1.lookup 15) q40).trans rfl
theorem i40_18 : ins 40 18 = some (.aload_n 0, 1) := (congrArg (fun x : PTy => x.1.lookup 18) q40).trans rfl
theorem i40_19 : ins 40 19 = some (.getfield 11, 3) := (congrArg (fun x : PTy => x.1.lookup 19) q40).trans rfl
theorem i40_22 : ins 40 22 = some (.iconst 1, 1) := (congrArg (fun x : PTy => x.1.lookup 22) q40).trans rfl
theorem i40_23 : ins 40 23 = some (.if_icmp .ne 14, 3) := (congrArg (fun x : PTy => x.1.lookup 23) q40).trans rfl
theorem i40_26 : ins 40 26 = some (.aload_n 0, 1) := (congrArg (fun x : PTy => x.1.lookup 26) q40).trans rfl
theorem i40_27 : ins 40 27 = some (.getfield 18, 3) := (congrArg (fun x : PTy => x.1.lookup 27) q40).trans rfl
theorem i40_30 : ins 40 30 = some (.iload_n 1, 1) := (congrArg (fun x : PTy => x.1.lookup 30) q40).trans rfl
theorem i40_31 : ins 40 31 = some (.iload_n 2, 1) := (congrArg (fun x : PTy => x.1.lookup 31) q40).trans rfl
theorem i40_32 : ins 40 32 = some (.i2s, 1) := (congrArg (fun x : PTy => x.1.lookup 32) q40).trans rfl
theorem i40_33 : ins 40 33 = some (.iastore, 1) := (congrArg (fun x : PTy => x.1.lookup 33) q40).trans rfl
theorem i40_34 : ins 40 34 = some (.goto 10, 3) := (congrArg (fun x : PTy => x.1.lookup 34) q40).trans rfl
theorem i40_37 : ins 40 37 = some (.aload_n 0, 1) := (congrArg (fun x : PTy => x.1.lookup 37) q40).trans rfl
theorem i40_38 : ins 40 38 = some (.getfield 18, 3) := (congrArg (fun x : PTy => x.1.lookup 38) q40).trans rfl
theorem i40_41 : ins 40 41 = some (.iload_n 1, 1) := (congrArg (fun x : PTy => x.1.lookup 41) q40).trans rfl
theorem i40_42 : ins 40 42 = some (.iload_n 2, 1) := (congrArg (fun x : PTy => x.1.lookup 42) q40).trans rfl
theorem i40_43 : ins 40 43 = some (.iastore, 1) := (congrArg (fun x : PTy => x.1.lookup 43) q40).trans rfl
theorem i40_44 : ins 40 44 = some (.return_, 1) := (congrArg (fun x : PTy => x.1.lookup 44) q40).trans rfl
theorem e40_0 {d : Nat} {Q : Option AV → St → Prop} {st : List AV} {σ : St} {l1 l2 : Option AV} {x : Option (Nat × Nat × Nat)} : Rn (d) Q (40, 0, [some (vR x), l1, l2], st, σ) = Rn (d) Q (40, 1, [some (vR x), l1, l2], vR x :: st, σ) := E_aload_n i40_0 rfl
theorem e40_1 {d : Nat} {Q : Option AV → St → Prop} {st : List AV} {σ : St} {l0 l1 l2 : Option AV} {i : Nat} : Rn (d) Q (40, 1, [l0, l1, l2], vR (some (6, 0, i)) :: st, σ) = (i < gN σ 6 ∧ Rn (d) Q (40, 4, [l0, l1, l2], vI (gI σ 6 0 i) :: st, σ)) := E_getI i40_1 ((congrArg (fun z => fldQ z 11) o40).trans f6_11) rfl
theorem e40_4 {d : Nat} {Q : Option AV → St → Prop} {st : List AV} {σ : St} {l0 l1 l2 : Option AV} {x : Int32} : Rn (d) Q (40, 4, [l0, l1, l2], vI x :: st, σ) = (if x = 0 then Rn (d) Q (40, 7, [l0, l1, l2], st, σ) else Rn (d) Q (40, 18, [l0, l1, l2], st, σ)) := E_if_ne 18 i40_4 (by decide)
theorem e40_7 {d : Nat} {Q : Option AV → St → Prop} {st : List AV} {σ : St} {l1 l2 : Option AV} {x : Option (Nat × Nat × Nat)} : Rn (d) Q (40, 7, [some (vR x), l1, l2], st, σ) = Rn (d) Q (40, 8, [some (vR x), l1, l2], vR x :: st, σ) := E_aload_n i40_7 rfl
theorem e40_8 {d : Nat} {Q : Option AV → St → Prop} {st : List AV} {σ : St} {l0 l1 l2 : Option AV} {i : Nat} : Rn (d) Q (40, 8, [l0, l1, l2], vR (some (6, 0, i)) :: st, σ) = (i < gN σ 6 ∧ ¬ gL σ 6 2 i = none ∧ Rn (d) Q (40, 11, [l0, l1, l2], vR (some (6, 3, i)) :: st, σ)) := E_getA i40_8 ((congrArg (fun z => fldQ z 18) o40).trans f6_18) (Or.inl rfl)
theorem e40_11 {d : Nat} {Q : Option AV → St → Prop} {st : List AV} {σ : St} {l0 l2 : Option AV} {x : Int32} : Rn (d) Q (40, 11, [l0, some (vI x), l2], st, σ) = Rn (d) Q (40, 12, [l0, some (vI x), l2], vI x :: st, σ) := E_iload_n i40_11 rfl
theorem e40_12 {d : Nat} {Q : Option AV → St → Prop} {st : List AV} {σ : St} {l0 l1 : Option AV} {x : Int32} : Rn (d) Q (40, 12, [l0, l1, some (vI x)], st, σ) = Rn (d) Q (40, 13, [l0, l1, some (vI x)], vI x :: st, σ) := E_iload_n i40_12 rfl
theorem e40_13 {d : Nat} {Q : Option AV → St → Prop} {st : List AV} {σ : St} {l0 l1 l2 : Option AV} {x : Int32} : Rn (d) Q (40, 13, [l0, l1, l2], vI x :: st, σ) = Rn (d) Q (40, 14, [l0, l1, l2], vI x.toInt8.toInt32 :: st, σ) := E_i2b i40_13
theorem e40_14 {d : Nat} {Q : Option AV → St → Prop} {st : List AV} {σ : St} {l0 l1 l2 : Option AV} {i : Nat} {j x : Int32} : Rn (d) Q (40, 14, [l0, l1, l2], vI x :: vI j :: vR (some (6, 3, i)) :: st, σ) = (∃ n, gL σ 6 2 i = some n ∧ i < gN σ 6 ∧ (0 ≤ j.toInt ∧ j.toInt < n) ∧ Rn (d) Q (40, 15, [l0, l1, l2], st, setA σ 6 2 i (upd (gA σ 6 2 i) j.toNatClampNeg x))) := E_iastore1 i40_14 rfl (by decide)
theorem e40_15 {d : Nat} {Q : Option AV → St → Prop} {st : List AV} {σ : St} {l0 l1 l2 : Option AV} : Rn (d) Q (40, 15, [l0, l1, l2], st, σ) = Rn (d) Q (40, 44, [l0, l1, l2], st, σ) := E_goto 44 i40_15 (by decide)
theorem e40_18 {d : Nat} {Q : Option AV → St → Prop} {st : List AV} {σ : St} {l1 l2 : Option AV} {x : Option (Nat × Nat × Nat)} : Rn (d) Q (40, 18, [some (vR x), l1, l2], st, σ) = Rn (d) Q (40, 19, [some (vR x), l1, l2], vR x :: st, σ) := E_aload_n i40_18 rfl
theorem e40_19 {d : Nat} {Q : Option AV → St → Prop} {st : List AV} {σ : St} {l0 l1 l2 : Option AV} {i : Nat} : Rn (d) Q (40, 19, [l0, l1, l2], vR (some (6, 0, i)) :: st, σ) = (i < gN σ 6 ∧ Rn (d) Q (40, 22, [l0, l1, l2], vI (gI σ 6 0 i) :: st, σ)) := E_getI i40_19 ((congrArg (fun z => fldQ z 11) o40).trans f6_11) rfl
theorem e40_22 {d : Nat} {Q : Option AV → St → Prop} {st : List AV} {σ : St} {l0 l1 l2 : Option AV} : Rn (d) Q (40, 22, [l0, l1, l2], st, σ) = Rn (d) Q (40, 23, [l0, l1, l2], vI 1 :: st, σ) := by rw [E_iconst i40_22, ci_1]
theorem e40_23 {d : Nat} {Q : Option AV → St → Prop} {st : List AV} {σ : St} {l0 l1 l2 : Option AV} {x y : Int32} : Rn (d) Q (40, 23, [l0, l1, l2], vI y :: vI x :: st, σ) = (if x = y then Rn (d) Q (40, 26, [l0, l1, l2], st, σ) else Rn (d) Q (40, 37, [l0, l1, l2], st, σ)) := E_icmp_ne 37 i40_23 (by decide)
theorem e40_26 {d : Nat} {Q : Option AV → St → Prop} {st : List AV} {σ : St} {l1 l2 : Option AV} {x : Option (Nat × Nat × Nat)} : Rn (d) Q (40, 26, [some (vR x), l1, l2], st, σ) = Rn (d) Q (40, 27, [some (vR x), l1, l2], vR x :: st, σ) := E_aload_n i40_26 rfl
theorem e40_27 {d : Nat} {Q : Option AV → St → Prop} {st : List AV} {σ : St} {l0 l1 l2 : Option AV} {i : Nat} : Rn (d) Q (40, 27, [l0, l1, l2], vR (some (6, 0, i)) :: st, σ) = (i < gN σ 6 ∧ ¬ gL σ 6 2 i = none ∧ Rn (d) Q (40, 30, [l0, l1, l2], vR (some (6, 3, i)) :: st, σ)) := E_getA i40_27 ((congrArg (fun z => fldQ z 18) o40).trans f6_18) (Or.inl rfl)
theorem e40_30 {d : Nat} {Q : Option AV → St → Prop} {st : List AV} {σ : St} {l0 l2 : Option AV} {x : Int32} : Rn (d) Q (40, 30, [l0, some (vI x), l2], st, σ) = Rn (d) Q (40, 31, [l0, some (vI x), l2], vI x :: st, σ) := E_iload_n i40_30 rfl
theorem e40_31 {d : Nat} {Q : Option AV → St → Prop} {st : List AV} {σ : St} {l0 l1 : Option AV} {x : Int32} : Rn (d) Q (40, 31, [l0, l1, some (vI x)], st, σ) = Rn (d) Q (40, 32, [l0, l1, some (vI x)], vI x :: st, σ) := E_iload_n i40_31 rfl
theorem e40_32 {d : Nat} {Q : Option AV → St → Prop} {st : List AV} {σ : St} {l0 l1 l2 : Option AV} {x : Int32} : Rn (d) Q (40, 32, [l0, l1, l2], vI x :: st, σ) = Rn (d) Q (40, 33, [l0, l1, l2], vI x.toInt16.toInt32 :: st, σ) := E_i2s i40_32
theorem e40_33 {d : Nat} {Q : Option AV → St → Prop} {st : List AV} {σ : St} {l0 l1 l2 : Option AV} {i : Nat} {j x : Int32} : Rn (d) Q (40, 33, [l0, l1, l2], vI x :: vI j :: vR (some (6, 3, i)) :: st, σ) = (∃ n, gL σ 6 2 i = some n ∧ i < gN σ 6 ∧ (0 ≤ j.toInt ∧ j.toInt < n) ∧ Rn (d) Q (40, 34, [l0, l1, l2], st, setA σ 6 2 i (upd (gA σ 6 2 i) j.toNatClampNeg x))) := E_iastore1 i40_33 rfl (by decide)
theorem e40_34 {d : Nat} {Q : Option AV → St → Prop} {st : List AV} {σ : St} {l0 l1 l2 : Option AV} : Rn (d) Q (40, 34, [l0, l1, l2], st, σ) = Rn (d) Q (40, 44, [l0, l1, l2], st, σ) := E_goto 44 i40_34 (by decide)
theorem e40_37 {d : Nat} {Q : Option AV → St → Prop} {st : List AV} {σ : St} {l1 l2 : Option AV} {x : Option (Nat × Nat × Nat)} : Rn (d) Q (40, 37, [some (vR x), l1, l2], st, σ) = Rn (d) Q (40, 38, [some (vR x), l1, l2], vR x :: st, σ) := E_aload_n i40_37 rfl
theorem e40_38 {d : Nat} {Q : Option AV → St → Prop} {st : List AV} {σ : St} {l0 l1 l2 : Option AV} {i : Nat} : Rn (d) Q (40, 38, [l0, l1, l2], vR (some (6, 0, i)) :: st, σ) = (i < gN σ 6 ∧ ¬ gL σ 6 2 i = none ∧ Rn (d) Q (40, 41, [l0, l1, l2], vR (some (6, 3, i)) :: st, σ)) := E_getA i40_38 ((congrArg (fun z => fldQ z 18) o40).trans f6_18) (Or.inl rfl)
theorem e40_41 {d : Nat} {Q : Option AV → St → Prop} {st : List AV} {σ : St} {l0 l2 : Option AV} {x : Int32} : Rn (d) Q (40, 41, [l0, some (vI x), l2], st, σ) = Rn (d) Q (40, 42, [l0, some (vI x), l2], vI x :: st, σ) := E_iload_n i40_41 rfl
theorem e40_42 {d : Nat} {Q : Option AV → St → Prop} {st : List AV} {σ : St} {l0 l1 : Option AV} {x : Int32} : Rn (d) Q (40, 42, [l0, l1, some (vI x)], st, σ) = Rn (d) Q (40, 43, [l0, l1, some (vI x)], vI x :: st, σ) := E_iload_n i40_42 rfl
theorem e40_43 {d : Nat} {Q : Option AV → St → Prop} {st : List AV} {σ : St} {l0 l1 l2 : Option AV} {i : Nat} {j x : Int32} : Rn (d) Q (40, 43, [l0, l1, l2], vI x :: vI j :: vR (some (6, 3, i)) :: st, σ) = (∃ n, gL σ 6 2 i = some n ∧ i < gN σ 6 ∧ (0 ≤ j.toInt ∧ j.toInt < n) ∧ Rn (d) Q (40, 44, [l0, l1, l2], st, setA σ 6 2 i (upd (gA σ 6 2 i) j.toNatClampNeg x))) := E_iastore1 i40_43 rfl (by decide)
theorem e40_44 {d : Nat} {Q : Option AV → St → Prop} {σ : St} {l0 l1 l2 : Option AV} : Rn (d) Q (40, 44, [l0, l1, l2], [], σ) = Q none σ := E_ret (st := []) i40_44 r40
theorem i41_0 : ins 41 0 = some (.aload_n 0, 1) := (congrArg (fun x : PTy => x.1.lookup 0) q41).trans rfl
theorem i41_1 : ins 41 1 = some (.invokespecial 3, 3) := (congrArg (fun x : PTy => x.1.lookup 1) q41).trans rfl
theorem i41_4 : ins 41 4 = some (.aload_n 0, 1) := (congrArg (fun x : PTy => x.1.lookup 4) q41).trans rfl
theorem i41_5 : ins 41 5 = some (.bipush 120, 2) := (congrArg (fun x : PTy => x.1.lookup 5) q41).trans rfl
theorem i41_7 : ins 41 7 = some (.newarray .byte, 2) := (congrArg (fun x : PTy => x.1.lookup 7) q41).trans rfl
theorem i41_9 : ins 41 9 = some (.putfield 11, 3) := (congrArg (fun x : PTy => x.1.lookup 9) q41).trans rfl
theorem i41_12 : ins 41 12 = some (.aload_n 0, 1) := (congrArg (fun x : PTy => x.1.lookup 12) q41).trans rfl
theorem i41_13 : ins 41 13 = some (.iconst 0, 1) := (congrArg (fun x : PTy => x.1.lookup 13) q41).trans rfl
theorem i41_14 : ins 41 14 = some (.putfield 15, 3) := (congrArg (fun x : PTy => x.1.lookup 14) q41).trans rfl
theorem i41_17 : ins 41 17 = some (.aload_n 0, 1) := (congrArg (fun x : PTy => x.1.lookup 17) q41).trans rfl
theorem i41_18 : ins 41 18 = some (.iconst 0, 1) := (congrArg (fun x : PTy => x.1.lookup 18) q41).trans rfl
theorem i41_19 : ins 41 19 = some (.putfield 19, 3) := (congrArg (fun x : PTy => x.1.lookup 19) q41).trans rfl
theorem i41_22 : ins 41 22 = some (.return_, 1) := (congrArg (fun x : PTy => x.1.lookup 22) q41).trans rfl
theorem e41_0 {d : Nat} {Q : Option AV → St → Prop} {st : List AV} {σ : St}  {x : Option (Nat × Nat × Nat)} : Rn (d) Q (41, 0, [some (vR x)], st, σ) = Rn (d) Q (41, 1, [some (vR x)], vR x :: st, σ) := E_aload_n i41_0 rfl
theorem e41_1 {d : Nat} {Q : Option AV → St → Prop} {st : List AV} {σ : St} {l0 : Option AV} {x : Nat × Nat × Nat} : Rn (d) Q (41, 1, [l0], vR (some x) :: st, σ) = (catS st ≤ 8 ∧ Rn (d) Q (41, 4, [l0], st, σ)) := E_objInit i41_1 ((congrArg (fun z => mthQ z 3) o41).trans m7_3)
theorem e41_4 {d : Nat} {Q : Option AV → St → Prop} {st : List AV} {σ : St}  {x : Option (Nat × Nat × Nat)} : Rn (d) Q (41, 4, [some (vR x)], st, σ) = Rn (d) Q (41, 5, [some (vR x)], vR x :: st, σ) := E_aload_n i41_4 rfl
theorem e41_5 {d : Nat} {Q : Option AV → St → Prop} {st : List AV} {σ : St} {l0 : Option AV} : Rn (d) Q (41, 5, [l0], st, σ) = Rn (d) Q (41, 7, [l0], vI 120 :: st, σ) := by rw [E_bipush i41_5, cb_120]
theorem e41_7 {d : Nat} {Q : Option AV → St → Prop} {st : List AV} {σ : St} {l0 : Option AV} {i : Nat} : Rn (d) Q (41, 7, [l0], vI 120 :: vR (some (7, 0, i)) :: st, σ) = (i < gN σ 7 ∧ gL σ 7 0 i = none ∧ Rn (d) Q (41, 12, [l0], st, newA σ 7 0 i 120)) := by rw [E_newarray i41_7 i41_9 ((congrArg (fun z => fldQ z 11) o41).trans f7_11) ⟨rfl, rfl⟩ (by decide) (Or.inr ⟨n41, o41⟩) (by decide +kernel), show (120 : Int32).toNatClampNeg = 120 by decide +kernel]
theorem e41_12 {d : Nat} {Q : Option AV → St → Prop} {st : List AV} {σ : St}  {x : Option (Nat × Nat × Nat)} : Rn (d) Q (41, 12, [some (vR x)], st, σ) = Rn (d) Q (41, 13, [some (vR x)], vR x :: st, σ) := E_aload_n i41_12 rfl
theorem e41_13 {d : Nat} {Q : Option AV → St → Prop} {st : List AV} {σ : St} {l0 : Option AV} : Rn (d) Q (41, 13, [l0], st, σ) = Rn (d) Q (41, 14, [l0], vI 0 :: st, σ) := by rw [E_iconst i41_13, ci_0]
theorem e41_14 {d : Nat} {Q : Option AV → St → Prop} {st : List AV} {σ : St} {l0 : Option AV} {i : Nat} {x : Int32} : Rn (d) Q (41, 14, [l0], vI x :: vR (some (7, 0, i)) :: st, σ) = (i < gN σ 7 ∧ Rn (d) Q (41, 17, [l0], st, setI σ 7 1 i x)) := E_putI i41_14 ((congrArg (fun z => fldQ z 15) o41).trans f7_15) rfl (Or.inl rfl)
theorem e41_17 {d : Nat} {Q : Option AV → St → Prop} {st : List AV} {σ : St}  {x : Option (Nat × Nat × Nat)} : Rn (d) Q (41, 17, [some (vR x)], st, σ) = Rn (d) Q (41, 18, [some (vR x)], vR x :: st, σ) := E_aload_n i41_17 rfl
theorem e41_18 {d : Nat} {Q : Option AV → St → Prop} {st : List AV} {σ : St} {l0 : Option AV} : Rn (d) Q (41, 18, [l0], st, σ) = Rn (d) Q (41, 19, [l0], vI 0 :: st, σ) := by rw [E_iconst i41_18, ci_0]
theorem e41_19 {d : Nat} {Q : Option AV → St → Prop} {st : List AV} {σ : St} {l0 : Option AV} {i : Nat} {x : Int32} : Rn (d) Q (41, 19, [l0], vI x :: vR (some (7, 0, i)) :: st, σ) = (i < gN σ 7 ∧ Rn (d) Q (41, 22, [l0], st, setI σ 7 2 i x)) := E_putI i41_19 ((congrArg (fun z => fldQ z 19) o41).trans f7_19) rfl (Or.inl rfl)
theorem e41_22 {d : Nat} {Q : Option AV → St → Prop} {σ : St} {l0 : Option AV} : Rn (d) Q (41, 22, [l0], [], σ) = Q none σ := E_ret (st := []) i41_22 r41
theorem i42_0 : ins 42 0 = some (.aload_n 0, 1) := (congrArg (fun x : PTy => x.1.lookup 0) q42).trans rfl
theorem i42_1 : ins 42 1 = some (.getfield 15, 3) := (congrArg (fun x : PTy => x.1.lookup 1) q42).trans rfl
theorem i42_4 : ins 42 4 = some (.bipush 120, 2) := (congrArg (fun x : PTy => x.1.lookup 4) q42).trans rfl
theorem i42_6 : ins 42 6 = some (.if_icmp .ge 24, 3) := (congrArg (fun x : PTy => x.1.lookup 6) q42).trans rfl
theorem i42_9 : ins 42 9 = some (.aload_n 0, 1) := (congrArg (fun x : PTy => x.1.lookup 9) q42).trans rfl
theorem i42_10 : ins 42 10 = some (.getfield 11, 3) := (congrArg (fun x : PTy => x.1.lookup 10) q42).trans rfl
theorem i42_13 : ins 42 13 = some (.aload_n 0, 1) := (congrArg (fun x : PTy => x.1.lookup 13) q42).trans rfl
theorem i42_14 : ins 42 14 = some (.getfield 15, 3) := (congrArg (fun x : PTy => x.1.lookup 14) q42).trans rfl
theorem i42_17 : ins 42 17 = some (.iload_n 1, 1) := (congrArg (fun x : PTy => x.1.lookup 17) q42).trans rfl
theorem i42_18 : ins 42 18 = some (.i2b, 1) := (congrArg (fun x : PTy => x.1.lookup 18) q42).trans rfl
theorem i42_19 : ins 42 19 = some (.bastore, 1) := (congrArg (fun x : PTy => x.1.lookup 19) q42).trans rfl
theorem i42_20 : ins 42 20 = some (.aload_n 0, 1) := (congrArg (fun x : PTy => x.1.lookup 20) q42).trans rfl
theorem i42_21 : ins 42 21 = some (.dup, 1) := (congrArg (fun x : PTy => x.1.lookup 21) q42).trans rfl
theorem i42_22 : ins 42 22 = some (.getfield 15, 3) := (congrArg (fun x : PTy => x.1.lookup 22) q42).trans rfl
theorem i42_25 : ins 42 25 = some (.iconst 1, 1) := (congrArg (fun x : PTy => x.1.lookup 25) q42).trans rfl
theorem i42_26 : ins 42 26 = some (.iadd, 1) := (congrArg (fun x : PTy => x.1.lookup 26) q42).trans rfl
theorem i42_27 : ins 42 27 = some (.putfield 15, 3) := (congrArg (fun x : PTy => x.1.lookup 27) q42).trans rfl
theorem i42_30 : ins 42 30 = some (.return_, 1) := (congrArg (fun x : PTy => x.1.lookup 30) q42).trans rfl
theorem e42_0 {d : Nat} {Q : Option AV → St → Prop} {st : List AV} {σ : St} {l1 : Option AV} {x : Option (Nat × Nat × Nat)} : Rn (d) Q (42, 0, [some (vR x), l1], st, σ) = Rn (d) Q (42, 1, [some (vR x), l1], vR x :: st, σ) := E_aload_n i42_0 rfl
theorem e42_1 {d : Nat} {Q : Option AV → St → Prop} {st : List AV} {σ : St} {l0 l1 : Option AV} {i : Nat} : Rn (d) Q (42, 1, [l0, l1], vR (some (7, 0, i)) :: st, σ) = (i < gN σ 7 ∧ Rn (d) Q (42, 4, [l0, l1], vI (gI σ 7 1 i) :: st, σ)) := E_getI i42_1 ((congrArg (fun z => fldQ z 15) o42).trans f7_15) rfl
theorem e42_4 {d : Nat} {Q : Option AV → St → Prop} {st : List AV} {σ : St} {l0 l1 : Option AV} : Rn (d) Q (42, 4, [l0, l1], st, σ) = Rn (d) Q (42, 6, [l0, l1], vI 120 :: st, σ) := by rw [E_bipush i42_4, cb_120]
theorem e42_6 {d : Nat} {Q : Option AV → St → Prop} {st : List AV} {σ : St} {l0 l1 : Option AV} {x y : Int32} : Rn (d) Q (42, 6, [l0, l1], vI y :: vI x :: st, σ) = (if y ≤ x then Rn (d) Q (42, 30, [l0, l1], st, σ) else Rn (d) Q (42, 9, [l0, l1], st, σ)) := E_icmp_ge 30 i42_6 (by decide)
theorem e42_9 {d : Nat} {Q : Option AV → St → Prop} {st : List AV} {σ : St} {l1 : Option AV} {x : Option (Nat × Nat × Nat)} : Rn (d) Q (42, 9, [some (vR x), l1], st, σ) = Rn (d) Q (42, 10, [some (vR x), l1], vR x :: st, σ) := E_aload_n i42_9 rfl
theorem e42_10 {d : Nat} {Q : Option AV → St → Prop} {st : List AV} {σ : St} {l0 l1 : Option AV} {i : Nat} : Rn (d) Q (42, 10, [l0, l1], vR (some (7, 0, i)) :: st, σ) = (i < gN σ 7 ∧ ¬ gL σ 7 0 i = none ∧ Rn (d) Q (42, 13, [l0, l1], vR (some (7, 1, i)) :: st, σ)) := E_getA i42_10 ((congrArg (fun z => fldQ z 11) o42).trans f7_11) (Or.inl rfl)
theorem e42_13 {d : Nat} {Q : Option AV → St → Prop} {st : List AV} {σ : St} {l1 : Option AV} {x : Option (Nat × Nat × Nat)} : Rn (d) Q (42, 13, [some (vR x), l1], st, σ) = Rn (d) Q (42, 14, [some (vR x), l1], vR x :: st, σ) := E_aload_n i42_13 rfl
theorem e42_14 {d : Nat} {Q : Option AV → St → Prop} {st : List AV} {σ : St} {l0 l1 : Option AV} {i : Nat} : Rn (d) Q (42, 14, [l0, l1], vR (some (7, 0, i)) :: st, σ) = (i < gN σ 7 ∧ Rn (d) Q (42, 17, [l0, l1], vI (gI σ 7 1 i) :: st, σ)) := E_getI i42_14 ((congrArg (fun z => fldQ z 15) o42).trans f7_15) rfl
theorem e42_17 {d : Nat} {Q : Option AV → St → Prop} {st : List AV} {σ : St} {l0 : Option AV} {x : Int32} : Rn (d) Q (42, 17, [l0, some (vI x)], st, σ) = Rn (d) Q (42, 18, [l0, some (vI x)], vI x :: st, σ) := E_iload_n i42_17 rfl
theorem e42_18 {d : Nat} {Q : Option AV → St → Prop} {st : List AV} {σ : St} {l0 l1 : Option AV} {x : Int32} : Rn (d) Q (42, 18, [l0, l1], vI x :: st, σ) = Rn (d) Q (42, 19, [l0, l1], vI x.toInt8.toInt32 :: st, σ) := E_i2b i42_18
theorem e42_19 {d : Nat} {Q : Option AV → St → Prop} {st : List AV} {σ : St} {l0 l1 : Option AV} {i : Nat} {j x : Int32} : Rn (d) Q (42, 19, [l0, l1], vI x :: vI j :: vR (some (7, 1, i)) :: st, σ) = (∃ n, gL σ 7 0 i = some n ∧ i < gN σ 7 ∧ (0 ≤ j.toInt ∧ j.toInt < n) ∧ Rn (d) Q (42, 20, [l0, l1], st, setA σ 7 0 i (upd (gA σ 7 0 i) j.toNatClampNeg x.toInt8.toInt32))) := E_bastore0 i42_19 rfl (by decide)
theorem e42_20 {d : Nat} {Q : Option AV → St → Prop} {st : List AV} {σ : St} {l1 : Option AV} {x : Option (Nat × Nat × Nat)} : Rn (d) Q (42, 20, [some (vR x), l1], st, σ) = Rn (d) Q (42, 21, [some (vR x), l1], vR x :: st, σ) := E_aload_n i42_20 rfl
theorem e42_21 {d : Nat} {Q : Option AV → St → Prop} {st : List AV} {σ : St} {l0 l1 : Option AV} {x : Option (Nat × Nat × Nat)} : Rn (d) Q (42, 21, [l0, l1], vR x :: st, σ) = Rn (d) Q (42, 22, [l0, l1], vR x :: vR x :: st, σ) := E_dupR i42_21
theorem e42_22 {d : Nat} {Q : Option AV → St → Prop} {st : List AV} {σ : St} {l0 l1 : Option AV} {i : Nat} : Rn (d) Q (42, 22, [l0, l1], vR (some (7, 0, i)) :: st, σ) = (i < gN σ 7 ∧ Rn (d) Q (42, 25, [l0, l1], vI (gI σ 7 1 i) :: st, σ)) := E_getI i42_22 ((congrArg (fun z => fldQ z 15) o42).trans f7_15) rfl
theorem e42_25 {d : Nat} {Q : Option AV → St → Prop} {st : List AV} {σ : St} {l0 l1 : Option AV} : Rn (d) Q (42, 25, [l0, l1], st, σ) = Rn (d) Q (42, 26, [l0, l1], vI 1 :: st, σ) := by rw [E_iconst i42_25, ci_1]
theorem e42_26 {d : Nat} {Q : Option AV → St → Prop} {st : List AV} {σ : St} {l0 l1 : Option AV} {x y : Int32} : Rn (d) Q (42, 26, [l0, l1], vI y :: vI x :: st, σ) = Rn (d) Q (42, 27, [l0, l1], vI (x + y) :: st, σ) := E_iadd i42_26
theorem e42_27 {d : Nat} {Q : Option AV → St → Prop} {st : List AV} {σ : St} {l0 l1 : Option AV} {i : Nat} {x : Int32} : Rn (d) Q (42, 27, [l0, l1], vI x :: vR (some (7, 0, i)) :: st, σ) = (i < gN σ 7 ∧ Rn (d) Q (42, 30, [l0, l1], st, setI σ 7 1 i x)) := E_putI i42_27 ((congrArg (fun z => fldQ z 15) o42).trans f7_15) rfl (Or.inl rfl)
theorem e42_30 {d : Nat} {Q : Option AV → St → Prop} {σ : St} {l0 l1 : Option AV} : Rn (d) Q (42, 30, [l0, l1], [], σ) = Q none σ := E_ret (st := []) i42_30 r42
theorem i43_0 : ins 43 0 = some (.iconst 0, 1) := (congrArg (fun x : PTy => x.1.lookup 0) q43).trans rfl
theorem i43_1 : ins 43 1 = some (.istore_n 1, 1) := (congrArg (fun x : PTy => x.1.lookup 1) q43).trans rfl
theorem i43_2 : ins 43 2 = some (.iload_n 1, 1) := (congrArg (fun x : PTy => x.1.lookup 2) q43).trans rfl
theorem i43_3 : ins 43 3 = some (.bipush 120, 2) := (congrArg (fun x : PTy => x.1.lookup 3) q43).trans rfl
theorem i43_5 : ins 43 5 = some (.if_icmp .ge 44, 3) := (congrArg (fun x : PTy => x.1.lookup 5) q43).trans rfl
theorem i43_8 : ins 43 8 = some (.aload_n 0, 1) := (congrArg (fun x : PTy => x.1.lookup 8) q43).trans rfl
theorem i43_9 : ins 43 9 = some (.getfield 19, 3) := (congrArg (fun x : PTy => x.1.lookup 9) q43).trans rfl
theorem i43_12 : ins 43 12 = some (.aload_n 0, 1) := (congrArg (fun x : PTy => x.1.lookup 12) q43).trans rfl
theorem i43_13 : ins 43 13 = some (.getfield 15, 3) := (congrArg (fun x : PTy => x.1.lookup 13) q43).trans rfl
theorem i43_16 : ins 43 16 = some (.if_icmp .ge 33, 3) := (congrArg (fun x : PTy => x.1.lookup 16) q43).trans rfl
theorem i43_19 : ins 43 19 = some (.aload_n 0, 1) := (congrArg (fun x : PTy => x.1.lookup 19) q43).trans rfl
theorem i43_20 : ins 43 20 = some (.getfield 11, 3) := (congrArg (fun x : PTy => x.1.lookup 20) q43).trans rfl
theorem i43_23 : ins 43 23 = some (.aload_n 0, 1) := (congrArg (fun x : PTy => x.1.lookup 23) q43).trans rfl
theorem i43_24 : ins 43 24 = some (.getfield 19, 3) := (congrArg (fun x : PTy => x.1.lookup 24) q43).trans rfl
theorem i43_27 : ins 43 27 = some (.baload, 1) := (congrArg (fun x : PTy => x.1.lookup 27) q43).trans rfl
theorem i43_28 : ins 43 28 = some (.bipush 32, 2) := (congrArg (fun x : PTy => x.1.lookup 28) q43).trans rfl
theorem i43_30 : ins 43 30 = some (.if_icmp .ne 19, 3) := (congrArg (fun x : PTy => x.1.lookup 30) q43).trans rfl
theorem i43_33 : ins 43 33 = some (.aload_n 0, 1) := (congrArg (fun x : PTy => x.1.lookup 33) q43).trans rfl
theorem i43_34 : ins 43 34 = some (.dup, 1) := (congrArg (fun x : PTy => x.1.lookup 34) q43).trans rfl
theorem i43_35 : ins 43 35 = some (.getfield 19, 3) := (congrArg (fun x : PTy => x.1.lookup 35) q43).trans rfl
theorem i43_38 : ins 43 38 = some (.iconst 1, 1) := (congrArg (fun x : PTy => x.1.lookup 38) q43).trans rfl
theorem i43_39 : ins 43 39 = some (.iadd, 1) := (congrArg (fun x : PTy => x.1.lookup 39) q43).trans rfl
theorem i43_40 : ins 43 40 = some (.putfield 19, 3) := (congrArg (fun x : PTy => x.1.lookup 40) q43).trans rfl
theorem i43_43 : ins 43 43 = some (.iinc 1 1, 3) := (congrArg (fun x : PTy => x.1.lookup 43) q43).trans rfl
theorem i43_46 : ins 43 46 = some (.goto (-44), 3) := (congrArg (fun x : PTy => x.1.lookup 46) q43).trans rfl
theorem i43_49 : ins 43 49 = some (.aload_n 0, 1) := (congrArg (fun x : PTy => x.1.lookup 49) q43).trans rfl
theorem i43_50 : ins 43 50 = some (.getfield 19, 3) := (congrArg (fun x : PTy => x.1.lookup 50) q43).trans rfl
theorem i43_53 : ins 43 53 = some (.aload_n 0, 1) := (congrArg (fun x : PTy => x.1.lookup 53) q43).trans rfl
theorem i43_54 : ins 43 54 = some (.getfield 15, 3) := (congrArg (fun x : PTy => x.1.lookup 54) q43).trans rfl
theorem i43_57 : ins 43 57 = some (.if_icmp .ge 15, 3) := (congrArg (fun x : PTy => x.1.lookup 57) q43).trans rfl
theorem i43_60 : ins 43 60 = some (.aload_n 0, 1) := (congrArg (fun x : PTy => x.1.lookup 60) q43).trans rfl
theorem i43_61 : ins 43 61 = some (.getfield 11, 3) := (congrArg (fun x : PTy => x.1.lookup 61) q43).trans rfl
theorem i43_64 : ins 43 64 = some (.aload_n 0, 1) := (congrArg (fun x : PTy => x.1.lookup 64) q43).trans rfl
theorem i43_65 : ins 43 65 = some (.getfield 19, 3) := (congrArg (fun x : PTy => x.1.lookup 65) q43).trans rfl
theorem i43_68 : ins 43 68 = some (.baload, 1) := (congrArg (fun x : PTy => x.1.lookup 68) q43).trans rfl
theorem i43_69 : ins 43 69 = some (.goto 4, 3) := (congrArg (fun x : PTy => x.1.lookup 69) q43).trans rfl
theorem i43_72 : ins 43 72 = some (.iconst (-1), 1) := (congrArg (fun x : PTy => x.1.lookup 72) q43).trans rfl
theorem i43_73 : ins 43 73 = some (.ireturn, 1) := (congrArg (fun x : PTy => x.1.lookup 73) q43).trans rfl
theorem e43_0 {d : Nat} {Q : Option AV → St → Prop} {st : List AV} {σ : St} {l0 l1 : Option AV} : Rn (d) Q (43, 0, [l0, l1], st, σ) = Rn (d) Q (43, 1, [l0, l1], vI 0 :: st, σ) := by rw [E_iconst i43_0, ci_0]
theorem s43_1 : okst 43 1 = true := by unfold okst; rw [x43]; rfl
theorem e43_1 {d : Nat} {Q : Option AV → St → Prop} {st : List AV} {σ : St} {l0 l1 : Option AV} {x : Int32} : Rn (d) Q (43, 1, [l0, l1], vI x :: st, σ) = Rn (d) Q (43, 2, [l0, some (vI x)], st, σ) := E_istore_n i43_1 s43_1
theorem e43_2 {d : Nat} {Q : Option AV → St → Prop} {st : List AV} {σ : St} {l0 : Option AV} {x : Int32} : Rn (d) Q (43, 2, [l0, some (vI x)], st, σ) = Rn (d) Q (43, 3, [l0, some (vI x)], vI x :: st, σ) := E_iload_n i43_2 rfl
theorem e43_3 {d : Nat} {Q : Option AV → St → Prop} {st : List AV} {σ : St} {l0 l1 : Option AV} : Rn (d) Q (43, 3, [l0, l1], st, σ) = Rn (d) Q (43, 5, [l0, l1], vI 120 :: st, σ) := by rw [E_bipush i43_3, cb_120]
theorem e43_5 {d : Nat} {Q : Option AV → St → Prop} {st : List AV} {σ : St} {l0 l1 : Option AV} {x y : Int32} : Rn (d) Q (43, 5, [l0, l1], vI y :: vI x :: st, σ) = (if y ≤ x then Rn (d) Q (43, 49, [l0, l1], st, σ) else Rn (d) Q (43, 8, [l0, l1], st, σ)) := E_icmp_ge 49 i43_5 (by decide)
theorem e43_8 {d : Nat} {Q : Option AV → St → Prop} {st : List AV} {σ : St} {l1 : Option AV} {x : Option (Nat × Nat × Nat)} : Rn (d) Q (43, 8, [some (vR x), l1], st, σ) = Rn (d) Q (43, 9, [some (vR x), l1], vR x :: st, σ) := E_aload_n i43_8 rfl
theorem e43_9 {d : Nat} {Q : Option AV → St → Prop} {st : List AV} {σ : St} {l0 l1 : Option AV} {i : Nat} : Rn (d) Q (43, 9, [l0, l1], vR (some (7, 0, i)) :: st, σ) = (i < gN σ 7 ∧ Rn (d) Q (43, 12, [l0, l1], vI (gI σ 7 2 i) :: st, σ)) := E_getI i43_9 ((congrArg (fun z => fldQ z 19) o43).trans f7_19) rfl
theorem e43_12 {d : Nat} {Q : Option AV → St → Prop} {st : List AV} {σ : St} {l1 : Option AV} {x : Option (Nat × Nat × Nat)} : Rn (d) Q (43, 12, [some (vR x), l1], st, σ) = Rn (d) Q (43, 13, [some (vR x), l1], vR x :: st, σ) := E_aload_n i43_12 rfl
theorem e43_13 {d : Nat} {Q : Option AV → St → Prop} {st : List AV} {σ : St} {l0 l1 : Option AV} {i : Nat} : Rn (d) Q (43, 13, [l0, l1], vR (some (7, 0, i)) :: st, σ) = (i < gN σ 7 ∧ Rn (d) Q (43, 16, [l0, l1], vI (gI σ 7 1 i) :: st, σ)) := E_getI i43_13 ((congrArg (fun z => fldQ z 15) o43).trans f7_15) rfl
theorem e43_16 {d : Nat} {Q : Option AV → St → Prop} {st : List AV} {σ : St} {l0 l1 : Option AV} {x y : Int32} : Rn (d) Q (43, 16, [l0, l1], vI y :: vI x :: st, σ) = (if y ≤ x then Rn (d) Q (43, 49, [l0, l1], st, σ) else Rn (d) Q (43, 19, [l0, l1], st, σ)) := E_icmp_ge 49 i43_16 (by decide)
theorem e43_19 {d : Nat} {Q : Option AV → St → Prop} {st : List AV} {σ : St} {l1 : Option AV} {x : Option (Nat × Nat × Nat)} : Rn (d) Q (43, 19, [some (vR x), l1], st, σ) = Rn (d) Q (43, 20, [some (vR x), l1], vR x :: st, σ) := E_aload_n i43_19 rfl
theorem e43_20 {d : Nat} {Q : Option AV → St → Prop} {st : List AV} {σ : St} {l0 l1 : Option AV} {i : Nat} : Rn (d) Q (43, 20, [l0, l1], vR (some (7, 0, i)) :: st, σ) = (i < gN σ 7 ∧ ¬ gL σ 7 0 i = none ∧ Rn (d) Q (43, 23, [l0, l1], vR (some (7, 1, i)) :: st, σ)) := E_getA i43_20 ((congrArg (fun z => fldQ z 11) o43).trans f7_11) (Or.inl rfl)
theorem e43_23 {d : Nat} {Q : Option AV → St → Prop} {st : List AV} {σ : St} {l1 : Option AV} {x : Option (Nat × Nat × Nat)} : Rn (d) Q (43, 23, [some (vR x), l1], st, σ) = Rn (d) Q (43, 24, [some (vR x), l1], vR x :: st, σ) := E_aload_n i43_23 rfl
theorem e43_24 {d : Nat} {Q : Option AV → St → Prop} {st : List AV} {σ : St} {l0 l1 : Option AV} {i : Nat} : Rn (d) Q (43, 24, [l0, l1], vR (some (7, 0, i)) :: st, σ) = (i < gN σ 7 ∧ Rn (d) Q (43, 27, [l0, l1], vI (gI σ 7 2 i) :: st, σ)) := E_getI i43_24 ((congrArg (fun z => fldQ z 19) o43).trans f7_19) rfl
theorem e43_27 {d : Nat} {Q : Option AV → St → Prop} {st : List AV} {σ : St} {l0 l1 : Option AV} {i : Nat} {j : Int32} : Rn (d) Q (43, 27, [l0, l1], vI j :: vR (some (7, 1, i)) :: st, σ) = (∃ n, gL σ 7 0 i = some n ∧ i < gN σ 7 ∧ (0 ≤ j.toInt ∧ j.toInt < n) ∧ Rn (d) Q (43, 28, [l0, l1], vI (gA σ 7 0 i j.toNatClampNeg) :: st, σ)) := E_baload0 i43_27 rfl
theorem e43_28 {d : Nat} {Q : Option AV → St → Prop} {st : List AV} {σ : St} {l0 l1 : Option AV} : Rn (d) Q (43, 28, [l0, l1], st, σ) = Rn (d) Q (43, 30, [l0, l1], vI 32 :: st, σ) := by rw [E_bipush i43_28, cb_32]
theorem e43_30 {d : Nat} {Q : Option AV → St → Prop} {st : List AV} {σ : St} {l0 l1 : Option AV} {x y : Int32} : Rn (d) Q (43, 30, [l0, l1], vI y :: vI x :: st, σ) = (if x = y then Rn (d) Q (43, 33, [l0, l1], st, σ) else Rn (d) Q (43, 49, [l0, l1], st, σ)) := E_icmp_ne 49 i43_30 (by decide)
theorem e43_33 {d : Nat} {Q : Option AV → St → Prop} {st : List AV} {σ : St} {l1 : Option AV} {x : Option (Nat × Nat × Nat)} : Rn (d) Q (43, 33, [some (vR x), l1], st, σ) = Rn (d) Q (43, 34, [some (vR x), l1], vR x :: st, σ) := E_aload_n i43_33 rfl
theorem e43_34 {d : Nat} {Q : Option AV → St → Prop} {st : List AV} {σ : St} {l0 l1 : Option AV} {x : Option (Nat × Nat × Nat)} : Rn (d) Q (43, 34, [l0, l1], vR x :: st, σ) = Rn (d) Q (43, 35, [l0, l1], vR x :: vR x :: st, σ) := E_dupR i43_34
theorem e43_35 {d : Nat} {Q : Option AV → St → Prop} {st : List AV} {σ : St} {l0 l1 : Option AV} {i : Nat} : Rn (d) Q (43, 35, [l0, l1], vR (some (7, 0, i)) :: st, σ) = (i < gN σ 7 ∧ Rn (d) Q (43, 38, [l0, l1], vI (gI σ 7 2 i) :: st, σ)) := E_getI i43_35 ((congrArg (fun z => fldQ z 19) o43).trans f7_19) rfl
theorem e43_38 {d : Nat} {Q : Option AV → St → Prop} {st : List AV} {σ : St} {l0 l1 : Option AV} : Rn (d) Q (43, 38, [l0, l1], st, σ) = Rn (d) Q (43, 39, [l0, l1], vI 1 :: st, σ) := by rw [E_iconst i43_38, ci_1]
theorem e43_39 {d : Nat} {Q : Option AV → St → Prop} {st : List AV} {σ : St} {l0 l1 : Option AV} {x y : Int32} : Rn (d) Q (43, 39, [l0, l1], vI y :: vI x :: st, σ) = Rn (d) Q (43, 40, [l0, l1], vI (x + y) :: st, σ) := E_iadd i43_39
theorem e43_40 {d : Nat} {Q : Option AV → St → Prop} {st : List AV} {σ : St} {l0 l1 : Option AV} {i : Nat} {x : Int32} : Rn (d) Q (43, 40, [l0, l1], vI x :: vR (some (7, 0, i)) :: st, σ) = (i < gN σ 7 ∧ Rn (d) Q (43, 43, [l0, l1], st, setI σ 7 2 i x)) := E_putI i43_40 ((congrArg (fun z => fldQ z 19) o43).trans f7_19) rfl (Or.inl rfl)
theorem e43_43 {d : Nat} {Q : Option AV → St → Prop} {st : List AV} {σ : St} {l0 : Option AV} {x : Int32} : Rn (d) Q (43, 43, [l0, some (vI x)], st, σ) = Rn (d) Q (43, 46, [l0, some (vI (x + 1))], st, σ) := by rw [E_iinc i43_43 rfl (by rw [x43]; decide), show Int32.ofInt 1 = (1 : Int32) by decide +kernel]; rfl
theorem e43_46 {d : Nat} {Q : Option AV → St → Prop} {st : List AV} {σ : St} {l0 l1 : Option AV} : Rn (d) Q (43, 46, [l0, l1], st, σ) = Rn (d) Q (43, 2, [l0, l1], st, σ) := E_goto 2 i43_46 (by decide)
theorem e43_49 {d : Nat} {Q : Option AV → St → Prop} {st : List AV} {σ : St} {l1 : Option AV} {x : Option (Nat × Nat × Nat)} : Rn (d) Q (43, 49, [some (vR x), l1], st, σ) = Rn (d) Q (43, 50, [some (vR x), l1], vR x :: st, σ) := E_aload_n i43_49 rfl
theorem e43_50 {d : Nat} {Q : Option AV → St → Prop} {st : List AV} {σ : St} {l0 l1 : Option AV} {i : Nat} : Rn (d) Q (43, 50, [l0, l1], vR (some (7, 0, i)) :: st, σ) = (i < gN σ 7 ∧ Rn (d) Q (43, 53, [l0, l1], vI (gI σ 7 2 i) :: st, σ)) := E_getI i43_50 ((congrArg (fun z => fldQ z 19) o43).trans f7_19) rfl
theorem e43_53 {d : Nat} {Q : Option AV → St → Prop} {st : List AV} {σ : St} {l1 : Option AV} {x : Option (Nat × Nat × Nat)} : Rn (d) Q (43, 53, [some (vR x), l1], st, σ) = Rn (d) Q (43, 54, [some (vR x), l1], vR x :: st, σ) := E_aload_n i43_53 rfl
theorem e43_54 {d : Nat} {Q : Option AV → St → Prop} {st : List AV} {σ : St} {l0 l1 : Option AV} {i : Nat} : Rn (d) Q (43, 54, [l0, l1], vR (some (7, 0, i)) :: st, σ) = (i < gN σ 7 ∧ Rn (d) Q (43, 57, [l0, l1], vI (gI σ 7 1 i) :: st, σ)) := E_getI i43_54 ((congrArg (fun z => fldQ z 15) o43).trans f7_15) rfl
theorem e43_57 {d : Nat} {Q : Option AV → St → Prop} {st : List AV} {σ : St} {l0 l1 : Option AV} {x y : Int32} : Rn (d) Q (43, 57, [l0, l1], vI y :: vI x :: st, σ) = (if y ≤ x then Rn (d) Q (43, 72, [l0, l1], st, σ) else Rn (d) Q (43, 60, [l0, l1], st, σ)) := E_icmp_ge 72 i43_57 (by decide)
theorem e43_60 {d : Nat} {Q : Option AV → St → Prop} {st : List AV} {σ : St} {l1 : Option AV} {x : Option (Nat × Nat × Nat)} : Rn (d) Q (43, 60, [some (vR x), l1], st, σ) = Rn (d) Q (43, 61, [some (vR x), l1], vR x :: st, σ) := E_aload_n i43_60 rfl
theorem e43_61 {d : Nat} {Q : Option AV → St → Prop} {st : List AV} {σ : St} {l0 l1 : Option AV} {i : Nat} : Rn (d) Q (43, 61, [l0, l1], vR (some (7, 0, i)) :: st, σ) = (i < gN σ 7 ∧ ¬ gL σ 7 0 i = none ∧ Rn (d) Q (43, 64, [l0, l1], vR (some (7, 1, i)) :: st, σ)) := E_getA i43_61 ((congrArg (fun z => fldQ z 11) o43).trans f7_11) (Or.inl rfl)
theorem e43_64 {d : Nat} {Q : Option AV → St → Prop} {st : List AV} {σ : St} {l1 : Option AV} {x : Option (Nat × Nat × Nat)} : Rn (d) Q (43, 64, [some (vR x), l1], st, σ) = Rn (d) Q (43, 65, [some (vR x), l1], vR x :: st, σ) := E_aload_n i43_64 rfl
theorem e43_65 {d : Nat} {Q : Option AV → St → Prop} {st : List AV} {σ : St} {l0 l1 : Option AV} {i : Nat} : Rn (d) Q (43, 65, [l0, l1], vR (some (7, 0, i)) :: st, σ) = (i < gN σ 7 ∧ Rn (d) Q (43, 68, [l0, l1], vI (gI σ 7 2 i) :: st, σ)) := E_getI i43_65 ((congrArg (fun z => fldQ z 19) o43).trans f7_19) rfl
theorem e43_68 {d : Nat} {Q : Option AV → St → Prop} {st : List AV} {σ : St} {l0 l1 : Option AV} {i : Nat} {j : Int32} : Rn (d) Q (43, 68, [l0, l1], vI j :: vR (some (7, 1, i)) :: st, σ) = (∃ n, gL σ 7 0 i = some n ∧ i < gN σ 7 ∧ (0 ≤ j.toInt ∧ j.toInt < n) ∧ Rn (d) Q (43, 69, [l0, l1], vI (gA σ 7 0 i j.toNatClampNeg) :: st, σ)) := E_baload0 i43_68 rfl
theorem e43_69 {d : Nat} {Q : Option AV → St → Prop} {st : List AV} {σ : St} {l0 l1 : Option AV} : Rn (d) Q (43, 69, [l0, l1], st, σ) = Rn (d) Q (43, 73, [l0, l1], st, σ) := E_goto 73 i43_69 (by decide)
theorem e43_72 {d : Nat} {Q : Option AV → St → Prop} {st : List AV} {σ : St} {l0 l1 : Option AV} : Rn (d) Q (43, 72, [l0, l1], st, σ) = Rn (d) Q (43, 73, [l0, l1], vI (-1) :: st, σ) := by rw [E_iconst i43_72, ci_m1]
theorem e43_73 {d : Nat} {Q : Option AV → St → Prop} {σ : St} {l0 l1 : Option AV} {x : Int32} : Rn (d) Q (43, 73, [l0, l1], [vI x], σ) = Q (some (vI x)) σ := E_iretI (st := []) i43_73 r43
theorem i44_0 : ins 44 0 = some (.aload_n 0, 1) := (congrArg (fun x : PTy => x.1.lookup 0) q44).trans rfl
theorem i44_1 : ins 44 1 = some (.invokevirtual 22, 3) := (congrArg (fun x : PTy => x.1.lookup 1) q44).trans rfl
theorem i44_4 : ins 44 4 = some (.iload_n 1, 1) := (congrArg (fun x : PTy => x.1.lookup 4) q44).trans rfl
theorem i44_5 : ins 44 5 = some (.if_icmp .eq 5, 3) := (congrArg (fun x : PTy => x.1.lookup 5) q44).trans rfl
theorem i44_8 : ins 44 8 = some (.iconst 0, 1) := (congrArg (fun x : PTy => x.1.lookup 8) q44).trans rfl
theorem i44_9 : ins 44 9 = some (.ireturn, 1) := (congrArg (fun x : PTy => x.1.lookup 9) q44).trans rfl
theorem i44_10 : ins 44 10 = some (.aload_n 0, 1) := (congrArg (fun x : PTy => x.1.lookup 10) q44).trans rfl
theorem i44_11 : ins 44 11 = some (.dup, 1) := (congrArg (fun x : PTy => x.1.lookup 11) q44).trans rfl
theorem i44_12 : ins 44 12 = some (.getfield 19, 3) := (congrArg (fun x : PTy => x.1.lookup 12) q44).trans rfl
theorem i44_15 : ins 44 15 = some (.iconst 1, 1) := (congrArg (fun x : PTy => x.1.lookup 15) q44).trans rfl
theorem i44_16 : ins 44 16 = some (.iadd, 1) := (congrArg (fun x : PTy => x.1.lookup 16) q44).trans rfl
theorem i44_17 : ins 44 17 = some (.putfield 19, 3) := (congrArg (fun x : PTy => x.1.lookup 17) q44).trans rfl
theorem i44_20 : ins 44 20 = some (.iconst 1, 1) := (congrArg (fun x : PTy => x.1.lookup 20) q44).trans rfl
theorem i44_21 : ins 44 21 = some (.ireturn, 1) := (congrArg (fun x : PTy => x.1.lookup 21) q44).trans rfl
theorem e44_0 {d : Nat} {Q : Option AV → St → Prop} {st : List AV} {σ : St} {l1 : Option AV} {x : Option (Nat × Nat × Nat)} : Rn (d) Q (44, 0, [some (vR x), l1], st, σ) = Rn (d) Q (44, 1, [some (vR x), l1], vR x :: st, σ) := E_aload_n i44_0 rfl
theorem e44_1 {d : Nat} {Q : Option AV → St → Prop} {st : List AV} {σ : St} {l0 l1 : Option AV} {i : Nat} : Rn (d + 1) Q (44, 1, [l0, l1], vR (some (7, 0, i)) :: st, σ) = (i < gN σ 7 ∧ catS st ≤ 8 ∧ Rn d (fun r σ' => Rn (d + 1) Q (44, 4, [l0, l1], r.toList ++ st, σ')) (43, 0, [some (vR (some (7, 0, i))), none], [], σ)) := E_invV (a := []) i44_1 ((congrArg (fun z => mthQ z 22) o44).trans m7_22) o43 rfl (ek43 i) (en43 i)
theorem e44_4 {d : Nat} {Q : Option AV → St → Prop} {st : List AV} {σ : St} {l0 : Option AV} {x : Int32} : Rn (d) Q (44, 4, [l0, some (vI x)], st, σ) = Rn (d) Q (44, 5, [l0, some (vI x)], vI x :: st, σ) := E_iload_n i44_4 rfl
theorem e44_5 {d : Nat} {Q : Option AV → St → Prop} {st : List AV} {σ : St} {l0 l1 : Option AV} {x y : Int32} : Rn (d) Q (44, 5, [l0, l1], vI y :: vI x :: st, σ) = (if x = y then Rn (d) Q (44, 10, [l0, l1], st, σ) else Rn (d) Q (44, 8, [l0, l1], st, σ)) := E_icmp_eq 10 i44_5 (by decide)
theorem e44_8 {d : Nat} {Q : Option AV → St → Prop} {st : List AV} {σ : St} {l0 l1 : Option AV} : Rn (d) Q (44, 8, [l0, l1], st, σ) = Rn (d) Q (44, 9, [l0, l1], vI 0 :: st, σ) := by rw [E_iconst i44_8, ci_0]
theorem e44_9 {d : Nat} {Q : Option AV → St → Prop} {σ : St} {l0 l1 : Option AV} {x : Int32} : Rn (d) Q (44, 9, [l0, l1], [vI x], σ) = ((x = 0 ∨ x = 1) ∧ Q (some (vI x)) σ) := E_iretZ (st := []) i44_9 r44
theorem e44_10 {d : Nat} {Q : Option AV → St → Prop} {st : List AV} {σ : St} {l1 : Option AV} {x : Option (Nat × Nat × Nat)} : Rn (d) Q (44, 10, [some (vR x), l1], st, σ) = Rn (d) Q (44, 11, [some (vR x), l1], vR x :: st, σ) := E_aload_n i44_10 rfl
theorem e44_11 {d : Nat} {Q : Option AV → St → Prop} {st : List AV} {σ : St} {l0 l1 : Option AV} {x : Option (Nat × Nat × Nat)} : Rn (d) Q (44, 11, [l0, l1], vR x :: st, σ) = Rn (d) Q (44, 12, [l0, l1], vR x :: vR x :: st, σ) := E_dupR i44_11
theorem e44_12 {d : Nat} {Q : Option AV → St → Prop} {st : List AV} {σ : St} {l0 l1 : Option AV} {i : Nat} : Rn (d) Q (44, 12, [l0, l1], vR (some (7, 0, i)) :: st, σ) = (i < gN σ 7 ∧ Rn (d) Q (44, 15, [l0, l1], vI (gI σ 7 2 i) :: st, σ)) := E_getI i44_12 ((congrArg (fun z => fldQ z 19) o44).trans f7_19) rfl
theorem e44_15 {d : Nat} {Q : Option AV → St → Prop} {st : List AV} {σ : St} {l0 l1 : Option AV} : Rn (d) Q (44, 15, [l0, l1], st, σ) = Rn (d) Q (44, 16, [l0, l1], vI 1 :: st, σ) := by rw [E_iconst i44_15, ci_1]
theorem e44_16 {d : Nat} {Q : Option AV → St → Prop} {st : List AV} {σ : St} {l0 l1 : Option AV} {x y : Int32} : Rn (d) Q (44, 16, [l0, l1], vI y :: vI x :: st, σ) = Rn (d) Q (44, 17, [l0, l1], vI (x + y) :: st, σ) := E_iadd i44_16
theorem e44_17 {d : Nat} {Q : Option AV → St → Prop} {st : List AV} {σ : St} {l0 l1 : Option AV} {i : Nat} {x : Int32} : Rn (d) Q (44, 17, [l0, l1], vI x :: vR (some (7, 0, i)) :: st, σ) = (i < gN σ 7 ∧ Rn (d) Q (44, 20, [l0, l1], st, setI σ 7 2 i x)) := E_putI i44_17 ((congrArg (fun z => fldQ z 19) o44).trans f7_19) rfl (Or.inl rfl)
theorem e44_20 {d : Nat} {Q : Option AV → St → Prop} {st : List AV} {σ : St} {l0 l1 : Option AV} : Rn (d) Q (44, 20, [l0, l1], st, σ) = Rn (d) Q (44, 21, [l0, l1], vI 1 :: st, σ) := by rw [E_iconst i44_20, ci_1]
theorem e44_21 {d : Nat} {Q : Option AV → St → Prop} {σ : St} {l0 l1 : Option AV} {x : Int32} : Rn (d) Q (44, 21, [l0, l1], [vI x], σ) = ((x = 0 ∨ x = 1) ∧ Q (some (vI x)) σ) := E_iretZ (st := []) i44_21 r44
theorem i45_0 : ins 45 0 = some (.iload_n 0, 1) := (congrArg (fun x : PTy => x.1.lookup 0) q45).trans rfl
theorem i45_1 : ins 45 1 = some (.bipush 48, 2) := (congrArg (fun x : PTy => x.1.lookup 1) q45).trans rfl
theorem i45_3 : ins 45 3 = some (.if_icmp .lt 13, 3) := (congrArg (fun x : PTy => x.1.lookup 3) q45).trans rfl
theorem i45_6 : ins 45 6 = some (.iload_n 0, 1) := (congrArg (fun x : PTy => x.1.lookup 6) q45).trans rfl
theorem i45_7 : ins 45 7 = some (.bipush 57, 2) := (congrArg (fun x : PTy => x.1.lookup 7) q45).trans rfl
theorem i45_9 : ins 45 9 = some (.if_icmp .gt 7, 3) := (congrArg (fun x : PTy => x.1.lookup 9) q45).trans rfl
theorem i45_12 : ins 45 12 = some (.iconst 1, 1) := (congrArg (fun x : PTy => x.1.lookup 12) q45).trans rfl
theorem i45_13 : ins 45 13 = some (.goto 4, 3) := (congrArg (fun x : PTy => x.1.lookup 13) q45).trans rfl
theorem i45_16 : ins 45 16 = some (.iconst 0, 1) := (congrArg (fun x : PTy => x.1.lookup 16) q45).trans rfl
theorem i45_17 : ins 45 17 = some (.ireturn, 1) := (congrArg (fun x : PTy => x.1.lookup 17) q45).trans rfl
theorem e45_0 {d : Nat} {Q : Option AV → St → Prop} {st : List AV} {σ : St}  {x : Int32} : Rn (d) Q (45, 0, [some (vI x)], st, σ) = Rn (d) Q (45, 1, [some (vI x)], vI x :: st, σ) := E_iload_n i45_0 rfl
theorem e45_1 {d : Nat} {Q : Option AV → St → Prop} {st : List AV} {σ : St} {l0 : Option AV} : Rn (d) Q (45, 1, [l0], st, σ) = Rn (d) Q (45, 3, [l0], vI 48 :: st, σ) := by rw [E_bipush i45_1, cb_48]
theorem e45_3 {d : Nat} {Q : Option AV → St → Prop} {st : List AV} {σ : St} {l0 : Option AV} {x y : Int32} : Rn (d) Q (45, 3, [l0], vI y :: vI x :: st, σ) = (if x < y then Rn (d) Q (45, 16, [l0], st, σ) else Rn (d) Q (45, 6, [l0], st, σ)) := E_icmp_lt 16 i45_3 (by decide)
theorem e45_6 {d : Nat} {Q : Option AV → St → Prop} {st : List AV} {σ : St}  {x : Int32} : Rn (d) Q (45, 6, [some (vI x)], st, σ) = Rn (d) Q (45, 7, [some (vI x)], vI x :: st, σ) := E_iload_n i45_6 rfl
theorem e45_7 {d : Nat} {Q : Option AV → St → Prop} {st : List AV} {σ : St} {l0 : Option AV} : Rn (d) Q (45, 7, [l0], st, σ) = Rn (d) Q (45, 9, [l0], vI 57 :: st, σ) := by rw [E_bipush i45_7, cb_57]
theorem e45_9 {d : Nat} {Q : Option AV → St → Prop} {st : List AV} {σ : St} {l0 : Option AV} {x y : Int32} : Rn (d) Q (45, 9, [l0], vI y :: vI x :: st, σ) = (if y < x then Rn (d) Q (45, 16, [l0], st, σ) else Rn (d) Q (45, 12, [l0], st, σ)) := E_icmp_gt 16 i45_9 (by decide)
theorem e45_12 {d : Nat} {Q : Option AV → St → Prop} {st : List AV} {σ : St} {l0 : Option AV} : Rn (d) Q (45, 12, [l0], st, σ) = Rn (d) Q (45, 13, [l0], vI 1 :: st, σ) := by rw [E_iconst i45_12, ci_1]
theorem e45_13 {d : Nat} {Q : Option AV → St → Prop} {st : List AV} {σ : St} {l0 : Option AV} : Rn (d) Q (45, 13, [l0], st, σ) = Rn (d) Q (45, 17, [l0], st, σ) := E_goto 17 i45_13 (by decide)
theorem e45_16 {d : Nat} {Q : Option AV → St → Prop} {st : List AV} {σ : St} {l0 : Option AV} : Rn (d) Q (45, 16, [l0], st, σ) = Rn (d) Q (45, 17, [l0], vI 0 :: st, σ) := by rw [E_iconst i45_16, ci_0]
theorem e45_17 {d : Nat} {Q : Option AV → St → Prop} {σ : St} {l0 : Option AV} {x : Int32} : Rn (d) Q (45, 17, [l0], [vI x], σ) = ((x = 0 ∨ x = 1) ∧ Q (some (vI x)) σ) := E_iretZ (st := []) i45_17 r45
theorem i46_0 : ins 46 0 = some (.aload_n 0, 1) := (congrArg (fun x : PTy => x.1.lookup 0) q46).trans rfl
theorem i46_1 : ins 46 1 = some (.invokevirtual 22, 3) := (congrArg (fun x : PTy => x.1.lookup 1) q46).trans rfl
theorem i46_4 : ins 46 4 = some (.invokestatic 26, 3) := (congrArg (fun x : PTy => x.1.lookup 4) q46).trans rfl
theorem i46_7 : ins 46 7 = some (.ifCond .ne 5, 3) := (congrArg (fun x : PTy => x.1.lookup 7) q46).trans rfl
theorem i46_10 : ins 46 10 = some (.iconst (-1), 1) := (congrArg (fun x : PTy => x.1.lookup 10) q46).trans rfl
theorem i46_11 : ins 46 11 = some (.ireturn, 1) := (congrArg (fun x : PTy => x.1.lookup 11) q46).trans rfl
theorem i46_12 : ins 46 12 = some (.aload_n 0, 1) := (congrArg (fun x : PTy => x.1.lookup 12) q46).trans rfl
theorem i46_13 : ins 46 13 = some (.getfield 19, 3) := (congrArg (fun x : PTy => x.1.lookup 13) q46).trans rfl
theorem i46_16 : ins 46 16 = some (.istore_n 2, 1) := (congrArg (fun x : PTy => x.1.lookup 16) q46).trans rfl
theorem i46_17 : ins 46 17 = some (.iconst 0, 1) := (congrArg (fun x : PTy => x.1.lookup 17) q46).trans rfl
theorem i46_18 : ins 46 18 = some (.istore_n 3, 1) := (congrArg (fun x : PTy => x.1.lookup 18) q46).trans rfl
theorem i46_19 : ins 46 19 = some (.iload_n 2, 1) := (congrArg (fun x : PTy => x.1.lookup 19) q46).trans rfl
theorem i46_20 : ins 46 20 = some (.istore 4, 2) := (congrArg (fun x : PTy => x.1.lookup 20) q46).trans rfl
theorem i46_22 : ins 46 22 = some (.iload 4, 2) := (congrArg (fun x : PTy => x.1.lookup 22) q46).trans rfl
theorem i46_24 : ins 46 24 = some (.aload_n 0, 1) := (congrArg (fun x : PTy => x.1.lookup 24) q46).trans rfl
theorem i46_25 : ins 46 25 = some (.getfield 15, 3) := (congrArg (fun x : PTy => x.1.lookup 25) q46).trans rfl
theorem i46_28 : ins 46 28 = some (.if_icmp .ge 52, 3) := (congrArg (fun x : PTy => x.1.lookup 28) q46).trans rfl
theorem i46_31 : ins 46 31 = some (.aload_n 0, 1) := (congrArg (fun x : PTy => x.1.lookup 31) q46).trans rfl
theorem i46_32 : ins 46 32 = some (.getfield 11, 3) := (congrArg (fun x : PTy => x.1.lookup 32) q46).trans rfl
theorem i46_35 : ins 46 35 = some (.iload 4, 2) := (congrArg (fun x : PTy => x.1.lookup 35) q46).trans rfl
theorem i46_37 : ins 46 37 = some (.baload, 1) := (congrArg (fun x : PTy => x.1.lookup 37) q46).trans rfl
theorem i46_38 : ins 46 38 = some (.invokestatic 26, 3) := (congrArg (fun x : PTy => x.1.lookup 38) q46).trans rfl
theorem i46_41 : ins 46 41 = some (.ifCond .eq 39, 3) := (congrArg (fun x : PTy => x.1.lookup 41) q46).trans rfl
theorem i46_44 : ins 46 44 = some (.iload_n 3, 1) := (congrArg (fun x : PTy => x.1.lookup 44) q46).trans rfl
theorem i46_45 : ins 46 45 = some (.bipush 10, 2) := (congrArg (fun x : PTy => x.1.lookup 45) q46).trans rfl
theorem i46_47 : ins 46 47 = some (.imul, 1) := (congrArg (fun x : PTy => x.1.lookup 47) q46).trans rfl
theorem i46_48 : ins 46 48 = some (.aload_n 0, 1) := (congrArg (fun x : PTy => x.1.lookup 48) q46).trans rfl
theorem i46_49 : ins 46 49 = some (.getfield 11, 3) := (congrArg (fun x : PTy => x.1.lookup 49) q46).trans rfl
theorem i46_52 : ins 46 52 = some (.iload 4, 2) := (congrArg (fun x : PTy => x.1.lookup 52) q46).trans rfl
theorem i46_54 : ins 46 54 = some (.baload, 1) := (congrArg (fun x : PTy => x.1.lookup 54) q46).trans rfl
theorem i46_55 : ins 46 55 = some (.iadd, 1) := (congrArg (fun x : PTy => x.1.lookup 55) q46).trans rfl
theorem i46_56 : ins 46 56 = some (.bipush 48, 2) := (congrArg (fun x : PTy => x.1.lookup 56) q46).trans rfl
theorem i46_58 : ins 46 58 = some (.isub, 1) := (congrArg (fun x : PTy => x.1.lookup 58) q46).trans rfl
theorem i46_59 : ins 46 59 = some (.iload_n 1, 1) := (congrArg (fun x : PTy => x.1.lookup 59) q46).trans rfl
theorem i46_60 : ins 46 60 = some (.iconst 1, 1) := (congrArg (fun x : PTy => x.1.lookup 60) q46).trans rfl
theorem i46_61 : ins 46 61 = some (.iadd, 1) := (congrArg (fun x : PTy => x.1.lookup 61) q46).trans rfl
theorem i46_62 : ins 46 62 = some (.invokestatic 30, 3) := (congrArg (fun x : PTy => x.1.lookup 62) q46).trans rfl
theorem i46_65 : ins 46 65 = some (.istore_n 3, 1) := (congrArg (fun x : PTy => x.1.lookup 65) q46).trans rfl
theorem i46_66 : ins 46 66 = some (.aload_n 0, 1) := (congrArg (fun x : PTy => x.1.lookup 66) q46).trans rfl
theorem i46_67 : ins 46 67 = some (.iload 4, 2) := (congrArg (fun x : PTy => x.1.lookup 67) q46).trans rfl
theorem i46_69 : ins 46 69 = some (.iconst 1, 1) := (congrArg (fun x : PTy => x.1.lookup 69) q46).trans rfl
theorem i46_70 : ins 46 70 = some (.iadd, 1) := (congrArg (fun x : PTy => x.1.lookup 70) q46).trans rfl
theorem i46_71 : ins 46 71 = some (.putfield 19, 3) := (congrArg (fun x : PTy => x.1.lookup 71) q46).trans rfl
theorem i46_74 : ins 46 74 = some (.iinc 4 1, 3) := (congrArg (fun x : PTy => x.1.lookup 74) q46).trans rfl
theorem i46_77 : ins 46 77 = some (.goto (-55), 3) := (congrArg (fun x : PTy => x.1.lookup 77) q46).trans rfl
theorem i46_80 : ins 46 80 = some (.iload_n 3, 1) := (congrArg (fun x : PTy => x.1.lookup 80) q46).trans rfl
theorem i46_81 : ins 46 81 = some (.iload_n 1, 1) := (congrArg (fun x : PTy => x.1.lookup 81) q46).trans rfl
theorem i46_82 : ins 46 82 = some (.if_icmp .le 10, 3) := (congrArg (fun x : PTy => x.1.lookup 82) q46).trans rfl
theorem i46_85 : ins 46 85 = some (.aload_n 0, 1) := (congrArg (fun x : PTy => x.1.lookup 85) q46).trans rfl
theorem i46_86 : ins 46 86 = some (.iload_n 2, 1) := (congrArg (fun x : PTy => x.1.lookup 86) q46).trans rfl
theorem i46_87 : ins 46 87 = some (.putfield 19, 3) := (congrArg (fun x : PTy => x.1.lookup 87) q46).trans rfl
theorem i46_90 : ins 46 90 = some (.iconst (-1), 1) := (congrArg (fun x : PTy => x.1.lookup 90) q46).trans rfl
theorem i46_91 : ins 46 91 = some (.ireturn, 1) := (congrArg (fun x : PTy => x.1.lookup 91) q46).trans rfl
theorem i46_92 : ins 46 92 = some (.iload_n 3, 1) := (congrArg (fun x : PTy => x.1.lookup 92) q46).trans rfl
theorem i46_93 : ins 46 93 = some (.ireturn, 1) := (congrArg (fun x : PTy => x.1.lookup 93) q46).trans rfl
theorem e46_0 {d : Nat} {Q : Option AV → St → Prop} {st : List AV} {σ : St} {l1 l2 l3 l4 : Option AV} {x : Option (Nat × Nat × Nat)} : Rn (d) Q (46, 0, [some (vR x), l1, l2, l3, l4], st, σ) = Rn (d) Q (46, 1, [some (vR x), l1, l2, l3, l4], vR x :: st, σ) := E_aload_n i46_0 rfl
theorem e46_1 {d : Nat} {Q : Option AV → St → Prop} {st : List AV} {σ : St} {l0 l1 l2 l3 l4 : Option AV} {i : Nat} : Rn (d + 1) Q (46, 1, [l0, l1, l2, l3, l4], vR (some (7, 0, i)) :: st, σ) = (i < gN σ 7 ∧ catS st ≤ 8 ∧ Rn d (fun r σ' => Rn (d + 1) Q (46, 4, [l0, l1, l2, l3, l4], r.toList ++ st, σ')) (43, 0, [some (vR (some (7, 0, i))), none], [], σ)) := E_invV (a := []) i46_1 ((congrArg (fun z => mthQ z 22) o46).trans m7_22) o43 rfl (ek43 i) (en43 i)
theorem e46_4 {d : Nat} {Q : Option AV → St → Prop} {st : List AV} {σ : St} {l0 l1 l2 l3 l4 : Option AV} {a0 : Int32} : Rn (d + 1) Q (46, 4, [l0, l1, l2, l3, l4], vI a0 :: st, σ) = (catS st ≤ 8 ∧ Rn d (fun r σ' => Rn (d + 1) Q (46, 7, [l0, l1, l2, l3, l4], r.toList ++ st, σ')) (45, 0, [some (vI a0)], [], σ)) := E_invS1 (a := [vI a0]) i46_4 ((congrArg (fun z => mthQ z 26) o46).trans m7_26) rfl (ek45 a0) (en45 a0)
theorem e46_7 {d : Nat} {Q : Option AV → St → Prop} {st : List AV} {σ : St} {l0 l1 l2 l3 l4 : Option AV} {x : Int32} : Rn (d) Q (46, 7, [l0, l1, l2, l3, l4], vI x :: st, σ) = (if x = 0 then Rn (d) Q (46, 10, [l0, l1, l2, l3, l4], st, σ) else Rn (d) Q (46, 12, [l0, l1, l2, l3, l4], st, σ)) := E_if_ne 12 i46_7 (by decide)
theorem e46_10 {d : Nat} {Q : Option AV → St → Prop} {st : List AV} {σ : St} {l0 l1 l2 l3 l4 : Option AV} : Rn (d) Q (46, 10, [l0, l1, l2, l3, l4], st, σ) = Rn (d) Q (46, 11, [l0, l1, l2, l3, l4], vI (-1) :: st, σ) := by rw [E_iconst i46_10, ci_m1]
theorem e46_11 {d : Nat} {Q : Option AV → St → Prop} {σ : St} {l0 l1 l2 l3 l4 : Option AV} {x : Int32} : Rn (d) Q (46, 11, [l0, l1, l2, l3, l4], [vI x], σ) = Q (some (vI x)) σ := E_iretI (st := []) i46_11 r46
theorem e46_12 {d : Nat} {Q : Option AV → St → Prop} {st : List AV} {σ : St} {l1 l2 l3 l4 : Option AV} {x : Option (Nat × Nat × Nat)} : Rn (d) Q (46, 12, [some (vR x), l1, l2, l3, l4], st, σ) = Rn (d) Q (46, 13, [some (vR x), l1, l2, l3, l4], vR x :: st, σ) := E_aload_n i46_12 rfl
theorem e46_13 {d : Nat} {Q : Option AV → St → Prop} {st : List AV} {σ : St} {l0 l1 l2 l3 l4 : Option AV} {i : Nat} : Rn (d) Q (46, 13, [l0, l1, l2, l3, l4], vR (some (7, 0, i)) :: st, σ) = (i < gN σ 7 ∧ Rn (d) Q (46, 16, [l0, l1, l2, l3, l4], vI (gI σ 7 2 i) :: st, σ)) := E_getI i46_13 ((congrArg (fun z => fldQ z 19) o46).trans f7_19) rfl
theorem s46_2 : okst 46 2 = true := by unfold okst; rw [x46]; rfl
theorem e46_16 {d : Nat} {Q : Option AV → St → Prop} {st : List AV} {σ : St} {l0 l1 l2 l3 l4 : Option AV} {x : Int32} : Rn (d) Q (46, 16, [l0, l1, l2, l3, l4], vI x :: st, σ) = Rn (d) Q (46, 17, [l0, l1, some (vI x), l3, l4], st, σ) := E_istore_n i46_16 s46_2
theorem e46_17 {d : Nat} {Q : Option AV → St → Prop} {st : List AV} {σ : St} {l0 l1 l2 l3 l4 : Option AV} : Rn (d) Q (46, 17, [l0, l1, l2, l3, l4], st, σ) = Rn (d) Q (46, 18, [l0, l1, l2, l3, l4], vI 0 :: st, σ) := by rw [E_iconst i46_17, ci_0]
theorem s46_3 : okst 46 3 = true := by unfold okst; rw [x46]; rfl
theorem e46_18 {d : Nat} {Q : Option AV → St → Prop} {st : List AV} {σ : St} {l0 l1 l2 l3 l4 : Option AV} {x : Int32} : Rn (d) Q (46, 18, [l0, l1, l2, l3, l4], vI x :: st, σ) = Rn (d) Q (46, 19, [l0, l1, l2, some (vI x), l4], st, σ) := E_istore_n i46_18 s46_3
theorem e46_19 {d : Nat} {Q : Option AV → St → Prop} {st : List AV} {σ : St} {l0 l1 l3 l4 : Option AV} {x : Int32} : Rn (d) Q (46, 19, [l0, l1, some (vI x), l3, l4], st, σ) = Rn (d) Q (46, 20, [l0, l1, some (vI x), l3, l4], vI x :: st, σ) := E_iload_n i46_19 rfl
theorem s46_4 : okst 46 4 = true := by unfold okst; rw [x46]; rfl
theorem e46_20 {d : Nat} {Q : Option AV → St → Prop} {st : List AV} {σ : St} {l0 l1 l2 l3 l4 : Option AV} {x : Int32} : Rn (d) Q (46, 20, [l0, l1, l2, l3, l4], vI x :: st, σ) = Rn (d) Q (46, 22, [l0, l1, l2, l3, some (vI x)], st, σ) := E_istore i46_20 s46_4
theorem e46_22 {d : Nat} {Q : Option AV → St → Prop} {st : List AV} {σ : St} {l0 l1 l2 l3 : Option AV} {x : Int32} : Rn (d) Q (46, 22, [l0, l1, l2, l3, some (vI x)], st, σ) = Rn (d) Q (46, 24, [l0, l1, l2, l3, some (vI x)], vI x :: st, σ) := E_iload i46_22 rfl
theorem e46_24 {d : Nat} {Q : Option AV → St → Prop} {st : List AV} {σ : St} {l1 l2 l3 l4 : Option AV} {x : Option (Nat × Nat × Nat)} : Rn (d) Q (46, 24, [some (vR x), l1, l2, l3, l4], st, σ) = Rn (d) Q (46, 25, [some (vR x), l1, l2, l3, l4], vR x :: st, σ) := E_aload_n i46_24 rfl
theorem e46_25 {d : Nat} {Q : Option AV → St → Prop} {st : List AV} {σ : St} {l0 l1 l2 l3 l4 : Option AV} {i : Nat} : Rn (d) Q (46, 25, [l0, l1, l2, l3, l4], vR (some (7, 0, i)) :: st, σ) = (i < gN σ 7 ∧ Rn (d) Q (46, 28, [l0, l1, l2, l3, l4], vI (gI σ 7 1 i) :: st, σ)) := E_getI i46_25 ((congrArg (fun z => fldQ z 15) o46).trans f7_15) rfl
theorem e46_28 {d : Nat} {Q : Option AV → St → Prop} {st : List AV} {σ : St} {l0 l1 l2 l3 l4 : Option AV} {x y : Int32} : Rn (d) Q (46, 28, [l0, l1, l2, l3, l4], vI y :: vI x :: st, σ) = (if y ≤ x then Rn (d) Q (46, 80, [l0, l1, l2, l3, l4], st, σ) else Rn (d) Q (46, 31, [l0, l1, l2, l3, l4], st, σ)) := E_icmp_ge 80 i46_28 (by decide)
theorem e46_31 {d : Nat} {Q : Option AV → St → Prop} {st : List AV} {σ : St} {l1 l2 l3 l4 : Option AV} {x : Option (Nat × Nat × Nat)} : Rn (d) Q (46, 31, [some (vR x), l1, l2, l3, l4], st, σ) = Rn (d) Q (46, 32, [some (vR x), l1, l2, l3, l4], vR x :: st, σ) := E_aload_n i46_31 rfl
theorem e46_32 {d : Nat} {Q : Option AV → St → Prop} {st : List AV} {σ : St} {l0 l1 l2 l3 l4 : Option AV} {i : Nat} : Rn (d) Q (46, 32, [l0, l1, l2, l3, l4], vR (some (7, 0, i)) :: st, σ) = (i < gN σ 7 ∧ ¬ gL σ 7 0 i = none ∧ Rn (d) Q (46, 35, [l0, l1, l2, l3, l4], vR (some (7, 1, i)) :: st, σ)) := E_getA i46_32 ((congrArg (fun z => fldQ z 11) o46).trans f7_11) (Or.inl rfl)
theorem e46_35 {d : Nat} {Q : Option AV → St → Prop} {st : List AV} {σ : St} {l0 l1 l2 l3 : Option AV} {x : Int32} : Rn (d) Q (46, 35, [l0, l1, l2, l3, some (vI x)], st, σ) = Rn (d) Q (46, 37, [l0, l1, l2, l3, some (vI x)], vI x :: st, σ) := E_iload i46_35 rfl
theorem e46_37 {d : Nat} {Q : Option AV → St → Prop} {st : List AV} {σ : St} {l0 l1 l2 l3 l4 : Option AV} {i : Nat} {j : Int32} : Rn (d) Q (46, 37, [l0, l1, l2, l3, l4], vI j :: vR (some (7, 1, i)) :: st, σ) = (∃ n, gL σ 7 0 i = some n ∧ i < gN σ 7 ∧ (0 ≤ j.toInt ∧ j.toInt < n) ∧ Rn (d) Q (46, 38, [l0, l1, l2, l3, l4], vI (gA σ 7 0 i j.toNatClampNeg) :: st, σ)) := E_baload0 i46_37 rfl
theorem e46_38 {d : Nat} {Q : Option AV → St → Prop} {st : List AV} {σ : St} {l0 l1 l2 l3 l4 : Option AV} {a0 : Int32} : Rn (d + 1) Q (46, 38, [l0, l1, l2, l3, l4], vI a0 :: st, σ) = (catS st ≤ 8 ∧ Rn d (fun r σ' => Rn (d + 1) Q (46, 41, [l0, l1, l2, l3, l4], r.toList ++ st, σ')) (45, 0, [some (vI a0)], [], σ)) := E_invS1 (a := [vI a0]) i46_38 ((congrArg (fun z => mthQ z 26) o46).trans m7_26) rfl (ek45 a0) (en45 a0)
theorem e46_41 {d : Nat} {Q : Option AV → St → Prop} {st : List AV} {σ : St} {l0 l1 l2 l3 l4 : Option AV} {x : Int32} : Rn (d) Q (46, 41, [l0, l1, l2, l3, l4], vI x :: st, σ) = (if x = 0 then Rn (d) Q (46, 80, [l0, l1, l2, l3, l4], st, σ) else Rn (d) Q (46, 44, [l0, l1, l2, l3, l4], st, σ)) := E_if_eq 80 i46_41 (by decide)
theorem e46_44 {d : Nat} {Q : Option AV → St → Prop} {st : List AV} {σ : St} {l0 l1 l2 l4 : Option AV} {x : Int32} : Rn (d) Q (46, 44, [l0, l1, l2, some (vI x), l4], st, σ) = Rn (d) Q (46, 45, [l0, l1, l2, some (vI x), l4], vI x :: st, σ) := E_iload_n i46_44 rfl
theorem e46_45 {d : Nat} {Q : Option AV → St → Prop} {st : List AV} {σ : St} {l0 l1 l2 l3 l4 : Option AV} : Rn (d) Q (46, 45, [l0, l1, l2, l3, l4], st, σ) = Rn (d) Q (46, 47, [l0, l1, l2, l3, l4], vI 10 :: st, σ) := by rw [E_bipush i46_45, cb_10]
theorem e46_47 {d : Nat} {Q : Option AV → St → Prop} {st : List AV} {σ : St} {l0 l1 l2 l3 l4 : Option AV} {x y : Int32} : Rn (d) Q (46, 47, [l0, l1, l2, l3, l4], vI y :: vI x :: st, σ) = Rn (d) Q (46, 48, [l0, l1, l2, l3, l4], vI (x * y) :: st, σ) := E_imul i46_47
theorem e46_48 {d : Nat} {Q : Option AV → St → Prop} {st : List AV} {σ : St} {l1 l2 l3 l4 : Option AV} {x : Option (Nat × Nat × Nat)} : Rn (d) Q (46, 48, [some (vR x), l1, l2, l3, l4], st, σ) = Rn (d) Q (46, 49, [some (vR x), l1, l2, l3, l4], vR x :: st, σ) := E_aload_n i46_48 rfl
theorem e46_49 {d : Nat} {Q : Option AV → St → Prop} {st : List AV} {σ : St} {l0 l1 l2 l3 l4 : Option AV} {i : Nat} : Rn (d) Q (46, 49, [l0, l1, l2, l3, l4], vR (some (7, 0, i)) :: st, σ) = (i < gN σ 7 ∧ ¬ gL σ 7 0 i = none ∧ Rn (d) Q (46, 52, [l0, l1, l2, l3, l4], vR (some (7, 1, i)) :: st, σ)) := E_getA i46_49 ((congrArg (fun z => fldQ z 11) o46).trans f7_11) (Or.inl rfl)
theorem e46_52 {d : Nat} {Q : Option AV → St → Prop} {st : List AV} {σ : St} {l0 l1 l2 l3 : Option AV} {x : Int32} : Rn (d) Q (46, 52, [l0, l1, l2, l3, some (vI x)], st, σ) = Rn (d) Q (46, 54, [l0, l1, l2, l3, some (vI x)], vI x :: st, σ) := E_iload i46_52 rfl
theorem e46_54 {d : Nat} {Q : Option AV → St → Prop} {st : List AV} {σ : St} {l0 l1 l2 l3 l4 : Option AV} {i : Nat} {j : Int32} : Rn (d) Q (46, 54, [l0, l1, l2, l3, l4], vI j :: vR (some (7, 1, i)) :: st, σ) = (∃ n, gL σ 7 0 i = some n ∧ i < gN σ 7 ∧ (0 ≤ j.toInt ∧ j.toInt < n) ∧ Rn (d) Q (46, 55, [l0, l1, l2, l3, l4], vI (gA σ 7 0 i j.toNatClampNeg) :: st, σ)) := E_baload0 i46_54 rfl
theorem e46_55 {d : Nat} {Q : Option AV → St → Prop} {st : List AV} {σ : St} {l0 l1 l2 l3 l4 : Option AV} {x y : Int32} : Rn (d) Q (46, 55, [l0, l1, l2, l3, l4], vI y :: vI x :: st, σ) = Rn (d) Q (46, 56, [l0, l1, l2, l3, l4], vI (x + y) :: st, σ) := E_iadd i46_55
theorem e46_56 {d : Nat} {Q : Option AV → St → Prop} {st : List AV} {σ : St} {l0 l1 l2 l3 l4 : Option AV} : Rn (d) Q (46, 56, [l0, l1, l2, l3, l4], st, σ) = Rn (d) Q (46, 58, [l0, l1, l2, l3, l4], vI 48 :: st, σ) := by rw [E_bipush i46_56, cb_48]
theorem e46_58 {d : Nat} {Q : Option AV → St → Prop} {st : List AV} {σ : St} {l0 l1 l2 l3 l4 : Option AV} {x y : Int32} : Rn (d) Q (46, 58, [l0, l1, l2, l3, l4], vI y :: vI x :: st, σ) = Rn (d) Q (46, 59, [l0, l1, l2, l3, l4], vI (x - y) :: st, σ) := E_isub i46_58
theorem e46_59 {d : Nat} {Q : Option AV → St → Prop} {st : List AV} {σ : St} {l0 l2 l3 l4 : Option AV} {x : Int32} : Rn (d) Q (46, 59, [l0, some (vI x), l2, l3, l4], st, σ) = Rn (d) Q (46, 60, [l0, some (vI x), l2, l3, l4], vI x :: st, σ) := E_iload_n i46_59 rfl
theorem e46_60 {d : Nat} {Q : Option AV → St → Prop} {st : List AV} {σ : St} {l0 l1 l2 l3 l4 : Option AV} : Rn (d) Q (46, 60, [l0, l1, l2, l3, l4], st, σ) = Rn (d) Q (46, 61, [l0, l1, l2, l3, l4], vI 1 :: st, σ) := by rw [E_iconst i46_60, ci_1]
theorem e46_61 {d : Nat} {Q : Option AV → St → Prop} {st : List AV} {σ : St} {l0 l1 l2 l3 l4 : Option AV} {x y : Int32} : Rn (d) Q (46, 61, [l0, l1, l2, l3, l4], vI y :: vI x :: st, σ) = Rn (d) Q (46, 62, [l0, l1, l2, l3, l4], vI (x + y) :: st, σ) := E_iadd i46_61
theorem e46_62 {d : Nat} {Q : Option AV → St → Prop} {st : List AV} {σ : St} {l0 l1 l2 l3 l4 : Option AV} {x y : Int32} : Rn (d) Q (46, 62, [l0, l1, l2, l3, l4], vI y :: vI x :: st, σ) = (catS st ≤ 8 ∧ Rn (d) Q (46, 65, [l0, l1, l2, l3, l4], vI (if y < x then y else x) :: st, σ)) := E_mmin i46_62 ((congrArg (fun z => mthQ z 30) o46).trans m7_30)
theorem e46_65 {d : Nat} {Q : Option AV → St → Prop} {st : List AV} {σ : St} {l0 l1 l2 l3 l4 : Option AV} {x : Int32} : Rn (d) Q (46, 65, [l0, l1, l2, l3, l4], vI x :: st, σ) = Rn (d) Q (46, 66, [l0, l1, l2, some (vI x), l4], st, σ) := E_istore_n i46_65 s46_3
theorem e46_66 {d : Nat} {Q : Option AV → St → Prop} {st : List AV} {σ : St} {l1 l2 l3 l4 : Option AV} {x : Option (Nat × Nat × Nat)} : Rn (d) Q (46, 66, [some (vR x), l1, l2, l3, l4], st, σ) = Rn (d) Q (46, 67, [some (vR x), l1, l2, l3, l4], vR x :: st, σ) := E_aload_n i46_66 rfl
theorem e46_67 {d : Nat} {Q : Option AV → St → Prop} {st : List AV} {σ : St} {l0 l1 l2 l3 : Option AV} {x : Int32} : Rn (d) Q (46, 67, [l0, l1, l2, l3, some (vI x)], st, σ) = Rn (d) Q (46, 69, [l0, l1, l2, l3, some (vI x)], vI x :: st, σ) := E_iload i46_67 rfl
theorem e46_69 {d : Nat} {Q : Option AV → St → Prop} {st : List AV} {σ : St} {l0 l1 l2 l3 l4 : Option AV} : Rn (d) Q (46, 69, [l0, l1, l2, l3, l4], st, σ) = Rn (d) Q (46, 70, [l0, l1, l2, l3, l4], vI 1 :: st, σ) := by rw [E_iconst i46_69, ci_1]
theorem e46_70 {d : Nat} {Q : Option AV → St → Prop} {st : List AV} {σ : St} {l0 l1 l2 l3 l4 : Option AV} {x y : Int32} : Rn (d) Q (46, 70, [l0, l1, l2, l3, l4], vI y :: vI x :: st, σ) = Rn (d) Q (46, 71, [l0, l1, l2, l3, l4], vI (x + y) :: st, σ) := E_iadd i46_70
theorem e46_71 {d : Nat} {Q : Option AV → St → Prop} {st : List AV} {σ : St} {l0 l1 l2 l3 l4 : Option AV} {i : Nat} {x : Int32} : Rn (d) Q (46, 71, [l0, l1, l2, l3, l4], vI x :: vR (some (7, 0, i)) :: st, σ) = (i < gN σ 7 ∧ Rn (d) Q (46, 74, [l0, l1, l2, l3, l4], st, setI σ 7 2 i x)) := E_putI i46_71 ((congrArg (fun z => fldQ z 19) o46).trans f7_19) rfl (Or.inl rfl)
theorem e46_74 {d : Nat} {Q : Option AV → St → Prop} {st : List AV} {σ : St} {l0 l1 l2 l3 : Option AV} {x : Int32} : Rn (d) Q (46, 74, [l0, l1, l2, l3, some (vI x)], st, σ) = Rn (d) Q (46, 77, [l0, l1, l2, l3, some (vI (x + 1))], st, σ) := by rw [E_iinc i46_74 rfl (by rw [x46]; decide), show Int32.ofInt 1 = (1 : Int32) by decide +kernel]; rfl
theorem e46_77 {d : Nat} {Q : Option AV → St → Prop} {st : List AV} {σ : St} {l0 l1 l2 l3 l4 : Option AV} : Rn (d) Q (46, 77, [l0, l1, l2, l3, l4], st, σ) = Rn (d) Q (46, 22, [l0, l1, l2, l3, l4], st, σ) := E_goto 22 i46_77 (by decide)
theorem e46_80 {d : Nat} {Q : Option AV → St → Prop} {st : List AV} {σ : St} {l0 l1 l2 l4 : Option AV} {x : Int32} : Rn (d) Q (46, 80, [l0, l1, l2, some (vI x), l4], st, σ) = Rn (d) Q (46, 81, [l0, l1, l2, some (vI x), l4], vI x :: st, σ) := E_iload_n i46_80 rfl
theorem e46_81 {d : Nat} {Q : Option AV → St → Prop} {st : List AV} {σ : St} {l0 l2 l3 l4 : Option AV} {x : Int32} : Rn (d) Q (46, 81, [l0, some (vI x), l2, l3, l4], st, σ) = Rn (d) Q (46, 82, [l0, some (vI x), l2, l3, l4], vI x :: st, σ) := E_iload_n i46_81 rfl
theorem e46_82 {d : Nat} {Q : Option AV → St → Prop} {st : List AV} {σ : St} {l0 l1 l2 l3 l4 : Option AV} {x y : Int32} : Rn (d) Q (46, 82, [l0, l1, l2, l3, l4], vI y :: vI x :: st, σ) = (if x ≤ y then Rn (d) Q (46, 92, [l0, l1, l2, l3, l4], st, σ) else Rn (d) Q (46, 85, [l0, l1, l2, l3, l4], st, σ)) := E_icmp_le 92 i46_82 (by decide)
theorem e46_85 {d : Nat} {Q : Option AV → St → Prop} {st : List AV} {σ : St} {l1 l2 l3 l4 : Option AV} {x : Option (Nat × Nat × Nat)} : Rn (d) Q (46, 85, [some (vR x), l1, l2, l3, l4], st, σ) = Rn (d) Q (46, 86, [some (vR x), l1, l2, l3, l4], vR x :: st, σ) := E_aload_n i46_85 rfl
theorem e46_86 {d : Nat} {Q : Option AV → St → Prop} {st : List AV} {σ : St} {l0 l1 l3 l4 : Option AV} {x : Int32} : Rn (d) Q (46, 86, [l0, l1, some (vI x), l3, l4], st, σ) = Rn (d) Q (46, 87, [l0, l1, some (vI x), l3, l4], vI x :: st, σ) := E_iload_n i46_86 rfl
theorem e46_87 {d : Nat} {Q : Option AV → St → Prop} {st : List AV} {σ : St} {l0 l1 l2 l3 l4 : Option AV} {i : Nat} {x : Int32} : Rn (d) Q (46, 87, [l0, l1, l2, l3, l4], vI x :: vR (some (7, 0, i)) :: st, σ) = (i < gN σ 7 ∧ Rn (d) Q (46, 90, [l0, l1, l2, l3, l4], st, setI σ 7 2 i x)) := E_putI i46_87 ((congrArg (fun z => fldQ z 19) o46).trans f7_19) rfl (Or.inl rfl)
theorem e46_90 {d : Nat} {Q : Option AV → St → Prop} {st : List AV} {σ : St} {l0 l1 l2 l3 l4 : Option AV} : Rn (d) Q (46, 90, [l0, l1, l2, l3, l4], st, σ) = Rn (d) Q (46, 91, [l0, l1, l2, l3, l4], vI (-1) :: st, σ) := by rw [E_iconst i46_90, ci_m1]
theorem e46_91 {d : Nat} {Q : Option AV → St → Prop} {σ : St} {l0 l1 l2 l3 l4 : Option AV} {x : Int32} : Rn (d) Q (46, 91, [l0, l1, l2, l3, l4], [vI x], σ) = Q (some (vI x)) σ := E_iretI (st := []) i46_91 r46
theorem e46_92 {d : Nat} {Q : Option AV → St → Prop} {st : List AV} {σ : St} {l0 l1 l2 l4 : Option AV} {x : Int32} : Rn (d) Q (46, 92, [l0, l1, l2, some (vI x), l4], st, σ) = Rn (d) Q (46, 93, [l0, l1, l2, some (vI x), l4], vI x :: st, σ) := E_iload_n i46_92 rfl
theorem e46_93 {d : Nat} {Q : Option AV → St → Prop} {σ : St} {l0 l1 l2 l3 l4 : Option AV} {x : Int32} : Rn (d) Q (46, 93, [l0, l1, l2, l3, l4], [vI x], σ) = Q (some (vI x)) σ := E_iretI (st := []) i46_93 r46
theorem i47_0 : ins 47 0 = some (.aload_n 1, 1) := (congrArg (fun x : PTy => x.1.lookup 0) q47).trans rfl
theorem i47_1 : ins 47 1 = some (.invokevirtual 36, 3) := (congrArg (fun x : PTy => x.1.lookup 1) q47).trans rfl
theorem i47_4 : ins 47 4 = some (.aload_n 0, 1) := (congrArg (fun x : PTy => x.1.lookup 4) q47).trans rfl
theorem i47_5 : ins 47 5 = some (.iconst 0, 1) := (congrArg (fun x : PTy => x.1.lookup 5) q47).trans rfl
theorem i47_6 : ins 47 6 = some (.putfield 19, 3) := (congrArg (fun x : PTy => x.1.lookup 6) q47).trans rfl
theorem i47_9 : ins 47 9 = some (.iconst 1, 1) := (congrArg (fun x : PTy => x.1.lookup 9) q47).trans rfl
theorem i47_10 : ins 47 10 = some (.istore_n 2, 1) := (congrArg (fun x : PTy => x.1.lookup 10) q47).trans rfl
theorem i47_11 : ins 47 11 = some (.iload_n 2, 1) := (congrArg (fun x : PTy => x.1.lookup 11) q47).trans rfl
theorem i47_12 : ins 47 12 = some (.bipush 8, 2) := (congrArg (fun x : PTy => x.1.lookup 12) q47).trans rfl
theorem i47_14 : ins 47 14 = some (.if_icmp .gt 49, 3) := (congrArg (fun x : PTy => x.1.lookup 14) q47).trans rfl
theorem i47_17 : ins 47 17 = some (.aload_n 0, 1) := (congrArg (fun x : PTy => x.1.lookup 17) q47).trans rfl
theorem i47_18 : ins 47 18 = some (.aload_n 1, 1) := (congrArg (fun x : PTy => x.1.lookup 18) q47).trans rfl
theorem i47_19 : ins 47 19 = some (.invokevirtual 41, 3) := (congrArg (fun x : PTy => x.1.lookup 19) q47).trans rfl
theorem i47_22 : ins 47 22 = some (.ifCond .ne 5, 3) := (congrArg (fun x : PTy => x.1.lookup 22) q47).trans rfl
theorem i47_25 : ins 47 25 = some (.iconst 0, 1) := (congrArg (fun x : PTy => x.1.lookup 25) q47).trans rfl
theorem i47_26 : ins 47 26 = some (.ireturn, 1) := (congrArg (fun x : PTy => x.1.lookup 26) q47).trans rfl
theorem i47_27 : ins 47 27 = some (.aload_n 0, 1) := (congrArg (fun x : PTy => x.1.lookup 27) q47).trans rfl
theorem i47_28 : ins 47 28 = some (.invokevirtual 22, 3) := (congrArg (fun x : PTy => x.1.lookup 28) q47).trans rfl
theorem i47_31 : ins 47 31 = some (.iconst (-1), 1) := (congrArg (fun x : PTy => x.1.lookup 31) q47).trans rfl
theorem i47_32 : ins 47 32 = some (.if_icmp .ne 8, 3) := (congrArg (fun x : PTy => x.1.lookup 32) q47).trans rfl
theorem i47_35 : ins 47 35 = some (.aload_n 1, 1) := (congrArg (fun x : PTy => x.1.lookup 35) q47).trans rfl
theorem i47_36 : ins 47 36 = some (.invokevirtual 45, 3) := (congrArg (fun x : PTy => x.1.lookup 36) q47).trans rfl
theorem i47_39 : ins 47 39 = some (.ireturn, 1) := (congrArg (fun x : PTy => x.1.lookup 39) q47).trans rfl
theorem i47_40 : ins 47 40 = some (.iload_n 2, 1) := (congrArg (fun x : PTy => x.1.lookup 40) q47).trans rfl
theorem i47_41 : ins 47 41 = some (.bipush 8, 2) := (congrArg (fun x : PTy => x.1.lookup 41) q47).trans rfl
theorem i47_43 : ins 47 43 = some (.if_icmp .eq 12, 3) := (congrArg (fun x : PTy => x.1.lookup 43) q47).trans rfl
theorem i47_46 : ins 47 46 = some (.aload_n 0, 1) := (congrArg (fun x : PTy => x.1.lookup 46) q47).trans rfl
theorem i47_47 : ins 47 47 = some (.bipush 59, 2) := (congrArg (fun x : PTy => x.1.lookup 47) q47).trans rfl
theorem i47_49 : ins 47 49 = some (.invokevirtual 49, 3) := (congrArg (fun x : PTy => x.1.lookup 49) q47).trans rfl
theorem i47_52 : ins 47 52 = some (.ifCond .ne 5, 3) := (congrArg (fun x : PTy => x.1.lookup 52) q47).trans rfl
theorem i47_55 : ins 47 55 = some (.iconst 0, 1) := (congrArg (fun x : PTy => x.1.lookup 55) q47).trans rfl
theorem i47_56 : ins 47 56 = some (.ireturn, 1) := (congrArg (fun x : PTy => x.1.lookup 56) q47).trans rfl
theorem i47_57 : ins 47 57 = some (.iinc 2 1, 3) := (congrArg (fun x : PTy => x.1.lookup 57) q47).trans rfl
theorem i47_60 : ins 47 60 = some (.goto (-49), 3) := (congrArg (fun x : PTy => x.1.lookup 60) q47).trans rfl
theorem i47_63 : ins 47 63 = some (.iconst 0, 1) := (congrArg (fun x : PTy => x.1.lookup 63) q47).trans rfl
theorem i47_64 : ins 47 64 = some (.ireturn, 1) := (congrArg (fun x : PTy => x.1.lookup 64) q47).trans rfl
theorem e47_0 {d : Nat} {Q : Option AV → St → Prop} {st : List AV} {σ : St} {l0 l2 : Option AV} {x : Option (Nat × Nat × Nat)} : Rn (d) Q (47, 0, [l0, some (vR x), l2], st, σ) = Rn (d) Q (47, 1, [l0, some (vR x), l2], vR x :: st, σ) := E_aload_n i47_0 rfl
theorem e47_1 {d : Nat} {Q : Option AV → St → Prop} {st : List AV} {σ : St} {l0 l1 l2 : Option AV} {i : Nat} : Rn (d + 1) Q (47, 1, [l0, l1, l2], vR (some (0, 0, i)) :: st, σ) = (i < gN σ 0 ∧ catS st ≤ 8 ∧ Rn d (fun r σ' => Rn (d + 1) Q (47, 4, [l0, l1, l2], r.toList ++ st, σ')) (1, 0, [some (vR (some (0, 0, i)))], [], σ)) := E_invV (a := []) i47_1 ((congrArg (fun z => mthQ z 36) o47).trans m7_36) o1 rfl (ek1 i) (en1 i)
theorem e47_4 {d : Nat} {Q : Option AV → St → Prop} {st : List AV} {σ : St} {l1 l2 : Option AV} {x : Option (Nat × Nat × Nat)} : Rn (d) Q (47, 4, [some (vR x), l1, l2], st, σ) = Rn (d) Q (47, 5, [some (vR x), l1, l2], vR x :: st, σ) := E_aload_n i47_4 rfl
theorem e47_5 {d : Nat} {Q : Option AV → St → Prop} {st : List AV} {σ : St} {l0 l1 l2 : Option AV} : Rn (d) Q (47, 5, [l0, l1, l2], st, σ) = Rn (d) Q (47, 6, [l0, l1, l2], vI 0 :: st, σ) := by rw [E_iconst i47_5, ci_0]
theorem e47_6 {d : Nat} {Q : Option AV → St → Prop} {st : List AV} {σ : St} {l0 l1 l2 : Option AV} {i : Nat} {x : Int32} : Rn (d) Q (47, 6, [l0, l1, l2], vI x :: vR (some (7, 0, i)) :: st, σ) = (i < gN σ 7 ∧ Rn (d) Q (47, 9, [l0, l1, l2], st, setI σ 7 2 i x)) := E_putI i47_6 ((congrArg (fun z => fldQ z 19) o47).trans f7_19) rfl (Or.inl rfl)
theorem e47_9 {d : Nat} {Q : Option AV → St → Prop} {st : List AV} {σ : St} {l0 l1 l2 : Option AV} : Rn (d) Q (47, 9, [l0, l1, l2], st, σ) = Rn (d) Q (47, 10, [l0, l1, l2], vI 1 :: st, σ) := by rw [E_iconst i47_9, ci_1]
theorem s47_2 : okst 47 2 = true := by unfold okst; rw [x47]; rfl
theorem e47_10 {d : Nat} {Q : Option AV → St → Prop} {st : List AV} {σ : St} {l0 l1 l2 : Option AV} {x : Int32} : Rn (d) Q (47, 10, [l0, l1, l2], vI x :: st, σ) = Rn (d) Q (47, 11, [l0, l1, some (vI x)], st, σ) := E_istore_n i47_10 s47_2
theorem e47_11 {d : Nat} {Q : Option AV → St → Prop} {st : List AV} {σ : St} {l0 l1 : Option AV} {x : Int32} : Rn (d) Q (47, 11, [l0, l1, some (vI x)], st, σ) = Rn (d) Q (47, 12, [l0, l1, some (vI x)], vI x :: st, σ) := E_iload_n i47_11 rfl
theorem e47_12 {d : Nat} {Q : Option AV → St → Prop} {st : List AV} {σ : St} {l0 l1 l2 : Option AV} : Rn (d) Q (47, 12, [l0, l1, l2], st, σ) = Rn (d) Q (47, 14, [l0, l1, l2], vI 8 :: st, σ) := by rw [E_bipush i47_12, cb_8]
theorem e47_14 {d : Nat} {Q : Option AV → St → Prop} {st : List AV} {σ : St} {l0 l1 l2 : Option AV} {x y : Int32} : Rn (d) Q (47, 14, [l0, l1, l2], vI y :: vI x :: st, σ) = (if y < x then Rn (d) Q (47, 63, [l0, l1, l2], st, σ) else Rn (d) Q (47, 17, [l0, l1, l2], st, σ)) := E_icmp_gt 63 i47_14 (by decide)
theorem e47_17 {d : Nat} {Q : Option AV → St → Prop} {st : List AV} {σ : St} {l1 l2 : Option AV} {x : Option (Nat × Nat × Nat)} : Rn (d) Q (47, 17, [some (vR x), l1, l2], st, σ) = Rn (d) Q (47, 18, [some (vR x), l1, l2], vR x :: st, σ) := E_aload_n i47_17 rfl
theorem e47_18 {d : Nat} {Q : Option AV → St → Prop} {st : List AV} {σ : St} {l0 l2 : Option AV} {x : Option (Nat × Nat × Nat)} : Rn (d) Q (47, 18, [l0, some (vR x), l2], st, σ) = Rn (d) Q (47, 19, [l0, some (vR x), l2], vR x :: st, σ) := E_aload_n i47_18 rfl
theorem e47_19 {d : Nat} {Q : Option AV → St → Prop} {st : List AV} {σ : St} {l0 l1 l2 : Option AV} {i : Nat} {a1 : Option (Nat × Nat × Nat)} : Rn (d + 1) Q (47, 19, [l0, l1, l2], vR a1 :: vR (some (7, 0, i)) :: st, σ) = (i < gN σ 7 ∧ catS st ≤ 8 ∧ Rn d (fun r σ' => Rn (d + 1) Q (47, 22, [l0, l1, l2], r.toList ++ st, σ')) (48, 0, [some (vR (some (7, 0, i))), some (vR a1), none, none, none], [], σ)) := E_invV (a := [vR a1]) i47_19 ((congrArg (fun z => mthQ z 41) o47).trans m7_41) o48 rfl (ek48 i a1) (en48 i a1)
theorem e47_22 {d : Nat} {Q : Option AV → St → Prop} {st : List AV} {σ : St} {l0 l1 l2 : Option AV} {x : Int32} : Rn (d) Q (47, 22, [l0, l1, l2], vI x :: st, σ) = (if x = 0 then Rn (d) Q (47, 25, [l0, l1, l2], st, σ) else Rn (d) Q (47, 27, [l0, l1, l2], st, σ)) := E_if_ne 27 i47_22 (by decide)
theorem e47_25 {d : Nat} {Q : Option AV → St → Prop} {st : List AV} {σ : St} {l0 l1 l2 : Option AV} : Rn (d) Q (47, 25, [l0, l1, l2], st, σ) = Rn (d) Q (47, 26, [l0, l1, l2], vI 0 :: st, σ) := by rw [E_iconst i47_25, ci_0]
theorem e47_26 {d : Nat} {Q : Option AV → St → Prop} {σ : St} {l0 l1 l2 : Option AV} {x : Int32} : Rn (d) Q (47, 26, [l0, l1, l2], [vI x], σ) = ((x = 0 ∨ x = 1) ∧ Q (some (vI x)) σ) := E_iretZ (st := []) i47_26 r47
theorem e47_27 {d : Nat} {Q : Option AV → St → Prop} {st : List AV} {σ : St} {l1 l2 : Option AV} {x : Option (Nat × Nat × Nat)} : Rn (d) Q (47, 27, [some (vR x), l1, l2], st, σ) = Rn (d) Q (47, 28, [some (vR x), l1, l2], vR x :: st, σ) := E_aload_n i47_27 rfl
theorem e47_28 {d : Nat} {Q : Option AV → St → Prop} {st : List AV} {σ : St} {l0 l1 l2 : Option AV} {i : Nat} : Rn (d + 1) Q (47, 28, [l0, l1, l2], vR (some (7, 0, i)) :: st, σ) = (i < gN σ 7 ∧ catS st ≤ 8 ∧ Rn d (fun r σ' => Rn (d + 1) Q (47, 31, [l0, l1, l2], r.toList ++ st, σ')) (43, 0, [some (vR (some (7, 0, i))), none], [], σ)) := E_invV (a := []) i47_28 ((congrArg (fun z => mthQ z 22) o47).trans m7_22) o43 rfl (ek43 i) (en43 i)
theorem e47_31 {d : Nat} {Q : Option AV → St → Prop} {st : List AV} {σ : St} {l0 l1 l2 : Option AV} : Rn (d) Q (47, 31, [l0, l1, l2], st, σ) = Rn (d) Q (47, 32, [l0, l1, l2], vI (-1) :: st, σ) := by rw [E_iconst i47_31, ci_m1]
theorem e47_32 {d : Nat} {Q : Option AV → St → Prop} {st : List AV} {σ : St} {l0 l1 l2 : Option AV} {x y : Int32} : Rn (d) Q (47, 32, [l0, l1, l2], vI y :: vI x :: st, σ) = (if x = y then Rn (d) Q (47, 35, [l0, l1, l2], st, σ) else Rn (d) Q (47, 40, [l0, l1, l2], st, σ)) := E_icmp_ne 40 i47_32 (by decide)
theorem e47_35 {d : Nat} {Q : Option AV → St → Prop} {st : List AV} {σ : St} {l0 l2 : Option AV} {x : Option (Nat × Nat × Nat)} : Rn (d) Q (47, 35, [l0, some (vR x), l2], st, σ) = Rn (d) Q (47, 36, [l0, some (vR x), l2], vR x :: st, σ) := E_aload_n i47_35 rfl
theorem e47_36 {d : Nat} {Q : Option AV → St → Prop} {st : List AV} {σ : St} {l0 l1 l2 : Option AV} {i : Nat} : Rn (d + 1) Q (47, 36, [l0, l1, l2], vR (some (0, 0, i)) :: st, σ) = (i < gN σ 0 ∧ catS st ≤ 8 ∧ Rn d (fun r σ' => Rn (d + 1) Q (47, 39, [l0, l1, l2], r.toList ++ st, σ')) (7, 0, [some (vR (some (0, 0, i))), none, none], [], σ)) := E_invV (a := []) i47_36 ((congrArg (fun z => mthQ z 45) o47).trans m7_45) o7 rfl (ek7 i) (en7 i)
theorem e47_39 {d : Nat} {Q : Option AV → St → Prop} {σ : St} {l0 l1 l2 : Option AV} {x : Int32} : Rn (d) Q (47, 39, [l0, l1, l2], [vI x], σ) = ((x = 0 ∨ x = 1) ∧ Q (some (vI x)) σ) := E_iretZ (st := []) i47_39 r47
theorem e47_40 {d : Nat} {Q : Option AV → St → Prop} {st : List AV} {σ : St} {l0 l1 : Option AV} {x : Int32} : Rn (d) Q (47, 40, [l0, l1, some (vI x)], st, σ) = Rn (d) Q (47, 41, [l0, l1, some (vI x)], vI x :: st, σ) := E_iload_n i47_40 rfl
theorem e47_41 {d : Nat} {Q : Option AV → St → Prop} {st : List AV} {σ : St} {l0 l1 l2 : Option AV} : Rn (d) Q (47, 41, [l0, l1, l2], st, σ) = Rn (d) Q (47, 43, [l0, l1, l2], vI 8 :: st, σ) := by rw [E_bipush i47_41, cb_8]
theorem e47_43 {d : Nat} {Q : Option AV → St → Prop} {st : List AV} {σ : St} {l0 l1 l2 : Option AV} {x y : Int32} : Rn (d) Q (47, 43, [l0, l1, l2], vI y :: vI x :: st, σ) = (if x = y then Rn (d) Q (47, 55, [l0, l1, l2], st, σ) else Rn (d) Q (47, 46, [l0, l1, l2], st, σ)) := E_icmp_eq 55 i47_43 (by decide)
theorem e47_46 {d : Nat} {Q : Option AV → St → Prop} {st : List AV} {σ : St} {l1 l2 : Option AV} {x : Option (Nat × Nat × Nat)} : Rn (d) Q (47, 46, [some (vR x), l1, l2], st, σ) = Rn (d) Q (47, 47, [some (vR x), l1, l2], vR x :: st, σ) := E_aload_n i47_46 rfl
theorem e47_47 {d : Nat} {Q : Option AV → St → Prop} {st : List AV} {σ : St} {l0 l1 l2 : Option AV} : Rn (d) Q (47, 47, [l0, l1, l2], st, σ) = Rn (d) Q (47, 49, [l0, l1, l2], vI 59 :: st, σ) := by rw [E_bipush i47_47, cb_59]
theorem e47_49 {d : Nat} {Q : Option AV → St → Prop} {st : List AV} {σ : St} {l0 l1 l2 : Option AV} {i : Nat} {a1 : Int32} : Rn (d + 1) Q (47, 49, [l0, l1, l2], vI a1 :: vR (some (7, 0, i)) :: st, σ) = (i < gN σ 7 ∧ catS st ≤ 8 ∧ Rn d (fun r σ' => Rn (d + 1) Q (47, 52, [l0, l1, l2], r.toList ++ st, σ')) (44, 0, [some (vR (some (7, 0, i))), some (vI a1)], [], σ)) := E_invV (a := [vI a1]) i47_49 ((congrArg (fun z => mthQ z 49) o47).trans m7_49) o44 rfl (ek44 i a1) (en44 i a1)
theorem e47_52 {d : Nat} {Q : Option AV → St → Prop} {st : List AV} {σ : St} {l0 l1 l2 : Option AV} {x : Int32} : Rn (d) Q (47, 52, [l0, l1, l2], vI x :: st, σ) = (if x = 0 then Rn (d) Q (47, 55, [l0, l1, l2], st, σ) else Rn (d) Q (47, 57, [l0, l1, l2], st, σ)) := E_if_ne 57 i47_52 (by decide)
theorem e47_55 {d : Nat} {Q : Option AV → St → Prop} {st : List AV} {σ : St} {l0 l1 l2 : Option AV} : Rn (d) Q (47, 55, [l0, l1, l2], st, σ) = Rn (d) Q (47, 56, [l0, l1, l2], vI 0 :: st, σ) := by rw [E_iconst i47_55, ci_0]
theorem e47_56 {d : Nat} {Q : Option AV → St → Prop} {σ : St} {l0 l1 l2 : Option AV} {x : Int32} : Rn (d) Q (47, 56, [l0, l1, l2], [vI x], σ) = ((x = 0 ∨ x = 1) ∧ Q (some (vI x)) σ) := E_iretZ (st := []) i47_56 r47
theorem e47_57 {d : Nat} {Q : Option AV → St → Prop} {st : List AV} {σ : St} {l0 l1 : Option AV} {x : Int32} : Rn (d) Q (47, 57, [l0, l1, some (vI x)], st, σ) = Rn (d) Q (47, 60, [l0, l1, some (vI (x + 1))], st, σ) := by rw [E_iinc i47_57 rfl (by rw [x47]; decide), show Int32.ofInt 1 = (1 : Int32) by decide +kernel]; rfl
theorem e47_60 {d : Nat} {Q : Option AV → St → Prop} {st : List AV} {σ : St} {l0 l1 l2 : Option AV} : Rn (d) Q (47, 60, [l0, l1, l2], st, σ) = Rn (d) Q (47, 11, [l0, l1, l2], st, σ) := E_goto 11 i47_60 (by decide)
theorem e47_63 {d : Nat} {Q : Option AV → St → Prop} {st : List AV} {σ : St} {l0 l1 l2 : Option AV} : Rn (d) Q (47, 63, [l0, l1, l2], st, σ) = Rn (d) Q (47, 64, [l0, l1, l2], vI 0 :: st, σ) := by rw [E_iconst i47_63, ci_0]
theorem e47_64 {d : Nat} {Q : Option AV → St → Prop} {σ : St} {l0 l1 l2 : Option AV} {x : Int32} : Rn (d) Q (47, 64, [l0, l1, l2], [vI x], σ) = ((x = 0 ∨ x = 1) ∧ Q (some (vI x)) σ) := E_iretZ (st := []) i47_64 r47
theorem i48_0 : ins 48 0 = some (.aload_n 0, 1) := (congrArg (fun x : PTy => x.1.lookup 0) q48).trans rfl
theorem i48_1 : ins 48 1 = some (.invokevirtual 22, 3) := (congrArg (fun x : PTy => x.1.lookup 1) q48).trans rfl
theorem i48_4 : ins 48 4 = some (.bipush 97, 2) := (congrArg (fun x : PTy => x.1.lookup 4) q48).trans rfl
theorem i48_6 : ins 48 6 = some (.isub, 1) := (congrArg (fun x : PTy => x.1.lookup 6) q48).trans rfl
theorem i48_7 : ins 48 7 = some (.istore_n 2, 1) := (congrArg (fun x : PTy => x.1.lookup 7) q48).trans rfl
theorem i48_8 : ins 48 8 = some (.iload_n 2, 1) := (congrArg (fun x : PTy => x.1.lookup 8) q48).trans rfl
theorem i48_9 : ins 48 9 = some (.bipush 8, 2) := (congrArg (fun x : PTy => x.1.lookup 9) q48).trans rfl
theorem i48_11 : ins 48 11 = some (.invokestatic 52, 3) := (congrArg (fun x : PTy => x.1.lookup 11) q48).trans rfl
theorem i48_14 : ins 48 14 = some (.ifCond .eq 11, 3) := (congrArg (fun x : PTy => x.1.lookup 14) q48).trans rfl
theorem i48_17 : ins 48 17 = some (.aload_n 1, 1) := (congrArg (fun x : PTy => x.1.lookup 17) q48).trans rfl
theorem i48_18 : ins 48 18 = some (.iload_n 2, 1) := (congrArg (fun x : PTy => x.1.lookup 18) q48).trans rfl
theorem i48_19 : ins 48 19 = some (.invokevirtual 56, 3) := (congrArg (fun x : PTy => x.1.lookup 19) q48).trans rfl
theorem i48_22 : ins 48 22 = some (.ifCond .eq 5, 3) := (congrArg (fun x : PTy => x.1.lookup 22) q48).trans rfl
theorem i48_25 : ins 48 25 = some (.iconst 0, 1) := (congrArg (fun x : PTy => x.1.lookup 25) q48).trans rfl
theorem i48_26 : ins 48 26 = some (.ireturn, 1) := (congrArg (fun x : PTy => x.1.lookup 26) q48).trans rfl
theorem i48_27 : ins 48 27 = some (.aload_n 0, 1) := (congrArg (fun x : PTy => x.1.lookup 27) q48).trans rfl
theorem i48_28 : ins 48 28 = some (.dup, 1) := (congrArg (fun x : PTy => x.1.lookup 28) q48).trans rfl
theorem i48_29 : ins 48 29 = some (.getfield 19, 3) := (congrArg (fun x : PTy => x.1.lookup 29) q48).trans rfl
theorem i48_32 : ins 48 32 = some (.iconst 1, 1) := (congrArg (fun x : PTy => x.1.lookup 32) q48).trans rfl
theorem i48_33 : ins 48 33 = some (.iadd, 1) := (congrArg (fun x : PTy => x.1.lookup 33) q48).trans rfl
theorem i48_34 : ins 48 34 = some (.putfield 19, 3) := (congrArg (fun x : PTy => x.1.lookup 34) q48).trans rfl
theorem i48_37 : ins 48 37 = some (.aload_n 0, 1) := (congrArg (fun x : PTy => x.1.lookup 37) q48).trans rfl
theorem i48_38 : ins 48 38 = some (.bipush 61, 2) := (congrArg (fun x : PTy => x.1.lookup 38) q48).trans rfl
theorem i48_40 : ins 48 40 = some (.invokevirtual 49, 3) := (congrArg (fun x : PTy => x.1.lookup 40) q48).trans rfl
theorem i48_43 : ins 48 43 = some (.ifCond .ne 5, 3) := (congrArg (fun x : PTy => x.1.lookup 43) q48).trans rfl
theorem i48_46 : ins 48 46 = some (.iconst 0, 1) := (congrArg (fun x : PTy => x.1.lookup 46) q48).trans rfl
theorem i48_47 : ins 48 47 = some (.ireturn, 1) := (congrArg (fun x : PTy => x.1.lookup 47) q48).trans rfl
theorem i48_48 : ins 48 48 = some (.aload_n 0, 1) := (congrArg (fun x : PTy => x.1.lookup 48) q48).trans rfl
theorem i48_49 : ins 48 49 = some (.bipush 39, 2) := (congrArg (fun x : PTy => x.1.lookup 49) q48).trans rfl
theorem i48_51 : ins 48 51 = some (.invokevirtual 59, 3) := (congrArg (fun x : PTy => x.1.lookup 51) q48).trans rfl
theorem i48_54 : ins 48 54 = some (.istore_n 3, 1) := (congrArg (fun x : PTy => x.1.lookup 54) q48).trans rfl
theorem i48_55 : ins 48 55 = some (.iload_n 3, 1) := (congrArg (fun x : PTy => x.1.lookup 55) q48).trans rfl
theorem i48_56 : ins 48 56 = some (.ifCond .lt 12, 3) := (congrArg (fun x : PTy => x.1.lookup 56) q48).trans rfl
theorem i48_59 : ins 48 59 = some (.aload_n 0, 1) := (congrArg (fun x : PTy => x.1.lookup 59) q48).trans rfl
theorem i48_60 : ins 48 60 = some (.bipush 47, 2) := (congrArg (fun x : PTy => x.1.lookup 60) q48).trans rfl
theorem i48_62 : ins 48 62 = some (.invokevirtual 49, 3) := (congrArg (fun x : PTy => x.1.lookup 62) q48).trans rfl
theorem i48_65 : ins 48 65 = some (.ifCond .ne 5, 3) := (congrArg (fun x : PTy => x.1.lookup 65) q48).trans rfl
theorem i48_68 : ins 48 68 = some (.iconst 0, 1) := (congrArg (fun x : PTy => x.1.lookup 68) q48).trans rfl
theorem i48_69 : ins 48 69 = some (.ireturn, 1) := (congrArg (fun x : PTy => x.1.lookup 69) q48).trans rfl
theorem i48_70 : ins 48 70 = some (.aload_n 0, 1) := (congrArg (fun x : PTy => x.1.lookup 70) q48).trans rfl
theorem i48_71 : ins 48 71 = some (.bipush 100, 2) := (congrArg (fun x : PTy => x.1.lookup 71) q48).trans rfl
theorem i48_73 : ins 48 73 = some (.invokevirtual 59, 3) := (congrArg (fun x : PTy => x.1.lookup 73) q48).trans rfl
theorem i48_76 : ins 48 76 = some (.istore 4, 2) := (congrArg (fun x : PTy => x.1.lookup 76) q48).trans rfl
theorem i48_78 : ins 48 78 = some (.iload 4, 2) := (congrArg (fun x : PTy => x.1.lookup 78) q48).trans rfl
theorem i48_80 : ins 48 80 = some (.ifCond .ge 5, 3) := (congrArg (fun x : PTy => x.1.lookup 80) q48).trans rfl
theorem i48_83 : ins 48 83 = some (.iconst 0, 1) := (congrArg (fun x : PTy => x.1.lookup 83) q48).trans rfl
theorem i48_84 : ins 48 84 = some (.ireturn, 1) := (congrArg (fun x : PTy => x.1.lookup 84) q48).trans rfl
theorem i48_85 : ins 48 85 = some (.aload_n 1, 1) := (congrArg (fun x : PTy => x.1.lookup 85) q48).trans rfl
theorem i48_86 : ins 48 86 = some (.iload_n 2, 1) := (congrArg (fun x : PTy => x.1.lookup 86) q48).trans rfl
theorem i48_87 : ins 48 87 = some (.iload_n 3, 1) := (congrArg (fun x : PTy => x.1.lookup 87) q48).trans rfl
theorem i48_88 : ins 48 88 = some (.iload 4, 2) := (congrArg (fun x : PTy => x.1.lookup 88) q48).trans rfl
theorem i48_90 : ins 48 90 = some (.invokevirtual 63, 3) := (congrArg (fun x : PTy => x.1.lookup 90) q48).trans rfl
theorem i48_93 : ins 48 93 = some (.aload_n 0, 1) := (congrArg (fun x : PTy => x.1.lookup 93) q48).trans rfl
theorem i48_94 : ins 48 94 = some (.bipush 58, 2) := (congrArg (fun x : PTy => x.1.lookup 94) q48).trans rfl
theorem i48_96 : ins 48 96 = some (.invokevirtual 49, 3) := (congrArg (fun x : PTy => x.1.lookup 96) q48).trans rfl
theorem i48_99 : ins 48 99 = some (.ifCond .eq 13, 3) := (congrArg (fun x : PTy => x.1.lookup 99) q48).trans rfl
theorem i48_102 : ins 48 102 = some (.aload_n 0, 1) := (congrArg (fun x : PTy => x.1.lookup 102) q48).trans rfl
theorem i48_103 : ins 48 103 = some (.aload_n 1, 1) := (congrArg (fun x : PTy => x.1.lookup 103) q48).trans rfl
theorem i48_104 : ins 48 104 = some (.iload_n 2, 1) := (congrArg (fun x : PTy => x.1.lookup 104) q48).trans rfl
theorem i48_105 : ins 48 105 = some (.iconst 0, 1) := (congrArg (fun x : PTy => x.1.lookup 105) q48).trans rfl
theorem i48_106 : ins 48 106 = some (.invokevirtual 67, 3) := (congrArg (fun x : PTy => x.1.lookup 106) q48).trans rfl
theorem i48_109 : ins 48 109 = some (.ifCond .eq 7, 3) := (congrArg (fun x : PTy => x.1.lookup 109) q48).trans rfl
theorem i48_112 : ins 48 112 = some (.iconst 1, 1) := (congrArg (fun x : PTy => x.1.lookup 112) q48).trans rfl
theorem i48_113 : ins 48 113 = some (.goto 4, 3) := (congrArg (fun x : PTy => x.1.lookup 113) q48).trans rfl
theorem i48_116 : ins 48 116 = some (.iconst 0, 1) := (congrArg (fun x : PTy => x.1.lookup 116) q48).trans rfl
theorem i48_117 : ins 48 117 = some (.ireturn, 1) := (congrArg (fun x : PTy => x.1.lookup 117) q48).trans rfl
theorem e48_0 {d : Nat} {Q : Option AV → St → Prop} {st : List AV} {σ : St} {l1 l2 l3 l4 : Option AV} {x : Option (Nat × Nat × Nat)} : Rn (d) Q (48, 0, [some (vR x), l1, l2, l3, l4], st, σ) = Rn (d) Q (48, 1, [some (vR x), l1, l2, l3, l4], vR x :: st, σ) := E_aload_n i48_0 rfl
theorem e48_1 {d : Nat} {Q : Option AV → St → Prop} {st : List AV} {σ : St} {l0 l1 l2 l3 l4 : Option AV} {i : Nat} : Rn (d + 1) Q (48, 1, [l0, l1, l2, l3, l4], vR (some (7, 0, i)) :: st, σ) = (i < gN σ 7 ∧ catS st ≤ 8 ∧ Rn d (fun r σ' => Rn (d + 1) Q (48, 4, [l0, l1, l2, l3, l4], r.toList ++ st, σ')) (43, 0, [some (vR (some (7, 0, i))), none], [], σ)) := E_invV (a := []) i48_1 ((congrArg (fun z => mthQ z 22) o48).trans m7_22) o43 rfl (ek43 i) (en43 i)
theorem e48_4 {d : Nat} {Q : Option AV → St → Prop} {st : List AV} {σ : St} {l0 l1 l2 l3 l4 : Option AV} : Rn (d) Q (48, 4, [l0, l1, l2, l3, l4], st, σ) = Rn (d) Q (48, 6, [l0, l1, l2, l3, l4], vI 97 :: st, σ) := by rw [E_bipush i48_4, cb_97]
theorem e48_6 {d : Nat} {Q : Option AV → St → Prop} {st : List AV} {σ : St} {l0 l1 l2 l3 l4 : Option AV} {x y : Int32} : Rn (d) Q (48, 6, [l0, l1, l2, l3, l4], vI y :: vI x :: st, σ) = Rn (d) Q (48, 7, [l0, l1, l2, l3, l4], vI (x - y) :: st, σ) := E_isub i48_6
theorem s48_2 : okst 48 2 = true := by unfold okst; rw [x48]; rfl
theorem e48_7 {d : Nat} {Q : Option AV → St → Prop} {st : List AV} {σ : St} {l0 l1 l2 l3 l4 : Option AV} {x : Int32} : Rn (d) Q (48, 7, [l0, l1, l2, l3, l4], vI x :: st, σ) = Rn (d) Q (48, 8, [l0, l1, some (vI x), l3, l4], st, σ) := E_istore_n i48_7 s48_2
theorem e48_8 {d : Nat} {Q : Option AV → St → Prop} {st : List AV} {σ : St} {l0 l1 l3 l4 : Option AV} {x : Int32} : Rn (d) Q (48, 8, [l0, l1, some (vI x), l3, l4], st, σ) = Rn (d) Q (48, 9, [l0, l1, some (vI x), l3, l4], vI x :: st, σ) := E_iload_n i48_8 rfl
theorem e48_9 {d : Nat} {Q : Option AV → St → Prop} {st : List AV} {σ : St} {l0 l1 l2 l3 l4 : Option AV} : Rn (d) Q (48, 9, [l0, l1, l2, l3, l4], st, σ) = Rn (d) Q (48, 11, [l0, l1, l2, l3, l4], vI 8 :: st, σ) := by rw [E_bipush i48_9, cb_8]
theorem e48_11 {d : Nat} {Q : Option AV → St → Prop} {st : List AV} {σ : St} {l0 l1 l2 l3 l4 : Option AV} {a0 : Int32} {a1 : Int32} : Rn (d + 1) Q (48, 11, [l0, l1, l2, l3, l4], vI a1 :: vI a0 :: st, σ) = (catS st ≤ 8 ∧ Rn d (fun r σ' => Rn (d + 1) Q (48, 14, [l0, l1, l2, l3, l4], r.toList ++ st, σ')) (108, 0, [some (vI a0), some (vI a1)], [], σ)) := E_invS4 (a := [vI a1, vI a0]) i48_11 ((congrArg (fun z => mthQ z 52) o48).trans m7_52) rfl (ek108 a0 a1) (en108 a0 a1)
theorem e48_14 {d : Nat} {Q : Option AV → St → Prop} {st : List AV} {σ : St} {l0 l1 l2 l3 l4 : Option AV} {x : Int32} : Rn (d) Q (48, 14, [l0, l1, l2, l3, l4], vI x :: st, σ) = (if x = 0 then Rn (d) Q (48, 25, [l0, l1, l2, l3, l4], st, σ) else Rn (d) Q (48, 17, [l0, l1, l2, l3, l4], st, σ)) := E_if_eq 25 i48_14 (by decide)
theorem e48_17 {d : Nat} {Q : Option AV → St → Prop} {st : List AV} {σ : St} {l0 l2 l3 l4 : Option AV} {x : Option (Nat × Nat × Nat)} : Rn (d) Q (48, 17, [l0, some (vR x), l2, l3, l4], st, σ) = Rn (d) Q (48, 18, [l0, some (vR x), l2, l3, l4], vR x :: st, σ) := E_aload_n i48_17 rfl
theorem e48_18 {d : Nat} {Q : Option AV → St → Prop} {st : List AV} {σ : St} {l0 l1 l3 l4 : Option AV} {x : Int32} : Rn (d) Q (48, 18, [l0, l1, some (vI x), l3, l4], st, σ) = Rn (d) Q (48, 19, [l0, l1, some (vI x), l3, l4], vI x :: st, σ) := E_iload_n i48_18 rfl
theorem e48_19 {d : Nat} {Q : Option AV → St → Prop} {st : List AV} {σ : St} {l0 l1 l2 l3 l4 : Option AV} {i : Nat} {a1 : Int32} : Rn (d + 1) Q (48, 19, [l0, l1, l2, l3, l4], vI a1 :: vR (some (0, 0, i)) :: st, σ) = (i < gN σ 0 ∧ catS st ≤ 8 ∧ Rn d (fun r σ' => Rn (d + 1) Q (48, 22, [l0, l1, l2, l3, l4], r.toList ++ st, σ')) (2, 0, [some (vR (some (0, 0, i))), some (vI a1)], [], σ)) := E_invV (a := [vI a1]) i48_19 ((congrArg (fun z => mthQ z 56) o48).trans m7_56) o2 rfl (ek2 i a1) (en2 i a1)
theorem e48_22 {d : Nat} {Q : Option AV → St → Prop} {st : List AV} {σ : St} {l0 l1 l2 l3 l4 : Option AV} {x : Int32} : Rn (d) Q (48, 22, [l0, l1, l2, l3, l4], vI x :: st, σ) = (if x = 0 then Rn (d) Q (48, 27, [l0, l1, l2, l3, l4], st, σ) else Rn (d) Q (48, 25, [l0, l1, l2, l3, l4], st, σ)) := E_if_eq 27 i48_22 (by decide)
theorem e48_25 {d : Nat} {Q : Option AV → St → Prop} {st : List AV} {σ : St} {l0 l1 l2 l3 l4 : Option AV} : Rn (d) Q (48, 25, [l0, l1, l2, l3, l4], st, σ) = Rn (d) Q (48, 26, [l0, l1, l2, l3, l4], vI 0 :: st, σ) := by rw [E_iconst i48_25, ci_0]
theorem e48_26 {d : Nat} {Q : Option AV → St → Prop} {σ : St} {l0 l1 l2 l3 l4 : Option AV} {x : Int32} : Rn (d) Q (48, 26, [l0, l1, l2, l3, l4], [vI x], σ) = ((x = 0 ∨ x = 1) ∧ Q (some (vI x)) σ) := E_iretZ (st := []) i48_26 r48
theorem e48_27 {d : Nat} {Q : Option AV → St → Prop} {st : List AV} {σ : St} {l1 l2 l3 l4 : Option AV} {x : Option (Nat × Nat × Nat)} : Rn (d) Q (48, 27, [some (vR x), l1, l2, l3, l4], st, σ) = Rn (d) Q (48, 28, [some (vR x), l1, l2, l3, l4], vR x :: st, σ) := E_aload_n i48_27 rfl
theorem e48_28 {d : Nat} {Q : Option AV → St → Prop} {st : List AV} {σ : St} {l0 l1 l2 l3 l4 : Option AV} {x : Option (Nat × Nat × Nat)} : Rn (d) Q (48, 28, [l0, l1, l2, l3, l4], vR x :: st, σ) = Rn (d) Q (48, 29, [l0, l1, l2, l3, l4], vR x :: vR x :: st, σ) := E_dupR i48_28
theorem e48_29 {d : Nat} {Q : Option AV → St → Prop} {st : List AV} {σ : St} {l0 l1 l2 l3 l4 : Option AV} {i : Nat} : Rn (d) Q (48, 29, [l0, l1, l2, l3, l4], vR (some (7, 0, i)) :: st, σ) = (i < gN σ 7 ∧ Rn (d) Q (48, 32, [l0, l1, l2, l3, l4], vI (gI σ 7 2 i) :: st, σ)) := E_getI i48_29 ((congrArg (fun z => fldQ z 19) o48).trans f7_19) rfl
theorem e48_32 {d : Nat} {Q : Option AV → St → Prop} {st : List AV} {σ : St} {l0 l1 l2 l3 l4 : Option AV} : Rn (d) Q (48, 32, [l0, l1, l2, l3, l4], st, σ) = Rn (d) Q (48, 33, [l0, l1, l2, l3, l4], vI 1 :: st, σ) := by rw [E_iconst i48_32, ci_1]
theorem e48_33 {d : Nat} {Q : Option AV → St → Prop} {st : List AV} {σ : St} {l0 l1 l2 l3 l4 : Option AV} {x y : Int32} : Rn (d) Q (48, 33, [l0, l1, l2, l3, l4], vI y :: vI x :: st, σ) = Rn (d) Q (48, 34, [l0, l1, l2, l3, l4], vI (x + y) :: st, σ) := E_iadd i48_33
theorem e48_34 {d : Nat} {Q : Option AV → St → Prop} {st : List AV} {σ : St} {l0 l1 l2 l3 l4 : Option AV} {i : Nat} {x : Int32} : Rn (d) Q (48, 34, [l0, l1, l2, l3, l4], vI x :: vR (some (7, 0, i)) :: st, σ) = (i < gN σ 7 ∧ Rn (d) Q (48, 37, [l0, l1, l2, l3, l4], st, setI σ 7 2 i x)) := E_putI i48_34 ((congrArg (fun z => fldQ z 19) o48).trans f7_19) rfl (Or.inl rfl)
theorem e48_37 {d : Nat} {Q : Option AV → St → Prop} {st : List AV} {σ : St} {l1 l2 l3 l4 : Option AV} {x : Option (Nat × Nat × Nat)} : Rn (d) Q (48, 37, [some (vR x), l1, l2, l3, l4], st, σ) = Rn (d) Q (48, 38, [some (vR x), l1, l2, l3, l4], vR x :: st, σ) := E_aload_n i48_37 rfl
theorem e48_38 {d : Nat} {Q : Option AV → St → Prop} {st : List AV} {σ : St} {l0 l1 l2 l3 l4 : Option AV} : Rn (d) Q (48, 38, [l0, l1, l2, l3, l4], st, σ) = Rn (d) Q (48, 40, [l0, l1, l2, l3, l4], vI 61 :: st, σ) := by rw [E_bipush i48_38, cb_61]
theorem e48_40 {d : Nat} {Q : Option AV → St → Prop} {st : List AV} {σ : St} {l0 l1 l2 l3 l4 : Option AV} {i : Nat} {a1 : Int32} : Rn (d + 1) Q (48, 40, [l0, l1, l2, l3, l4], vI a1 :: vR (some (7, 0, i)) :: st, σ) = (i < gN σ 7 ∧ catS st ≤ 8 ∧ Rn d (fun r σ' => Rn (d + 1) Q (48, 43, [l0, l1, l2, l3, l4], r.toList ++ st, σ')) (44, 0, [some (vR (some (7, 0, i))), some (vI a1)], [], σ)) := E_invV (a := [vI a1]) i48_40 ((congrArg (fun z => mthQ z 49) o48).trans m7_49) o44 rfl (ek44 i a1) (en44 i a1)
theorem e48_43 {d : Nat} {Q : Option AV → St → Prop} {st : List AV} {σ : St} {l0 l1 l2 l3 l4 : Option AV} {x : Int32} : Rn (d) Q (48, 43, [l0, l1, l2, l3, l4], vI x :: st, σ) = (if x = 0 then Rn (d) Q (48, 46, [l0, l1, l2, l3, l4], st, σ) else Rn (d) Q (48, 48, [l0, l1, l2, l3, l4], st, σ)) := E_if_ne 48 i48_43 (by decide)
theorem e48_46 {d : Nat} {Q : Option AV → St → Prop} {st : List AV} {σ : St} {l0 l1 l2 l3 l4 : Option AV} : Rn (d) Q (48, 46, [l0, l1, l2, l3, l4], st, σ) = Rn (d) Q (48, 47, [l0, l1, l2, l3, l4], vI 0 :: st, σ) := by rw [E_iconst i48_46, ci_0]
theorem e48_47 {d : Nat} {Q : Option AV → St → Prop} {σ : St} {l0 l1 l2 l3 l4 : Option AV} {x : Int32} : Rn (d) Q (48, 47, [l0, l1, l2, l3, l4], [vI x], σ) = ((x = 0 ∨ x = 1) ∧ Q (some (vI x)) σ) := E_iretZ (st := []) i48_47 r48
theorem e48_48 {d : Nat} {Q : Option AV → St → Prop} {st : List AV} {σ : St} {l1 l2 l3 l4 : Option AV} {x : Option (Nat × Nat × Nat)} : Rn (d) Q (48, 48, [some (vR x), l1, l2, l3, l4], st, σ) = Rn (d) Q (48, 49, [some (vR x), l1, l2, l3, l4], vR x :: st, σ) := E_aload_n i48_48 rfl
theorem e48_49 {d : Nat} {Q : Option AV → St → Prop} {st : List AV} {σ : St} {l0 l1 l2 l3 l4 : Option AV} : Rn (d) Q (48, 49, [l0, l1, l2, l3, l4], st, σ) = Rn (d) Q (48, 51, [l0, l1, l2, l3, l4], vI 39 :: st, σ) := by rw [E_bipush i48_49, cb_39]
theorem e48_51 {d : Nat} {Q : Option AV → St → Prop} {st : List AV} {σ : St} {l0 l1 l2 l3 l4 : Option AV} {i : Nat} {a1 : Int32} : Rn (d + 1) Q (48, 51, [l0, l1, l2, l3, l4], vI a1 :: vR (some (7, 0, i)) :: st, σ) = (i < gN σ 7 ∧ catS st ≤ 8 ∧ Rn d (fun r σ' => Rn (d + 1) Q (48, 54, [l0, l1, l2, l3, l4], r.toList ++ st, σ')) (46, 0, [some (vR (some (7, 0, i))), some (vI a1), none, none, none], [], σ)) := E_invV (a := [vI a1]) i48_51 ((congrArg (fun z => mthQ z 59) o48).trans m7_59) o46 rfl (ek46 i a1) (en46 i a1)
theorem s48_3 : okst 48 3 = true := by unfold okst; rw [x48]; rfl
theorem e48_54 {d : Nat} {Q : Option AV → St → Prop} {st : List AV} {σ : St} {l0 l1 l2 l3 l4 : Option AV} {x : Int32} : Rn (d) Q (48, 54, [l0, l1, l2, l3, l4], vI x :: st, σ) = Rn (d) Q (48, 55, [l0, l1, l2, some (vI x), l4], st, σ) := E_istore_n i48_54 s48_3
theorem e48_55 {d : Nat} {Q : Option AV → St → Prop} {st : List AV} {σ : St} {l0 l1 l2 l4 : Option AV} {x : Int32} : Rn (d) Q (48, 55, [l0, l1, l2, some (vI x), l4], st, σ) = Rn (d) Q (48, 56, [l0, l1, l2, some (vI x), l4], vI x :: st, σ) := E_iload_n i48_55 rfl
theorem e48_56 {d : Nat} {Q : Option AV → St → Prop} {st : List AV} {σ : St} {l0 l1 l2 l3 l4 : Option AV} {x : Int32} : Rn (d) Q (48, 56, [l0, l1, l2, l3, l4], vI x :: st, σ) = (if x < 0 then Rn (d) Q (48, 68, [l0, l1, l2, l3, l4], st, σ) else Rn (d) Q (48, 59, [l0, l1, l2, l3, l4], st, σ)) := E_if_lt 68 i48_56 (by decide)
theorem e48_59 {d : Nat} {Q : Option AV → St → Prop} {st : List AV} {σ : St} {l1 l2 l3 l4 : Option AV} {x : Option (Nat × Nat × Nat)} : Rn (d) Q (48, 59, [some (vR x), l1, l2, l3, l4], st, σ) = Rn (d) Q (48, 60, [some (vR x), l1, l2, l3, l4], vR x :: st, σ) := E_aload_n i48_59 rfl
theorem e48_60 {d : Nat} {Q : Option AV → St → Prop} {st : List AV} {σ : St} {l0 l1 l2 l3 l4 : Option AV} : Rn (d) Q (48, 60, [l0, l1, l2, l3, l4], st, σ) = Rn (d) Q (48, 62, [l0, l1, l2, l3, l4], vI 47 :: st, σ) := by rw [E_bipush i48_60, cb_47]
theorem e48_62 {d : Nat} {Q : Option AV → St → Prop} {st : List AV} {σ : St} {l0 l1 l2 l3 l4 : Option AV} {i : Nat} {a1 : Int32} : Rn (d + 1) Q (48, 62, [l0, l1, l2, l3, l4], vI a1 :: vR (some (7, 0, i)) :: st, σ) = (i < gN σ 7 ∧ catS st ≤ 8 ∧ Rn d (fun r σ' => Rn (d + 1) Q (48, 65, [l0, l1, l2, l3, l4], r.toList ++ st, σ')) (44, 0, [some (vR (some (7, 0, i))), some (vI a1)], [], σ)) := E_invV (a := [vI a1]) i48_62 ((congrArg (fun z => mthQ z 49) o48).trans m7_49) o44 rfl (ek44 i a1) (en44 i a1)
theorem e48_65 {d : Nat} {Q : Option AV → St → Prop} {st : List AV} {σ : St} {l0 l1 l2 l3 l4 : Option AV} {x : Int32} : Rn (d) Q (48, 65, [l0, l1, l2, l3, l4], vI x :: st, σ) = (if x = 0 then Rn (d) Q (48, 68, [l0, l1, l2, l3, l4], st, σ) else Rn (d) Q (48, 70, [l0, l1, l2, l3, l4], st, σ)) := E_if_ne 70 i48_65 (by decide)
theorem e48_68 {d : Nat} {Q : Option AV → St → Prop} {st : List AV} {σ : St} {l0 l1 l2 l3 l4 : Option AV} : Rn (d) Q (48, 68, [l0, l1, l2, l3, l4], st, σ) = Rn (d) Q (48, 69, [l0, l1, l2, l3, l4], vI 0 :: st, σ) := by rw [E_iconst i48_68, ci_0]
theorem e48_69 {d : Nat} {Q : Option AV → St → Prop} {σ : St} {l0 l1 l2 l3 l4 : Option AV} {x : Int32} : Rn (d) Q (48, 69, [l0, l1, l2, l3, l4], [vI x], σ) = ((x = 0 ∨ x = 1) ∧ Q (some (vI x)) σ) := E_iretZ (st := []) i48_69 r48
theorem e48_70 {d : Nat} {Q : Option AV → St → Prop} {st : List AV} {σ : St} {l1 l2 l3 l4 : Option AV} {x : Option (Nat × Nat × Nat)} : Rn (d) Q (48, 70, [some (vR x), l1, l2, l3, l4], st, σ) = Rn (d) Q (48, 71, [some (vR x), l1, l2, l3, l4], vR x :: st, σ) := E_aload_n i48_70 rfl
theorem e48_71 {d : Nat} {Q : Option AV → St → Prop} {st : List AV} {σ : St} {l0 l1 l2 l3 l4 : Option AV} : Rn (d) Q (48, 71, [l0, l1, l2, l3, l4], st, σ) = Rn (d) Q (48, 73, [l0, l1, l2, l3, l4], vI 100 :: st, σ) := by rw [E_bipush i48_71, cb_100]
theorem e48_73 {d : Nat} {Q : Option AV → St → Prop} {st : List AV} {σ : St} {l0 l1 l2 l3 l4 : Option AV} {i : Nat} {a1 : Int32} : Rn (d + 1) Q (48, 73, [l0, l1, l2, l3, l4], vI a1 :: vR (some (7, 0, i)) :: st, σ) = (i < gN σ 7 ∧ catS st ≤ 8 ∧ Rn d (fun r σ' => Rn (d + 1) Q (48, 76, [l0, l1, l2, l3, l4], r.toList ++ st, σ')) (46, 0, [some (vR (some (7, 0, i))), some (vI a1), none, none, none], [], σ)) := E_invV (a := [vI a1]) i48_73 ((congrArg (fun z => mthQ z 59) o48).trans m7_59) o46 rfl (ek46 i a1) (en46 i a1)
theorem s48_4 : okst 48 4 = true := by unfold okst; rw [x48]; rfl
theorem e48_76 {d : Nat} {Q : Option AV → St → Prop} {st : List AV} {σ : St} {l0 l1 l2 l3 l4 : Option AV} {x : Int32} : Rn (d) Q (48, 76, [l0, l1, l2, l3, l4], vI x :: st, σ) = Rn (d) Q (48, 78, [l0, l1, l2, l3, some (vI x)], st, σ) := E_istore i48_76 s48_4
theorem e48_78 {d : Nat} {Q : Option AV → St → Prop} {st : List AV} {σ : St} {l0 l1 l2 l3 : Option AV} {x : Int32} : Rn (d) Q (48, 78, [l0, l1, l2, l3, some (vI x)], st, σ) = Rn (d) Q (48, 80, [l0, l1, l2, l3, some (vI x)], vI x :: st, σ) := E_iload i48_78 rfl
theorem e48_80 {d : Nat} {Q : Option AV → St → Prop} {st : List AV} {σ : St} {l0 l1 l2 l3 l4 : Option AV} {x : Int32} : Rn (d) Q (48, 80, [l0, l1, l2, l3, l4], vI x :: st, σ) = (if 0 ≤ x then Rn (d) Q (48, 85, [l0, l1, l2, l3, l4], st, σ) else Rn (d) Q (48, 83, [l0, l1, l2, l3, l4], st, σ)) := E_if_ge 85 i48_80 (by decide)
theorem e48_83 {d : Nat} {Q : Option AV → St → Prop} {st : List AV} {σ : St} {l0 l1 l2 l3 l4 : Option AV} : Rn (d) Q (48, 83, [l0, l1, l2, l3, l4], st, σ) = Rn (d) Q (48, 84, [l0, l1, l2, l3, l4], vI 0 :: st, σ) := by rw [E_iconst i48_83, ci_0]
theorem e48_84 {d : Nat} {Q : Option AV → St → Prop} {σ : St} {l0 l1 l2 l3 l4 : Option AV} {x : Int32} : Rn (d) Q (48, 84, [l0, l1, l2, l3, l4], [vI x], σ) = ((x = 0 ∨ x = 1) ∧ Q (some (vI x)) σ) := E_iretZ (st := []) i48_84 r48
theorem e48_85 {d : Nat} {Q : Option AV → St → Prop} {st : List AV} {σ : St} {l0 l2 l3 l4 : Option AV} {x : Option (Nat × Nat × Nat)} : Rn (d) Q (48, 85, [l0, some (vR x), l2, l3, l4], st, σ) = Rn (d) Q (48, 86, [l0, some (vR x), l2, l3, l4], vR x :: st, σ) := E_aload_n i48_85 rfl
theorem e48_86 {d : Nat} {Q : Option AV → St → Prop} {st : List AV} {σ : St} {l0 l1 l3 l4 : Option AV} {x : Int32} : Rn (d) Q (48, 86, [l0, l1, some (vI x), l3, l4], st, σ) = Rn (d) Q (48, 87, [l0, l1, some (vI x), l3, l4], vI x :: st, σ) := E_iload_n i48_86 rfl
theorem e48_87 {d : Nat} {Q : Option AV → St → Prop} {st : List AV} {σ : St} {l0 l1 l2 l4 : Option AV} {x : Int32} : Rn (d) Q (48, 87, [l0, l1, l2, some (vI x), l4], st, σ) = Rn (d) Q (48, 88, [l0, l1, l2, some (vI x), l4], vI x :: st, σ) := E_iload_n i48_87 rfl
theorem e48_88 {d : Nat} {Q : Option AV → St → Prop} {st : List AV} {σ : St} {l0 l1 l2 l3 : Option AV} {x : Int32} : Rn (d) Q (48, 88, [l0, l1, l2, l3, some (vI x)], st, σ) = Rn (d) Q (48, 90, [l0, l1, l2, l3, some (vI x)], vI x :: st, σ) := E_iload i48_88 rfl
theorem e48_90 {d : Nat} {Q : Option AV → St → Prop} {st : List AV} {σ : St} {l0 l1 l2 l3 l4 : Option AV} {i : Nat} {a1 : Int32} {a2 : Int32} {a3 : Int32} : Rn (d + 1) Q (48, 90, [l0, l1, l2, l3, l4], vI a3 :: vI a2 :: vI a1 :: vR (some (0, 0, i)) :: st, σ) = (i < gN σ 0 ∧ catS st ≤ 8 ∧ Rn d (fun r σ' => Rn (d + 1) Q (48, 93, [l0, l1, l2, l3, l4], r.toList ++ st, σ')) (3, 0, [some (vR (some (0, 0, i))), some (vI a1), some (vI a2), some (vI a3)], [], σ)) := E_invV (a := [vI a3, vI a2, vI a1]) i48_90 ((congrArg (fun z => mthQ z 63) o48).trans m7_63) o3 rfl (ek3 i a1 a2 a3) (en3 i a1 a2 a3)
theorem e48_93 {d : Nat} {Q : Option AV → St → Prop} {st : List AV} {σ : St} {l1 l2 l3 l4 : Option AV} {x : Option (Nat × Nat × Nat)} : Rn (d) Q (48, 93, [some (vR x), l1, l2, l3, l4], st, σ) = Rn (d) Q (48, 94, [some (vR x), l1, l2, l3, l4], vR x :: st, σ) := E_aload_n i48_93 rfl
theorem e48_94 {d : Nat} {Q : Option AV → St → Prop} {st : List AV} {σ : St} {l0 l1 l2 l3 l4 : Option AV} : Rn (d) Q (48, 94, [l0, l1, l2, l3, l4], st, σ) = Rn (d) Q (48, 96, [l0, l1, l2, l3, l4], vI 58 :: st, σ) := by rw [E_bipush i48_94, cb_58]
theorem e48_96 {d : Nat} {Q : Option AV → St → Prop} {st : List AV} {σ : St} {l0 l1 l2 l3 l4 : Option AV} {i : Nat} {a1 : Int32} : Rn (d + 1) Q (48, 96, [l0, l1, l2, l3, l4], vI a1 :: vR (some (7, 0, i)) :: st, σ) = (i < gN σ 7 ∧ catS st ≤ 8 ∧ Rn d (fun r σ' => Rn (d + 1) Q (48, 99, [l0, l1, l2, l3, l4], r.toList ++ st, σ')) (44, 0, [some (vR (some (7, 0, i))), some (vI a1)], [], σ)) := E_invV (a := [vI a1]) i48_96 ((congrArg (fun z => mthQ z 49) o48).trans m7_49) o44 rfl (ek44 i a1) (en44 i a1)
theorem e48_99 {d : Nat} {Q : Option AV → St → Prop} {st : List AV} {σ : St} {l0 l1 l2 l3 l4 : Option AV} {x : Int32} : Rn (d) Q (48, 99, [l0, l1, l2, l3, l4], vI x :: st, σ) = (if x = 0 then Rn (d) Q (48, 112, [l0, l1, l2, l3, l4], st, σ) else Rn (d) Q (48, 102, [l0, l1, l2, l3, l4], st, σ)) := E_if_eq 112 i48_99 (by decide)
theorem e48_102 {d : Nat} {Q : Option AV → St → Prop} {st : List AV} {σ : St} {l1 l2 l3 l4 : Option AV} {x : Option (Nat × Nat × Nat)} : Rn (d) Q (48, 102, [some (vR x), l1, l2, l3, l4], st, σ) = Rn (d) Q (48, 103, [some (vR x), l1, l2, l3, l4], vR x :: st, σ) := E_aload_n i48_102 rfl
theorem e48_103 {d : Nat} {Q : Option AV → St → Prop} {st : List AV} {σ : St} {l0 l2 l3 l4 : Option AV} {x : Option (Nat × Nat × Nat)} : Rn (d) Q (48, 103, [l0, some (vR x), l2, l3, l4], st, σ) = Rn (d) Q (48, 104, [l0, some (vR x), l2, l3, l4], vR x :: st, σ) := E_aload_n i48_103 rfl
theorem e48_104 {d : Nat} {Q : Option AV → St → Prop} {st : List AV} {σ : St} {l0 l1 l3 l4 : Option AV} {x : Int32} : Rn (d) Q (48, 104, [l0, l1, some (vI x), l3, l4], st, σ) = Rn (d) Q (48, 105, [l0, l1, some (vI x), l3, l4], vI x :: st, σ) := E_iload_n i48_104 rfl
theorem e48_105 {d : Nat} {Q : Option AV → St → Prop} {st : List AV} {σ : St} {l0 l1 l2 l3 l4 : Option AV} : Rn (d) Q (48, 105, [l0, l1, l2, l3, l4], st, σ) = Rn (d) Q (48, 106, [l0, l1, l2, l3, l4], vI 0 :: st, σ) := by rw [E_iconst i48_105, ci_0]
theorem e48_106 {d : Nat} {Q : Option AV → St → Prop} {st : List AV} {σ : St} {l0 l1 l2 l3 l4 : Option AV} {i : Nat} {a1 : Option (Nat × Nat × Nat)} {a2 : Int32} {a3 : Int32} : Rn (d + 1) Q (48, 106, [l0, l1, l2, l3, l4], vI a3 :: vI a2 :: vR a1 :: vR (some (7, 0, i)) :: st, σ) = (i < gN σ 7 ∧ catS st ≤ 8 ∧ Rn d (fun r σ' => Rn (d + 1) Q (48, 109, [l0, l1, l2, l3, l4], r.toList ++ st, σ')) (49, 0, [some (vR (some (7, 0, i))), some (vR a1), some (vI a2), some (vI a3), none, none], [], σ)) := E_invV (a := [vI a3, vI a2, vR a1]) i48_106 ((congrArg (fun z => mthQ z 67) o48).trans m7_67) o49 rfl (ek49 i a1 a2 a3) (en49 i a1 a2 a3)
theorem e48_109 {d : Nat} {Q : Option AV → St → Prop} {st : List AV} {σ : St} {l0 l1 l2 l3 l4 : Option AV} {x : Int32} : Rn (d) Q (48, 109, [l0, l1, l2, l3, l4], vI x :: st, σ) = (if x = 0 then Rn (d) Q (48, 116, [l0, l1, l2, l3, l4], st, σ) else Rn (d) Q (48, 112, [l0, l1, l2, l3, l4], st, σ)) := E_if_eq 116 i48_109 (by decide)
theorem e48_112 {d : Nat} {Q : Option AV → St → Prop} {st : List AV} {σ : St} {l0 l1 l2 l3 l4 : Option AV} : Rn (d) Q (48, 112, [l0, l1, l2, l3, l4], st, σ) = Rn (d) Q (48, 113, [l0, l1, l2, l3, l4], vI 1 :: st, σ) := by rw [E_iconst i48_112, ci_1]
theorem e48_113 {d : Nat} {Q : Option AV → St → Prop} {st : List AV} {σ : St} {l0 l1 l2 l3 l4 : Option AV} : Rn (d) Q (48, 113, [l0, l1, l2, l3, l4], st, σ) = Rn (d) Q (48, 117, [l0, l1, l2, l3, l4], st, σ) := E_goto 117 i48_113 (by decide)
theorem e48_116 {d : Nat} {Q : Option AV → St → Prop} {st : List AV} {σ : St} {l0 l1 l2 l3 l4 : Option AV} : Rn (d) Q (48, 116, [l0, l1, l2, l3, l4], st, σ) = Rn (d) Q (48, 117, [l0, l1, l2, l3, l4], vI 0 :: st, σ) := by rw [E_iconst i48_116, ci_0]
theorem e48_117 {d : Nat} {Q : Option AV → St → Prop} {σ : St} {l0 l1 l2 l3 l4 : Option AV} {x : Int32} : Rn (d) Q (48, 117, [l0, l1, l2, l3, l4], [vI x], σ) = ((x = 0 ∨ x = 1) ∧ Q (some (vI x)) σ) := E_iretZ (st := []) i48_117 r48
theorem i49_0 : ins 49 0 = some (.iconst 0, 1) := (congrArg (fun x : PTy => x.1.lookup 0) q49).trans rfl
theorem i49_1 : ins 49 1 = some (.istore 4, 2) := (congrArg (fun x : PTy => x.1.lookup 1) q49).trans rfl
theorem i49_3 : ins 49 3 = some (.iload 4, 2) := (congrArg (fun x : PTy => x.1.lookup 3) q49).trans rfl
theorem i49_5 : ins 49 5 = some (.bipush 120, 2) := (congrArg (fun x : PTy => x.1.lookup 5) q49).trans rfl
theorem i49_7 : ins 49 7 = some (.if_icmp .ge 88, 3) := (congrArg (fun x : PTy => x.1.lookup 7) q49).trans rfl
theorem i49_10 : ins 49 10 = some (.aload_n 0, 1) := (congrArg (fun x : PTy => x.1.lookup 10) q49).trans rfl
theorem i49_11 : ins 49 11 = some (.aload_n 1, 1) := (congrArg (fun x : PTy => x.1.lookup 11) q49).trans rfl
theorem i49_12 : ins 49 12 = some (.iload_n 2, 1) := (congrArg (fun x : PTy => x.1.lookup 12) q49).trans rfl
theorem i49_13 : ins 49 13 = some (.iload_n 3, 1) := (congrArg (fun x : PTy => x.1.lookup 13) q49).trans rfl
theorem i49_14 : ins 49 14 = some (.invokevirtual 71, 3) := (congrArg (fun x : PTy => x.1.lookup 14) q49).trans rfl
theorem i49_17 : ins 49 17 = some (.ifCond .ne 5, 3) := (congrArg (fun x : PTy => x.1.lookup 17) q49).trans rfl
theorem i49_20 : ins 49 20 = some (.iconst 0, 1) := (congrArg (fun x : PTy => x.1.lookup 20) q49).trans rfl
theorem i49_21 : ins 49 21 = some (.ireturn, 1) := (congrArg (fun x : PTy => x.1.lookup 21) q49).trans rfl
theorem i49_22 : ins 49 22 = some (.iconst 0, 1) := (congrArg (fun x : PTy => x.1.lookup 22) q49).trans rfl
theorem i49_23 : ins 49 23 = some (.istore 5, 2) := (congrArg (fun x : PTy => x.1.lookup 23) q49).trans rfl
theorem i49_25 : ins 49 25 = some (.iload 5, 2) := (congrArg (fun x : PTy => x.1.lookup 25) q49).trans rfl
theorem i49_27 : ins 49 27 = some (.bipush 120, 2) := (congrArg (fun x : PTy => x.1.lookup 27) q49).trans rfl
theorem i49_29 : ins 49 29 = some (.if_icmp .ge 37, 3) := (congrArg (fun x : PTy => x.1.lookup 29) q49).trans rfl
theorem i49_32 : ins 49 32 = some (.aload_n 0, 1) := (congrArg (fun x : PTy => x.1.lookup 32) q49).trans rfl
theorem i49_33 : ins 49 33 = some (.bipush 38, 2) := (congrArg (fun x : PTy => x.1.lookup 33) q49).trans rfl
theorem i49_35 : ins 49 35 = some (.invokevirtual 49, 3) := (congrArg (fun x : PTy => x.1.lookup 35) q49).trans rfl
theorem i49_38 : ins 49 38 = some (.ifCond .eq 28, 3) := (congrArg (fun x : PTy => x.1.lookup 38) q49).trans rfl
theorem i49_41 : ins 49 41 = some (.aload_n 0, 1) := (congrArg (fun x : PTy => x.1.lookup 41) q49).trans rfl
theorem i49_42 : ins 49 42 = some (.aload_n 1, 1) := (congrArg (fun x : PTy => x.1.lookup 42) q49).trans rfl
theorem i49_43 : ins 49 43 = some (.iload_n 2, 1) := (congrArg (fun x : PTy => x.1.lookup 43) q49).trans rfl
theorem i49_44 : ins 49 44 = some (.iload_n 3, 1) := (congrArg (fun x : PTy => x.1.lookup 44) q49).trans rfl
theorem i49_45 : ins 49 45 = some (.invokevirtual 71, 3) := (congrArg (fun x : PTy => x.1.lookup 45) q49).trans rfl
theorem i49_48 : ins 49 48 = some (.ifCond .ne 5, 3) := (congrArg (fun x : PTy => x.1.lookup 48) q49).trans rfl
theorem i49_51 : ins 49 51 = some (.iconst 0, 1) := (congrArg (fun x : PTy => x.1.lookup 51) q49).trans rfl
theorem i49_52 : ins 49 52 = some (.ireturn, 1) := (congrArg (fun x : PTy => x.1.lookup 52) q49).trans rfl
theorem i49_53 : ins 49 53 = some (.aload_n 1, 1) := (congrArg (fun x : PTy => x.1.lookup 53) q49).trans rfl
theorem i49_54 : ins 49 54 = some (.iload_n 2, 1) := (congrArg (fun x : PTy => x.1.lookup 54) q49).trans rfl
theorem i49_55 : ins 49 55 = some (.bipush (-2), 2) := (congrArg (fun x : PTy => x.1.lookup 55) q49).trans rfl
theorem i49_57 : ins 49 57 = some (.invokevirtual 74, 3) := (congrArg (fun x : PTy => x.1.lookup 57) q49).trans rfl
theorem i49_60 : ins 49 60 = some (.iinc 5 1, 3) := (congrArg (fun x : PTy => x.1.lookup 60) q49).trans rfl
theorem i49_63 : ins 49 63 = some (.goto (-38), 3) := (congrArg (fun x : PTy => x.1.lookup 63) q49).trans rfl
theorem i49_66 : ins 49 66 = some (.iload 4, 2) := (congrArg (fun x : PTy => x.1.lookup 66) q49).trans rfl
theorem i49_68 : ins 49 68 = some (.ifCond .le 10, 3) := (congrArg (fun x : PTy => x.1.lookup 68) q49).trans rfl
theorem i49_71 : ins 49 71 = some (.aload_n 1, 1) := (congrArg (fun x : PTy => x.1.lookup 71) q49).trans rfl
theorem i49_72 : ins 49 72 = some (.iload_n 2, 1) := (congrArg (fun x : PTy => x.1.lookup 72) q49).trans rfl
theorem i49_73 : ins 49 73 = some (.bipush (-3), 2) := (congrArg (fun x : PTy => x.1.lookup 73) q49).trans rfl
theorem i49_75 : ins 49 75 = some (.invokevirtual 74, 3) := (congrArg (fun x : PTy => x.1.lookup 75) q49).trans rfl
theorem i49_78 : ins 49 78 = some (.aload_n 0, 1) := (congrArg (fun x : PTy => x.1.lookup 78) q49).trans rfl
theorem i49_79 : ins 49 79 = some (.bipush 124, 2) := (congrArg (fun x : PTy => x.1.lookup 79) q49).trans rfl
theorem i49_81 : ins 49 81 = some (.invokevirtual 49, 3) := (congrArg (fun x : PTy => x.1.lookup 81) q49).trans rfl
theorem i49_84 : ins 49 84 = some (.ifCond .ne 5, 3) := (congrArg (fun x : PTy => x.1.lookup 84) q49).trans rfl
theorem i49_87 : ins 49 87 = some (.iconst 1, 1) := (congrArg (fun x : PTy => x.1.lookup 87) q49).trans rfl
theorem i49_88 : ins 49 88 = some (.ireturn, 1) := (congrArg (fun x : PTy => x.1.lookup 88) q49).trans rfl
theorem i49_89 : ins 49 89 = some (.iinc 4 1, 3) := (congrArg (fun x : PTy => x.1.lookup 89) q49).trans rfl
theorem i49_92 : ins 49 92 = some (.goto (-89), 3) := (congrArg (fun x : PTy => x.1.lookup 92) q49).trans rfl
theorem i49_95 : ins 49 95 = some (.iconst 0, 1) := (congrArg (fun x : PTy => x.1.lookup 95) q49).trans rfl
theorem i49_96 : ins 49 96 = some (.ireturn, 1) := (congrArg (fun x : PTy => x.1.lookup 96) q49).trans rfl
theorem e49_0 {d : Nat} {Q : Option AV → St → Prop} {st : List AV} {σ : St} {l0 l1 l2 l3 l4 l5 : Option AV} : Rn (d) Q (49, 0, [l0, l1, l2, l3, l4, l5], st, σ) = Rn (d) Q (49, 1, [l0, l1, l2, l3, l4, l5], vI 0 :: st, σ) := by rw [E_iconst i49_0, ci_0]
theorem s49_4 : okst 49 4 = true := by unfold okst; rw [x49]; rfl
theorem e49_1 {d : Nat} {Q : Option AV → St → Prop} {st : List AV} {σ : St} {l0 l1 l2 l3 l4 l5 : Option AV} {x : Int32} : Rn (d) Q (49, 1, [l0, l1, l2, l3, l4, l5], vI x :: st, σ) = Rn (d) Q (49, 3, [l0, l1, l2, l3, some (vI x), l5], st, σ) := E_istore i49_1 s49_4
theorem e49_3 {d : Nat} {Q : Option AV → St → Prop} {st : List AV} {σ : St} {l0 l1 l2 l3 l5 : Option AV} {x : Int32} : Rn (d) Q (49, 3, [l0, l1, l2, l3, some (vI x), l5], st, σ) = Rn (d) Q (49, 5, [l0, l1, l2, l3, some (vI x), l5], vI x :: st, σ) := E_iload i49_3 rfl
theorem e49_5 {d : Nat} {Q : Option AV → St → Prop} {st : List AV} {σ : St} {l0 l1 l2 l3 l4 l5 : Option AV} : Rn (d) Q (49, 5, [l0, l1, l2, l3, l4, l5], st, σ) = Rn (d) Q (49, 7, [l0, l1, l2, l3, l4, l5], vI 120 :: st, σ) := by rw [E_bipush i49_5, cb_120]
theorem e49_7 {d : Nat} {Q : Option AV → St → Prop} {st : List AV} {σ : St} {l0 l1 l2 l3 l4 l5 : Option AV} {x y : Int32} : Rn (d) Q (49, 7, [l0, l1, l2, l3, l4, l5], vI y :: vI x :: st, σ) = (if y ≤ x then Rn (d) Q (49, 95, [l0, l1, l2, l3, l4, l5], st, σ) else Rn (d) Q (49, 10, [l0, l1, l2, l3, l4, l5], st, σ)) := E_icmp_ge 95 i49_7 (by decide)
theorem e49_10 {d : Nat} {Q : Option AV → St → Prop} {st : List AV} {σ : St} {l1 l2 l3 l4 l5 : Option AV} {x : Option (Nat × Nat × Nat)} : Rn (d) Q (49, 10, [some (vR x), l1, l2, l3, l4, l5], st, σ) = Rn (d) Q (49, 11, [some (vR x), l1, l2, l3, l4, l5], vR x :: st, σ) := E_aload_n i49_10 rfl
theorem e49_11 {d : Nat} {Q : Option AV → St → Prop} {st : List AV} {σ : St} {l0 l2 l3 l4 l5 : Option AV} {x : Option (Nat × Nat × Nat)} : Rn (d) Q (49, 11, [l0, some (vR x), l2, l3, l4, l5], st, σ) = Rn (d) Q (49, 12, [l0, some (vR x), l2, l3, l4, l5], vR x :: st, σ) := E_aload_n i49_11 rfl
theorem e49_12 {d : Nat} {Q : Option AV → St → Prop} {st : List AV} {σ : St} {l0 l1 l3 l4 l5 : Option AV} {x : Int32} : Rn (d) Q (49, 12, [l0, l1, some (vI x), l3, l4, l5], st, σ) = Rn (d) Q (49, 13, [l0, l1, some (vI x), l3, l4, l5], vI x :: st, σ) := E_iload_n i49_12 rfl
theorem e49_13 {d : Nat} {Q : Option AV → St → Prop} {st : List AV} {σ : St} {l0 l1 l2 l4 l5 : Option AV} {x : Int32} : Rn (d) Q (49, 13, [l0, l1, l2, some (vI x), l4, l5], st, σ) = Rn (d) Q (49, 14, [l0, l1, l2, some (vI x), l4, l5], vI x :: st, σ) := E_iload_n i49_13 rfl
theorem e49_14 {d : Nat} {Q : Option AV → St → Prop} {st : List AV} {σ : St} {l0 l1 l2 l3 l4 l5 : Option AV} {i : Nat} {a1 : Option (Nat × Nat × Nat)} {a2 : Int32} {a3 : Int32} : Rn (d + 1) Q (49, 14, [l0, l1, l2, l3, l4, l5], vI a3 :: vI a2 :: vR a1 :: vR (some (7, 0, i)) :: st, σ) = (i < gN σ 7 ∧ catS st ≤ 8 ∧ Rn d (fun r σ' => Rn (d + 1) Q (49, 17, [l0, l1, l2, l3, l4, l5], r.toList ++ st, σ')) (50, 0, [some (vR (some (7, 0, i))), some (vR a1), some (vI a2), some (vI a3), none], [], σ)) := E_invV (a := [vI a3, vI a2, vR a1]) i49_14 ((congrArg (fun z => mthQ z 71) o49).trans m7_71) o50 rfl (ek50 i a1 a2 a3) (en50 i a1 a2 a3)
theorem e49_17 {d : Nat} {Q : Option AV → St → Prop} {st : List AV} {σ : St} {l0 l1 l2 l3 l4 l5 : Option AV} {x : Int32} : Rn (d) Q (49, 17, [l0, l1, l2, l3, l4, l5], vI x :: st, σ) = (if x = 0 then Rn (d) Q (49, 20, [l0, l1, l2, l3, l4, l5], st, σ) else Rn (d) Q (49, 22, [l0, l1, l2, l3, l4, l5], st, σ)) := E_if_ne 22 i49_17 (by decide)
theorem e49_20 {d : Nat} {Q : Option AV → St → Prop} {st : List AV} {σ : St} {l0 l1 l2 l3 l4 l5 : Option AV} : Rn (d) Q (49, 20, [l0, l1, l2, l3, l4, l5], st, σ) = Rn (d) Q (49, 21, [l0, l1, l2, l3, l4, l5], vI 0 :: st, σ) := by rw [E_iconst i49_20, ci_0]
theorem e49_21 {d : Nat} {Q : Option AV → St → Prop} {σ : St} {l0 l1 l2 l3 l4 l5 : Option AV} {x : Int32} : Rn (d) Q (49, 21, [l0, l1, l2, l3, l4, l5], [vI x], σ) = ((x = 0 ∨ x = 1) ∧ Q (some (vI x)) σ) := E_iretZ (st := []) i49_21 r49
theorem e49_22 {d : Nat} {Q : Option AV → St → Prop} {st : List AV} {σ : St} {l0 l1 l2 l3 l4 l5 : Option AV} : Rn (d) Q (49, 22, [l0, l1, l2, l3, l4, l5], st, σ) = Rn (d) Q (49, 23, [l0, l1, l2, l3, l4, l5], vI 0 :: st, σ) := by rw [E_iconst i49_22, ci_0]
theorem s49_5 : okst 49 5 = true := by unfold okst; rw [x49]; rfl
theorem e49_23 {d : Nat} {Q : Option AV → St → Prop} {st : List AV} {σ : St} {l0 l1 l2 l3 l4 l5 : Option AV} {x : Int32} : Rn (d) Q (49, 23, [l0, l1, l2, l3, l4, l5], vI x :: st, σ) = Rn (d) Q (49, 25, [l0, l1, l2, l3, l4, some (vI x)], st, σ) := E_istore i49_23 s49_5
theorem e49_25 {d : Nat} {Q : Option AV → St → Prop} {st : List AV} {σ : St} {l0 l1 l2 l3 l4 : Option AV} {x : Int32} : Rn (d) Q (49, 25, [l0, l1, l2, l3, l4, some (vI x)], st, σ) = Rn (d) Q (49, 27, [l0, l1, l2, l3, l4, some (vI x)], vI x :: st, σ) := E_iload i49_25 rfl
theorem e49_27 {d : Nat} {Q : Option AV → St → Prop} {st : List AV} {σ : St} {l0 l1 l2 l3 l4 l5 : Option AV} : Rn (d) Q (49, 27, [l0, l1, l2, l3, l4, l5], st, σ) = Rn (d) Q (49, 29, [l0, l1, l2, l3, l4, l5], vI 120 :: st, σ) := by rw [E_bipush i49_27, cb_120]
theorem e49_29 {d : Nat} {Q : Option AV → St → Prop} {st : List AV} {σ : St} {l0 l1 l2 l3 l4 l5 : Option AV} {x y : Int32} : Rn (d) Q (49, 29, [l0, l1, l2, l3, l4, l5], vI y :: vI x :: st, σ) = (if y ≤ x then Rn (d) Q (49, 66, [l0, l1, l2, l3, l4, l5], st, σ) else Rn (d) Q (49, 32, [l0, l1, l2, l3, l4, l5], st, σ)) := E_icmp_ge 66 i49_29 (by decide)
theorem e49_32 {d : Nat} {Q : Option AV → St → Prop} {st : List AV} {σ : St} {l1 l2 l3 l4 l5 : Option AV} {x : Option (Nat × Nat × Nat)} : Rn (d) Q (49, 32, [some (vR x), l1, l2, l3, l4, l5], st, σ) = Rn (d) Q (49, 33, [some (vR x), l1, l2, l3, l4, l5], vR x :: st, σ) := E_aload_n i49_32 rfl
theorem e49_33 {d : Nat} {Q : Option AV → St → Prop} {st : List AV} {σ : St} {l0 l1 l2 l3 l4 l5 : Option AV} : Rn (d) Q (49, 33, [l0, l1, l2, l3, l4, l5], st, σ) = Rn (d) Q (49, 35, [l0, l1, l2, l3, l4, l5], vI 38 :: st, σ) := by rw [E_bipush i49_33, cb_38]
theorem e49_35 {d : Nat} {Q : Option AV → St → Prop} {st : List AV} {σ : St} {l0 l1 l2 l3 l4 l5 : Option AV} {i : Nat} {a1 : Int32} : Rn (d + 1) Q (49, 35, [l0, l1, l2, l3, l4, l5], vI a1 :: vR (some (7, 0, i)) :: st, σ) = (i < gN σ 7 ∧ catS st ≤ 8 ∧ Rn d (fun r σ' => Rn (d + 1) Q (49, 38, [l0, l1, l2, l3, l4, l5], r.toList ++ st, σ')) (44, 0, [some (vR (some (7, 0, i))), some (vI a1)], [], σ)) := E_invV (a := [vI a1]) i49_35 ((congrArg (fun z => mthQ z 49) o49).trans m7_49) o44 rfl (ek44 i a1) (en44 i a1)
theorem e49_38 {d : Nat} {Q : Option AV → St → Prop} {st : List AV} {σ : St} {l0 l1 l2 l3 l4 l5 : Option AV} {x : Int32} : Rn (d) Q (49, 38, [l0, l1, l2, l3, l4, l5], vI x :: st, σ) = (if x = 0 then Rn (d) Q (49, 66, [l0, l1, l2, l3, l4, l5], st, σ) else Rn (d) Q (49, 41, [l0, l1, l2, l3, l4, l5], st, σ)) := E_if_eq 66 i49_38 (by decide)
theorem e49_41 {d : Nat} {Q : Option AV → St → Prop} {st : List AV} {σ : St} {l1 l2 l3 l4 l5 : Option AV} {x : Option (Nat × Nat × Nat)} : Rn (d) Q (49, 41, [some (vR x), l1, l2, l3, l4, l5], st, σ) = Rn (d) Q (49, 42, [some (vR x), l1, l2, l3, l4, l5], vR x :: st, σ) := E_aload_n i49_41 rfl
theorem e49_42 {d : Nat} {Q : Option AV → St → Prop} {st : List AV} {σ : St} {l0 l2 l3 l4 l5 : Option AV} {x : Option (Nat × Nat × Nat)} : Rn (d) Q (49, 42, [l0, some (vR x), l2, l3, l4, l5], st, σ) = Rn (d) Q (49, 43, [l0, some (vR x), l2, l3, l4, l5], vR x :: st, σ) := E_aload_n i49_42 rfl
theorem e49_43 {d : Nat} {Q : Option AV → St → Prop} {st : List AV} {σ : St} {l0 l1 l3 l4 l5 : Option AV} {x : Int32} : Rn (d) Q (49, 43, [l0, l1, some (vI x), l3, l4, l5], st, σ) = Rn (d) Q (49, 44, [l0, l1, some (vI x), l3, l4, l5], vI x :: st, σ) := E_iload_n i49_43 rfl
theorem e49_44 {d : Nat} {Q : Option AV → St → Prop} {st : List AV} {σ : St} {l0 l1 l2 l4 l5 : Option AV} {x : Int32} : Rn (d) Q (49, 44, [l0, l1, l2, some (vI x), l4, l5], st, σ) = Rn (d) Q (49, 45, [l0, l1, l2, some (vI x), l4, l5], vI x :: st, σ) := E_iload_n i49_44 rfl
theorem e49_45 {d : Nat} {Q : Option AV → St → Prop} {st : List AV} {σ : St} {l0 l1 l2 l3 l4 l5 : Option AV} {i : Nat} {a1 : Option (Nat × Nat × Nat)} {a2 : Int32} {a3 : Int32} : Rn (d + 1) Q (49, 45, [l0, l1, l2, l3, l4, l5], vI a3 :: vI a2 :: vR a1 :: vR (some (7, 0, i)) :: st, σ) = (i < gN σ 7 ∧ catS st ≤ 8 ∧ Rn d (fun r σ' => Rn (d + 1) Q (49, 48, [l0, l1, l2, l3, l4, l5], r.toList ++ st, σ')) (50, 0, [some (vR (some (7, 0, i))), some (vR a1), some (vI a2), some (vI a3), none], [], σ)) := E_invV (a := [vI a3, vI a2, vR a1]) i49_45 ((congrArg (fun z => mthQ z 71) o49).trans m7_71) o50 rfl (ek50 i a1 a2 a3) (en50 i a1 a2 a3)
theorem e49_48 {d : Nat} {Q : Option AV → St → Prop} {st : List AV} {σ : St} {l0 l1 l2 l3 l4 l5 : Option AV} {x : Int32} : Rn (d) Q (49, 48, [l0, l1, l2, l3, l4, l5], vI x :: st, σ) = (if x = 0 then Rn (d) Q (49, 51, [l0, l1, l2, l3, l4, l5], st, σ) else Rn (d) Q (49, 53, [l0, l1, l2, l3, l4, l5], st, σ)) := E_if_ne 53 i49_48 (by decide)
theorem e49_51 {d : Nat} {Q : Option AV → St → Prop} {st : List AV} {σ : St} {l0 l1 l2 l3 l4 l5 : Option AV} : Rn (d) Q (49, 51, [l0, l1, l2, l3, l4, l5], st, σ) = Rn (d) Q (49, 52, [l0, l1, l2, l3, l4, l5], vI 0 :: st, σ) := by rw [E_iconst i49_51, ci_0]
theorem e49_52 {d : Nat} {Q : Option AV → St → Prop} {σ : St} {l0 l1 l2 l3 l4 l5 : Option AV} {x : Int32} : Rn (d) Q (49, 52, [l0, l1, l2, l3, l4, l5], [vI x], σ) = ((x = 0 ∨ x = 1) ∧ Q (some (vI x)) σ) := E_iretZ (st := []) i49_52 r49
theorem e49_53 {d : Nat} {Q : Option AV → St → Prop} {st : List AV} {σ : St} {l0 l2 l3 l4 l5 : Option AV} {x : Option (Nat × Nat × Nat)} : Rn (d) Q (49, 53, [l0, some (vR x), l2, l3, l4, l5], st, σ) = Rn (d) Q (49, 54, [l0, some (vR x), l2, l3, l4, l5], vR x :: st, σ) := E_aload_n i49_53 rfl
theorem e49_54 {d : Nat} {Q : Option AV → St → Prop} {st : List AV} {σ : St} {l0 l1 l3 l4 l5 : Option AV} {x : Int32} : Rn (d) Q (49, 54, [l0, l1, some (vI x), l3, l4, l5], st, σ) = Rn (d) Q (49, 55, [l0, l1, some (vI x), l3, l4, l5], vI x :: st, σ) := E_iload_n i49_54 rfl
theorem e49_55 {d : Nat} {Q : Option AV → St → Prop} {st : List AV} {σ : St} {l0 l1 l2 l3 l4 l5 : Option AV} : Rn (d) Q (49, 55, [l0, l1, l2, l3, l4, l5], st, σ) = Rn (d) Q (49, 57, [l0, l1, l2, l3, l4, l5], vI (-2) :: st, σ) := by rw [E_bipush i49_55, cb_m2]
theorem e49_57 {d : Nat} {Q : Option AV → St → Prop} {st : List AV} {σ : St} {l0 l1 l2 l3 l4 l5 : Option AV} {i : Nat} {a1 : Int32} {a2 : Int32} : Rn (d + 1) Q (49, 57, [l0, l1, l2, l3, l4, l5], vI a2 :: vI a1 :: vR (some (0, 0, i)) :: st, σ) = (i < gN σ 0 ∧ catS st ≤ 8 ∧ Rn d (fun r σ' => Rn (d + 1) Q (49, 60, [l0, l1, l2, l3, l4, l5], r.toList ++ st, σ')) (6, 0, [some (vR (some (0, 0, i))), some (vI a1), some (vI a2)], [], σ)) := E_invV (a := [vI a2, vI a1]) i49_57 ((congrArg (fun z => mthQ z 74) o49).trans m7_74) o6 rfl (ek6 i a1 a2) (en6 i a1 a2)
theorem e49_60 {d : Nat} {Q : Option AV → St → Prop} {st : List AV} {σ : St} {l0 l1 l2 l3 l4 : Option AV} {x : Int32} : Rn (d) Q (49, 60, [l0, l1, l2, l3, l4, some (vI x)], st, σ) = Rn (d) Q (49, 63, [l0, l1, l2, l3, l4, some (vI (x + 1))], st, σ) := by rw [E_iinc i49_60 rfl (by rw [x49]; decide), show Int32.ofInt 1 = (1 : Int32) by decide +kernel]; rfl
theorem e49_63 {d : Nat} {Q : Option AV → St → Prop} {st : List AV} {σ : St} {l0 l1 l2 l3 l4 l5 : Option AV} : Rn (d) Q (49, 63, [l0, l1, l2, l3, l4, l5], st, σ) = Rn (d) Q (49, 25, [l0, l1, l2, l3, l4, l5], st, σ) := E_goto 25 i49_63 (by decide)
theorem e49_66 {d : Nat} {Q : Option AV → St → Prop} {st : List AV} {σ : St} {l0 l1 l2 l3 l5 : Option AV} {x : Int32} : Rn (d) Q (49, 66, [l0, l1, l2, l3, some (vI x), l5], st, σ) = Rn (d) Q (49, 68, [l0, l1, l2, l3, some (vI x), l5], vI x :: st, σ) := E_iload i49_66 rfl
theorem e49_68 {d : Nat} {Q : Option AV → St → Prop} {st : List AV} {σ : St} {l0 l1 l2 l3 l4 l5 : Option AV} {x : Int32} : Rn (d) Q (49, 68, [l0, l1, l2, l3, l4, l5], vI x :: st, σ) = (if x ≤ 0 then Rn (d) Q (49, 78, [l0, l1, l2, l3, l4, l5], st, σ) else Rn (d) Q (49, 71, [l0, l1, l2, l3, l4, l5], st, σ)) := E_if_le 78 i49_68 (by decide)
theorem e49_71 {d : Nat} {Q : Option AV → St → Prop} {st : List AV} {σ : St} {l0 l2 l3 l4 l5 : Option AV} {x : Option (Nat × Nat × Nat)} : Rn (d) Q (49, 71, [l0, some (vR x), l2, l3, l4, l5], st, σ) = Rn (d) Q (49, 72, [l0, some (vR x), l2, l3, l4, l5], vR x :: st, σ) := E_aload_n i49_71 rfl
theorem e49_72 {d : Nat} {Q : Option AV → St → Prop} {st : List AV} {σ : St} {l0 l1 l3 l4 l5 : Option AV} {x : Int32} : Rn (d) Q (49, 72, [l0, l1, some (vI x), l3, l4, l5], st, σ) = Rn (d) Q (49, 73, [l0, l1, some (vI x), l3, l4, l5], vI x :: st, σ) := E_iload_n i49_72 rfl
theorem e49_73 {d : Nat} {Q : Option AV → St → Prop} {st : List AV} {σ : St} {l0 l1 l2 l3 l4 l5 : Option AV} : Rn (d) Q (49, 73, [l0, l1, l2, l3, l4, l5], st, σ) = Rn (d) Q (49, 75, [l0, l1, l2, l3, l4, l5], vI (-3) :: st, σ) := by rw [E_bipush i49_73, cb_m3]
theorem e49_75 {d : Nat} {Q : Option AV → St → Prop} {st : List AV} {σ : St} {l0 l1 l2 l3 l4 l5 : Option AV} {i : Nat} {a1 : Int32} {a2 : Int32} : Rn (d + 1) Q (49, 75, [l0, l1, l2, l3, l4, l5], vI a2 :: vI a1 :: vR (some (0, 0, i)) :: st, σ) = (i < gN σ 0 ∧ catS st ≤ 8 ∧ Rn d (fun r σ' => Rn (d + 1) Q (49, 78, [l0, l1, l2, l3, l4, l5], r.toList ++ st, σ')) (6, 0, [some (vR (some (0, 0, i))), some (vI a1), some (vI a2)], [], σ)) := E_invV (a := [vI a2, vI a1]) i49_75 ((congrArg (fun z => mthQ z 74) o49).trans m7_74) o6 rfl (ek6 i a1 a2) (en6 i a1 a2)
theorem e49_78 {d : Nat} {Q : Option AV → St → Prop} {st : List AV} {σ : St} {l1 l2 l3 l4 l5 : Option AV} {x : Option (Nat × Nat × Nat)} : Rn (d) Q (49, 78, [some (vR x), l1, l2, l3, l4, l5], st, σ) = Rn (d) Q (49, 79, [some (vR x), l1, l2, l3, l4, l5], vR x :: st, σ) := E_aload_n i49_78 rfl
theorem e49_79 {d : Nat} {Q : Option AV → St → Prop} {st : List AV} {σ : St} {l0 l1 l2 l3 l4 l5 : Option AV} : Rn (d) Q (49, 79, [l0, l1, l2, l3, l4, l5], st, σ) = Rn (d) Q (49, 81, [l0, l1, l2, l3, l4, l5], vI 124 :: st, σ) := by rw [E_bipush i49_79, cb_124]
theorem e49_81 {d : Nat} {Q : Option AV → St → Prop} {st : List AV} {σ : St} {l0 l1 l2 l3 l4 l5 : Option AV} {i : Nat} {a1 : Int32} : Rn (d + 1) Q (49, 81, [l0, l1, l2, l3, l4, l5], vI a1 :: vR (some (7, 0, i)) :: st, σ) = (i < gN σ 7 ∧ catS st ≤ 8 ∧ Rn d (fun r σ' => Rn (d + 1) Q (49, 84, [l0, l1, l2, l3, l4, l5], r.toList ++ st, σ')) (44, 0, [some (vR (some (7, 0, i))), some (vI a1)], [], σ)) := E_invV (a := [vI a1]) i49_81 ((congrArg (fun z => mthQ z 49) o49).trans m7_49) o44 rfl (ek44 i a1) (en44 i a1)
theorem e49_84 {d : Nat} {Q : Option AV → St → Prop} {st : List AV} {σ : St} {l0 l1 l2 l3 l4 l5 : Option AV} {x : Int32} : Rn (d) Q (49, 84, [l0, l1, l2, l3, l4, l5], vI x :: st, σ) = (if x = 0 then Rn (d) Q (49, 87, [l0, l1, l2, l3, l4, l5], st, σ) else Rn (d) Q (49, 89, [l0, l1, l2, l3, l4, l5], st, σ)) := E_if_ne 89 i49_84 (by decide)
theorem e49_87 {d : Nat} {Q : Option AV → St → Prop} {st : List AV} {σ : St} {l0 l1 l2 l3 l4 l5 : Option AV} : Rn (d) Q (49, 87, [l0, l1, l2, l3, l4, l5], st, σ) = Rn (d) Q (49, 88, [l0, l1, l2, l3, l4, l5], vI 1 :: st, σ) := by rw [E_iconst i49_87, ci_1]
theorem e49_88 {d : Nat} {Q : Option AV → St → Prop} {σ : St} {l0 l1 l2 l3 l4 l5 : Option AV} {x : Int32} : Rn (d) Q (49, 88, [l0, l1, l2, l3, l4, l5], [vI x], σ) = ((x = 0 ∨ x = 1) ∧ Q (some (vI x)) σ) := E_iretZ (st := []) i49_88 r49
theorem e49_89 {d : Nat} {Q : Option AV → St → Prop} {st : List AV} {σ : St} {l0 l1 l2 l3 l5 : Option AV} {x : Int32} : Rn (d) Q (49, 89, [l0, l1, l2, l3, some (vI x), l5], st, σ) = Rn (d) Q (49, 92, [l0, l1, l2, l3, some (vI (x + 1)), l5], st, σ) := by rw [E_iinc i49_89 rfl (by rw [x49]; decide), show Int32.ofInt 1 = (1 : Int32) by decide +kernel]; rfl
theorem e49_92 {d : Nat} {Q : Option AV → St → Prop} {st : List AV} {σ : St} {l0 l1 l2 l3 l4 l5 : Option AV} : Rn (d) Q (49, 92, [l0, l1, l2, l3, l4, l5], st, σ) = Rn (d) Q (49, 3, [l0, l1, l2, l3, l4, l5], st, σ) := E_goto 3 i49_92 (by decide)
theorem e49_95 {d : Nat} {Q : Option AV → St → Prop} {st : List AV} {σ : St} {l0 l1 l2 l3 l4 l5 : Option AV} : Rn (d) Q (49, 95, [l0, l1, l2, l3, l4, l5], st, σ) = Rn (d) Q (49, 96, [l0, l1, l2, l3, l4, l5], vI 0 :: st, σ) := by rw [E_iconst i49_95, ci_0]
theorem e49_96 {d : Nat} {Q : Option AV → St → Prop} {σ : St} {l0 l1 l2 l3 l4 l5 : Option AV} {x : Int32} : Rn (d) Q (49, 96, [l0, l1, l2, l3, l4, l5], [vI x], σ) = ((x = 0 ∨ x = 1) ∧ Q (some (vI x)) σ) := E_iretZ (st := []) i49_96 r49
theorem i50_0 : ins 50 0 = some (.aload_n 0, 1) := (congrArg (fun x : PTy => x.1.lookup 0) q50).trans rfl
theorem i50_1 : ins 50 1 = some (.bipush 33, 2) := (congrArg (fun x : PTy => x.1.lookup 1) q50).trans rfl
theorem i50_3 : ins 50 3 = some (.invokevirtual 49, 3) := (congrArg (fun x : PTy => x.1.lookup 3) q50).trans rfl
theorem i50_6 : ins 50 6 = some (.istore 4, 2) := (congrArg (fun x : PTy => x.1.lookup 6) q50).trans rfl
theorem i50_8 : ins 50 8 = some (.iload_n 3, 1) := (congrArg (fun x : PTy => x.1.lookup 8) q50).trans rfl
theorem i50_9 : ins 50 9 = some (.bipush 6, 2) := (congrArg (fun x : PTy => x.1.lookup 9) q50).trans rfl
theorem i50_11 : ins 50 11 = some (.if_icmp .ge 35, 3) := (congrArg (fun x : PTy => x.1.lookup 11) q50).trans rfl
theorem i50_14 : ins 50 14 = some (.aload_n 0, 1) := (congrArg (fun x : PTy => x.1.lookup 14) q50).trans rfl
theorem i50_15 : ins 50 15 = some (.bipush 40, 2) := (congrArg (fun x : PTy => x.1.lookup 15) q50).trans rfl
theorem i50_17 : ins 50 17 = some (.invokevirtual 49, 3) := (congrArg (fun x : PTy => x.1.lookup 17) q50).trans rfl
theorem i50_20 : ins 50 20 = some (.ifCond .eq 26, 3) := (congrArg (fun x : PTy => x.1.lookup 20) q50).trans rfl
theorem i50_23 : ins 50 23 = some (.aload_n 0, 1) := (congrArg (fun x : PTy => x.1.lookup 23) q50).trans rfl
theorem i50_24 : ins 50 24 = some (.aload_n 1, 1) := (congrArg (fun x : PTy => x.1.lookup 24) q50).trans rfl
theorem i50_25 : ins 50 25 = some (.iload_n 2, 1) := (congrArg (fun x : PTy => x.1.lookup 25) q50).trans rfl
theorem i50_26 : ins 50 26 = some (.iload_n 3, 1) := (congrArg (fun x : PTy => x.1.lookup 26) q50).trans rfl
theorem i50_27 : ins 50 27 = some (.iconst 1, 1) := (congrArg (fun x : PTy => x.1.lookup 27) q50).trans rfl
theorem i50_28 : ins 50 28 = some (.iadd, 1) := (congrArg (fun x : PTy => x.1.lookup 28) q50).trans rfl
theorem i50_29 : ins 50 29 = some (.invokevirtual 67, 3) := (congrArg (fun x : PTy => x.1.lookup 29) q50).trans rfl
theorem i50_32 : ins 50 32 = some (.ifCond .eq 12, 3) := (congrArg (fun x : PTy => x.1.lookup 32) q50).trans rfl
theorem i50_35 : ins 50 35 = some (.aload_n 0, 1) := (congrArg (fun x : PTy => x.1.lookup 35) q50).trans rfl
theorem i50_36 : ins 50 36 = some (.bipush 41, 2) := (congrArg (fun x : PTy => x.1.lookup 36) q50).trans rfl
theorem i50_38 : ins 50 38 = some (.invokevirtual 49, 3) := (congrArg (fun x : PTy => x.1.lookup 38) q50).trans rfl
theorem i50_41 : ins 50 41 = some (.ifCond .ne 16, 3) := (congrArg (fun x : PTy => x.1.lookup 41) q50).trans rfl
theorem i50_44 : ins 50 44 = some (.iconst 0, 1) := (congrArg (fun x : PTy => x.1.lookup 44) q50).trans rfl
theorem i50_45 : ins 50 45 = some (.ireturn, 1) := (congrArg (fun x : PTy => x.1.lookup 45) q50).trans rfl
theorem i50_46 : ins 50 46 = some (.aload_n 0, 1) := (congrArg (fun x : PTy => x.1.lookup 46) q50).trans rfl
theorem i50_47 : ins 50 47 = some (.aload_n 1, 1) := (congrArg (fun x : PTy => x.1.lookup 47) q50).trans rfl
theorem i50_48 : ins 50 48 = some (.iload_n 2, 1) := (congrArg (fun x : PTy => x.1.lookup 48) q50).trans rfl
theorem i50_49 : ins 50 49 = some (.invokevirtual 78, 3) := (congrArg (fun x : PTy => x.1.lookup 49) q50).trans rfl
theorem i50_52 : ins 50 52 = some (.ifCond .ne 5, 3) := (congrArg (fun x : PTy => x.1.lookup 52) q50).trans rfl
theorem i50_55 : ins 50 55 = some (.iconst 0, 1) := (congrArg (fun x : PTy => x.1.lookup 55) q50).trans rfl
theorem i50_56 : ins 50 56 = some (.ireturn, 1) := (congrArg (fun x : PTy => x.1.lookup 56) q50).trans rfl
theorem i50_57 : ins 50 57 = some (.iload 4, 2) := (congrArg (fun x : PTy => x.1.lookup 57) q50).trans rfl
theorem i50_59 : ins 50 59 = some (.ifCond .eq 9, 3) := (congrArg (fun x : PTy => x.1.lookup 59) q50).trans rfl
theorem i50_62 : ins 50 62 = some (.aload_n 1, 1) := (congrArg (fun x : PTy => x.1.lookup 62) q50).trans rfl
theorem i50_63 : ins 50 63 = some (.iload_n 2, 1) := (congrArg (fun x : PTy => x.1.lookup 63) q50).trans rfl
theorem i50_64 : ins 50 64 = some (.iconst (-1), 1) := (congrArg (fun x : PTy => x.1.lookup 64) q50).trans rfl
theorem i50_65 : ins 50 65 = some (.invokevirtual 74, 3) := (congrArg (fun x : PTy => x.1.lookup 65) q50).trans rfl
theorem i50_68 : ins 50 68 = some (.iconst 1, 1) := (congrArg (fun x : PTy => x.1.lookup 68) q50).trans rfl
theorem i50_69 : ins 50 69 = some (.ireturn, 1) := (congrArg (fun x : PTy => x.1.lookup 69) q50).trans rfl
theorem e50_0 {d : Nat} {Q : Option AV → St → Prop} {st : List AV} {σ : St} {l1 l2 l3 l4 : Option AV} {x : Option (Nat × Nat × Nat)} : Rn (d) Q (50, 0, [some (vR x), l1, l2, l3, l4], st, σ) = Rn (d) Q (50, 1, [some (vR x), l1, l2, l3, l4], vR x :: st, σ) := E_aload_n i50_0 rfl
theorem e50_1 {d : Nat} {Q : Option AV → St → Prop} {st : List AV} {σ : St} {l0 l1 l2 l3 l4 : Option AV} : Rn (d) Q (50, 1, [l0, l1, l2, l3, l4], st, σ) = Rn (d) Q (50, 3, [l0, l1, l2, l3, l4], vI 33 :: st, σ) := by rw [E_bipush i50_1, cb_33]
theorem e50_3 {d : Nat} {Q : Option AV → St → Prop} {st : List AV} {σ : St} {l0 l1 l2 l3 l4 : Option AV} {i : Nat} {a1 : Int32} : Rn (d + 1) Q (50, 3, [l0, l1, l2, l3, l4], vI a1 :: vR (some (7, 0, i)) :: st, σ) = (i < gN σ 7 ∧ catS st ≤ 8 ∧ Rn d (fun r σ' => Rn (d + 1) Q (50, 6, [l0, l1, l2, l3, l4], r.toList ++ st, σ')) (44, 0, [some (vR (some (7, 0, i))), some (vI a1)], [], σ)) := E_invV (a := [vI a1]) i50_3 ((congrArg (fun z => mthQ z 49) o50).trans m7_49) o44 rfl (ek44 i a1) (en44 i a1)
theorem s50_4 : okst 50 4 = true := by unfold okst; rw [x50]; rfl
theorem e50_6 {d : Nat} {Q : Option AV → St → Prop} {st : List AV} {σ : St} {l0 l1 l2 l3 l4 : Option AV} {x : Int32} : Rn (d) Q (50, 6, [l0, l1, l2, l3, l4], vI x :: st, σ) = Rn (d) Q (50, 8, [l0, l1, l2, l3, some (vI x)], st, σ) := E_istore i50_6 s50_4
theorem e50_8 {d : Nat} {Q : Option AV → St → Prop} {st : List AV} {σ : St} {l0 l1 l2 l4 : Option AV} {x : Int32} : Rn (d) Q (50, 8, [l0, l1, l2, some (vI x), l4], st, σ) = Rn (d) Q (50, 9, [l0, l1, l2, some (vI x), l4], vI x :: st, σ) := E_iload_n i50_8 rfl
theorem e50_9 {d : Nat} {Q : Option AV → St → Prop} {st : List AV} {σ : St} {l0 l1 l2 l3 l4 : Option AV} : Rn (d) Q (50, 9, [l0, l1, l2, l3, l4], st, σ) = Rn (d) Q (50, 11, [l0, l1, l2, l3, l4], vI 6 :: st, σ) := by rw [E_bipush i50_9, cb_6]
theorem e50_11 {d : Nat} {Q : Option AV → St → Prop} {st : List AV} {σ : St} {l0 l1 l2 l3 l4 : Option AV} {x y : Int32} : Rn (d) Q (50, 11, [l0, l1, l2, l3, l4], vI y :: vI x :: st, σ) = (if y ≤ x then Rn (d) Q (50, 46, [l0, l1, l2, l3, l4], st, σ) else Rn (d) Q (50, 14, [l0, l1, l2, l3, l4], st, σ)) := E_icmp_ge 46 i50_11 (by decide)
theorem e50_14 {d : Nat} {Q : Option AV → St → Prop} {st : List AV} {σ : St} {l1 l2 l3 l4 : Option AV} {x : Option (Nat × Nat × Nat)} : Rn (d) Q (50, 14, [some (vR x), l1, l2, l3, l4], st, σ) = Rn (d) Q (50, 15, [some (vR x), l1, l2, l3, l4], vR x :: st, σ) := E_aload_n i50_14 rfl
theorem e50_15 {d : Nat} {Q : Option AV → St → Prop} {st : List AV} {σ : St} {l0 l1 l2 l3 l4 : Option AV} : Rn (d) Q (50, 15, [l0, l1, l2, l3, l4], st, σ) = Rn (d) Q (50, 17, [l0, l1, l2, l3, l4], vI 40 :: st, σ) := by rw [E_bipush i50_15, cb_40]
theorem e50_17 {d : Nat} {Q : Option AV → St → Prop} {st : List AV} {σ : St} {l0 l1 l2 l3 l4 : Option AV} {i : Nat} {a1 : Int32} : Rn (d + 1) Q (50, 17, [l0, l1, l2, l3, l4], vI a1 :: vR (some (7, 0, i)) :: st, σ) = (i < gN σ 7 ∧ catS st ≤ 8 ∧ Rn d (fun r σ' => Rn (d + 1) Q (50, 20, [l0, l1, l2, l3, l4], r.toList ++ st, σ')) (44, 0, [some (vR (some (7, 0, i))), some (vI a1)], [], σ)) := E_invV (a := [vI a1]) i50_17 ((congrArg (fun z => mthQ z 49) o50).trans m7_49) o44 rfl (ek44 i a1) (en44 i a1)
theorem e50_20 {d : Nat} {Q : Option AV → St → Prop} {st : List AV} {σ : St} {l0 l1 l2 l3 l4 : Option AV} {x : Int32} : Rn (d) Q (50, 20, [l0, l1, l2, l3, l4], vI x :: st, σ) = (if x = 0 then Rn (d) Q (50, 46, [l0, l1, l2, l3, l4], st, σ) else Rn (d) Q (50, 23, [l0, l1, l2, l3, l4], st, σ)) := E_if_eq 46 i50_20 (by decide)
theorem e50_23 {d : Nat} {Q : Option AV → St → Prop} {st : List AV} {σ : St} {l1 l2 l3 l4 : Option AV} {x : Option (Nat × Nat × Nat)} : Rn (d) Q (50, 23, [some (vR x), l1, l2, l3, l4], st, σ) = Rn (d) Q (50, 24, [some (vR x), l1, l2, l3, l4], vR x :: st, σ) := E_aload_n i50_23 rfl
theorem e50_24 {d : Nat} {Q : Option AV → St → Prop} {st : List AV} {σ : St} {l0 l2 l3 l4 : Option AV} {x : Option (Nat × Nat × Nat)} : Rn (d) Q (50, 24, [l0, some (vR x), l2, l3, l4], st, σ) = Rn (d) Q (50, 25, [l0, some (vR x), l2, l3, l4], vR x :: st, σ) := E_aload_n i50_24 rfl
theorem e50_25 {d : Nat} {Q : Option AV → St → Prop} {st : List AV} {σ : St} {l0 l1 l3 l4 : Option AV} {x : Int32} : Rn (d) Q (50, 25, [l0, l1, some (vI x), l3, l4], st, σ) = Rn (d) Q (50, 26, [l0, l1, some (vI x), l3, l4], vI x :: st, σ) := E_iload_n i50_25 rfl
theorem e50_26 {d : Nat} {Q : Option AV → St → Prop} {st : List AV} {σ : St} {l0 l1 l2 l4 : Option AV} {x : Int32} : Rn (d) Q (50, 26, [l0, l1, l2, some (vI x), l4], st, σ) = Rn (d) Q (50, 27, [l0, l1, l2, some (vI x), l4], vI x :: st, σ) := E_iload_n i50_26 rfl
theorem e50_27 {d : Nat} {Q : Option AV → St → Prop} {st : List AV} {σ : St} {l0 l1 l2 l3 l4 : Option AV} : Rn (d) Q (50, 27, [l0, l1, l2, l3, l4], st, σ) = Rn (d) Q (50, 28, [l0, l1, l2, l3, l4], vI 1 :: st, σ) := by rw [E_iconst i50_27, ci_1]
theorem e50_28 {d : Nat} {Q : Option AV → St → Prop} {st : List AV} {σ : St} {l0 l1 l2 l3 l4 : Option AV} {x y : Int32} : Rn (d) Q (50, 28, [l0, l1, l2, l3, l4], vI y :: vI x :: st, σ) = Rn (d) Q (50, 29, [l0, l1, l2, l3, l4], vI (x + y) :: st, σ) := E_iadd i50_28
theorem e50_29 {d : Nat} {Q : Option AV → St → Prop} {st : List AV} {σ : St} {l0 l1 l2 l3 l4 : Option AV} {i : Nat} {a1 : Option (Nat × Nat × Nat)} {a2 : Int32} {a3 : Int32} : Rn (d + 1) Q (50, 29, [l0, l1, l2, l3, l4], vI a3 :: vI a2 :: vR a1 :: vR (some (7, 0, i)) :: st, σ) = (i < gN σ 7 ∧ catS st ≤ 8 ∧ Rn d (fun r σ' => Rn (d + 1) Q (50, 32, [l0, l1, l2, l3, l4], r.toList ++ st, σ')) (49, 0, [some (vR (some (7, 0, i))), some (vR a1), some (vI a2), some (vI a3), none, none], [], σ)) := E_invV (a := [vI a3, vI a2, vR a1]) i50_29 ((congrArg (fun z => mthQ z 67) o50).trans m7_67) o49 rfl (ek49 i a1 a2 a3) (en49 i a1 a2 a3)
theorem e50_32 {d : Nat} {Q : Option AV → St → Prop} {st : List AV} {σ : St} {l0 l1 l2 l3 l4 : Option AV} {x : Int32} : Rn (d) Q (50, 32, [l0, l1, l2, l3, l4], vI x :: st, σ) = (if x = 0 then Rn (d) Q (50, 44, [l0, l1, l2, l3, l4], st, σ) else Rn (d) Q (50, 35, [l0, l1, l2, l3, l4], st, σ)) := E_if_eq 44 i50_32 (by decide)
theorem e50_35 {d : Nat} {Q : Option AV → St → Prop} {st : List AV} {σ : St} {l1 l2 l3 l4 : Option AV} {x : Option (Nat × Nat × Nat)} : Rn (d) Q (50, 35, [some (vR x), l1, l2, l3, l4], st, σ) = Rn (d) Q (50, 36, [some (vR x), l1, l2, l3, l4], vR x :: st, σ) := E_aload_n i50_35 rfl
theorem e50_36 {d : Nat} {Q : Option AV → St → Prop} {st : List AV} {σ : St} {l0 l1 l2 l3 l4 : Option AV} : Rn (d) Q (50, 36, [l0, l1, l2, l3, l4], st, σ) = Rn (d) Q (50, 38, [l0, l1, l2, l3, l4], vI 41 :: st, σ) := by rw [E_bipush i50_36, cb_41]
theorem e50_38 {d : Nat} {Q : Option AV → St → Prop} {st : List AV} {σ : St} {l0 l1 l2 l3 l4 : Option AV} {i : Nat} {a1 : Int32} : Rn (d + 1) Q (50, 38, [l0, l1, l2, l3, l4], vI a1 :: vR (some (7, 0, i)) :: st, σ) = (i < gN σ 7 ∧ catS st ≤ 8 ∧ Rn d (fun r σ' => Rn (d + 1) Q (50, 41, [l0, l1, l2, l3, l4], r.toList ++ st, σ')) (44, 0, [some (vR (some (7, 0, i))), some (vI a1)], [], σ)) := E_invV (a := [vI a1]) i50_38 ((congrArg (fun z => mthQ z 49) o50).trans m7_49) o44 rfl (ek44 i a1) (en44 i a1)
theorem e50_41 {d : Nat} {Q : Option AV → St → Prop} {st : List AV} {σ : St} {l0 l1 l2 l3 l4 : Option AV} {x : Int32} : Rn (d) Q (50, 41, [l0, l1, l2, l3, l4], vI x :: st, σ) = (if x = 0 then Rn (d) Q (50, 44, [l0, l1, l2, l3, l4], st, σ) else Rn (d) Q (50, 57, [l0, l1, l2, l3, l4], st, σ)) := E_if_ne 57 i50_41 (by decide)
theorem e50_44 {d : Nat} {Q : Option AV → St → Prop} {st : List AV} {σ : St} {l0 l1 l2 l3 l4 : Option AV} : Rn (d) Q (50, 44, [l0, l1, l2, l3, l4], st, σ) = Rn (d) Q (50, 45, [l0, l1, l2, l3, l4], vI 0 :: st, σ) := by rw [E_iconst i50_44, ci_0]
theorem e50_45 {d : Nat} {Q : Option AV → St → Prop} {σ : St} {l0 l1 l2 l3 l4 : Option AV} {x : Int32} : Rn (d) Q (50, 45, [l0, l1, l2, l3, l4], [vI x], σ) = ((x = 0 ∨ x = 1) ∧ Q (some (vI x)) σ) := E_iretZ (st := []) i50_45 r50
theorem e50_46 {d : Nat} {Q : Option AV → St → Prop} {st : List AV} {σ : St} {l1 l2 l3 l4 : Option AV} {x : Option (Nat × Nat × Nat)} : Rn (d) Q (50, 46, [some (vR x), l1, l2, l3, l4], st, σ) = Rn (d) Q (50, 47, [some (vR x), l1, l2, l3, l4], vR x :: st, σ) := E_aload_n i50_46 rfl
theorem e50_47 {d : Nat} {Q : Option AV → St → Prop} {st : List AV} {σ : St} {l0 l2 l3 l4 : Option AV} {x : Option (Nat × Nat × Nat)} : Rn (d) Q (50, 47, [l0, some (vR x), l2, l3, l4], st, σ) = Rn (d) Q (50, 48, [l0, some (vR x), l2, l3, l4], vR x :: st, σ) := E_aload_n i50_47 rfl
theorem e50_48 {d : Nat} {Q : Option AV → St → Prop} {st : List AV} {σ : St} {l0 l1 l3 l4 : Option AV} {x : Int32} : Rn (d) Q (50, 48, [l0, l1, some (vI x), l3, l4], st, σ) = Rn (d) Q (50, 49, [l0, l1, some (vI x), l3, l4], vI x :: st, σ) := E_iload_n i50_48 rfl
theorem e50_49 {d : Nat} {Q : Option AV → St → Prop} {st : List AV} {σ : St} {l0 l1 l2 l3 l4 : Option AV} {i : Nat} {a1 : Option (Nat × Nat × Nat)} {a2 : Int32} : Rn (d + 1) Q (50, 49, [l0, l1, l2, l3, l4], vI a2 :: vR a1 :: vR (some (7, 0, i)) :: st, σ) = (i < gN σ 7 ∧ catS st ≤ 8 ∧ Rn d (fun r σ' => Rn (d + 1) Q (50, 52, [l0, l1, l2, l3, l4], r.toList ++ st, σ')) (51, 0, [some (vR (some (7, 0, i))), some (vR a1), some (vI a2), none, none], [], σ)) := E_invV (a := [vI a2, vR a1]) i50_49 ((congrArg (fun z => mthQ z 78) o50).trans m7_78) o51 rfl (ek51 i a1 a2) (en51 i a1 a2)
theorem e50_52 {d : Nat} {Q : Option AV → St → Prop} {st : List AV} {σ : St} {l0 l1 l2 l3 l4 : Option AV} {x : Int32} : Rn (d) Q (50, 52, [l0, l1, l2, l3, l4], vI x :: st, σ) = (if x = 0 then Rn (d) Q (50, 55, [l0, l1, l2, l3, l4], st, σ) else Rn (d) Q (50, 57, [l0, l1, l2, l3, l4], st, σ)) := E_if_ne 57 i50_52 (by decide)
theorem e50_55 {d : Nat} {Q : Option AV → St → Prop} {st : List AV} {σ : St} {l0 l1 l2 l3 l4 : Option AV} : Rn (d) Q (50, 55, [l0, l1, l2, l3, l4], st, σ) = Rn (d) Q (50, 56, [l0, l1, l2, l3, l4], vI 0 :: st, σ) := by rw [E_iconst i50_55, ci_0]
theorem e50_56 {d : Nat} {Q : Option AV → St → Prop} {σ : St} {l0 l1 l2 l3 l4 : Option AV} {x : Int32} : Rn (d) Q (50, 56, [l0, l1, l2, l3, l4], [vI x], σ) = ((x = 0 ∨ x = 1) ∧ Q (some (vI x)) σ) := E_iretZ (st := []) i50_56 r50
theorem e50_57 {d : Nat} {Q : Option AV → St → Prop} {st : List AV} {σ : St} {l0 l1 l2 l3 : Option AV} {x : Int32} : Rn (d) Q (50, 57, [l0, l1, l2, l3, some (vI x)], st, σ) = Rn (d) Q (50, 59, [l0, l1, l2, l3, some (vI x)], vI x :: st, σ) := E_iload i50_57 rfl
theorem e50_59 {d : Nat} {Q : Option AV → St → Prop} {st : List AV} {σ : St} {l0 l1 l2 l3 l4 : Option AV} {x : Int32} : Rn (d) Q (50, 59, [l0, l1, l2, l3, l4], vI x :: st, σ) = (if x = 0 then Rn (d) Q (50, 68, [l0, l1, l2, l3, l4], st, σ) else Rn (d) Q (50, 62, [l0, l1, l2, l3, l4], st, σ)) := E_if_eq 68 i50_59 (by decide)
theorem e50_62 {d : Nat} {Q : Option AV → St → Prop} {st : List AV} {σ : St} {l0 l2 l3 l4 : Option AV} {x : Option (Nat × Nat × Nat)} : Rn (d) Q (50, 62, [l0, some (vR x), l2, l3, l4], st, σ) = Rn (d) Q (50, 63, [l0, some (vR x), l2, l3, l4], vR x :: st, σ) := E_aload_n i50_62 rfl
theorem e50_63 {d : Nat} {Q : Option AV → St → Prop} {st : List AV} {σ : St} {l0 l1 l3 l4 : Option AV} {x : Int32} : Rn (d) Q (50, 63, [l0, l1, some (vI x), l3, l4], st, σ) = Rn (d) Q (50, 64, [l0, l1, some (vI x), l3, l4], vI x :: st, σ) := E_iload_n i50_63 rfl
theorem e50_64 {d : Nat} {Q : Option AV → St → Prop} {st : List AV} {σ : St} {l0 l1 l2 l3 l4 : Option AV} : Rn (d) Q (50, 64, [l0, l1, l2, l3, l4], st, σ) = Rn (d) Q (50, 65, [l0, l1, l2, l3, l4], vI (-1) :: st, σ) := by rw [E_iconst i50_64, ci_m1]
theorem e50_65 {d : Nat} {Q : Option AV → St → Prop} {st : List AV} {σ : St} {l0 l1 l2 l3 l4 : Option AV} {i : Nat} {a1 : Int32} {a2 : Int32} : Rn (d + 1) Q (50, 65, [l0, l1, l2, l3, l4], vI a2 :: vI a1 :: vR (some (0, 0, i)) :: st, σ) = (i < gN σ 0 ∧ catS st ≤ 8 ∧ Rn d (fun r σ' => Rn (d + 1) Q (50, 68, [l0, l1, l2, l3, l4], r.toList ++ st, σ')) (6, 0, [some (vR (some (0, 0, i))), some (vI a1), some (vI a2)], [], σ)) := E_invV (a := [vI a2, vI a1]) i50_65 ((congrArg (fun z => mthQ z 74) o50).trans m7_74) o6 rfl (ek6 i a1 a2) (en6 i a1 a2)
theorem e50_68 {d : Nat} {Q : Option AV → St → Prop} {st : List AV} {σ : St} {l0 l1 l2 l3 l4 : Option AV} : Rn (d) Q (50, 68, [l0, l1, l2, l3, l4], st, σ) = Rn (d) Q (50, 69, [l0, l1, l2, l3, l4], vI 1 :: st, σ) := by rw [E_iconst i50_68, ci_1]
theorem e50_69 {d : Nat} {Q : Option AV → St → Prop} {σ : St} {l0 l1 l2 l3 l4 : Option AV} {x : Int32} : Rn (d) Q (50, 69, [l0, l1, l2, l3, l4], [vI x], σ) = ((x = 0 ∨ x = 1) ∧ Q (some (vI x)) σ) := E_iretZ (st := []) i50_69 r50
theorem i51_0 : ins 51 0 = some (.aload_n 0, 1) := (congrArg (fun x : PTy => x.1.lookup 0) q51).trans rfl
theorem i51_1 : ins 51 1 = some (.invokevirtual 22, 3) := (congrArg (fun x : PTy => x.1.lookup 1) q51).trans rfl
theorem i51_4 : ins 51 4 = some (.bipush 97, 2) := (congrArg (fun x : PTy => x.1.lookup 4) q51).trans rfl
theorem i51_6 : ins 51 6 = some (.isub, 1) := (congrArg (fun x : PTy => x.1.lookup 6) q51).trans rfl
theorem i51_7 : ins 51 7 = some (.istore_n 3, 1) := (congrArg (fun x : PTy => x.1.lookup 7) q51).trans rfl
theorem i51_8 : ins 51 8 = some (.iload_n 3, 1) := (congrArg (fun x : PTy => x.1.lookup 8) q51).trans rfl
theorem i51_9 : ins 51 9 = some (.bipush 8, 2) := (congrArg (fun x : PTy => x.1.lookup 9) q51).trans rfl
theorem i51_11 : ins 51 11 = some (.invokestatic 52, 3) := (congrArg (fun x : PTy => x.1.lookup 11) q51).trans rfl
theorem i51_14 : ins 51 14 = some (.ifCond .ne 5, 3) := (congrArg (fun x : PTy => x.1.lookup 14) q51).trans rfl
theorem i51_17 : ins 51 17 = some (.iconst 0, 1) := (congrArg (fun x : PTy => x.1.lookup 17) q51).trans rfl
theorem i51_18 : ins 51 18 = some (.ireturn, 1) := (congrArg (fun x : PTy => x.1.lookup 18) q51).trans rfl
theorem i51_19 : ins 51 19 = some (.aload_n 0, 1) := (congrArg (fun x : PTy => x.1.lookup 19) q51).trans rfl
theorem i51_20 : ins 51 20 = some (.dup, 1) := (congrArg (fun x : PTy => x.1.lookup 20) q51).trans rfl
theorem i51_21 : ins 51 21 = some (.getfield 19, 3) := (congrArg (fun x : PTy => x.1.lookup 21) q51).trans rfl
theorem i51_24 : ins 51 24 = some (.iconst 1, 1) := (congrArg (fun x : PTy => x.1.lookup 24) q51).trans rfl
theorem i51_25 : ins 51 25 = some (.iadd, 1) := (congrArg (fun x : PTy => x.1.lookup 25) q51).trans rfl
theorem i51_26 : ins 51 26 = some (.putfield 19, 3) := (congrArg (fun x : PTy => x.1.lookup 26) q51).trans rfl
theorem i51_29 : ins 51 29 = some (.aload_n 0, 1) := (congrArg (fun x : PTy => x.1.lookup 29) q51).trans rfl
theorem i51_30 : ins 51 30 = some (.bipush 62, 2) := (congrArg (fun x : PTy => x.1.lookup 30) q51).trans rfl
theorem i51_32 : ins 51 32 = some (.invokevirtual 49, 3) := (congrArg (fun x : PTy => x.1.lookup 32) q51).trans rfl
theorem i51_35 : ins 51 35 = some (.ifCond .ne 11, 3) := (congrArg (fun x : PTy => x.1.lookup 35) q51).trans rfl
theorem i51_38 : ins 51 38 = some (.aload_n 1, 1) := (congrArg (fun x : PTy => x.1.lookup 38) q51).trans rfl
theorem i51_39 : ins 51 39 = some (.iload_n 2, 1) := (congrArg (fun x : PTy => x.1.lookup 39) q51).trans rfl
theorem i51_40 : ins 51 40 = some (.iload_n 3, 1) := (congrArg (fun x : PTy => x.1.lookup 40) q51).trans rfl
theorem i51_41 : ins 51 41 = some (.invokevirtual 82, 3) := (congrArg (fun x : PTy => x.1.lookup 41) q51).trans rfl
theorem i51_44 : ins 51 44 = some (.iconst 1, 1) := (congrArg (fun x : PTy => x.1.lookup 44) q51).trans rfl
theorem i51_45 : ins 51 45 = some (.ireturn, 1) := (congrArg (fun x : PTy => x.1.lookup 45) q51).trans rfl
theorem i51_46 : ins 51 46 = some (.aload_n 0, 1) := (congrArg (fun x : PTy => x.1.lookup 46) q51).trans rfl
theorem i51_47 : ins 51 47 = some (.bipush 100, 2) := (congrArg (fun x : PTy => x.1.lookup 47) q51).trans rfl
theorem i51_49 : ins 51 49 = some (.invokevirtual 59, 3) := (congrArg (fun x : PTy => x.1.lookup 49) q51).trans rfl
theorem i51_52 : ins 51 52 = some (.istore 4, 2) := (congrArg (fun x : PTy => x.1.lookup 52) q51).trans rfl
theorem i51_54 : ins 51 54 = some (.iload 4, 2) := (congrArg (fun x : PTy => x.1.lookup 54) q51).trans rfl
theorem i51_56 : ins 51 56 = some (.ifCond .ge 5, 3) := (congrArg (fun x : PTy => x.1.lookup 56) q51).trans rfl
theorem i51_59 : ins 51 59 = some (.iconst 0, 1) := (congrArg (fun x : PTy => x.1.lookup 59) q51).trans rfl
theorem i51_60 : ins 51 60 = some (.ireturn, 1) := (congrArg (fun x : PTy => x.1.lookup 60) q51).trans rfl
theorem i51_61 : ins 51 61 = some (.aload_n 1, 1) := (congrArg (fun x : PTy => x.1.lookup 61) q51).trans rfl
theorem i51_62 : ins 51 62 = some (.iload_n 2, 1) := (congrArg (fun x : PTy => x.1.lookup 62) q51).trans rfl
theorem i51_63 : ins 51 63 = some (.iload_n 3, 1) := (congrArg (fun x : PTy => x.1.lookup 63) q51).trans rfl
theorem i51_64 : ins 51 64 = some (.iload 4, 2) := (congrArg (fun x : PTy => x.1.lookup 64) q51).trans rfl
theorem i51_66 : ins 51 66 = some (.invokevirtual 85, 3) := (congrArg (fun x : PTy => x.1.lookup 66) q51).trans rfl
theorem i51_69 : ins 51 69 = some (.iconst 1, 1) := (congrArg (fun x : PTy => x.1.lookup 69) q51).trans rfl
theorem i51_70 : ins 51 70 = some (.ireturn, 1) := (congrArg (fun x : PTy => x.1.lookup 70) q51).trans rfl
theorem e51_0 {d : Nat} {Q : Option AV → St → Prop} {st : List AV} {σ : St} {l1 l2 l3 l4 : Option AV} {x : Option (Nat × Nat × Nat)} : Rn (d) Q (51, 0, [some (vR x), l1, l2, l3, l4], st, σ) = Rn (d) Q (51, 1, [some (vR x), l1, l2, l3, l4], vR x :: st, σ) := E_aload_n i51_0 rfl
theorem e51_1 {d : Nat} {Q : Option AV → St → Prop} {st : List AV} {σ : St} {l0 l1 l2 l3 l4 : Option AV} {i : Nat} : Rn (d + 1) Q (51, 1, [l0, l1, l2, l3, l4], vR (some (7, 0, i)) :: st, σ) = (i < gN σ 7 ∧ catS st ≤ 8 ∧ Rn d (fun r σ' => Rn (d + 1) Q (51, 4, [l0, l1, l2, l3, l4], r.toList ++ st, σ')) (43, 0, [some (vR (some (7, 0, i))), none], [], σ)) := E_invV (a := []) i51_1 ((congrArg (fun z => mthQ z 22) o51).trans m7_22) o43 rfl (ek43 i) (en43 i)
theorem e51_4 {d : Nat} {Q : Option AV → St → Prop} {st : List AV} {σ : St} {l0 l1 l2 l3 l4 : Option AV} : Rn (d) Q (51, 4, [l0, l1, l2, l3, l4], st, σ) = Rn (d) Q (51, 6, [l0, l1, l2, l3, l4], vI 97 :: st, σ) := by rw [E_bipush i51_4, cb_97]
theorem e51_6 {d : Nat} {Q : Option AV → St → Prop} {st : List AV} {σ : St} {l0 l1 l2 l3 l4 : Option AV} {x y : Int32} : Rn (d) Q (51, 6, [l0, l1, l2, l3, l4], vI y :: vI x :: st, σ) = Rn (d) Q (51, 7, [l0, l1, l2, l3, l4], vI (x - y) :: st, σ) := E_isub i51_6
theorem s51_3 : okst 51 3 = true := by unfold okst; rw [x51]; rfl
theorem e51_7 {d : Nat} {Q : Option AV → St → Prop} {st : List AV} {σ : St} {l0 l1 l2 l3 l4 : Option AV} {x : Int32} : Rn (d) Q (51, 7, [l0, l1, l2, l3, l4], vI x :: st, σ) = Rn (d) Q (51, 8, [l0, l1, l2, some (vI x), l4], st, σ) := E_istore_n i51_7 s51_3
theorem e51_8 {d : Nat} {Q : Option AV → St → Prop} {st : List AV} {σ : St} {l0 l1 l2 l4 : Option AV} {x : Int32} : Rn (d) Q (51, 8, [l0, l1, l2, some (vI x), l4], st, σ) = Rn (d) Q (51, 9, [l0, l1, l2, some (vI x), l4], vI x :: st, σ) := E_iload_n i51_8 rfl
theorem e51_9 {d : Nat} {Q : Option AV → St → Prop} {st : List AV} {σ : St} {l0 l1 l2 l3 l4 : Option AV} : Rn (d) Q (51, 9, [l0, l1, l2, l3, l4], st, σ) = Rn (d) Q (51, 11, [l0, l1, l2, l3, l4], vI 8 :: st, σ) := by rw [E_bipush i51_9, cb_8]
theorem e51_11 {d : Nat} {Q : Option AV → St → Prop} {st : List AV} {σ : St} {l0 l1 l2 l3 l4 : Option AV} {a0 : Int32} {a1 : Int32} : Rn (d + 1) Q (51, 11, [l0, l1, l2, l3, l4], vI a1 :: vI a0 :: st, σ) = (catS st ≤ 8 ∧ Rn d (fun r σ' => Rn (d + 1) Q (51, 14, [l0, l1, l2, l3, l4], r.toList ++ st, σ')) (108, 0, [some (vI a0), some (vI a1)], [], σ)) := E_invS4 (a := [vI a1, vI a0]) i51_11 ((congrArg (fun z => mthQ z 52) o51).trans m7_52) rfl (ek108 a0 a1) (en108 a0 a1)
theorem e51_14 {d : Nat} {Q : Option AV → St → Prop} {st : List AV} {σ : St} {l0 l1 l2 l3 l4 : Option AV} {x : Int32} : Rn (d) Q (51, 14, [l0, l1, l2, l3, l4], vI x :: st, σ) = (if x = 0 then Rn (d) Q (51, 17, [l0, l1, l2, l3, l4], st, σ) else Rn (d) Q (51, 19, [l0, l1, l2, l3, l4], st, σ)) := E_if_ne 19 i51_14 (by decide)
theorem e51_17 {d : Nat} {Q : Option AV → St → Prop} {st : List AV} {σ : St} {l0 l1 l2 l3 l4 : Option AV} : Rn (d) Q (51, 17, [l0, l1, l2, l3, l4], st, σ) = Rn (d) Q (51, 18, [l0, l1, l2, l3, l4], vI 0 :: st, σ) := by rw [E_iconst i51_17, ci_0]
theorem e51_18 {d : Nat} {Q : Option AV → St → Prop} {σ : St} {l0 l1 l2 l3 l4 : Option AV} {x : Int32} : Rn (d) Q (51, 18, [l0, l1, l2, l3, l4], [vI x], σ) = ((x = 0 ∨ x = 1) ∧ Q (some (vI x)) σ) := E_iretZ (st := []) i51_18 r51
theorem e51_19 {d : Nat} {Q : Option AV → St → Prop} {st : List AV} {σ : St} {l1 l2 l3 l4 : Option AV} {x : Option (Nat × Nat × Nat)} : Rn (d) Q (51, 19, [some (vR x), l1, l2, l3, l4], st, σ) = Rn (d) Q (51, 20, [some (vR x), l1, l2, l3, l4], vR x :: st, σ) := E_aload_n i51_19 rfl
theorem e51_20 {d : Nat} {Q : Option AV → St → Prop} {st : List AV} {σ : St} {l0 l1 l2 l3 l4 : Option AV} {x : Option (Nat × Nat × Nat)} : Rn (d) Q (51, 20, [l0, l1, l2, l3, l4], vR x :: st, σ) = Rn (d) Q (51, 21, [l0, l1, l2, l3, l4], vR x :: vR x :: st, σ) := E_dupR i51_20
theorem e51_21 {d : Nat} {Q : Option AV → St → Prop} {st : List AV} {σ : St} {l0 l1 l2 l3 l4 : Option AV} {i : Nat} : Rn (d) Q (51, 21, [l0, l1, l2, l3, l4], vR (some (7, 0, i)) :: st, σ) = (i < gN σ 7 ∧ Rn (d) Q (51, 24, [l0, l1, l2, l3, l4], vI (gI σ 7 2 i) :: st, σ)) := E_getI i51_21 ((congrArg (fun z => fldQ z 19) o51).trans f7_19) rfl
theorem e51_24 {d : Nat} {Q : Option AV → St → Prop} {st : List AV} {σ : St} {l0 l1 l2 l3 l4 : Option AV} : Rn (d) Q (51, 24, [l0, l1, l2, l3, l4], st, σ) = Rn (d) Q (51, 25, [l0, l1, l2, l3, l4], vI 1 :: st, σ) := by rw [E_iconst i51_24, ci_1]
theorem e51_25 {d : Nat} {Q : Option AV → St → Prop} {st : List AV} {σ : St} {l0 l1 l2 l3 l4 : Option AV} {x y : Int32} : Rn (d) Q (51, 25, [l0, l1, l2, l3, l4], vI y :: vI x :: st, σ) = Rn (d) Q (51, 26, [l0, l1, l2, l3, l4], vI (x + y) :: st, σ) := E_iadd i51_25
theorem e51_26 {d : Nat} {Q : Option AV → St → Prop} {st : List AV} {σ : St} {l0 l1 l2 l3 l4 : Option AV} {i : Nat} {x : Int32} : Rn (d) Q (51, 26, [l0, l1, l2, l3, l4], vI x :: vR (some (7, 0, i)) :: st, σ) = (i < gN σ 7 ∧ Rn (d) Q (51, 29, [l0, l1, l2, l3, l4], st, setI σ 7 2 i x)) := E_putI i51_26 ((congrArg (fun z => fldQ z 19) o51).trans f7_19) rfl (Or.inl rfl)
theorem e51_29 {d : Nat} {Q : Option AV → St → Prop} {st : List AV} {σ : St} {l1 l2 l3 l4 : Option AV} {x : Option (Nat × Nat × Nat)} : Rn (d) Q (51, 29, [some (vR x), l1, l2, l3, l4], st, σ) = Rn (d) Q (51, 30, [some (vR x), l1, l2, l3, l4], vR x :: st, σ) := E_aload_n i51_29 rfl
theorem e51_30 {d : Nat} {Q : Option AV → St → Prop} {st : List AV} {σ : St} {l0 l1 l2 l3 l4 : Option AV} : Rn (d) Q (51, 30, [l0, l1, l2, l3, l4], st, σ) = Rn (d) Q (51, 32, [l0, l1, l2, l3, l4], vI 62 :: st, σ) := by rw [E_bipush i51_30, cb_62]
theorem e51_32 {d : Nat} {Q : Option AV → St → Prop} {st : List AV} {σ : St} {l0 l1 l2 l3 l4 : Option AV} {i : Nat} {a1 : Int32} : Rn (d + 1) Q (51, 32, [l0, l1, l2, l3, l4], vI a1 :: vR (some (7, 0, i)) :: st, σ) = (i < gN σ 7 ∧ catS st ≤ 8 ∧ Rn d (fun r σ' => Rn (d + 1) Q (51, 35, [l0, l1, l2, l3, l4], r.toList ++ st, σ')) (44, 0, [some (vR (some (7, 0, i))), some (vI a1)], [], σ)) := E_invV (a := [vI a1]) i51_32 ((congrArg (fun z => mthQ z 49) o51).trans m7_49) o44 rfl (ek44 i a1) (en44 i a1)
theorem e51_35 {d : Nat} {Q : Option AV → St → Prop} {st : List AV} {σ : St} {l0 l1 l2 l3 l4 : Option AV} {x : Int32} : Rn (d) Q (51, 35, [l0, l1, l2, l3, l4], vI x :: st, σ) = (if x = 0 then Rn (d) Q (51, 38, [l0, l1, l2, l3, l4], st, σ) else Rn (d) Q (51, 46, [l0, l1, l2, l3, l4], st, σ)) := E_if_ne 46 i51_35 (by decide)
theorem e51_38 {d : Nat} {Q : Option AV → St → Prop} {st : List AV} {σ : St} {l0 l2 l3 l4 : Option AV} {x : Option (Nat × Nat × Nat)} : Rn (d) Q (51, 38, [l0, some (vR x), l2, l3, l4], st, σ) = Rn (d) Q (51, 39, [l0, some (vR x), l2, l3, l4], vR x :: st, σ) := E_aload_n i51_38 rfl
theorem e51_39 {d : Nat} {Q : Option AV → St → Prop} {st : List AV} {σ : St} {l0 l1 l3 l4 : Option AV} {x : Int32} : Rn (d) Q (51, 39, [l0, l1, some (vI x), l3, l4], st, σ) = Rn (d) Q (51, 40, [l0, l1, some (vI x), l3, l4], vI x :: st, σ) := E_iload_n i51_39 rfl
theorem e51_40 {d : Nat} {Q : Option AV → St → Prop} {st : List AV} {σ : St} {l0 l1 l2 l4 : Option AV} {x : Int32} : Rn (d) Q (51, 40, [l0, l1, l2, some (vI x), l4], st, σ) = Rn (d) Q (51, 41, [l0, l1, l2, some (vI x), l4], vI x :: st, σ) := E_iload_n i51_40 rfl
theorem e51_41 {d : Nat} {Q : Option AV → St → Prop} {st : List AV} {σ : St} {l0 l1 l2 l3 l4 : Option AV} {i : Nat} {a1 : Int32} {a2 : Int32} : Rn (d + 1) Q (51, 41, [l0, l1, l2, l3, l4], vI a2 :: vI a1 :: vR (some (0, 0, i)) :: st, σ) = (i < gN σ 0 ∧ catS st ≤ 8 ∧ Rn d (fun r σ' => Rn (d + 1) Q (51, 44, [l0, l1, l2, l3, l4], r.toList ++ st, σ')) (4, 0, [some (vR (some (0, 0, i))), some (vI a1), some (vI a2)], [], σ)) := E_invV (a := [vI a2, vI a1]) i51_41 ((congrArg (fun z => mthQ z 82) o51).trans m7_82) o4 rfl (ek4 i a1 a2) (en4 i a1 a2)
theorem e51_44 {d : Nat} {Q : Option AV → St → Prop} {st : List AV} {σ : St} {l0 l1 l2 l3 l4 : Option AV} : Rn (d) Q (51, 44, [l0, l1, l2, l3, l4], st, σ) = Rn (d) Q (51, 45, [l0, l1, l2, l3, l4], vI 1 :: st, σ) := by rw [E_iconst i51_44, ci_1]
theorem e51_45 {d : Nat} {Q : Option AV → St → Prop} {σ : St} {l0 l1 l2 l3 l4 : Option AV} {x : Int32} : Rn (d) Q (51, 45, [l0, l1, l2, l3, l4], [vI x], σ) = ((x = 0 ∨ x = 1) ∧ Q (some (vI x)) σ) := E_iretZ (st := []) i51_45 r51
theorem e51_46 {d : Nat} {Q : Option AV → St → Prop} {st : List AV} {σ : St} {l1 l2 l3 l4 : Option AV} {x : Option (Nat × Nat × Nat)} : Rn (d) Q (51, 46, [some (vR x), l1, l2, l3, l4], st, σ) = Rn (d) Q (51, 47, [some (vR x), l1, l2, l3, l4], vR x :: st, σ) := E_aload_n i51_46 rfl
theorem e51_47 {d : Nat} {Q : Option AV → St → Prop} {st : List AV} {σ : St} {l0 l1 l2 l3 l4 : Option AV} : Rn (d) Q (51, 47, [l0, l1, l2, l3, l4], st, σ) = Rn (d) Q (51, 49, [l0, l1, l2, l3, l4], vI 100 :: st, σ) := by rw [E_bipush i51_47, cb_100]
theorem e51_49 {d : Nat} {Q : Option AV → St → Prop} {st : List AV} {σ : St} {l0 l1 l2 l3 l4 : Option AV} {i : Nat} {a1 : Int32} : Rn (d + 1) Q (51, 49, [l0, l1, l2, l3, l4], vI a1 :: vR (some (7, 0, i)) :: st, σ) = (i < gN σ 7 ∧ catS st ≤ 8 ∧ Rn d (fun r σ' => Rn (d + 1) Q (51, 52, [l0, l1, l2, l3, l4], r.toList ++ st, σ')) (46, 0, [some (vR (some (7, 0, i))), some (vI a1), none, none, none], [], σ)) := E_invV (a := [vI a1]) i51_49 ((congrArg (fun z => mthQ z 59) o51).trans m7_59) o46 rfl (ek46 i a1) (en46 i a1)
theorem s51_4 : okst 51 4 = true := by unfold okst; rw [x51]; rfl
theorem e51_52 {d : Nat} {Q : Option AV → St → Prop} {st : List AV} {σ : St} {l0 l1 l2 l3 l4 : Option AV} {x : Int32} : Rn (d) Q (51, 52, [l0, l1, l2, l3, l4], vI x :: st, σ) = Rn (d) Q (51, 54, [l0, l1, l2, l3, some (vI x)], st, σ) := E_istore i51_52 s51_4
theorem e51_54 {d : Nat} {Q : Option AV → St → Prop} {st : List AV} {σ : St} {l0 l1 l2 l3 : Option AV} {x : Int32} : Rn (d) Q (51, 54, [l0, l1, l2, l3, some (vI x)], st, σ) = Rn (d) Q (51, 56, [l0, l1, l2, l3, some (vI x)], vI x :: st, σ) := E_iload i51_54 rfl
theorem e51_56 {d : Nat} {Q : Option AV → St → Prop} {st : List AV} {σ : St} {l0 l1 l2 l3 l4 : Option AV} {x : Int32} : Rn (d) Q (51, 56, [l0, l1, l2, l3, l4], vI x :: st, σ) = (if 0 ≤ x then Rn (d) Q (51, 61, [l0, l1, l2, l3, l4], st, σ) else Rn (d) Q (51, 59, [l0, l1, l2, l3, l4], st, σ)) := E_if_ge 61 i51_56 (by decide)
theorem e51_59 {d : Nat} {Q : Option AV → St → Prop} {st : List AV} {σ : St} {l0 l1 l2 l3 l4 : Option AV} : Rn (d) Q (51, 59, [l0, l1, l2, l3, l4], st, σ) = Rn (d) Q (51, 60, [l0, l1, l2, l3, l4], vI 0 :: st, σ) := by rw [E_iconst i51_59, ci_0]
theorem e51_60 {d : Nat} {Q : Option AV → St → Prop} {σ : St} {l0 l1 l2 l3 l4 : Option AV} {x : Int32} : Rn (d) Q (51, 60, [l0, l1, l2, l3, l4], [vI x], σ) = ((x = 0 ∨ x = 1) ∧ Q (some (vI x)) σ) := E_iretZ (st := []) i51_60 r51
theorem e51_61 {d : Nat} {Q : Option AV → St → Prop} {st : List AV} {σ : St} {l0 l2 l3 l4 : Option AV} {x : Option (Nat × Nat × Nat)} : Rn (d) Q (51, 61, [l0, some (vR x), l2, l3, l4], st, σ) = Rn (d) Q (51, 62, [l0, some (vR x), l2, l3, l4], vR x :: st, σ) := E_aload_n i51_61 rfl
theorem e51_62 {d : Nat} {Q : Option AV → St → Prop} {st : List AV} {σ : St} {l0 l1 l3 l4 : Option AV} {x : Int32} : Rn (d) Q (51, 62, [l0, l1, some (vI x), l3, l4], st, σ) = Rn (d) Q (51, 63, [l0, l1, some (vI x), l3, l4], vI x :: st, σ) := E_iload_n i51_62 rfl
theorem e51_63 {d : Nat} {Q : Option AV → St → Prop} {st : List AV} {σ : St} {l0 l1 l2 l4 : Option AV} {x : Int32} : Rn (d) Q (51, 63, [l0, l1, l2, some (vI x), l4], st, σ) = Rn (d) Q (51, 64, [l0, l1, l2, some (vI x), l4], vI x :: st, σ) := E_iload_n i51_63 rfl
theorem e51_64 {d : Nat} {Q : Option AV → St → Prop} {st : List AV} {σ : St} {l0 l1 l2 l3 : Option AV} {x : Int32} : Rn (d) Q (51, 64, [l0, l1, l2, l3, some (vI x)], st, σ) = Rn (d) Q (51, 66, [l0, l1, l2, l3, some (vI x)], vI x :: st, σ) := E_iload i51_64 rfl
theorem e51_66 {d : Nat} {Q : Option AV → St → Prop} {st : List AV} {σ : St} {l0 l1 l2 l3 l4 : Option AV} {i : Nat} {a1 : Int32} {a2 : Int32} {a3 : Int32} : Rn (d + 1) Q (51, 66, [l0, l1, l2, l3, l4], vI a3 :: vI a2 :: vI a1 :: vR (some (0, 0, i)) :: st, σ) = (i < gN σ 0 ∧ catS st ≤ 8 ∧ Rn d (fun r σ' => Rn (d + 1) Q (51, 69, [l0, l1, l2, l3, l4], r.toList ++ st, σ')) (5, 0, [some (vR (some (0, 0, i))), some (vI a1), some (vI a2), some (vI a3)], [], σ)) := E_invV (a := [vI a3, vI a2, vI a1]) i51_66 ((congrArg (fun z => mthQ z 85) o51).trans m7_85) o5 rfl (ek5 i a1 a2 a3) (en5 i a1 a2 a3)
theorem e51_69 {d : Nat} {Q : Option AV → St → Prop} {st : List AV} {σ : St} {l0 l1 l2 l3 l4 : Option AV} : Rn (d) Q (51, 69, [l0, l1, l2, l3, l4], st, σ) = Rn (d) Q (51, 70, [l0, l1, l2, l3, l4], vI 1 :: st, σ) := by rw [E_iconst i51_69, ci_1]
theorem e51_70 {d : Nat} {Q : Option AV → St → Prop} {σ : St} {l0 l1 l2 l3 l4 : Option AV} {x : Int32} : Rn (d) Q (51, 70, [l0, l1, l2, l3, l4], [vI x], σ) = ((x = 0 ∨ x = 1) ∧ Q (some (vI x)) σ) := E_iretZ (st := []) i51_70 r51
theorem i52_0 : ins 52 0 = some (.aload_n 1, 1) := (congrArg (fun x : PTy => x.1.lookup 0) q52).trans rfl
theorem i52_1 : ins 52 1 = some (.iconst 0, 1) := (congrArg (fun x : PTy => x.1.lookup 1) q52).trans rfl
theorem i52_2 : ins 52 2 = some (.putfield 88, 3) := (congrArg (fun x : PTy => x.1.lookup 2) q52).trans rfl
theorem i52_5 : ins 52 5 = some (.aload_n 0, 1) := (congrArg (fun x : PTy => x.1.lookup 5) q52).trans rfl
theorem i52_6 : ins 52 6 = some (.iconst 0, 1) := (congrArg (fun x : PTy => x.1.lookup 6) q52).trans rfl
theorem i52_7 : ins 52 7 = some (.putfield 19, 3) := (congrArg (fun x : PTy => x.1.lookup 7) q52).trans rfl
theorem i52_10 : ins 52 10 = some (.iconst 1, 1) := (congrArg (fun x : PTy => x.1.lookup 10) q52).trans rfl
theorem i52_11 : ins 52 11 = some (.istore_n 2, 1) := (congrArg (fun x : PTy => x.1.lookup 11) q52).trans rfl
theorem i52_12 : ins 52 12 = some (.iload_n 2, 1) := (congrArg (fun x : PTy => x.1.lookup 12) q52).trans rfl
theorem i52_13 : ins 52 13 = some (.bipush 6, 2) := (congrArg (fun x : PTy => x.1.lookup 13) q52).trans rfl
theorem i52_15 : ins 52 15 = some (.if_icmp .gt 46, 3) := (congrArg (fun x : PTy => x.1.lookup 15) q52).trans rfl
theorem i52_18 : ins 52 18 = some (.aload_n 0, 1) := (congrArg (fun x : PTy => x.1.lookup 18) q52).trans rfl
theorem i52_19 : ins 52 19 = some (.aload_n 1, 1) := (congrArg (fun x : PTy => x.1.lookup 19) q52).trans rfl
theorem i52_20 : ins 52 20 = some (.invokevirtual 93, 3) := (congrArg (fun x : PTy => x.1.lookup 20) q52).trans rfl
theorem i52_23 : ins 52 23 = some (.ifCond .ne 5, 3) := (congrArg (fun x : PTy => x.1.lookup 23) q52).trans rfl
theorem i52_26 : ins 52 26 = some (.iconst 0, 1) := (congrArg (fun x : PTy => x.1.lookup 26) q52).trans rfl
theorem i52_27 : ins 52 27 = some (.ireturn, 1) := (congrArg (fun x : PTy => x.1.lookup 27) q52).trans rfl
theorem i52_28 : ins 52 28 = some (.aload_n 0, 1) := (congrArg (fun x : PTy => x.1.lookup 28) q52).trans rfl
theorem i52_29 : ins 52 29 = some (.invokevirtual 22, 3) := (congrArg (fun x : PTy => x.1.lookup 29) q52).trans rfl
theorem i52_32 : ins 52 32 = some (.iconst (-1), 1) := (congrArg (fun x : PTy => x.1.lookup 32) q52).trans rfl
theorem i52_33 : ins 52 33 = some (.if_icmp .ne 5, 3) := (congrArg (fun x : PTy => x.1.lookup 33) q52).trans rfl
theorem i52_36 : ins 52 36 = some (.iconst 1, 1) := (congrArg (fun x : PTy => x.1.lookup 36) q52).trans rfl
theorem i52_37 : ins 52 37 = some (.ireturn, 1) := (congrArg (fun x : PTy => x.1.lookup 37) q52).trans rfl
theorem i52_38 : ins 52 38 = some (.iload_n 2, 1) := (congrArg (fun x : PTy => x.1.lookup 38) q52).trans rfl
theorem i52_39 : ins 52 39 = some (.bipush 6, 2) := (congrArg (fun x : PTy => x.1.lookup 39) q52).trans rfl
theorem i52_41 : ins 52 41 = some (.if_icmp .eq 12, 3) := (congrArg (fun x : PTy => x.1.lookup 41) q52).trans rfl
theorem i52_44 : ins 52 44 = some (.aload_n 0, 1) := (congrArg (fun x : PTy => x.1.lookup 44) q52).trans rfl
theorem i52_45 : ins 52 45 = some (.bipush 59, 2) := (congrArg (fun x : PTy => x.1.lookup 45) q52).trans rfl
theorem i52_47 : ins 52 47 = some (.invokevirtual 49, 3) := (congrArg (fun x : PTy => x.1.lookup 47) q52).trans rfl
theorem i52_50 : ins 52 50 = some (.ifCond .ne 5, 3) := (congrArg (fun x : PTy => x.1.lookup 50) q52).trans rfl
theorem i52_53 : ins 52 53 = some (.iconst 0, 1) := (congrArg (fun x : PTy => x.1.lookup 53) q52).trans rfl
theorem i52_54 : ins 52 54 = some (.ireturn, 1) := (congrArg (fun x : PTy => x.1.lookup 54) q52).trans rfl
theorem i52_55 : ins 52 55 = some (.iinc 2 1, 3) := (congrArg (fun x : PTy => x.1.lookup 55) q52).trans rfl
theorem i52_58 : ins 52 58 = some (.goto (-46), 3) := (congrArg (fun x : PTy => x.1.lookup 58) q52).trans rfl
theorem i52_61 : ins 52 61 = some (.iconst 0, 1) := (congrArg (fun x : PTy => x.1.lookup 61) q52).trans rfl
theorem i52_62 : ins 52 62 = some (.ireturn, 1) := (congrArg (fun x : PTy => x.1.lookup 62) q52).trans rfl
theorem e52_0 {d : Nat} {Q : Option AV → St → Prop} {st : List AV} {σ : St} {l0 l2 : Option AV} {x : Option (Nat × Nat × Nat)} : Rn (d) Q (52, 0, [l0, some (vR x), l2], st, σ) = Rn (d) Q (52, 1, [l0, some (vR x), l2], vR x :: st, σ) := E_aload_n i52_0 rfl
theorem e52_1 {d : Nat} {Q : Option AV → St → Prop} {st : List AV} {σ : St} {l0 l1 l2 : Option AV} : Rn (d) Q (52, 1, [l0, l1, l2], st, σ) = Rn (d) Q (52, 2, [l0, l1, l2], vI 0 :: st, σ) := by rw [E_iconst i52_1, ci_0]
theorem e52_2 {d : Nat} {Q : Option AV → St → Prop} {st : List AV} {σ : St} {l0 l1 l2 : Option AV} {i : Nat} {x : Int32} : Rn (d) Q (52, 2, [l0, l1, l2], vI x :: vR (some (1, 0, i)) :: st, σ) = (i < gN σ 1 ∧ Rn (d) Q (52, 5, [l0, l1, l2], st, setI σ 1 0 i x)) := E_putI i52_2 ((congrArg (fun z => fldQ z 88) o52).trans f7_88) rfl (Or.inl rfl)
theorem e52_5 {d : Nat} {Q : Option AV → St → Prop} {st : List AV} {σ : St} {l1 l2 : Option AV} {x : Option (Nat × Nat × Nat)} : Rn (d) Q (52, 5, [some (vR x), l1, l2], st, σ) = Rn (d) Q (52, 6, [some (vR x), l1, l2], vR x :: st, σ) := E_aload_n i52_5 rfl
theorem e52_6 {d : Nat} {Q : Option AV → St → Prop} {st : List AV} {σ : St} {l0 l1 l2 : Option AV} : Rn (d) Q (52, 6, [l0, l1, l2], st, σ) = Rn (d) Q (52, 7, [l0, l1, l2], vI 0 :: st, σ) := by rw [E_iconst i52_6, ci_0]
theorem e52_7 {d : Nat} {Q : Option AV → St → Prop} {st : List AV} {σ : St} {l0 l1 l2 : Option AV} {i : Nat} {x : Int32} : Rn (d) Q (52, 7, [l0, l1, l2], vI x :: vR (some (7, 0, i)) :: st, σ) = (i < gN σ 7 ∧ Rn (d) Q (52, 10, [l0, l1, l2], st, setI σ 7 2 i x)) := E_putI i52_7 ((congrArg (fun z => fldQ z 19) o52).trans f7_19) rfl (Or.inl rfl)
theorem e52_10 {d : Nat} {Q : Option AV → St → Prop} {st : List AV} {σ : St} {l0 l1 l2 : Option AV} : Rn (d) Q (52, 10, [l0, l1, l2], st, σ) = Rn (d) Q (52, 11, [l0, l1, l2], vI 1 :: st, σ) := by rw [E_iconst i52_10, ci_1]
theorem s52_2 : okst 52 2 = true := by unfold okst; rw [x52]; rfl
theorem e52_11 {d : Nat} {Q : Option AV → St → Prop} {st : List AV} {σ : St} {l0 l1 l2 : Option AV} {x : Int32} : Rn (d) Q (52, 11, [l0, l1, l2], vI x :: st, σ) = Rn (d) Q (52, 12, [l0, l1, some (vI x)], st, σ) := E_istore_n i52_11 s52_2
theorem e52_12 {d : Nat} {Q : Option AV → St → Prop} {st : List AV} {σ : St} {l0 l1 : Option AV} {x : Int32} : Rn (d) Q (52, 12, [l0, l1, some (vI x)], st, σ) = Rn (d) Q (52, 13, [l0, l1, some (vI x)], vI x :: st, σ) := E_iload_n i52_12 rfl
theorem e52_13 {d : Nat} {Q : Option AV → St → Prop} {st : List AV} {σ : St} {l0 l1 l2 : Option AV} : Rn (d) Q (52, 13, [l0, l1, l2], st, σ) = Rn (d) Q (52, 15, [l0, l1, l2], vI 6 :: st, σ) := by rw [E_bipush i52_13, cb_6]
theorem e52_15 {d : Nat} {Q : Option AV → St → Prop} {st : List AV} {σ : St} {l0 l1 l2 : Option AV} {x y : Int32} : Rn (d) Q (52, 15, [l0, l1, l2], vI y :: vI x :: st, σ) = (if y < x then Rn (d) Q (52, 61, [l0, l1, l2], st, σ) else Rn (d) Q (52, 18, [l0, l1, l2], st, σ)) := E_icmp_gt 61 i52_15 (by decide)
theorem e52_18 {d : Nat} {Q : Option AV → St → Prop} {st : List AV} {σ : St} {l1 l2 : Option AV} {x : Option (Nat × Nat × Nat)} : Rn (d) Q (52, 18, [some (vR x), l1, l2], st, σ) = Rn (d) Q (52, 19, [some (vR x), l1, l2], vR x :: st, σ) := E_aload_n i52_18 rfl
theorem e52_19 {d : Nat} {Q : Option AV → St → Prop} {st : List AV} {σ : St} {l0 l2 : Option AV} {x : Option (Nat × Nat × Nat)} : Rn (d) Q (52, 19, [l0, some (vR x), l2], st, σ) = Rn (d) Q (52, 20, [l0, some (vR x), l2], vR x :: st, σ) := E_aload_n i52_19 rfl
theorem e52_20 {d : Nat} {Q : Option AV → St → Prop} {st : List AV} {σ : St} {l0 l1 l2 : Option AV} {i : Nat} {a1 : Option (Nat × Nat × Nat)} : Rn (d + 1) Q (52, 20, [l0, l1, l2], vR a1 :: vR (some (7, 0, i)) :: st, σ) = (i < gN σ 7 ∧ catS st ≤ 8 ∧ Rn d (fun r σ' => Rn (d + 1) Q (52, 23, [l0, l1, l2], r.toList ++ st, σ')) (53, 0, [some (vR (some (7, 0, i))), some (vR a1), none, none, none], [], σ)) := E_invV (a := [vR a1]) i52_20 ((congrArg (fun z => mthQ z 93) o52).trans m7_93) o53 rfl (ek53 i a1) (en53 i a1)
theorem e52_23 {d : Nat} {Q : Option AV → St → Prop} {st : List AV} {σ : St} {l0 l1 l2 : Option AV} {x : Int32} : Rn (d) Q (52, 23, [l0, l1, l2], vI x :: st, σ) = (if x = 0 then Rn (d) Q (52, 26, [l0, l1, l2], st, σ) else Rn (d) Q (52, 28, [l0, l1, l2], st, σ)) := E_if_ne 28 i52_23 (by decide)
theorem e52_26 {d : Nat} {Q : Option AV → St → Prop} {st : List AV} {σ : St} {l0 l1 l2 : Option AV} : Rn (d) Q (52, 26, [l0, l1, l2], st, σ) = Rn (d) Q (52, 27, [l0, l1, l2], vI 0 :: st, σ) := by rw [E_iconst i52_26, ci_0]
theorem e52_27 {d : Nat} {Q : Option AV → St → Prop} {σ : St} {l0 l1 l2 : Option AV} {x : Int32} : Rn (d) Q (52, 27, [l0, l1, l2], [vI x], σ) = ((x = 0 ∨ x = 1) ∧ Q (some (vI x)) σ) := E_iretZ (st := []) i52_27 r52
theorem e52_28 {d : Nat} {Q : Option AV → St → Prop} {st : List AV} {σ : St} {l1 l2 : Option AV} {x : Option (Nat × Nat × Nat)} : Rn (d) Q (52, 28, [some (vR x), l1, l2], st, σ) = Rn (d) Q (52, 29, [some (vR x), l1, l2], vR x :: st, σ) := E_aload_n i52_28 rfl
theorem e52_29 {d : Nat} {Q : Option AV → St → Prop} {st : List AV} {σ : St} {l0 l1 l2 : Option AV} {i : Nat} : Rn (d + 1) Q (52, 29, [l0, l1, l2], vR (some (7, 0, i)) :: st, σ) = (i < gN σ 7 ∧ catS st ≤ 8 ∧ Rn d (fun r σ' => Rn (d + 1) Q (52, 32, [l0, l1, l2], r.toList ++ st, σ')) (43, 0, [some (vR (some (7, 0, i))), none], [], σ)) := E_invV (a := []) i52_29 ((congrArg (fun z => mthQ z 22) o52).trans m7_22) o43 rfl (ek43 i) (en43 i)
theorem e52_32 {d : Nat} {Q : Option AV → St → Prop} {st : List AV} {σ : St} {l0 l1 l2 : Option AV} : Rn (d) Q (52, 32, [l0, l1, l2], st, σ) = Rn (d) Q (52, 33, [l0, l1, l2], vI (-1) :: st, σ) := by rw [E_iconst i52_32, ci_m1]
theorem e52_33 {d : Nat} {Q : Option AV → St → Prop} {st : List AV} {σ : St} {l0 l1 l2 : Option AV} {x y : Int32} : Rn (d) Q (52, 33, [l0, l1, l2], vI y :: vI x :: st, σ) = (if x = y then Rn (d) Q (52, 36, [l0, l1, l2], st, σ) else Rn (d) Q (52, 38, [l0, l1, l2], st, σ)) := E_icmp_ne 38 i52_33 (by decide)
theorem e52_36 {d : Nat} {Q : Option AV → St → Prop} {st : List AV} {σ : St} {l0 l1 l2 : Option AV} : Rn (d) Q (52, 36, [l0, l1, l2], st, σ) = Rn (d) Q (52, 37, [l0, l1, l2], vI 1 :: st, σ) := by rw [E_iconst i52_36, ci_1]
theorem e52_37 {d : Nat} {Q : Option AV → St → Prop} {σ : St} {l0 l1 l2 : Option AV} {x : Int32} : Rn (d) Q (52, 37, [l0, l1, l2], [vI x], σ) = ((x = 0 ∨ x = 1) ∧ Q (some (vI x)) σ) := E_iretZ (st := []) i52_37 r52
theorem e52_38 {d : Nat} {Q : Option AV → St → Prop} {st : List AV} {σ : St} {l0 l1 : Option AV} {x : Int32} : Rn (d) Q (52, 38, [l0, l1, some (vI x)], st, σ) = Rn (d) Q (52, 39, [l0, l1, some (vI x)], vI x :: st, σ) := E_iload_n i52_38 rfl
theorem e52_39 {d : Nat} {Q : Option AV → St → Prop} {st : List AV} {σ : St} {l0 l1 l2 : Option AV} : Rn (d) Q (52, 39, [l0, l1, l2], st, σ) = Rn (d) Q (52, 41, [l0, l1, l2], vI 6 :: st, σ) := by rw [E_bipush i52_39, cb_6]
theorem e52_41 {d : Nat} {Q : Option AV → St → Prop} {st : List AV} {σ : St} {l0 l1 l2 : Option AV} {x y : Int32} : Rn (d) Q (52, 41, [l0, l1, l2], vI y :: vI x :: st, σ) = (if x = y then Rn (d) Q (52, 53, [l0, l1, l2], st, σ) else Rn (d) Q (52, 44, [l0, l1, l2], st, σ)) := E_icmp_eq 53 i52_41 (by decide)
theorem e52_44 {d : Nat} {Q : Option AV → St → Prop} {st : List AV} {σ : St} {l1 l2 : Option AV} {x : Option (Nat × Nat × Nat)} : Rn (d) Q (52, 44, [some (vR x), l1, l2], st, σ) = Rn (d) Q (52, 45, [some (vR x), l1, l2], vR x :: st, σ) := E_aload_n i52_44 rfl
theorem e52_45 {d : Nat} {Q : Option AV → St → Prop} {st : List AV} {σ : St} {l0 l1 l2 : Option AV} : Rn (d) Q (52, 45, [l0, l1, l2], st, σ) = Rn (d) Q (52, 47, [l0, l1, l2], vI 59 :: st, σ) := by rw [E_bipush i52_45, cb_59]
theorem e52_47 {d : Nat} {Q : Option AV → St → Prop} {st : List AV} {σ : St} {l0 l1 l2 : Option AV} {i : Nat} {a1 : Int32} : Rn (d + 1) Q (52, 47, [l0, l1, l2], vI a1 :: vR (some (7, 0, i)) :: st, σ) = (i < gN σ 7 ∧ catS st ≤ 8 ∧ Rn d (fun r σ' => Rn (d + 1) Q (52, 50, [l0, l1, l2], r.toList ++ st, σ')) (44, 0, [some (vR (some (7, 0, i))), some (vI a1)], [], σ)) := E_invV (a := [vI a1]) i52_47 ((congrArg (fun z => mthQ z 49) o52).trans m7_49) o44 rfl (ek44 i a1) (en44 i a1)
theorem e52_50 {d : Nat} {Q : Option AV → St → Prop} {st : List AV} {σ : St} {l0 l1 l2 : Option AV} {x : Int32} : Rn (d) Q (52, 50, [l0, l1, l2], vI x :: st, σ) = (if x = 0 then Rn (d) Q (52, 53, [l0, l1, l2], st, σ) else Rn (d) Q (52, 55, [l0, l1, l2], st, σ)) := E_if_ne 55 i52_50 (by decide)
theorem e52_53 {d : Nat} {Q : Option AV → St → Prop} {st : List AV} {σ : St} {l0 l1 l2 : Option AV} : Rn (d) Q (52, 53, [l0, l1, l2], st, σ) = Rn (d) Q (52, 54, [l0, l1, l2], vI 0 :: st, σ) := by rw [E_iconst i52_53, ci_0]
theorem e52_54 {d : Nat} {Q : Option AV → St → Prop} {σ : St} {l0 l1 l2 : Option AV} {x : Int32} : Rn (d) Q (52, 54, [l0, l1, l2], [vI x], σ) = ((x = 0 ∨ x = 1) ∧ Q (some (vI x)) σ) := E_iretZ (st := []) i52_54 r52
theorem e52_55 {d : Nat} {Q : Option AV → St → Prop} {st : List AV} {σ : St} {l0 l1 : Option AV} {x : Int32} : Rn (d) Q (52, 55, [l0, l1, some (vI x)], st, σ) = Rn (d) Q (52, 58, [l0, l1, some (vI (x + 1))], st, σ) := by rw [E_iinc i52_55 rfl (by rw [x52]; decide), show Int32.ofInt 1 = (1 : Int32) by decide +kernel]; rfl
theorem e52_58 {d : Nat} {Q : Option AV → St → Prop} {st : List AV} {σ : St} {l0 l1 l2 : Option AV} : Rn (d) Q (52, 58, [l0, l1, l2], st, σ) = Rn (d) Q (52, 12, [l0, l1, l2], st, σ) := E_goto 12 i52_58 (by decide)
theorem e52_61 {d : Nat} {Q : Option AV → St → Prop} {st : List AV} {σ : St} {l0 l1 l2 : Option AV} : Rn (d) Q (52, 61, [l0, l1, l2], st, σ) = Rn (d) Q (52, 62, [l0, l1, l2], vI 0 :: st, σ) := by rw [E_iconst i52_61, ci_0]
theorem e52_62 {d : Nat} {Q : Option AV → St → Prop} {σ : St} {l0 l1 l2 : Option AV} {x : Int32} : Rn (d) Q (52, 62, [l0, l1, l2], [vI x], σ) = ((x = 0 ∨ x = 1) ∧ Q (some (vI x)) σ) := E_iretZ (st := []) i52_62 r52
theorem i53_0 : ins 53 0 = some (.aload_n 0, 1) := (congrArg (fun x : PTy => x.1.lookup 0) q53).trans rfl
theorem i53_1 : ins 53 1 = some (.bipush 112, 2) := (congrArg (fun x : PTy => x.1.lookup 1) q53).trans rfl
theorem i53_3 : ins 53 3 = some (.invokevirtual 49, 3) := (congrArg (fun x : PTy => x.1.lookup 3) q53).trans rfl
theorem i53_6 : ins 53 6 = some (.istore_n 2, 1) := (congrArg (fun x : PTy => x.1.lookup 6) q53).trans rfl
theorem i53_7 : ins 53 7 = some (.iload_n 2, 1) := (congrArg (fun x : PTy => x.1.lookup 7) q53).trans rfl
theorem i53_8 : ins 53 8 = some (.ifCond .ne 14, 3) := (congrArg (fun x : PTy => x.1.lookup 8) q53).trans rfl
theorem i53_11 : ins 53 11 = some (.aload_n 0, 1) := (congrArg (fun x : PTy => x.1.lookup 11) q53).trans rfl
theorem i53_12 : ins 53 12 = some (.bipush 98, 2) := (congrArg (fun x : PTy => x.1.lookup 12) q53).trans rfl
theorem i53_14 : ins 53 14 = some (.invokevirtual 49, 3) := (congrArg (fun x : PTy => x.1.lookup 14) q53).trans rfl
theorem i53_17 : ins 53 17 = some (.ifCond .ne 5, 3) := (congrArg (fun x : PTy => x.1.lookup 17) q53).trans rfl
theorem i53_20 : ins 53 20 = some (.iconst 0, 1) := (congrArg (fun x : PTy => x.1.lookup 20) q53).trans rfl
theorem i53_21 : ins 53 21 = some (.ireturn, 1) := (congrArg (fun x : PTy => x.1.lookup 21) q53).trans rfl
theorem i53_22 : ins 53 22 = some (.aload_n 0, 1) := (congrArg (fun x : PTy => x.1.lookup 22) q53).trans rfl
theorem i53_23 : ins 53 23 = some (.sipush 999, 3) := (congrArg (fun x : PTy => x.1.lookup 23) q53).trans rfl
theorem i53_26 : ins 53 26 = some (.invokevirtual 59, 3) := (congrArg (fun x : PTy => x.1.lookup 26) q53).trans rfl
theorem i53_29 : ins 53 29 = some (.istore_n 3, 1) := (congrArg (fun x : PTy => x.1.lookup 29) q53).trans rfl
theorem i53_30 : ins 53 30 = some (.iload_n 3, 1) := (congrArg (fun x : PTy => x.1.lookup 30) q53).trans rfl
theorem i53_31 : ins 53 31 = some (.ifCond .lt 12, 3) := (congrArg (fun x : PTy => x.1.lookup 31) q53).trans rfl
theorem i53_34 : ins 53 34 = some (.aload_n 0, 1) := (congrArg (fun x : PTy => x.1.lookup 34) q53).trans rfl
theorem i53_35 : ins 53 35 = some (.bipush 61, 2) := (congrArg (fun x : PTy => x.1.lookup 35) q53).trans rfl
theorem i53_37 : ins 53 37 = some (.invokevirtual 49, 3) := (congrArg (fun x : PTy => x.1.lookup 37) q53).trans rfl
theorem i53_40 : ins 53 40 = some (.ifCond .ne 5, 3) := (congrArg (fun x : PTy => x.1.lookup 40) q53).trans rfl
theorem i53_43 : ins 53 43 = some (.iconst 0, 1) := (congrArg (fun x : PTy => x.1.lookup 43) q53).trans rfl
theorem i53_44 : ins 53 44 = some (.ireturn, 1) := (congrArg (fun x : PTy => x.1.lookup 44) q53).trans rfl
theorem i53_45 : ins 53 45 = some (.aload_n 0, 1) := (congrArg (fun x : PTy => x.1.lookup 45) q53).trans rfl
theorem i53_46 : ins 53 46 = some (.iload_n 2, 1) := (congrArg (fun x : PTy => x.1.lookup 46) q53).trans rfl
theorem i53_47 : ins 53 47 = some (.ifCond .eq 8, 3) := (congrArg (fun x : PTy => x.1.lookup 47) q53).trans rfl
theorem i53_50 : ins 53 50 = some (.ldc 97, 2) := (congrArg (fun x : PTy => x.1.lookup 50) q53).trans rfl
theorem i53_52 : ins 53 52 = some (.goto 5, 3) := (congrArg (fun x : PTy => x.1.lookup 52) q53).trans rfl
theorem i53_55 : ins 53 55 = some (.bipush 100, 2) := (congrArg (fun x : PTy => x.1.lookup 55) q53).trans rfl
theorem i53_57 : ins 53 57 = some (.invokevirtual 59, 3) := (congrArg (fun x : PTy => x.1.lookup 57) q53).trans rfl
theorem i53_60 : ins 53 60 = some (.istore 4, 2) := (congrArg (fun x : PTy => x.1.lookup 60) q53).trans rfl
theorem i53_62 : ins 53 62 = some (.iload 4, 2) := (congrArg (fun x : PTy => x.1.lookup 62) q53).trans rfl
theorem i53_64 : ins 53 64 = some (.ifCond .ge 5, 3) := (congrArg (fun x : PTy => x.1.lookup 64) q53).trans rfl
theorem i53_67 : ins 53 67 = some (.iconst 0, 1) := (congrArg (fun x : PTy => x.1.lookup 67) q53).trans rfl
theorem i53_68 : ins 53 68 = some (.ireturn, 1) := (congrArg (fun x : PTy => x.1.lookup 68) q53).trans rfl
theorem i53_69 : ins 53 69 = some (.aload_n 1, 1) := (congrArg (fun x : PTy => x.1.lookup 69) q53).trans rfl
theorem i53_70 : ins 53 70 = some (.iload_n 2, 1) := (congrArg (fun x : PTy => x.1.lookup 70) q53).trans rfl
theorem i53_71 : ins 53 71 = some (.iload_n 3, 1) := (congrArg (fun x : PTy => x.1.lookup 71) q53).trans rfl
theorem i53_72 : ins 53 72 = some (.iload 4, 2) := (congrArg (fun x : PTy => x.1.lookup 72) q53).trans rfl
theorem i53_74 : ins 53 74 = some (.invokevirtual 98, 3) := (congrArg (fun x : PTy => x.1.lookup 74) q53).trans rfl
theorem i53_77 : ins 53 77 = some (.iconst 1, 1) := (congrArg (fun x : PTy => x.1.lookup 77) q53).trans rfl
theorem i53_78 : ins 53 78 = some (.ireturn, 1) := (congrArg (fun x : PTy => x.1.lookup 78) q53).trans rfl
theorem e53_0 {d : Nat} {Q : Option AV → St → Prop} {st : List AV} {σ : St} {l1 l2 l3 l4 : Option AV} {x : Option (Nat × Nat × Nat)} : Rn (d) Q (53, 0, [some (vR x), l1, l2, l3, l4], st, σ) = Rn (d) Q (53, 1, [some (vR x), l1, l2, l3, l4], vR x :: st, σ) := E_aload_n i53_0 rfl
theorem e53_1 {d : Nat} {Q : Option AV → St → Prop} {st : List AV} {σ : St} {l0 l1 l2 l3 l4 : Option AV} : Rn (d) Q (53, 1, [l0, l1, l2, l3, l4], st, σ) = Rn (d) Q (53, 3, [l0, l1, l2, l3, l4], vI 112 :: st, σ) := by rw [E_bipush i53_1, cb_112]
theorem e53_3 {d : Nat} {Q : Option AV → St → Prop} {st : List AV} {σ : St} {l0 l1 l2 l3 l4 : Option AV} {i : Nat} {a1 : Int32} : Rn (d + 1) Q (53, 3, [l0, l1, l2, l3, l4], vI a1 :: vR (some (7, 0, i)) :: st, σ) = (i < gN σ 7 ∧ catS st ≤ 8 ∧ Rn d (fun r σ' => Rn (d + 1) Q (53, 6, [l0, l1, l2, l3, l4], r.toList ++ st, σ')) (44, 0, [some (vR (some (7, 0, i))), some (vI a1)], [], σ)) := E_invV (a := [vI a1]) i53_3 ((congrArg (fun z => mthQ z 49) o53).trans m7_49) o44 rfl (ek44 i a1) (en44 i a1)
theorem s53_2 : okst 53 2 = true := by unfold okst; rw [x53]; rfl
theorem e53_6 {d : Nat} {Q : Option AV → St → Prop} {st : List AV} {σ : St} {l0 l1 l2 l3 l4 : Option AV} {x : Int32} : Rn (d) Q (53, 6, [l0, l1, l2, l3, l4], vI x :: st, σ) = Rn (d) Q (53, 7, [l0, l1, some (vI x), l3, l4], st, σ) := E_istore_n i53_6 s53_2
theorem e53_7 {d : Nat} {Q : Option AV → St → Prop} {st : List AV} {σ : St} {l0 l1 l3 l4 : Option AV} {x : Int32} : Rn (d) Q (53, 7, [l0, l1, some (vI x), l3, l4], st, σ) = Rn (d) Q (53, 8, [l0, l1, some (vI x), l3, l4], vI x :: st, σ) := E_iload_n i53_7 rfl
theorem e53_8 {d : Nat} {Q : Option AV → St → Prop} {st : List AV} {σ : St} {l0 l1 l2 l3 l4 : Option AV} {x : Int32} : Rn (d) Q (53, 8, [l0, l1, l2, l3, l4], vI x :: st, σ) = (if x = 0 then Rn (d) Q (53, 11, [l0, l1, l2, l3, l4], st, σ) else Rn (d) Q (53, 22, [l0, l1, l2, l3, l4], st, σ)) := E_if_ne 22 i53_8 (by decide)
theorem e53_11 {d : Nat} {Q : Option AV → St → Prop} {st : List AV} {σ : St} {l1 l2 l3 l4 : Option AV} {x : Option (Nat × Nat × Nat)} : Rn (d) Q (53, 11, [some (vR x), l1, l2, l3, l4], st, σ) = Rn (d) Q (53, 12, [some (vR x), l1, l2, l3, l4], vR x :: st, σ) := E_aload_n i53_11 rfl
theorem e53_12 {d : Nat} {Q : Option AV → St → Prop} {st : List AV} {σ : St} {l0 l1 l2 l3 l4 : Option AV} : Rn (d) Q (53, 12, [l0, l1, l2, l3, l4], st, σ) = Rn (d) Q (53, 14, [l0, l1, l2, l3, l4], vI 98 :: st, σ) := by rw [E_bipush i53_12, cb_98]
theorem e53_14 {d : Nat} {Q : Option AV → St → Prop} {st : List AV} {σ : St} {l0 l1 l2 l3 l4 : Option AV} {i : Nat} {a1 : Int32} : Rn (d + 1) Q (53, 14, [l0, l1, l2, l3, l4], vI a1 :: vR (some (7, 0, i)) :: st, σ) = (i < gN σ 7 ∧ catS st ≤ 8 ∧ Rn d (fun r σ' => Rn (d + 1) Q (53, 17, [l0, l1, l2, l3, l4], r.toList ++ st, σ')) (44, 0, [some (vR (some (7, 0, i))), some (vI a1)], [], σ)) := E_invV (a := [vI a1]) i53_14 ((congrArg (fun z => mthQ z 49) o53).trans m7_49) o44 rfl (ek44 i a1) (en44 i a1)
theorem e53_17 {d : Nat} {Q : Option AV → St → Prop} {st : List AV} {σ : St} {l0 l1 l2 l3 l4 : Option AV} {x : Int32} : Rn (d) Q (53, 17, [l0, l1, l2, l3, l4], vI x :: st, σ) = (if x = 0 then Rn (d) Q (53, 20, [l0, l1, l2, l3, l4], st, σ) else Rn (d) Q (53, 22, [l0, l1, l2, l3, l4], st, σ)) := E_if_ne 22 i53_17 (by decide)
theorem e53_20 {d : Nat} {Q : Option AV → St → Prop} {st : List AV} {σ : St} {l0 l1 l2 l3 l4 : Option AV} : Rn (d) Q (53, 20, [l0, l1, l2, l3, l4], st, σ) = Rn (d) Q (53, 21, [l0, l1, l2, l3, l4], vI 0 :: st, σ) := by rw [E_iconst i53_20, ci_0]
theorem e53_21 {d : Nat} {Q : Option AV → St → Prop} {σ : St} {l0 l1 l2 l3 l4 : Option AV} {x : Int32} : Rn (d) Q (53, 21, [l0, l1, l2, l3, l4], [vI x], σ) = ((x = 0 ∨ x = 1) ∧ Q (some (vI x)) σ) := E_iretZ (st := []) i53_21 r53
theorem e53_22 {d : Nat} {Q : Option AV → St → Prop} {st : List AV} {σ : St} {l1 l2 l3 l4 : Option AV} {x : Option (Nat × Nat × Nat)} : Rn (d) Q (53, 22, [some (vR x), l1, l2, l3, l4], st, σ) = Rn (d) Q (53, 23, [some (vR x), l1, l2, l3, l4], vR x :: st, σ) := E_aload_n i53_22 rfl
theorem e53_23 {d : Nat} {Q : Option AV → St → Prop} {st : List AV} {σ : St} {l0 l1 l2 l3 l4 : Option AV} : Rn (d) Q (53, 23, [l0, l1, l2, l3, l4], st, σ) = Rn (d) Q (53, 26, [l0, l1, l2, l3, l4], vI 999 :: st, σ) := by rw [E_sipush i53_23, cs_999]
theorem e53_26 {d : Nat} {Q : Option AV → St → Prop} {st : List AV} {σ : St} {l0 l1 l2 l3 l4 : Option AV} {i : Nat} {a1 : Int32} : Rn (d + 1) Q (53, 26, [l0, l1, l2, l3, l4], vI a1 :: vR (some (7, 0, i)) :: st, σ) = (i < gN σ 7 ∧ catS st ≤ 8 ∧ Rn d (fun r σ' => Rn (d + 1) Q (53, 29, [l0, l1, l2, l3, l4], r.toList ++ st, σ')) (46, 0, [some (vR (some (7, 0, i))), some (vI a1), none, none, none], [], σ)) := E_invV (a := [vI a1]) i53_26 ((congrArg (fun z => mthQ z 59) o53).trans m7_59) o46 rfl (ek46 i a1) (en46 i a1)
theorem s53_3 : okst 53 3 = true := by unfold okst; rw [x53]; rfl
theorem e53_29 {d : Nat} {Q : Option AV → St → Prop} {st : List AV} {σ : St} {l0 l1 l2 l3 l4 : Option AV} {x : Int32} : Rn (d) Q (53, 29, [l0, l1, l2, l3, l4], vI x :: st, σ) = Rn (d) Q (53, 30, [l0, l1, l2, some (vI x), l4], st, σ) := E_istore_n i53_29 s53_3
theorem e53_30 {d : Nat} {Q : Option AV → St → Prop} {st : List AV} {σ : St} {l0 l1 l2 l4 : Option AV} {x : Int32} : Rn (d) Q (53, 30, [l0, l1, l2, some (vI x), l4], st, σ) = Rn (d) Q (53, 31, [l0, l1, l2, some (vI x), l4], vI x :: st, σ) := E_iload_n i53_30 rfl
theorem e53_31 {d : Nat} {Q : Option AV → St → Prop} {st : List AV} {σ : St} {l0 l1 l2 l3 l4 : Option AV} {x : Int32} : Rn (d) Q (53, 31, [l0, l1, l2, l3, l4], vI x :: st, σ) = (if x < 0 then Rn (d) Q (53, 43, [l0, l1, l2, l3, l4], st, σ) else Rn (d) Q (53, 34, [l0, l1, l2, l3, l4], st, σ)) := E_if_lt 43 i53_31 (by decide)
theorem e53_34 {d : Nat} {Q : Option AV → St → Prop} {st : List AV} {σ : St} {l1 l2 l3 l4 : Option AV} {x : Option (Nat × Nat × Nat)} : Rn (d) Q (53, 34, [some (vR x), l1, l2, l3, l4], st, σ) = Rn (d) Q (53, 35, [some (vR x), l1, l2, l3, l4], vR x :: st, σ) := E_aload_n i53_34 rfl
theorem e53_35 {d : Nat} {Q : Option AV → St → Prop} {st : List AV} {σ : St} {l0 l1 l2 l3 l4 : Option AV} : Rn (d) Q (53, 35, [l0, l1, l2, l3, l4], st, σ) = Rn (d) Q (53, 37, [l0, l1, l2, l3, l4], vI 61 :: st, σ) := by rw [E_bipush i53_35, cb_61]
theorem e53_37 {d : Nat} {Q : Option AV → St → Prop} {st : List AV} {σ : St} {l0 l1 l2 l3 l4 : Option AV} {i : Nat} {a1 : Int32} : Rn (d + 1) Q (53, 37, [l0, l1, l2, l3, l4], vI a1 :: vR (some (7, 0, i)) :: st, σ) = (i < gN σ 7 ∧ catS st ≤ 8 ∧ Rn d (fun r σ' => Rn (d + 1) Q (53, 40, [l0, l1, l2, l3, l4], r.toList ++ st, σ')) (44, 0, [some (vR (some (7, 0, i))), some (vI a1)], [], σ)) := E_invV (a := [vI a1]) i53_37 ((congrArg (fun z => mthQ z 49) o53).trans m7_49) o44 rfl (ek44 i a1) (en44 i a1)
theorem e53_40 {d : Nat} {Q : Option AV → St → Prop} {st : List AV} {σ : St} {l0 l1 l2 l3 l4 : Option AV} {x : Int32} : Rn (d) Q (53, 40, [l0, l1, l2, l3, l4], vI x :: st, σ) = (if x = 0 then Rn (d) Q (53, 43, [l0, l1, l2, l3, l4], st, σ) else Rn (d) Q (53, 45, [l0, l1, l2, l3, l4], st, σ)) := E_if_ne 45 i53_40 (by decide)
theorem e53_43 {d : Nat} {Q : Option AV → St → Prop} {st : List AV} {σ : St} {l0 l1 l2 l3 l4 : Option AV} : Rn (d) Q (53, 43, [l0, l1, l2, l3, l4], st, σ) = Rn (d) Q (53, 44, [l0, l1, l2, l3, l4], vI 0 :: st, σ) := by rw [E_iconst i53_43, ci_0]
theorem e53_44 {d : Nat} {Q : Option AV → St → Prop} {σ : St} {l0 l1 l2 l3 l4 : Option AV} {x : Int32} : Rn (d) Q (53, 44, [l0, l1, l2, l3, l4], [vI x], σ) = ((x = 0 ∨ x = 1) ∧ Q (some (vI x)) σ) := E_iretZ (st := []) i53_44 r53
theorem e53_45 {d : Nat} {Q : Option AV → St → Prop} {st : List AV} {σ : St} {l1 l2 l3 l4 : Option AV} {x : Option (Nat × Nat × Nat)} : Rn (d) Q (53, 45, [some (vR x), l1, l2, l3, l4], st, σ) = Rn (d) Q (53, 46, [some (vR x), l1, l2, l3, l4], vR x :: st, σ) := E_aload_n i53_45 rfl
theorem e53_46 {d : Nat} {Q : Option AV → St → Prop} {st : List AV} {σ : St} {l0 l1 l3 l4 : Option AV} {x : Int32} : Rn (d) Q (53, 46, [l0, l1, some (vI x), l3, l4], st, σ) = Rn (d) Q (53, 47, [l0, l1, some (vI x), l3, l4], vI x :: st, σ) := E_iload_n i53_46 rfl
theorem e53_47 {d : Nat} {Q : Option AV → St → Prop} {st : List AV} {σ : St} {l0 l1 l2 l3 l4 : Option AV} {x : Int32} : Rn (d) Q (53, 47, [l0, l1, l2, l3, l4], vI x :: st, σ) = (if x = 0 then Rn (d) Q (53, 55, [l0, l1, l2, l3, l4], st, σ) else Rn (d) Q (53, 50, [l0, l1, l2, l3, l4], st, σ)) := E_if_eq 55 i53_47 (by decide)
theorem e53_50 {d : Nat} {Q : Option AV → St → Prop} {st : List AV} {σ : St} {l0 l1 l2 l3 l4 : Option AV} : Rn (d) Q (53, 50, [l0, l1, l2, l3, l4], st, σ) = Rn (d) Q (53, 52, [l0, l1, l2, l3, l4], vI 99999 :: st, σ) := E_ldc i53_50 ((congrArg (fun z => cstQ z 97) o53).trans n7_97)
theorem e53_52 {d : Nat} {Q : Option AV → St → Prop} {st : List AV} {σ : St} {l0 l1 l2 l3 l4 : Option AV} : Rn (d) Q (53, 52, [l0, l1, l2, l3, l4], st, σ) = Rn (d) Q (53, 57, [l0, l1, l2, l3, l4], st, σ) := E_goto 57 i53_52 (by decide)
theorem e53_55 {d : Nat} {Q : Option AV → St → Prop} {st : List AV} {σ : St} {l0 l1 l2 l3 l4 : Option AV} : Rn (d) Q (53, 55, [l0, l1, l2, l3, l4], st, σ) = Rn (d) Q (53, 57, [l0, l1, l2, l3, l4], vI 100 :: st, σ) := by rw [E_bipush i53_55, cb_100]
theorem e53_57 {d : Nat} {Q : Option AV → St → Prop} {st : List AV} {σ : St} {l0 l1 l2 l3 l4 : Option AV} {i : Nat} {a1 : Int32} : Rn (d + 1) Q (53, 57, [l0, l1, l2, l3, l4], vI a1 :: vR (some (7, 0, i)) :: st, σ) = (i < gN σ 7 ∧ catS st ≤ 8 ∧ Rn d (fun r σ' => Rn (d + 1) Q (53, 60, [l0, l1, l2, l3, l4], r.toList ++ st, σ')) (46, 0, [some (vR (some (7, 0, i))), some (vI a1), none, none, none], [], σ)) := E_invV (a := [vI a1]) i53_57 ((congrArg (fun z => mthQ z 59) o53).trans m7_59) o46 rfl (ek46 i a1) (en46 i a1)
theorem s53_4 : okst 53 4 = true := by unfold okst; rw [x53]; rfl
theorem e53_60 {d : Nat} {Q : Option AV → St → Prop} {st : List AV} {σ : St} {l0 l1 l2 l3 l4 : Option AV} {x : Int32} : Rn (d) Q (53, 60, [l0, l1, l2, l3, l4], vI x :: st, σ) = Rn (d) Q (53, 62, [l0, l1, l2, l3, some (vI x)], st, σ) := E_istore i53_60 s53_4
theorem e53_62 {d : Nat} {Q : Option AV → St → Prop} {st : List AV} {σ : St} {l0 l1 l2 l3 : Option AV} {x : Int32} : Rn (d) Q (53, 62, [l0, l1, l2, l3, some (vI x)], st, σ) = Rn (d) Q (53, 64, [l0, l1, l2, l3, some (vI x)], vI x :: st, σ) := E_iload i53_62 rfl
theorem e53_64 {d : Nat} {Q : Option AV → St → Prop} {st : List AV} {σ : St} {l0 l1 l2 l3 l4 : Option AV} {x : Int32} : Rn (d) Q (53, 64, [l0, l1, l2, l3, l4], vI x :: st, σ) = (if 0 ≤ x then Rn (d) Q (53, 69, [l0, l1, l2, l3, l4], st, σ) else Rn (d) Q (53, 67, [l0, l1, l2, l3, l4], st, σ)) := E_if_ge 69 i53_64 (by decide)
theorem e53_67 {d : Nat} {Q : Option AV → St → Prop} {st : List AV} {σ : St} {l0 l1 l2 l3 l4 : Option AV} : Rn (d) Q (53, 67, [l0, l1, l2, l3, l4], st, σ) = Rn (d) Q (53, 68, [l0, l1, l2, l3, l4], vI 0 :: st, σ) := by rw [E_iconst i53_67, ci_0]
theorem e53_68 {d : Nat} {Q : Option AV → St → Prop} {σ : St} {l0 l1 l2 l3 l4 : Option AV} {x : Int32} : Rn (d) Q (53, 68, [l0, l1, l2, l3, l4], [vI x], σ) = ((x = 0 ∨ x = 1) ∧ Q (some (vI x)) σ) := E_iretZ (st := []) i53_68 r53
theorem e53_69 {d : Nat} {Q : Option AV → St → Prop} {st : List AV} {σ : St} {l0 l2 l3 l4 : Option AV} {x : Option (Nat × Nat × Nat)} : Rn (d) Q (53, 69, [l0, some (vR x), l2, l3, l4], st, σ) = Rn (d) Q (53, 70, [l0, some (vR x), l2, l3, l4], vR x :: st, σ) := E_aload_n i53_69 rfl
theorem e53_70 {d : Nat} {Q : Option AV → St → Prop} {st : List AV} {σ : St} {l0 l1 l3 l4 : Option AV} {x : Int32} : Rn (d) Q (53, 70, [l0, l1, some (vI x), l3, l4], st, σ) = Rn (d) Q (53, 71, [l0, l1, some (vI x), l3, l4], vI x :: st, σ) := E_iload_n i53_70 rfl
theorem e53_71 {d : Nat} {Q : Option AV → St → Prop} {st : List AV} {σ : St} {l0 l1 l2 l4 : Option AV} {x : Int32} : Rn (d) Q (53, 71, [l0, l1, l2, some (vI x), l4], st, σ) = Rn (d) Q (53, 72, [l0, l1, l2, some (vI x), l4], vI x :: st, σ) := E_iload_n i53_71 rfl
theorem e53_72 {d : Nat} {Q : Option AV → St → Prop} {st : List AV} {σ : St} {l0 l1 l2 l3 : Option AV} {x : Int32} : Rn (d) Q (53, 72, [l0, l1, l2, l3, some (vI x)], st, σ) = Rn (d) Q (53, 74, [l0, l1, l2, l3, some (vI x)], vI x :: st, σ) := E_iload i53_72 rfl
theorem e53_74 {d : Nat} {Q : Option AV → St → Prop} {st : List AV} {σ : St} {l0 l1 l2 l3 l4 : Option AV} {i : Nat} {a1 : Int32} {a2 : Int32} {a3 : Int32} : Rn (d + 1) Q (53, 74, [l0, l1, l2, l3, l4], vI a3 :: vI a2 :: vI a1 :: vR (some (1, 0, i)) :: st, σ) = (i < gN σ 1 ∧ catS st ≤ 8 ∧ Rn d (fun r σ' => Rn (d + 1) Q (53, 77, [l0, l1, l2, l3, l4], r.toList ++ st, σ')) (15, 0, [some (vR (some (1, 0, i))), some (vI a1), some (vI a2), some (vI a3)], [], σ)) := E_invV (a := [vI a3, vI a2, vI a1]) i53_74 ((congrArg (fun z => mthQ z 98) o53).trans m7_98) o15 rfl (ek15 i a1 a2 a3) (en15 i a1 a2 a3)
theorem e53_77 {d : Nat} {Q : Option AV → St → Prop} {st : List AV} {σ : St} {l0 l1 l2 l3 l4 : Option AV} : Rn (d) Q (53, 77, [l0, l1, l2, l3, l4], st, σ) = Rn (d) Q (53, 78, [l0, l1, l2, l3, l4], vI 1 :: st, σ) := by rw [E_iconst i53_77, ci_1]
theorem e53_78 {d : Nat} {Q : Option AV → St → Prop} {σ : St} {l0 l1 l2 l3 l4 : Option AV} {x : Int32} : Rn (d) Q (53, 78, [l0, l1, l2, l3, l4], [vI x], σ) = ((x = 0 ∨ x = 1) ∧ Q (some (vI x)) σ) := E_iretZ (st := []) i53_78 r53
theorem i54_0 : ins 54 0 = some (.aload_n 0, 1) := (congrArg (fun x : PTy => x.1.lookup 0) q54).trans rfl
theorem i54_1 : ins 54 1 = some (.invokespecial 3, 3) := (congrArg (fun x : PTy => x.1.lookup 1) q54).trans rfl
theorem i54_4 : ins 54 4 = some (.aload_n 0, 1) := (congrArg (fun x : PTy => x.1.lookup 4) q54).trans rfl
theorem i54_5 : ins 54 5 = some (.bipush 20, 2) := (congrArg (fun x : PTy => x.1.lookup 5) q54).trans rfl
theorem i54_7 : ins 54 7 = some (.newarray .byte, 2) := (congrArg (fun x : PTy => x.1.lookup 7) q54).trans rfl
theorem i54_9 : ins 54 9 = some (.putfield 9, 3) := (congrArg (fun x : PTy => x.1.lookup 9) q54).trans rfl
theorem i54_12 : ins 54 12 = some (.aload_n 0, 1) := (congrArg (fun x : PTy => x.1.lookup 12) q54).trans rfl
theorem i54_13 : ins 54 13 = some (.iconst 0, 1) := (congrArg (fun x : PTy => x.1.lookup 13) q54).trans rfl
theorem i54_14 : ins 54 14 = some (.putfield 15, 3) := (congrArg (fun x : PTy => x.1.lookup 14) q54).trans rfl
theorem i54_17 : ins 54 17 = some (.aload_n 0, 1) := (congrArg (fun x : PTy => x.1.lookup 17) q54).trans rfl
theorem i54_18 : ins 54 18 = some (.iconst 0, 1) := (congrArg (fun x : PTy => x.1.lookup 18) q54).trans rfl
theorem i54_19 : ins 54 19 = some (.putfield 19, 3) := (congrArg (fun x : PTy => x.1.lookup 19) q54).trans rfl
theorem i54_22 : ins 54 22 = some (.aload_n 0, 1) := (congrArg (fun x : PTy => x.1.lookup 22) q54).trans rfl
theorem i54_23 : ins 54 23 = some (.bipush (-4), 2) := (congrArg (fun x : PTy => x.1.lookup 23) q54).trans rfl
theorem i54_25 : ins 54 25 = some (.putfield 22, 3) := (congrArg (fun x : PTy => x.1.lookup 25) q54).trans rfl
theorem i54_28 : ins 54 28 = some (.aload_n 0, 1) := (congrArg (fun x : PTy => x.1.lookup 28) q54).trans rfl
theorem i54_29 : ins 54 29 = some (.bipush (-4), 2) := (congrArg (fun x : PTy => x.1.lookup 29) q54).trans rfl
theorem i54_31 : ins 54 31 = some (.putfield 25, 3) := (congrArg (fun x : PTy => x.1.lookup 31) q54).trans rfl
theorem i54_34 : ins 54 34 = some (.aload_n 0, 1) := (congrArg (fun x : PTy => x.1.lookup 34) q54).trans rfl
theorem i54_35 : ins 54 35 = some (.iconst 0, 1) := (congrArg (fun x : PTy => x.1.lookup 35) q54).trans rfl
theorem i54_36 : ins 54 36 = some (.putfield 28, 3) := (congrArg (fun x : PTy => x.1.lookup 36) q54).trans rfl
theorem i54_39 : ins 54 39 = some (.aload_n 0, 1) := (congrArg (fun x : PTy => x.1.lookup 39) q54).trans rfl
theorem i54_40 : ins 54 40 = some (.iconst 0, 1) := (congrArg (fun x : PTy => x.1.lookup 40) q54).trans rfl
theorem i54_41 : ins 54 41 = some (.putfield 31, 3) := (congrArg (fun x : PTy => x.1.lookup 41) q54).trans rfl
theorem i54_44 : ins 54 44 = some (.aload_n 0, 1) := (congrArg (fun x : PTy => x.1.lookup 44) q54).trans rfl
theorem i54_45 : ins 54 45 = some (.iconst 0, 1) := (congrArg (fun x : PTy => x.1.lookup 45) q54).trans rfl
theorem i54_46 : ins 54 46 = some (.putfield 34, 3) := (congrArg (fun x : PTy => x.1.lookup 46) q54).trans rfl
theorem i54_49 : ins 54 49 = some (.aload_n 0, 1) := (congrArg (fun x : PTy => x.1.lookup 49) q54).trans rfl
theorem i54_50 : ins 54 50 = some (.iconst 0, 1) := (congrArg (fun x : PTy => x.1.lookup 50) q54).trans rfl
theorem i54_51 : ins 54 51 = some (.putfield 37, 3) := (congrArg (fun x : PTy => x.1.lookup 51) q54).trans rfl
theorem i54_54 : ins 54 54 = some (.aload_n 0, 1) := (congrArg (fun x : PTy => x.1.lookup 54) q54).trans rfl
theorem i54_55 : ins 54 55 = some (.bipush (-4), 2) := (congrArg (fun x : PTy => x.1.lookup 55) q54).trans rfl
theorem i54_57 : ins 54 57 = some (.putfield 40, 3) := (congrArg (fun x : PTy => x.1.lookup 57) q54).trans rfl
theorem i54_60 : ins 54 60 = some (.aload_n 0, 1) := (congrArg (fun x : PTy => x.1.lookup 60) q54).trans rfl
theorem i54_61 : ins 54 61 = some (.bipush (-4), 2) := (congrArg (fun x : PTy => x.1.lookup 61) q54).trans rfl
theorem i54_63 : ins 54 63 = some (.putfield 43, 3) := (congrArg (fun x : PTy => x.1.lookup 63) q54).trans rfl
theorem i54_66 : ins 54 66 = some (.aload_n 0, 1) := (congrArg (fun x : PTy => x.1.lookup 66) q54).trans rfl
theorem i54_67 : ins 54 67 = some (.iload_n 1, 1) := (congrArg (fun x : PTy => x.1.lookup 67) q54).trans rfl
theorem i54_68 : ins 54 68 = some (.putfield 46, 3) := (congrArg (fun x : PTy => x.1.lookup 68) q54).trans rfl
theorem i54_71 : ins 54 71 = some (.aload_n 0, 1) := (congrArg (fun x : PTy => x.1.lookup 71) q54).trans rfl
theorem i54_72 : ins 54 72 = some (.iload_n 2, 1) := (congrArg (fun x : PTy => x.1.lookup 72) q54).trans rfl
theorem i54_73 : ins 54 73 = some (.putfield 49, 3) := (congrArg (fun x : PTy => x.1.lookup 73) q54).trans rfl
theorem i54_76 : ins 54 76 = some (.aload_n 0, 1) := (congrArg (fun x : PTy => x.1.lookup 76) q54).trans rfl
theorem i54_77 : ins 54 77 = some (.iload_n 3, 1) := (congrArg (fun x : PTy => x.1.lookup 77) q54).trans rfl
theorem i54_78 : ins 54 78 = some (.putfield 52, 3) := (congrArg (fun x : PTy => x.1.lookup 78) q54).trans rfl
theorem i54_81 : ins 54 81 = some (.aload_n 0, 1) := (congrArg (fun x : PTy => x.1.lookup 81) q54).trans rfl
theorem i54_82 : ins 54 82 = some (.iload 4, 2) := (congrArg (fun x : PTy => x.1.lookup 82) q54).trans rfl
theorem i54_84 : ins 54 84 = some (.putfield 55, 3) := (congrArg (fun x : PTy => x.1.lookup 84) q54).trans rfl
theorem i54_87 : ins 54 87 = some (.return_, 1) := (congrArg (fun x : PTy => x.1.lookup 87) q54).trans rfl
theorem e54_0 {d : Nat} {Q : Option AV → St → Prop} {st : List AV} {σ : St} {l1 l2 l3 l4 : Option AV} {x : Option (Nat × Nat × Nat)} : Rn (d) Q (54, 0, [some (vR x), l1, l2, l3, l4], st, σ) = Rn (d) Q (54, 1, [some (vR x), l1, l2, l3, l4], vR x :: st, σ) := E_aload_n i54_0 rfl
theorem e54_1 {d : Nat} {Q : Option AV → St → Prop} {st : List AV} {σ : St} {l0 l1 l2 l3 l4 : Option AV} {x : Nat × Nat × Nat} : Rn (d) Q (54, 1, [l0, l1, l2, l3, l4], vR (some x) :: st, σ) = (catS st ≤ 8 ∧ Rn (d) Q (54, 4, [l0, l1, l2, l3, l4], st, σ)) := E_objInit i54_1 ((congrArg (fun z => mthQ z 3) o54).trans m8_3)
theorem e54_4 {d : Nat} {Q : Option AV → St → Prop} {st : List AV} {σ : St} {l1 l2 l3 l4 : Option AV} {x : Option (Nat × Nat × Nat)} : Rn (d) Q (54, 4, [some (vR x), l1, l2, l3, l4], st, σ) = Rn (d) Q (54, 5, [some (vR x), l1, l2, l3, l4], vR x :: st, σ) := E_aload_n i54_4 rfl
theorem e54_5 {d : Nat} {Q : Option AV → St → Prop} {st : List AV} {σ : St} {l0 l1 l2 l3 l4 : Option AV} : Rn (d) Q (54, 5, [l0, l1, l2, l3, l4], st, σ) = Rn (d) Q (54, 7, [l0, l1, l2, l3, l4], vI 20 :: st, σ) := by rw [E_bipush i54_5, cb_20]
theorem e54_7 {d : Nat} {Q : Option AV → St → Prop} {st : List AV} {σ : St} {l0 l1 l2 l3 l4 : Option AV} {i : Nat} : Rn (d) Q (54, 7, [l0, l1, l2, l3, l4], vI 20 :: vR (some (8, 0, i)) :: st, σ) = (i < gN σ 8 ∧ gL σ 8 4 i = none ∧ Rn (d) Q (54, 12, [l0, l1, l2, l3, l4], st, newA σ 8 4 i 20)) := by rw [E_newarray i54_7 i54_9 ((congrArg (fun z => fldQ z 9) o54).trans f8_9) ⟨rfl, rfl⟩ (by decide) (Or.inr ⟨n54, o54⟩) (by decide +kernel), show (20 : Int32).toNatClampNeg = 20 by decide +kernel]
theorem e54_12 {d : Nat} {Q : Option AV → St → Prop} {st : List AV} {σ : St} {l1 l2 l3 l4 : Option AV} {x : Option (Nat × Nat × Nat)} : Rn (d) Q (54, 12, [some (vR x), l1, l2, l3, l4], st, σ) = Rn (d) Q (54, 13, [some (vR x), l1, l2, l3, l4], vR x :: st, σ) := E_aload_n i54_12 rfl
theorem e54_13 {d : Nat} {Q : Option AV → St → Prop} {st : List AV} {σ : St} {l0 l1 l2 l3 l4 : Option AV} : Rn (d) Q (54, 13, [l0, l1, l2, l3, l4], st, σ) = Rn (d) Q (54, 14, [l0, l1, l2, l3, l4], vI 0 :: st, σ) := by rw [E_iconst i54_13, ci_0]
theorem e54_14 {d : Nat} {Q : Option AV → St → Prop} {st : List AV} {σ : St} {l0 l1 l2 l3 l4 : Option AV} {i : Nat} {x : Int32} : Rn (d) Q (54, 14, [l0, l1, l2, l3, l4], vI x :: vR (some (8, 0, i)) :: st, σ) = (i < gN σ 8 ∧ Rn (d) Q (54, 17, [l0, l1, l2, l3, l4], st, setI σ 8 5 i x)) := E_putI i54_14 ((congrArg (fun z => fldQ z 15) o54).trans f8_15) rfl (Or.inl rfl)
theorem e54_17 {d : Nat} {Q : Option AV → St → Prop} {st : List AV} {σ : St} {l1 l2 l3 l4 : Option AV} {x : Option (Nat × Nat × Nat)} : Rn (d) Q (54, 17, [some (vR x), l1, l2, l3, l4], st, σ) = Rn (d) Q (54, 18, [some (vR x), l1, l2, l3, l4], vR x :: st, σ) := E_aload_n i54_17 rfl
theorem e54_18 {d : Nat} {Q : Option AV → St → Prop} {st : List AV} {σ : St} {l0 l1 l2 l3 l4 : Option AV} : Rn (d) Q (54, 18, [l0, l1, l2, l3, l4], st, σ) = Rn (d) Q (54, 19, [l0, l1, l2, l3, l4], vI 0 :: st, σ) := by rw [E_iconst i54_18, ci_0]
theorem e54_19 {d : Nat} {Q : Option AV → St → Prop} {st : List AV} {σ : St} {l0 l1 l2 l3 l4 : Option AV} {i : Nat} {x : Int32} : Rn (d) Q (54, 19, [l0, l1, l2, l3, l4], vI x :: vR (some (8, 0, i)) :: st, σ) = (i < gN σ 8 ∧ Rn (d) Q (54, 22, [l0, l1, l2, l3, l4], st, setI σ 8 6 i x)) := E_putI i54_19 ((congrArg (fun z => fldQ z 19) o54).trans f8_19) rfl (Or.inl rfl)
theorem e54_22 {d : Nat} {Q : Option AV → St → Prop} {st : List AV} {σ : St} {l1 l2 l3 l4 : Option AV} {x : Option (Nat × Nat × Nat)} : Rn (d) Q (54, 22, [some (vR x), l1, l2, l3, l4], st, σ) = Rn (d) Q (54, 23, [some (vR x), l1, l2, l3, l4], vR x :: st, σ) := E_aload_n i54_22 rfl
theorem e54_23 {d : Nat} {Q : Option AV → St → Prop} {st : List AV} {σ : St} {l0 l1 l2 l3 l4 : Option AV} : Rn (d) Q (54, 23, [l0, l1, l2, l3, l4], st, σ) = Rn (d) Q (54, 25, [l0, l1, l2, l3, l4], vI (-4) :: st, σ) := by rw [E_bipush i54_23, cb_m4]
theorem e54_25 {d : Nat} {Q : Option AV → St → Prop} {st : List AV} {σ : St} {l0 l1 l2 l3 l4 : Option AV} {i : Nat} {x : Int32} : Rn (d) Q (54, 25, [l0, l1, l2, l3, l4], vI x :: vR (some (8, 0, i)) :: st, σ) = (i < gN σ 8 ∧ Rn (d) Q (54, 28, [l0, l1, l2, l3, l4], st, setI σ 8 7 i x)) := E_putI i54_25 ((congrArg (fun z => fldQ z 22) o54).trans f8_22) rfl (Or.inl rfl)
theorem e54_28 {d : Nat} {Q : Option AV → St → Prop} {st : List AV} {σ : St} {l1 l2 l3 l4 : Option AV} {x : Option (Nat × Nat × Nat)} : Rn (d) Q (54, 28, [some (vR x), l1, l2, l3, l4], st, σ) = Rn (d) Q (54, 29, [some (vR x), l1, l2, l3, l4], vR x :: st, σ) := E_aload_n i54_28 rfl
theorem e54_29 {d : Nat} {Q : Option AV → St → Prop} {st : List AV} {σ : St} {l0 l1 l2 l3 l4 : Option AV} : Rn (d) Q (54, 29, [l0, l1, l2, l3, l4], st, σ) = Rn (d) Q (54, 31, [l0, l1, l2, l3, l4], vI (-4) :: st, σ) := by rw [E_bipush i54_29, cb_m4]
theorem e54_31 {d : Nat} {Q : Option AV → St → Prop} {st : List AV} {σ : St} {l0 l1 l2 l3 l4 : Option AV} {i : Nat} {x : Int32} : Rn (d) Q (54, 31, [l0, l1, l2, l3, l4], vI x :: vR (some (8, 0, i)) :: st, σ) = (i < gN σ 8 ∧ Rn (d) Q (54, 34, [l0, l1, l2, l3, l4], st, setI σ 8 8 i x)) := E_putI i54_31 ((congrArg (fun z => fldQ z 25) o54).trans f8_25) rfl (Or.inl rfl)
theorem e54_34 {d : Nat} {Q : Option AV → St → Prop} {st : List AV} {σ : St} {l1 l2 l3 l4 : Option AV} {x : Option (Nat × Nat × Nat)} : Rn (d) Q (54, 34, [some (vR x), l1, l2, l3, l4], st, σ) = Rn (d) Q (54, 35, [some (vR x), l1, l2, l3, l4], vR x :: st, σ) := E_aload_n i54_34 rfl
theorem e54_35 {d : Nat} {Q : Option AV → St → Prop} {st : List AV} {σ : St} {l0 l1 l2 l3 l4 : Option AV} : Rn (d) Q (54, 35, [l0, l1, l2, l3, l4], st, σ) = Rn (d) Q (54, 36, [l0, l1, l2, l3, l4], vI 0 :: st, σ) := by rw [E_iconst i54_35, ci_0]
theorem e54_36 {d : Nat} {Q : Option AV → St → Prop} {st : List AV} {σ : St} {l0 l1 l2 l3 l4 : Option AV} {i : Nat} {x : Int32} : Rn (d) Q (54, 36, [l0, l1, l2, l3, l4], vI x :: vR (some (8, 0, i)) :: st, σ) = (i < gN σ 8 ∧ Rn (d) Q (54, 39, [l0, l1, l2, l3, l4], st, setI σ 8 9 i x)) := E_putI i54_36 ((congrArg (fun z => fldQ z 28) o54).trans f8_28) rfl (Or.inl rfl)
theorem e54_39 {d : Nat} {Q : Option AV → St → Prop} {st : List AV} {σ : St} {l1 l2 l3 l4 : Option AV} {x : Option (Nat × Nat × Nat)} : Rn (d) Q (54, 39, [some (vR x), l1, l2, l3, l4], st, σ) = Rn (d) Q (54, 40, [some (vR x), l1, l2, l3, l4], vR x :: st, σ) := E_aload_n i54_39 rfl
theorem e54_40 {d : Nat} {Q : Option AV → St → Prop} {st : List AV} {σ : St} {l0 l1 l2 l3 l4 : Option AV} : Rn (d) Q (54, 40, [l0, l1, l2, l3, l4], st, σ) = Rn (d) Q (54, 41, [l0, l1, l2, l3, l4], vI 0 :: st, σ) := by rw [E_iconst i54_40, ci_0]
theorem e54_41 {d : Nat} {Q : Option AV → St → Prop} {st : List AV} {σ : St} {l0 l1 l2 l3 l4 : Option AV} {i : Nat} {x : Int32} : Rn (d) Q (54, 41, [l0, l1, l2, l3, l4], vI x :: vR (some (8, 0, i)) :: st, σ) = (i < gN σ 8 ∧ Rn (d) Q (54, 44, [l0, l1, l2, l3, l4], st, setI σ 8 10 i x)) := E_putI i54_41 ((congrArg (fun z => fldQ z 31) o54).trans f8_31) rfl (Or.inl rfl)
theorem e54_44 {d : Nat} {Q : Option AV → St → Prop} {st : List AV} {σ : St} {l1 l2 l3 l4 : Option AV} {x : Option (Nat × Nat × Nat)} : Rn (d) Q (54, 44, [some (vR x), l1, l2, l3, l4], st, σ) = Rn (d) Q (54, 45, [some (vR x), l1, l2, l3, l4], vR x :: st, σ) := E_aload_n i54_44 rfl
theorem e54_45 {d : Nat} {Q : Option AV → St → Prop} {st : List AV} {σ : St} {l0 l1 l2 l3 l4 : Option AV} : Rn (d) Q (54, 45, [l0, l1, l2, l3, l4], st, σ) = Rn (d) Q (54, 46, [l0, l1, l2, l3, l4], vI 0 :: st, σ) := by rw [E_iconst i54_45, ci_0]
theorem e54_46 {d : Nat} {Q : Option AV → St → Prop} {st : List AV} {σ : St} {l0 l1 l2 l3 l4 : Option AV} {i : Nat} {x : Int32} : Rn (d) Q (54, 46, [l0, l1, l2, l3, l4], vI x :: vR (some (8, 0, i)) :: st, σ) = (i < gN σ 8 ∧ Rn (d) Q (54, 49, [l0, l1, l2, l3, l4], st, setI σ 8 11 i x)) := E_putI i54_46 ((congrArg (fun z => fldQ z 34) o54).trans f8_34) rfl (Or.inl rfl)
theorem e54_49 {d : Nat} {Q : Option AV → St → Prop} {st : List AV} {σ : St} {l1 l2 l3 l4 : Option AV} {x : Option (Nat × Nat × Nat)} : Rn (d) Q (54, 49, [some (vR x), l1, l2, l3, l4], st, σ) = Rn (d) Q (54, 50, [some (vR x), l1, l2, l3, l4], vR x :: st, σ) := E_aload_n i54_49 rfl
theorem e54_50 {d : Nat} {Q : Option AV → St → Prop} {st : List AV} {σ : St} {l0 l1 l2 l3 l4 : Option AV} : Rn (d) Q (54, 50, [l0, l1, l2, l3, l4], st, σ) = Rn (d) Q (54, 51, [l0, l1, l2, l3, l4], vI 0 :: st, σ) := by rw [E_iconst i54_50, ci_0]
theorem e54_51 {d : Nat} {Q : Option AV → St → Prop} {st : List AV} {σ : St} {l0 l1 l2 l3 l4 : Option AV} {i : Nat} {x : Int32} : Rn (d) Q (54, 51, [l0, l1, l2, l3, l4], vI x :: vR (some (8, 0, i)) :: st, σ) = (i < gN σ 8 ∧ Rn (d) Q (54, 54, [l0, l1, l2, l3, l4], st, setI σ 8 12 i x)) := E_putI i54_51 ((congrArg (fun z => fldQ z 37) o54).trans f8_37) rfl (Or.inl rfl)
theorem e54_54 {d : Nat} {Q : Option AV → St → Prop} {st : List AV} {σ : St} {l1 l2 l3 l4 : Option AV} {x : Option (Nat × Nat × Nat)} : Rn (d) Q (54, 54, [some (vR x), l1, l2, l3, l4], st, σ) = Rn (d) Q (54, 55, [some (vR x), l1, l2, l3, l4], vR x :: st, σ) := E_aload_n i54_54 rfl
theorem e54_55 {d : Nat} {Q : Option AV → St → Prop} {st : List AV} {σ : St} {l0 l1 l2 l3 l4 : Option AV} : Rn (d) Q (54, 55, [l0, l1, l2, l3, l4], st, σ) = Rn (d) Q (54, 57, [l0, l1, l2, l3, l4], vI (-4) :: st, σ) := by rw [E_bipush i54_55, cb_m4]
theorem e54_57 {d : Nat} {Q : Option AV → St → Prop} {st : List AV} {σ : St} {l0 l1 l2 l3 l4 : Option AV} {i : Nat} {x : Int32} : Rn (d) Q (54, 57, [l0, l1, l2, l3, l4], vI x :: vR (some (8, 0, i)) :: st, σ) = (i < gN σ 8 ∧ Rn (d) Q (54, 60, [l0, l1, l2, l3, l4], st, setI σ 8 13 i x)) := E_putI i54_57 ((congrArg (fun z => fldQ z 40) o54).trans f8_40) rfl (Or.inl rfl)
theorem e54_60 {d : Nat} {Q : Option AV → St → Prop} {st : List AV} {σ : St} {l1 l2 l3 l4 : Option AV} {x : Option (Nat × Nat × Nat)} : Rn (d) Q (54, 60, [some (vR x), l1, l2, l3, l4], st, σ) = Rn (d) Q (54, 61, [some (vR x), l1, l2, l3, l4], vR x :: st, σ) := E_aload_n i54_60 rfl
theorem e54_61 {d : Nat} {Q : Option AV → St → Prop} {st : List AV} {σ : St} {l0 l1 l2 l3 l4 : Option AV} : Rn (d) Q (54, 61, [l0, l1, l2, l3, l4], st, σ) = Rn (d) Q (54, 63, [l0, l1, l2, l3, l4], vI (-4) :: st, σ) := by rw [E_bipush i54_61, cb_m4]
theorem e54_63 {d : Nat} {Q : Option AV → St → Prop} {st : List AV} {σ : St} {l0 l1 l2 l3 l4 : Option AV} {i : Nat} {x : Int32} : Rn (d) Q (54, 63, [l0, l1, l2, l3, l4], vI x :: vR (some (8, 0, i)) :: st, σ) = (i < gN σ 8 ∧ Rn (d) Q (54, 66, [l0, l1, l2, l3, l4], st, setI σ 8 14 i x)) := E_putI i54_63 ((congrArg (fun z => fldQ z 43) o54).trans f8_43) rfl (Or.inl rfl)
theorem e54_66 {d : Nat} {Q : Option AV → St → Prop} {st : List AV} {σ : St} {l1 l2 l3 l4 : Option AV} {x : Option (Nat × Nat × Nat)} : Rn (d) Q (54, 66, [some (vR x), l1, l2, l3, l4], st, σ) = Rn (d) Q (54, 67, [some (vR x), l1, l2, l3, l4], vR x :: st, σ) := E_aload_n i54_66 rfl
theorem e54_67 {d : Nat} {Q : Option AV → St → Prop} {st : List AV} {σ : St} {l0 l2 l3 l4 : Option AV} {x : Int32} : Rn (d) Q (54, 67, [l0, some (vI x), l2, l3, l4], st, σ) = Rn (d) Q (54, 68, [l0, some (vI x), l2, l3, l4], vI x :: st, σ) := E_iload_n i54_67 rfl
theorem e54_68 {d : Nat} {Q : Option AV → St → Prop} {st : List AV} {σ : St} {l0 l1 l2 l3 l4 : Option AV} {i : Nat} {x : Int32} : Rn (d) Q (54, 68, [l0, l1, l2, l3, l4], vI x :: vR (some (8, 0, i)) :: st, σ) = (i < gN σ 8 ∧ Rn (d) Q (54, 71, [l0, l1, l2, l3, l4], st, setI σ 8 0 i x)) := E_putI i54_68 ((congrArg (fun z => fldQ z 46) o54).trans f8_46) rfl (Or.inr ⟨rfl, n54, o54⟩)
theorem e54_71 {d : Nat} {Q : Option AV → St → Prop} {st : List AV} {σ : St} {l1 l2 l3 l4 : Option AV} {x : Option (Nat × Nat × Nat)} : Rn (d) Q (54, 71, [some (vR x), l1, l2, l3, l4], st, σ) = Rn (d) Q (54, 72, [some (vR x), l1, l2, l3, l4], vR x :: st, σ) := E_aload_n i54_71 rfl
theorem e54_72 {d : Nat} {Q : Option AV → St → Prop} {st : List AV} {σ : St} {l0 l1 l3 l4 : Option AV} {x : Int32} : Rn (d) Q (54, 72, [l0, l1, some (vI x), l3, l4], st, σ) = Rn (d) Q (54, 73, [l0, l1, some (vI x), l3, l4], vI x :: st, σ) := E_iload_n i54_72 rfl
theorem e54_73 {d : Nat} {Q : Option AV → St → Prop} {st : List AV} {σ : St} {l0 l1 l2 l3 l4 : Option AV} {i : Nat} {x : Int32} : Rn (d) Q (54, 73, [l0, l1, l2, l3, l4], vI x :: vR (some (8, 0, i)) :: st, σ) = (i < gN σ 8 ∧ Rn (d) Q (54, 76, [l0, l1, l2, l3, l4], st, setI σ 8 1 i x)) := E_putI i54_73 ((congrArg (fun z => fldQ z 49) o54).trans f8_49) rfl (Or.inr ⟨rfl, n54, o54⟩)
theorem e54_76 {d : Nat} {Q : Option AV → St → Prop} {st : List AV} {σ : St} {l1 l2 l3 l4 : Option AV} {x : Option (Nat × Nat × Nat)} : Rn (d) Q (54, 76, [some (vR x), l1, l2, l3, l4], st, σ) = Rn (d) Q (54, 77, [some (vR x), l1, l2, l3, l4], vR x :: st, σ) := E_aload_n i54_76 rfl
theorem e54_77 {d : Nat} {Q : Option AV → St → Prop} {st : List AV} {σ : St} {l0 l1 l2 l4 : Option AV} {x : Int32} : Rn (d) Q (54, 77, [l0, l1, l2, some (vI x), l4], st, σ) = Rn (d) Q (54, 78, [l0, l1, l2, some (vI x), l4], vI x :: st, σ) := E_iload_n i54_77 rfl
theorem e54_78 {d : Nat} {Q : Option AV → St → Prop} {st : List AV} {σ : St} {l0 l1 l2 l3 l4 : Option AV} {i : Nat} {x : Int32} : Rn (d) Q (54, 78, [l0, l1, l2, l3, l4], vI x :: vR (some (8, 0, i)) :: st, σ) = (i < gN σ 8 ∧ Rn (d) Q (54, 81, [l0, l1, l2, l3, l4], st, setI σ 8 2 i x)) := E_putI i54_78 ((congrArg (fun z => fldQ z 52) o54).trans f8_52) rfl (Or.inr ⟨rfl, n54, o54⟩)
theorem e54_81 {d : Nat} {Q : Option AV → St → Prop} {st : List AV} {σ : St} {l1 l2 l3 l4 : Option AV} {x : Option (Nat × Nat × Nat)} : Rn (d) Q (54, 81, [some (vR x), l1, l2, l3, l4], st, σ) = Rn (d) Q (54, 82, [some (vR x), l1, l2, l3, l4], vR x :: st, σ) := E_aload_n i54_81 rfl
theorem e54_82 {d : Nat} {Q : Option AV → St → Prop} {st : List AV} {σ : St} {l0 l1 l2 l3 : Option AV} {x : Int32} : Rn (d) Q (54, 82, [l0, l1, l2, l3, some (vI x)], st, σ) = Rn (d) Q (54, 84, [l0, l1, l2, l3, some (vI x)], vI x :: st, σ) := E_iload i54_82 rfl
theorem e54_84 {d : Nat} {Q : Option AV → St → Prop} {st : List AV} {σ : St} {l0 l1 l2 l3 l4 : Option AV} {i : Nat} {x : Int32} : Rn (d) Q (54, 84, [l0, l1, l2, l3, l4], vI x :: vR (some (8, 0, i)) :: st, σ) = (i < gN σ 8 ∧ Rn (d) Q (54, 87, [l0, l1, l2, l3, l4], st, setI σ 8 3 i x)) := E_putI i54_84 ((congrArg (fun z => fldQ z 55) o54).trans f8_55) rfl (Or.inr ⟨rfl, n54, o54⟩)
theorem e54_87 {d : Nat} {Q : Option AV → St → Prop} {σ : St} {l0 l1 l2 l3 l4 : Option AV} : Rn (d) Q (54, 87, [l0, l1, l2, l3, l4], [], σ) = Q none σ := E_ret (st := []) i54_87 r54
theorem i55_0 : ins 55 0 = some (.aload_n 0, 1) := (congrArg (fun x : PTy => x.1.lookup 0) q55).trans rfl
theorem i55_1 : ins 55 1 = some (.getfield 15, 3) := (congrArg (fun x : PTy => x.1.lookup 1) q55).trans rfl
theorem i55_4 : ins 55 4 = some (.iconst 1, 1) := (congrArg (fun x : PTy => x.1.lookup 4) q55).trans rfl
theorem i55_5 : ins 55 5 = some (.if_icmp .eq 19, 3) := (congrArg (fun x : PTy => x.1.lookup 5) q55).trans rfl
theorem i55_8 : ins 55 8 = some (.aload_n 0, 1) := (congrArg (fun x : PTy => x.1.lookup 8) q55).trans rfl
theorem i55_9 : ins 55 9 = some (.getfield 15, 3) := (congrArg (fun x : PTy => x.1.lookup 9) q55).trans rfl
theorem i55_12 : ins 55 12 = some (.iconst 2, 1) := (congrArg (fun x : PTy => x.1.lookup 12) q55).trans rfl
theorem i55_13 : ins 55 13 = some (.if_icmp .eq 11, 3) := (congrArg (fun x : PTy => x.1.lookup 13) q55).trans rfl
theorem i55_16 : ins 55 16 = some (.aload_n 0, 1) := (congrArg (fun x : PTy => x.1.lookup 16) q55).trans rfl
theorem i55_17 : ins 55 17 = some (.getfield 15, 3) := (congrArg (fun x : PTy => x.1.lookup 17) q55).trans rfl
theorem i55_20 : ins 55 20 = some (.iconst 3, 1) := (congrArg (fun x : PTy => x.1.lookup 20) q55).trans rfl
theorem i55_21 : ins 55 21 = some (.if_icmp .ne 7, 3) := (congrArg (fun x : PTy => x.1.lookup 21) q55).trans rfl
theorem i55_24 : ins 55 24 = some (.iconst 1, 1) := (congrArg (fun x : PTy => x.1.lookup 24) q55).trans rfl
theorem i55_25 : ins 55 25 = some (.goto 4, 3) := (congrArg (fun x : PTy => x.1.lookup 25) q55).trans rfl
theorem i55_28 : ins 55 28 = some (.iconst 0, 1) := (congrArg (fun x : PTy => x.1.lookup 28) q55).trans rfl
theorem i55_29 : ins 55 29 = some (.ireturn, 1) := (congrArg (fun x : PTy => x.1.lookup 29) q55).trans rfl
theorem e55_0 {d : Nat} {Q : Option AV → St → Prop} {st : List AV} {σ : St}  {x : Option (Nat × Nat × Nat)} : Rn (d) Q (55, 0, [some (vR x)], st, σ) = Rn (d) Q (55, 1, [some (vR x)], vR x :: st, σ) := E_aload_n i55_0 rfl
theorem e55_1 {d : Nat} {Q : Option AV → St → Prop} {st : List AV} {σ : St} {l0 : Option AV} {i : Nat} : Rn (d) Q (55, 1, [l0], vR (some (8, 0, i)) :: st, σ) = (i < gN σ 8 ∧ Rn (d) Q (55, 4, [l0], vI (gI σ 8 5 i) :: st, σ)) := E_getI i55_1 ((congrArg (fun z => fldQ z 15) o55).trans f8_15) rfl
theorem e55_4 {d : Nat} {Q : Option AV → St → Prop} {st : List AV} {σ : St} {l0 : Option AV} : Rn (d) Q (55, 4, [l0], st, σ) = Rn (d) Q (55, 5, [l0], vI 1 :: st, σ) := by rw [E_iconst i55_4, ci_1]
theorem e55_5 {d : Nat} {Q : Option AV → St → Prop} {st : List AV} {σ : St} {l0 : Option AV} {x y : Int32} : Rn (d) Q (55, 5, [l0], vI y :: vI x :: st, σ) = (if x = y then Rn (d) Q (55, 24, [l0], st, σ) else Rn (d) Q (55, 8, [l0], st, σ)) := E_icmp_eq 24 i55_5 (by decide)
theorem e55_8 {d : Nat} {Q : Option AV → St → Prop} {st : List AV} {σ : St}  {x : Option (Nat × Nat × Nat)} : Rn (d) Q (55, 8, [some (vR x)], st, σ) = Rn (d) Q (55, 9, [some (vR x)], vR x :: st, σ) := E_aload_n i55_8 rfl
theorem e55_9 {d : Nat} {Q : Option AV → St → Prop} {st : List AV} {σ : St} {l0 : Option AV} {i : Nat} : Rn (d) Q (55, 9, [l0], vR (some (8, 0, i)) :: st, σ) = (i < gN σ 8 ∧ Rn (d) Q (55, 12, [l0], vI (gI σ 8 5 i) :: st, σ)) := E_getI i55_9 ((congrArg (fun z => fldQ z 15) o55).trans f8_15) rfl
theorem e55_12 {d : Nat} {Q : Option AV → St → Prop} {st : List AV} {σ : St} {l0 : Option AV} : Rn (d) Q (55, 12, [l0], st, σ) = Rn (d) Q (55, 13, [l0], vI 2 :: st, σ) := by rw [E_iconst i55_12, ci_2]
theorem e55_13 {d : Nat} {Q : Option AV → St → Prop} {st : List AV} {σ : St} {l0 : Option AV} {x y : Int32} : Rn (d) Q (55, 13, [l0], vI y :: vI x :: st, σ) = (if x = y then Rn (d) Q (55, 24, [l0], st, σ) else Rn (d) Q (55, 16, [l0], st, σ)) := E_icmp_eq 24 i55_13 (by decide)
theorem e55_16 {d : Nat} {Q : Option AV → St → Prop} {st : List AV} {σ : St}  {x : Option (Nat × Nat × Nat)} : Rn (d) Q (55, 16, [some (vR x)], st, σ) = Rn (d) Q (55, 17, [some (vR x)], vR x :: st, σ) := E_aload_n i55_16 rfl
theorem e55_17 {d : Nat} {Q : Option AV → St → Prop} {st : List AV} {σ : St} {l0 : Option AV} {i : Nat} : Rn (d) Q (55, 17, [l0], vR (some (8, 0, i)) :: st, σ) = (i < gN σ 8 ∧ Rn (d) Q (55, 20, [l0], vI (gI σ 8 5 i) :: st, σ)) := E_getI i55_17 ((congrArg (fun z => fldQ z 15) o55).trans f8_15) rfl
theorem e55_20 {d : Nat} {Q : Option AV → St → Prop} {st : List AV} {σ : St} {l0 : Option AV} : Rn (d) Q (55, 20, [l0], st, σ) = Rn (d) Q (55, 21, [l0], vI 3 :: st, σ) := by rw [E_iconst i55_20, ci_3]
theorem e55_21 {d : Nat} {Q : Option AV → St → Prop} {st : List AV} {σ : St} {l0 : Option AV} {x y : Int32} : Rn (d) Q (55, 21, [l0], vI y :: vI x :: st, σ) = (if x = y then Rn (d) Q (55, 24, [l0], st, σ) else Rn (d) Q (55, 28, [l0], st, σ)) := E_icmp_ne 28 i55_21 (by decide)
theorem e55_24 {d : Nat} {Q : Option AV → St → Prop} {st : List AV} {σ : St} {l0 : Option AV} : Rn (d) Q (55, 24, [l0], st, σ) = Rn (d) Q (55, 25, [l0], vI 1 :: st, σ) := by rw [E_iconst i55_24, ci_1]
theorem e55_25 {d : Nat} {Q : Option AV → St → Prop} {st : List AV} {σ : St} {l0 : Option AV} : Rn (d) Q (55, 25, [l0], st, σ) = Rn (d) Q (55, 29, [l0], st, σ) := E_goto 29 i55_25 (by decide)
theorem e55_28 {d : Nat} {Q : Option AV → St → Prop} {st : List AV} {σ : St} {l0 : Option AV} : Rn (d) Q (55, 28, [l0], st, σ) = Rn (d) Q (55, 29, [l0], vI 0 :: st, σ) := by rw [E_iconst i55_28, ci_0]
theorem e55_29 {d : Nat} {Q : Option AV → St → Prop} {σ : St} {l0 : Option AV} {x : Int32} : Rn (d) Q (55, 29, [l0], [vI x], σ) = ((x = 0 ∨ x = 1) ∧ Q (some (vI x)) σ) := E_iretZ (st := []) i55_29 r55
theorem i56_0 : ins 56 0 = some (.aload_n 0, 1) := (congrArg (fun x : PTy => x.1.lookup 0) q56).trans rfl
theorem i56_1 : ins 56 1 = some (.getfield 15, 3) := (congrArg (fun x : PTy => x.1.lookup 1) q56).trans rfl
theorem i56_4 : ins 56 4 = some (.iconst 1, 1) := (congrArg (fun x : PTy => x.1.lookup 4) q56).trans rfl
theorem i56_5 : ins 56 5 = some (.if_icmp .ne 24, 3) := (congrArg (fun x : PTy => x.1.lookup 5) q56).trans rfl
theorem i56_8 : ins 56 8 = some (.aload_n 0, 1) := (congrArg (fun x : PTy => x.1.lookup 8) q56).trans rfl
theorem i56_9 : ins 56 9 = some (.getfield 25, 3) := (congrArg (fun x : PTy => x.1.lookup 9) q56).trans rfl
theorem i56_12 : ins 56 12 = some (.bipush (-4), 2) := (congrArg (fun x : PTy => x.1.lookup 12) q56).trans rfl
theorem i56_14 : ins 56 14 = some (.if_icmp .ne 15, 3) := (congrArg (fun x : PTy => x.1.lookup 14) q56).trans rfl
theorem i56_17 : ins 56 17 = some (.aload_n 0, 1) := (congrArg (fun x : PTy => x.1.lookup 17) q56).trans rfl
theorem i56_18 : ins 56 18 = some (.getfield 22, 3) := (congrArg (fun x : PTy => x.1.lookup 18) q56).trans rfl
theorem i56_21 : ins 56 21 = some (.iload_n 1, 1) := (congrArg (fun x : PTy => x.1.lookup 21) q56).trans rfl
theorem i56_22 : ins 56 22 = some (.if_icmp .gt 7, 3) := (congrArg (fun x : PTy => x.1.lookup 22) q56).trans rfl
theorem i56_25 : ins 56 25 = some (.iconst 1, 1) := (congrArg (fun x : PTy => x.1.lookup 25) q56).trans rfl
theorem i56_26 : ins 56 26 = some (.goto 4, 3) := (congrArg (fun x : PTy => x.1.lookup 26) q56).trans rfl
theorem i56_29 : ins 56 29 = some (.iconst 0, 1) := (congrArg (fun x : PTy => x.1.lookup 29) q56).trans rfl
theorem i56_30 : ins 56 30 = some (.ireturn, 1) := (congrArg (fun x : PTy => x.1.lookup 30) q56).trans rfl
theorem e56_0 {d : Nat} {Q : Option AV → St → Prop} {st : List AV} {σ : St} {l1 : Option AV} {x : Option (Nat × Nat × Nat)} : Rn (d) Q (56, 0, [some (vR x), l1], st, σ) = Rn (d) Q (56, 1, [some (vR x), l1], vR x :: st, σ) := E_aload_n i56_0 rfl
theorem e56_1 {d : Nat} {Q : Option AV → St → Prop} {st : List AV} {σ : St} {l0 l1 : Option AV} {i : Nat} : Rn (d) Q (56, 1, [l0, l1], vR (some (8, 0, i)) :: st, σ) = (i < gN σ 8 ∧ Rn (d) Q (56, 4, [l0, l1], vI (gI σ 8 5 i) :: st, σ)) := E_getI i56_1 ((congrArg (fun z => fldQ z 15) o56).trans f8_15) rfl
theorem e56_4 {d : Nat} {Q : Option AV → St → Prop} {st : List AV} {σ : St} {l0 l1 : Option AV} : Rn (d) Q (56, 4, [l0, l1], st, σ) = Rn (d) Q (56, 5, [l0, l1], vI 1 :: st, σ) := by rw [E_iconst i56_4, ci_1]
theorem e56_5 {d : Nat} {Q : Option AV → St → Prop} {st : List AV} {σ : St} {l0 l1 : Option AV} {x y : Int32} : Rn (d) Q (56, 5, [l0, l1], vI y :: vI x :: st, σ) = (if x = y then Rn (d) Q (56, 8, [l0, l1], st, σ) else Rn (d) Q (56, 29, [l0, l1], st, σ)) := E_icmp_ne 29 i56_5 (by decide)
theorem e56_8 {d : Nat} {Q : Option AV → St → Prop} {st : List AV} {σ : St} {l1 : Option AV} {x : Option (Nat × Nat × Nat)} : Rn (d) Q (56, 8, [some (vR x), l1], st, σ) = Rn (d) Q (56, 9, [some (vR x), l1], vR x :: st, σ) := E_aload_n i56_8 rfl
theorem e56_9 {d : Nat} {Q : Option AV → St → Prop} {st : List AV} {σ : St} {l0 l1 : Option AV} {i : Nat} : Rn (d) Q (56, 9, [l0, l1], vR (some (8, 0, i)) :: st, σ) = (i < gN σ 8 ∧ Rn (d) Q (56, 12, [l0, l1], vI (gI σ 8 8 i) :: st, σ)) := E_getI i56_9 ((congrArg (fun z => fldQ z 25) o56).trans f8_25) rfl
theorem e56_12 {d : Nat} {Q : Option AV → St → Prop} {st : List AV} {σ : St} {l0 l1 : Option AV} : Rn (d) Q (56, 12, [l0, l1], st, σ) = Rn (d) Q (56, 14, [l0, l1], vI (-4) :: st, σ) := by rw [E_bipush i56_12, cb_m4]
theorem e56_14 {d : Nat} {Q : Option AV → St → Prop} {st : List AV} {σ : St} {l0 l1 : Option AV} {x y : Int32} : Rn (d) Q (56, 14, [l0, l1], vI y :: vI x :: st, σ) = (if x = y then Rn (d) Q (56, 17, [l0, l1], st, σ) else Rn (d) Q (56, 29, [l0, l1], st, σ)) := E_icmp_ne 29 i56_14 (by decide)
theorem e56_17 {d : Nat} {Q : Option AV → St → Prop} {st : List AV} {σ : St} {l1 : Option AV} {x : Option (Nat × Nat × Nat)} : Rn (d) Q (56, 17, [some (vR x), l1], st, σ) = Rn (d) Q (56, 18, [some (vR x), l1], vR x :: st, σ) := E_aload_n i56_17 rfl
theorem e56_18 {d : Nat} {Q : Option AV → St → Prop} {st : List AV} {σ : St} {l0 l1 : Option AV} {i : Nat} : Rn (d) Q (56, 18, [l0, l1], vR (some (8, 0, i)) :: st, σ) = (i < gN σ 8 ∧ Rn (d) Q (56, 21, [l0, l1], vI (gI σ 8 7 i) :: st, σ)) := E_getI i56_18 ((congrArg (fun z => fldQ z 22) o56).trans f8_22) rfl
theorem e56_21 {d : Nat} {Q : Option AV → St → Prop} {st : List AV} {σ : St} {l0 : Option AV} {x : Int32} : Rn (d) Q (56, 21, [l0, some (vI x)], st, σ) = Rn (d) Q (56, 22, [l0, some (vI x)], vI x :: st, σ) := E_iload_n i56_21 rfl
theorem e56_22 {d : Nat} {Q : Option AV → St → Prop} {st : List AV} {σ : St} {l0 l1 : Option AV} {x y : Int32} : Rn (d) Q (56, 22, [l0, l1], vI y :: vI x :: st, σ) = (if y < x then Rn (d) Q (56, 29, [l0, l1], st, σ) else Rn (d) Q (56, 25, [l0, l1], st, σ)) := E_icmp_gt 29 i56_22 (by decide)
theorem e56_25 {d : Nat} {Q : Option AV → St → Prop} {st : List AV} {σ : St} {l0 l1 : Option AV} : Rn (d) Q (56, 25, [l0, l1], st, σ) = Rn (d) Q (56, 26, [l0, l1], vI 1 :: st, σ) := by rw [E_iconst i56_25, ci_1]
theorem e56_26 {d : Nat} {Q : Option AV → St → Prop} {st : List AV} {σ : St} {l0 l1 : Option AV} : Rn (d) Q (56, 26, [l0, l1], st, σ) = Rn (d) Q (56, 30, [l0, l1], st, σ) := E_goto 30 i56_26 (by decide)
theorem e56_29 {d : Nat} {Q : Option AV → St → Prop} {st : List AV} {σ : St} {l0 l1 : Option AV} : Rn (d) Q (56, 29, [l0, l1], st, σ) = Rn (d) Q (56, 30, [l0, l1], vI 0 :: st, σ) := by rw [E_iconst i56_29, ci_0]
theorem e56_30 {d : Nat} {Q : Option AV → St → Prop} {σ : St} {l0 l1 : Option AV} {x : Int32} : Rn (d) Q (56, 30, [l0, l1], [vI x], σ) = ((x = 0 ∨ x = 1) ∧ Q (some (vI x)) σ) := E_iretZ (st := []) i56_30 r56
theorem i57_0 : ins 57 0 = some (.aload_n 0, 1) := (congrArg (fun x : PTy => x.1.lookup 0) q57).trans rfl
theorem i57_1 : ins 57 1 = some (.getfield 15, 3) := (congrArg (fun x : PTy => x.1.lookup 1) q57).trans rfl
theorem i57_4 : ins 57 4 = some (.iconst 1, 1) := (congrArg (fun x : PTy => x.1.lookup 4) q57).trans rfl
theorem i57_5 : ins 57 5 = some (.if_icmp .ne 24, 3) := (congrArg (fun x : PTy => x.1.lookup 5) q57).trans rfl
theorem i57_8 : ins 57 8 = some (.aload_n 0, 1) := (congrArg (fun x : PTy => x.1.lookup 8) q57).trans rfl
theorem i57_9 : ins 57 9 = some (.getfield 25, 3) := (congrArg (fun x : PTy => x.1.lookup 9) q57).trans rfl
theorem i57_12 : ins 57 12 = some (.bipush (-4), 2) := (congrArg (fun x : PTy => x.1.lookup 12) q57).trans rfl
theorem i57_14 : ins 57 14 = some (.if_icmp .eq 15, 3) := (congrArg (fun x : PTy => x.1.lookup 14) q57).trans rfl
theorem i57_17 : ins 57 17 = some (.aload_n 0, 1) := (congrArg (fun x : PTy => x.1.lookup 17) q57).trans rfl
theorem i57_18 : ins 57 18 = some (.getfield 28, 3) := (congrArg (fun x : PTy => x.1.lookup 18) q57).trans rfl
theorem i57_21 : ins 57 21 = some (.iload_n 1, 1) := (congrArg (fun x : PTy => x.1.lookup 21) q57).trans rfl
theorem i57_22 : ins 57 22 = some (.if_icmp .gt 7, 3) := (congrArg (fun x : PTy => x.1.lookup 22) q57).trans rfl
theorem i57_25 : ins 57 25 = some (.iconst 1, 1) := (congrArg (fun x : PTy => x.1.lookup 25) q57).trans rfl
theorem i57_26 : ins 57 26 = some (.goto 4, 3) := (congrArg (fun x : PTy => x.1.lookup 26) q57).trans rfl
theorem i57_29 : ins 57 29 = some (.iconst 0, 1) := (congrArg (fun x : PTy => x.1.lookup 29) q57).trans rfl
theorem i57_30 : ins 57 30 = some (.ireturn, 1) := (congrArg (fun x : PTy => x.1.lookup 30) q57).trans rfl
theorem e57_0 {d : Nat} {Q : Option AV → St → Prop} {st : List AV} {σ : St} {l1 : Option AV} {x : Option (Nat × Nat × Nat)} : Rn (d) Q (57, 0, [some (vR x), l1], st, σ) = Rn (d) Q (57, 1, [some (vR x), l1], vR x :: st, σ) := E_aload_n i57_0 rfl
theorem e57_1 {d : Nat} {Q : Option AV → St → Prop} {st : List AV} {σ : St} {l0 l1 : Option AV} {i : Nat} : Rn (d) Q (57, 1, [l0, l1], vR (some (8, 0, i)) :: st, σ) = (i < gN σ 8 ∧ Rn (d) Q (57, 4, [l0, l1], vI (gI σ 8 5 i) :: st, σ)) := E_getI i57_1 ((congrArg (fun z => fldQ z 15) o57).trans f8_15) rfl
theorem e57_4 {d : Nat} {Q : Option AV → St → Prop} {st : List AV} {σ : St} {l0 l1 : Option AV} : Rn (d) Q (57, 4, [l0, l1], st, σ) = Rn (d) Q (57, 5, [l0, l1], vI 1 :: st, σ) := by rw [E_iconst i57_4, ci_1]
theorem e57_5 {d : Nat} {Q : Option AV → St → Prop} {st : List AV} {σ : St} {l0 l1 : Option AV} {x y : Int32} : Rn (d) Q (57, 5, [l0, l1], vI y :: vI x :: st, σ) = (if x = y then Rn (d) Q (57, 8, [l0, l1], st, σ) else Rn (d) Q (57, 29, [l0, l1], st, σ)) := E_icmp_ne 29 i57_5 (by decide)
theorem e57_8 {d : Nat} {Q : Option AV → St → Prop} {st : List AV} {σ : St} {l1 : Option AV} {x : Option (Nat × Nat × Nat)} : Rn (d) Q (57, 8, [some (vR x), l1], st, σ) = Rn (d) Q (57, 9, [some (vR x), l1], vR x :: st, σ) := E_aload_n i57_8 rfl
theorem e57_9 {d : Nat} {Q : Option AV → St → Prop} {st : List AV} {σ : St} {l0 l1 : Option AV} {i : Nat} : Rn (d) Q (57, 9, [l0, l1], vR (some (8, 0, i)) :: st, σ) = (i < gN σ 8 ∧ Rn (d) Q (57, 12, [l0, l1], vI (gI σ 8 8 i) :: st, σ)) := E_getI i57_9 ((congrArg (fun z => fldQ z 25) o57).trans f8_25) rfl
theorem e57_12 {d : Nat} {Q : Option AV → St → Prop} {st : List AV} {σ : St} {l0 l1 : Option AV} : Rn (d) Q (57, 12, [l0, l1], st, σ) = Rn (d) Q (57, 14, [l0, l1], vI (-4) :: st, σ) := by rw [E_bipush i57_12, cb_m4]
theorem e57_14 {d : Nat} {Q : Option AV → St → Prop} {st : List AV} {σ : St} {l0 l1 : Option AV} {x y : Int32} : Rn (d) Q (57, 14, [l0, l1], vI y :: vI x :: st, σ) = (if x = y then Rn (d) Q (57, 29, [l0, l1], st, σ) else Rn (d) Q (57, 17, [l0, l1], st, σ)) := E_icmp_eq 29 i57_14 (by decide)
theorem e57_17 {d : Nat} {Q : Option AV → St → Prop} {st : List AV} {σ : St} {l1 : Option AV} {x : Option (Nat × Nat × Nat)} : Rn (d) Q (57, 17, [some (vR x), l1], st, σ) = Rn (d) Q (57, 18, [some (vR x), l1], vR x :: st, σ) := E_aload_n i57_17 rfl
theorem e57_18 {d : Nat} {Q : Option AV → St → Prop} {st : List AV} {σ : St} {l0 l1 : Option AV} {i : Nat} : Rn (d) Q (57, 18, [l0, l1], vR (some (8, 0, i)) :: st, σ) = (i < gN σ 8 ∧ Rn (d) Q (57, 21, [l0, l1], vI (gI σ 8 9 i) :: st, σ)) := E_getI i57_18 ((congrArg (fun z => fldQ z 28) o57).trans f8_28) rfl
theorem e57_21 {d : Nat} {Q : Option AV → St → Prop} {st : List AV} {σ : St} {l0 : Option AV} {x : Int32} : Rn (d) Q (57, 21, [l0, some (vI x)], st, σ) = Rn (d) Q (57, 22, [l0, some (vI x)], vI x :: st, σ) := E_iload_n i57_21 rfl
theorem e57_22 {d : Nat} {Q : Option AV → St → Prop} {st : List AV} {σ : St} {l0 l1 : Option AV} {x y : Int32} : Rn (d) Q (57, 22, [l0, l1], vI y :: vI x :: st, σ) = (if y < x then Rn (d) Q (57, 29, [l0, l1], st, σ) else Rn (d) Q (57, 25, [l0, l1], st, σ)) := E_icmp_gt 29 i57_22 (by decide)
theorem e57_25 {d : Nat} {Q : Option AV → St → Prop} {st : List AV} {σ : St} {l0 l1 : Option AV} : Rn (d) Q (57, 25, [l0, l1], st, σ) = Rn (d) Q (57, 26, [l0, l1], vI 1 :: st, σ) := by rw [E_iconst i57_25, ci_1]
theorem e57_26 {d : Nat} {Q : Option AV → St → Prop} {st : List AV} {σ : St} {l0 l1 : Option AV} : Rn (d) Q (57, 26, [l0, l1], st, σ) = Rn (d) Q (57, 30, [l0, l1], st, σ) := E_goto 30 i57_26 (by decide)
theorem e57_29 {d : Nat} {Q : Option AV → St → Prop} {st : List AV} {σ : St} {l0 l1 : Option AV} : Rn (d) Q (57, 29, [l0, l1], st, σ) = Rn (d) Q (57, 30, [l0, l1], vI 0 :: st, σ) := by rw [E_iconst i57_29, ci_0]
theorem e57_30 {d : Nat} {Q : Option AV → St → Prop} {σ : St} {l0 l1 : Option AV} {x : Int32} : Rn (d) Q (57, 30, [l0, l1], [vI x], σ) = ((x = 0 ∨ x = 1) ∧ Q (some (vI x)) σ) := E_iretZ (st := []) i57_30 r57
theorem i58_0 : ins 58 0 = some (.aload_n 0, 1) := (congrArg (fun x : PTy => x.1.lookup 0) q58).trans rfl
theorem i58_1 : ins 58 1 = some (.getfield 15, 3) := (congrArg (fun x : PTy => x.1.lookup 1) q58).trans rfl
theorem i58_4 : ins 58 4 = some (.iconst 2, 1) := (congrArg (fun x : PTy => x.1.lookup 4) q58).trans rfl
theorem i58_5 : ins 58 5 = some (.if_icmp .ne 39, 3) := (congrArg (fun x : PTy => x.1.lookup 5) q58).trans rfl
theorem i58_8 : ins 58 8 = some (.aload_n 0, 1) := (congrArg (fun x : PTy => x.1.lookup 8) q58).trans rfl
theorem i58_9 : ins 58 9 = some (.getfield 25, 3) := (congrArg (fun x : PTy => x.1.lookup 9) q58).trans rfl
theorem i58_12 : ins 58 12 = some (.iload_n 1, 1) := (congrArg (fun x : PTy => x.1.lookup 12) q58).trans rfl
theorem i58_13 : ins 58 13 = some (.if_icmp .ne 11, 3) := (congrArg (fun x : PTy => x.1.lookup 13) q58).trans rfl
theorem i58_16 : ins 58 16 = some (.aload_n 0, 1) := (congrArg (fun x : PTy => x.1.lookup 16) q58).trans rfl
theorem i58_17 : ins 58 17 = some (.getfield 40, 3) := (congrArg (fun x : PTy => x.1.lookup 17) q58).trans rfl
theorem i58_20 : ins 58 20 = some (.iload_n 2, 1) := (congrArg (fun x : PTy => x.1.lookup 20) q58).trans rfl
theorem i58_21 : ins 58 21 = some (.if_icmp .eq 19, 3) := (congrArg (fun x : PTy => x.1.lookup 21) q58).trans rfl
theorem i58_24 : ins 58 24 = some (.aload_n 0, 1) := (congrArg (fun x : PTy => x.1.lookup 24) q58).trans rfl
theorem i58_25 : ins 58 25 = some (.getfield 25, 3) := (congrArg (fun x : PTy => x.1.lookup 25) q58).trans rfl
theorem i58_28 : ins 58 28 = some (.iload_n 2, 1) := (congrArg (fun x : PTy => x.1.lookup 28) q58).trans rfl
theorem i58_29 : ins 58 29 = some (.if_icmp .ne 15, 3) := (congrArg (fun x : PTy => x.1.lookup 29) q58).trans rfl
theorem i58_32 : ins 58 32 = some (.aload_n 0, 1) := (congrArg (fun x : PTy => x.1.lookup 32) q58).trans rfl
theorem i58_33 : ins 58 33 = some (.getfield 40, 3) := (congrArg (fun x : PTy => x.1.lookup 33) q58).trans rfl
theorem i58_36 : ins 58 36 = some (.iload_n 1, 1) := (congrArg (fun x : PTy => x.1.lookup 36) q58).trans rfl
theorem i58_37 : ins 58 37 = some (.if_icmp .ne 7, 3) := (congrArg (fun x : PTy => x.1.lookup 37) q58).trans rfl
theorem i58_40 : ins 58 40 = some (.iconst 1, 1) := (congrArg (fun x : PTy => x.1.lookup 40) q58).trans rfl
theorem i58_41 : ins 58 41 = some (.goto 4, 3) := (congrArg (fun x : PTy => x.1.lookup 41) q58).trans rfl
theorem i58_44 : ins 58 44 = some (.iconst 0, 1) := (congrArg (fun x : PTy => x.1.lookup 44) q58).trans rfl
theorem i58_45 : ins 58 45 = some (.ireturn, 1) := (congrArg (fun x : PTy => x.1.lookup 45) q58).trans rfl
theorem e58_0 {d : Nat} {Q : Option AV → St → Prop} {st : List AV} {σ : St} {l1 l2 : Option AV} {x : Option (Nat × Nat × Nat)} : Rn (d) Q (58, 0, [some (vR x), l1, l2], st, σ) = Rn (d) Q (58, 1, [some (vR x), l1, l2], vR x :: st, σ) := E_aload_n i58_0 rfl
theorem e58_1 {d : Nat} {Q : Option AV → St → Prop} {st : List AV} {σ : St} {l0 l1 l2 : Option AV} {i : Nat} : Rn (d) Q (58, 1, [l0, l1, l2], vR (some (8, 0, i)) :: st, σ) = (i < gN σ 8 ∧ Rn (d) Q (58, 4, [l0, l1, l2], vI (gI σ 8 5 i) :: st, σ)) := E_getI i58_1 ((congrArg (fun z => fldQ z 15) o58).trans f8_15) rfl
theorem e58_4 {d : Nat} {Q : Option AV → St → Prop} {st : List AV} {σ : St} {l0 l1 l2 : Option AV} : Rn (d) Q (58, 4, [l0, l1, l2], st, σ) = Rn (d) Q (58, 5, [l0, l1, l2], vI 2 :: st, σ) := by rw [E_iconst i58_4, ci_2]
theorem e58_5 {d : Nat} {Q : Option AV → St → Prop} {st : List AV} {σ : St} {l0 l1 l2 : Option AV} {x y : Int32} : Rn (d) Q (58, 5, [l0, l1, l2], vI y :: vI x :: st, σ) = (if x = y then Rn (d) Q (58, 8, [l0, l1, l2], st, σ) else Rn (d) Q (58, 44, [l0, l1, l2], st, σ)) := E_icmp_ne 44 i58_5 (by decide)
theorem e58_8 {d : Nat} {Q : Option AV → St → Prop} {st : List AV} {σ : St} {l1 l2 : Option AV} {x : Option (Nat × Nat × Nat)} : Rn (d) Q (58, 8, [some (vR x), l1, l2], st, σ) = Rn (d) Q (58, 9, [some (vR x), l1, l2], vR x :: st, σ) := E_aload_n i58_8 rfl
theorem e58_9 {d : Nat} {Q : Option AV → St → Prop} {st : List AV} {σ : St} {l0 l1 l2 : Option AV} {i : Nat} : Rn (d) Q (58, 9, [l0, l1, l2], vR (some (8, 0, i)) :: st, σ) = (i < gN σ 8 ∧ Rn (d) Q (58, 12, [l0, l1, l2], vI (gI σ 8 8 i) :: st, σ)) := E_getI i58_9 ((congrArg (fun z => fldQ z 25) o58).trans f8_25) rfl
theorem e58_12 {d : Nat} {Q : Option AV → St → Prop} {st : List AV} {σ : St} {l0 l2 : Option AV} {x : Int32} : Rn (d) Q (58, 12, [l0, some (vI x), l2], st, σ) = Rn (d) Q (58, 13, [l0, some (vI x), l2], vI x :: st, σ) := E_iload_n i58_12 rfl
theorem e58_13 {d : Nat} {Q : Option AV → St → Prop} {st : List AV} {σ : St} {l0 l1 l2 : Option AV} {x y : Int32} : Rn (d) Q (58, 13, [l0, l1, l2], vI y :: vI x :: st, σ) = (if x = y then Rn (d) Q (58, 16, [l0, l1, l2], st, σ) else Rn (d) Q (58, 24, [l0, l1, l2], st, σ)) := E_icmp_ne 24 i58_13 (by decide)
theorem e58_16 {d : Nat} {Q : Option AV → St → Prop} {st : List AV} {σ : St} {l1 l2 : Option AV} {x : Option (Nat × Nat × Nat)} : Rn (d) Q (58, 16, [some (vR x), l1, l2], st, σ) = Rn (d) Q (58, 17, [some (vR x), l1, l2], vR x :: st, σ) := E_aload_n i58_16 rfl
theorem e58_17 {d : Nat} {Q : Option AV → St → Prop} {st : List AV} {σ : St} {l0 l1 l2 : Option AV} {i : Nat} : Rn (d) Q (58, 17, [l0, l1, l2], vR (some (8, 0, i)) :: st, σ) = (i < gN σ 8 ∧ Rn (d) Q (58, 20, [l0, l1, l2], vI (gI σ 8 13 i) :: st, σ)) := E_getI i58_17 ((congrArg (fun z => fldQ z 40) o58).trans f8_40) rfl
theorem e58_20 {d : Nat} {Q : Option AV → St → Prop} {st : List AV} {σ : St} {l0 l1 : Option AV} {x : Int32} : Rn (d) Q (58, 20, [l0, l1, some (vI x)], st, σ) = Rn (d) Q (58, 21, [l0, l1, some (vI x)], vI x :: st, σ) := E_iload_n i58_20 rfl
theorem e58_21 {d : Nat} {Q : Option AV → St → Prop} {st : List AV} {σ : St} {l0 l1 l2 : Option AV} {x y : Int32} : Rn (d) Q (58, 21, [l0, l1, l2], vI y :: vI x :: st, σ) = (if x = y then Rn (d) Q (58, 40, [l0, l1, l2], st, σ) else Rn (d) Q (58, 24, [l0, l1, l2], st, σ)) := E_icmp_eq 40 i58_21 (by decide)
theorem e58_24 {d : Nat} {Q : Option AV → St → Prop} {st : List AV} {σ : St} {l1 l2 : Option AV} {x : Option (Nat × Nat × Nat)} : Rn (d) Q (58, 24, [some (vR x), l1, l2], st, σ) = Rn (d) Q (58, 25, [some (vR x), l1, l2], vR x :: st, σ) := E_aload_n i58_24 rfl
theorem e58_25 {d : Nat} {Q : Option AV → St → Prop} {st : List AV} {σ : St} {l0 l1 l2 : Option AV} {i : Nat} : Rn (d) Q (58, 25, [l0, l1, l2], vR (some (8, 0, i)) :: st, σ) = (i < gN σ 8 ∧ Rn (d) Q (58, 28, [l0, l1, l2], vI (gI σ 8 8 i) :: st, σ)) := E_getI i58_25 ((congrArg (fun z => fldQ z 25) o58).trans f8_25) rfl
theorem e58_28 {d : Nat} {Q : Option AV → St → Prop} {st : List AV} {σ : St} {l0 l1 : Option AV} {x : Int32} : Rn (d) Q (58, 28, [l0, l1, some (vI x)], st, σ) = Rn (d) Q (58, 29, [l0, l1, some (vI x)], vI x :: st, σ) := E_iload_n i58_28 rfl
theorem e58_29 {d : Nat} {Q : Option AV → St → Prop} {st : List AV} {σ : St} {l0 l1 l2 : Option AV} {x y : Int32} : Rn (d) Q (58, 29, [l0, l1, l2], vI y :: vI x :: st, σ) = (if x = y then Rn (d) Q (58, 32, [l0, l1, l2], st, σ) else Rn (d) Q (58, 44, [l0, l1, l2], st, σ)) := E_icmp_ne 44 i58_29 (by decide)
theorem e58_32 {d : Nat} {Q : Option AV → St → Prop} {st : List AV} {σ : St} {l1 l2 : Option AV} {x : Option (Nat × Nat × Nat)} : Rn (d) Q (58, 32, [some (vR x), l1, l2], st, σ) = Rn (d) Q (58, 33, [some (vR x), l1, l2], vR x :: st, σ) := E_aload_n i58_32 rfl
theorem e58_33 {d : Nat} {Q : Option AV → St → Prop} {st : List AV} {σ : St} {l0 l1 l2 : Option AV} {i : Nat} : Rn (d) Q (58, 33, [l0, l1, l2], vR (some (8, 0, i)) :: st, σ) = (i < gN σ 8 ∧ Rn (d) Q (58, 36, [l0, l1, l2], vI (gI σ 8 13 i) :: st, σ)) := E_getI i58_33 ((congrArg (fun z => fldQ z 40) o58).trans f8_40) rfl
theorem e58_36 {d : Nat} {Q : Option AV → St → Prop} {st : List AV} {σ : St} {l0 l2 : Option AV} {x : Int32} : Rn (d) Q (58, 36, [l0, some (vI x), l2], st, σ) = Rn (d) Q (58, 37, [l0, some (vI x), l2], vI x :: st, σ) := E_iload_n i58_36 rfl
theorem e58_37 {d : Nat} {Q : Option AV → St → Prop} {st : List AV} {σ : St} {l0 l1 l2 : Option AV} {x y : Int32} : Rn (d) Q (58, 37, [l0, l1, l2], vI y :: vI x :: st, σ) = (if x = y then Rn (d) Q (58, 40, [l0, l1, l2], st, σ) else Rn (d) Q (58, 44, [l0, l1, l2], st, σ)) := E_icmp_ne 44 i58_37 (by decide)
theorem e58_40 {d : Nat} {Q : Option AV → St → Prop} {st : List AV} {σ : St} {l0 l1 l2 : Option AV} : Rn (d) Q (58, 40, [l0, l1, l2], st, σ) = Rn (d) Q (58, 41, [l0, l1, l2], vI 1 :: st, σ) := by rw [E_iconst i58_40, ci_1]
theorem e58_41 {d : Nat} {Q : Option AV → St → Prop} {st : List AV} {σ : St} {l0 l1 l2 : Option AV} : Rn (d) Q (58, 41, [l0, l1, l2], st, σ) = Rn (d) Q (58, 45, [l0, l1, l2], st, σ) := E_goto 45 i58_41 (by decide)
theorem e58_44 {d : Nat} {Q : Option AV → St → Prop} {st : List AV} {σ : St} {l0 l1 l2 : Option AV} : Rn (d) Q (58, 44, [l0, l1, l2], st, σ) = Rn (d) Q (58, 45, [l0, l1, l2], vI 0 :: st, σ) := by rw [E_iconst i58_44, ci_0]
theorem e58_45 {d : Nat} {Q : Option AV → St → Prop} {σ : St} {l0 l1 l2 : Option AV} {x : Int32} : Rn (d) Q (58, 45, [l0, l1, l2], [vI x], σ) = ((x = 0 ∨ x = 1) ∧ Q (some (vI x)) σ) := E_iretZ (st := []) i58_45 r58
theorem i59_0 : ins 59 0 = some (.aload_n 0, 1) := (congrArg (fun x : PTy => x.1.lookup 0) q59).trans rfl
theorem i59_1 : ins 59 1 = some (.invokespecial 1, 3) := (congrArg (fun x : PTy => x.1.lookup 1) q59).trans rfl
theorem i59_4 : ins 59 4 = some (.aload_n 0, 1) := (congrArg (fun x : PTy => x.1.lookup 4) q59).trans rfl
theorem i59_5 : ins 59 5 = some (.iconst 0, 1) := (congrArg (fun x : PTy => x.1.lookup 5) q59).trans rfl
theorem i59_6 : ins 59 6 = some (.putfield 7, 3) := (congrArg (fun x : PTy => x.1.lookup 6) q59).trans rfl
theorem i59_9 : ins 59 9 = some (.aload_n 0, 1) := (congrArg (fun x : PTy => x.1.lookup 9) q59).trans rfl
theorem i59_10 : ins 59 10 = some (.iconst 0, 1) := (congrArg (fun x : PTy => x.1.lookup 10) q59).trans rfl
theorem i59_11 : ins 59 11 = some (.putfield 13, 3) := (congrArg (fun x : PTy => x.1.lookup 11) q59).trans rfl
theorem i59_14 : ins 59 14 = some (.aload_n 0, 1) := (congrArg (fun x : PTy => x.1.lookup 14) q59).trans rfl
theorem i59_15 : ins 59 15 = some (.iload_n 1, 1) := (congrArg (fun x : PTy => x.1.lookup 15) q59).trans rfl
theorem i59_16 : ins 59 16 = some (.putfield 16, 3) := (congrArg (fun x : PTy => x.1.lookup 16) q59).trans rfl
theorem i59_19 : ins 59 19 = some (.aload_n 0, 1) := (congrArg (fun x : PTy => x.1.lookup 19) q59).trans rfl
theorem i59_20 : ins 59 20 = some (.iload_n 2, 1) := (congrArg (fun x : PTy => x.1.lookup 20) q59).trans rfl
theorem i59_21 : ins 59 21 = some (.putfield 19, 3) := (congrArg (fun x : PTy => x.1.lookup 21) q59).trans rfl
theorem i59_24 : ins 59 24 = some (.return_, 1) := (congrArg (fun x : PTy => x.1.lookup 24) q59).trans rfl
theorem e59_0 {d : Nat} {Q : Option AV → St → Prop} {st : List AV} {σ : St} {l1 l2 : Option AV} {x : Option (Nat × Nat × Nat)} : Rn (d) Q (59, 0, [some (vR x), l1, l2], st, σ) = Rn (d) Q (59, 1, [some (vR x), l1, l2], vR x :: st, σ) := E_aload_n i59_0 rfl
theorem e59_1 {d : Nat} {Q : Option AV → St → Prop} {st : List AV} {σ : St} {l0 l1 l2 : Option AV} {x : Nat × Nat × Nat} : Rn (d) Q (59, 1, [l0, l1, l2], vR (some x) :: st, σ) = (catS st ≤ 8 ∧ Rn (d) Q (59, 4, [l0, l1, l2], st, σ)) := E_objInit i59_1 ((congrArg (fun z => mthQ z 1) o59).trans m9_1)
theorem e59_4 {d : Nat} {Q : Option AV → St → Prop} {st : List AV} {σ : St} {l1 l2 : Option AV} {x : Option (Nat × Nat × Nat)} : Rn (d) Q (59, 4, [some (vR x), l1, l2], st, σ) = Rn (d) Q (59, 5, [some (vR x), l1, l2], vR x :: st, σ) := E_aload_n i59_4 rfl
theorem e59_5 {d : Nat} {Q : Option AV → St → Prop} {st : List AV} {σ : St} {l0 l1 l2 : Option AV} : Rn (d) Q (59, 5, [l0, l1, l2], st, σ) = Rn (d) Q (59, 6, [l0, l1, l2], vI 0 :: st, σ) := by rw [E_iconst i59_5, ci_0]
theorem e59_6 {d : Nat} {Q : Option AV → St → Prop} {st : List AV} {σ : St} {l0 l1 l2 : Option AV} {i : Nat} {x : Int32} : Rn (d) Q (59, 6, [l0, l1, l2], vI x :: vR (some (9, 0, i)) :: st, σ) = (i < gN σ 9 ∧ Rn (d) Q (59, 9, [l0, l1, l2], st, setI σ 9 2 i x)) := E_putI i59_6 ((congrArg (fun z => fldQ z 7) o59).trans f9_7) rfl (Or.inl rfl)
theorem e59_9 {d : Nat} {Q : Option AV → St → Prop} {st : List AV} {σ : St} {l1 l2 : Option AV} {x : Option (Nat × Nat × Nat)} : Rn (d) Q (59, 9, [some (vR x), l1, l2], st, σ) = Rn (d) Q (59, 10, [some (vR x), l1, l2], vR x :: st, σ) := E_aload_n i59_9 rfl
theorem e59_10 {d : Nat} {Q : Option AV → St → Prop} {st : List AV} {σ : St} {l0 l1 l2 : Option AV} : Rn (d) Q (59, 10, [l0, l1, l2], st, σ) = Rn (d) Q (59, 11, [l0, l1, l2], vI 0 :: st, σ) := by rw [E_iconst i59_10, ci_0]
theorem e59_11 {d : Nat} {Q : Option AV → St → Prop} {st : List AV} {σ : St} {l0 l1 l2 : Option AV} {i : Nat} {x : Int32} : Rn (d) Q (59, 11, [l0, l1, l2], vI x :: vR (some (9, 0, i)) :: st, σ) = (i < gN σ 9 ∧ Rn (d) Q (59, 14, [l0, l1, l2], st, setI σ 9 3 i x)) := E_putI i59_11 ((congrArg (fun z => fldQ z 13) o59).trans f9_13) rfl (Or.inl rfl)
theorem e59_14 {d : Nat} {Q : Option AV → St → Prop} {st : List AV} {σ : St} {l1 l2 : Option AV} {x : Option (Nat × Nat × Nat)} : Rn (d) Q (59, 14, [some (vR x), l1, l2], st, σ) = Rn (d) Q (59, 15, [some (vR x), l1, l2], vR x :: st, σ) := E_aload_n i59_14 rfl
theorem e59_15 {d : Nat} {Q : Option AV → St → Prop} {st : List AV} {σ : St} {l0 l2 : Option AV} {x : Int32} : Rn (d) Q (59, 15, [l0, some (vI x), l2], st, σ) = Rn (d) Q (59, 16, [l0, some (vI x), l2], vI x :: st, σ) := E_iload_n i59_15 rfl
theorem e59_16 {d : Nat} {Q : Option AV → St → Prop} {st : List AV} {σ : St} {l0 l1 l2 : Option AV} {i : Nat} {x : Int32} : Rn (d) Q (59, 16, [l0, l1, l2], vI x :: vR (some (9, 0, i)) :: st, σ) = (i < gN σ 9 ∧ Rn (d) Q (59, 19, [l0, l1, l2], st, setI σ 9 0 i x)) := E_putI i59_16 ((congrArg (fun z => fldQ z 16) o59).trans f9_16) rfl (Or.inr ⟨rfl, n59, o59⟩)
theorem e59_19 {d : Nat} {Q : Option AV → St → Prop} {st : List AV} {σ : St} {l1 l2 : Option AV} {x : Option (Nat × Nat × Nat)} : Rn (d) Q (59, 19, [some (vR x), l1, l2], st, σ) = Rn (d) Q (59, 20, [some (vR x), l1, l2], vR x :: st, σ) := E_aload_n i59_19 rfl
theorem e59_20 {d : Nat} {Q : Option AV → St → Prop} {st : List AV} {σ : St} {l0 l1 : Option AV} {x : Int32} : Rn (d) Q (59, 20, [l0, l1, some (vI x)], st, σ) = Rn (d) Q (59, 21, [l0, l1, some (vI x)], vI x :: st, σ) := E_iload_n i59_20 rfl
theorem e59_21 {d : Nat} {Q : Option AV → St → Prop} {st : List AV} {σ : St} {l0 l1 l2 : Option AV} {i : Nat} {x : Int32} : Rn (d) Q (59, 21, [l0, l1, l2], vI x :: vR (some (9, 0, i)) :: st, σ) = (i < gN σ 9 ∧ Rn (d) Q (59, 24, [l0, l1, l2], st, setI σ 9 1 i x)) := E_putI i59_21 ((congrArg (fun z => fldQ z 19) o59).trans f9_19) rfl (Or.inr ⟨rfl, n59, o59⟩)
theorem e59_24 {d : Nat} {Q : Option AV → St → Prop} {σ : St} {l0 l1 l2 : Option AV} : Rn (d) Q (59, 24, [l0, l1, l2], [], σ) = Q none σ := E_ret (st := []) i59_24 r59
theorem i60_0 : ins 60 0 = some (.aload_n 0, 1) := (congrArg (fun x : PTy => x.1.lookup 0) q60).trans rfl
theorem i60_1 : ins 60 1 = some (.getfield 16, 3) := (congrArg (fun x : PTy => x.1.lookup 1) q60).trans rfl
theorem i60_4 : ins 60 4 = some (.aload_n 1, 1) := (congrArg (fun x : PTy => x.1.lookup 4) q60).trans rfl
theorem i60_5 : ins 60 5 = some (.getfield 22, 3) := (congrArg (fun x : PTy => x.1.lookup 5) q60).trans rfl
theorem i60_8 : ins 60 8 = some (.bipush 10, 2) := (congrArg (fun x : PTy => x.1.lookup 8) q60).trans rfl
theorem i60_10 : ins 60 10 = some (.idiv, 1) := (congrArg (fun x : PTy => x.1.lookup 10) q60).trans rfl
theorem i60_11 : ins 60 11 = some (.ishr, 1) := (congrArg (fun x : PTy => x.1.lookup 11) q60).trans rfl
theorem i60_12 : ins 60 12 = some (.iconst 1, 1) := (congrArg (fun x : PTy => x.1.lookup 12) q60).trans rfl
theorem i60_13 : ins 60 13 = some (.iand, 1) := (congrArg (fun x : PTy => x.1.lookup 13) q60).trans rfl
theorem i60_14 : ins 60 14 = some (.iconst 1, 1) := (congrArg (fun x : PTy => x.1.lookup 14) q60).trans rfl
theorem i60_15 : ins 60 15 = some (.if_icmp .ne 21, 3) := (congrArg (fun x : PTy => x.1.lookup 15) q60).trans rfl
theorem i60_18 : ins 60 18 = some (.aload_n 0, 1) := (congrArg (fun x : PTy => x.1.lookup 18) q60).trans rfl
theorem i60_19 : ins 60 19 = some (.getfield 7, 3) := (congrArg (fun x : PTy => x.1.lookup 19) q60).trans rfl
theorem i60_22 : ins 60 22 = some (.aload_n 1, 1) := (congrArg (fun x : PTy => x.1.lookup 22) q60).trans rfl
theorem i60_23 : ins 60 23 = some (.getfield 27, 3) := (congrArg (fun x : PTy => x.1.lookup 23) q60).trans rfl
theorem i60_26 : ins 60 26 = some (.ishr, 1) := (congrArg (fun x : PTy => x.1.lookup 26) q60).trans rfl
theorem i60_27 : ins 60 27 = some (.iconst 1, 1) := (congrArg (fun x : PTy => x.1.lookup 27) q60).trans rfl
theorem i60_28 : ins 60 28 = some (.iand, 1) := (congrArg (fun x : PTy => x.1.lookup 28) q60).trans rfl
theorem i60_29 : ins 60 29 = some (.ifCond .ne 7, 3) := (congrArg (fun x : PTy => x.1.lookup 29) q60).trans rfl
theorem i60_32 : ins 60 32 = some (.iconst 1, 1) := (congrArg (fun x : PTy => x.1.lookup 32) q60).trans rfl
theorem i60_33 : ins 60 33 = some (.goto 4, 3) := (congrArg (fun x : PTy => x.1.lookup 33) q60).trans rfl
theorem i60_36 : ins 60 36 = some (.iconst 0, 1) := (congrArg (fun x : PTy => x.1.lookup 36) q60).trans rfl
theorem i60_37 : ins 60 37 = some (.ireturn, 1) := (congrArg (fun x : PTy => x.1.lookup 37) q60).trans rfl
theorem e60_0 {d : Nat} {Q : Option AV → St → Prop} {st : List AV} {σ : St} {l1 : Option AV} {x : Option (Nat × Nat × Nat)} : Rn (d) Q (60, 0, [some (vR x), l1], st, σ) = Rn (d) Q (60, 1, [some (vR x), l1], vR x :: st, σ) := E_aload_n i60_0 rfl
theorem e60_1 {d : Nat} {Q : Option AV → St → Prop} {st : List AV} {σ : St} {l0 l1 : Option AV} {i : Nat} : Rn (d) Q (60, 1, [l0, l1], vR (some (9, 0, i)) :: st, σ) = (i < gN σ 9 ∧ Rn (d) Q (60, 4, [l0, l1], vI (gI σ 9 0 i) :: st, σ)) := E_getI i60_1 ((congrArg (fun z => fldQ z 16) o60).trans f9_16) rfl
theorem e60_4 {d : Nat} {Q : Option AV → St → Prop} {st : List AV} {σ : St} {l0 : Option AV} {x : Option (Nat × Nat × Nat)} : Rn (d) Q (60, 4, [l0, some (vR x)], st, σ) = Rn (d) Q (60, 5, [l0, some (vR x)], vR x :: st, σ) := E_aload_n i60_4 rfl
theorem e60_5 {d : Nat} {Q : Option AV → St → Prop} {st : List AV} {σ : St} {l0 l1 : Option AV} {i : Nat} : Rn (d) Q (60, 5, [l0, l1], vR (some (8, 0, i)) :: st, σ) = (i < gN σ 8 ∧ Rn (d) Q (60, 8, [l0, l1], vI (gI σ 8 1 i) :: st, σ)) := E_getI i60_5 ((congrArg (fun z => fldQ z 22) o60).trans f9_22) rfl
theorem e60_8 {d : Nat} {Q : Option AV → St → Prop} {st : List AV} {σ : St} {l0 l1 : Option AV} : Rn (d) Q (60, 8, [l0, l1], st, σ) = Rn (d) Q (60, 10, [l0, l1], vI 10 :: st, σ) := by rw [E_bipush i60_8, cb_10]
theorem e60_10 {d : Nat} {Q : Option AV → St → Prop} {st : List AV} {σ : St} {l0 l1 : Option AV} {x y : Int32} : Rn (d) Q (60, 10, [l0, l1], vI y :: vI x :: st, σ) = (¬ y = 0 ∧ Rn (d) Q (60, 11, [l0, l1], vI (x / y) :: st, σ)) := E_idiv i60_10
theorem e60_11 {d : Nat} {Q : Option AV → St → Prop} {st : List AV} {σ : St} {l0 l1 : Option AV} {x y : Int32} : Rn (d) Q (60, 11, [l0, l1], vI y :: vI x :: st, σ) = Rn (d) Q (60, 12, [l0, l1], vI (x >>> (y &&& 31)) :: st, σ) := E_ishr i60_11
theorem e60_12 {d : Nat} {Q : Option AV → St → Prop} {st : List AV} {σ : St} {l0 l1 : Option AV} : Rn (d) Q (60, 12, [l0, l1], st, σ) = Rn (d) Q (60, 13, [l0, l1], vI 1 :: st, σ) := by rw [E_iconst i60_12, ci_1]
theorem e60_13 {d : Nat} {Q : Option AV → St → Prop} {st : List AV} {σ : St} {l0 l1 : Option AV} {x y : Int32} : Rn (d) Q (60, 13, [l0, l1], vI y :: vI x :: st, σ) = Rn (d) Q (60, 14, [l0, l1], vI (x &&& y) :: st, σ) := E_iand i60_13
theorem e60_14 {d : Nat} {Q : Option AV → St → Prop} {st : List AV} {σ : St} {l0 l1 : Option AV} : Rn (d) Q (60, 14, [l0, l1], st, σ) = Rn (d) Q (60, 15, [l0, l1], vI 1 :: st, σ) := by rw [E_iconst i60_14, ci_1]
theorem e60_15 {d : Nat} {Q : Option AV → St → Prop} {st : List AV} {σ : St} {l0 l1 : Option AV} {x y : Int32} : Rn (d) Q (60, 15, [l0, l1], vI y :: vI x :: st, σ) = (if x = y then Rn (d) Q (60, 18, [l0, l1], st, σ) else Rn (d) Q (60, 36, [l0, l1], st, σ)) := E_icmp_ne 36 i60_15 (by decide)
theorem e60_18 {d : Nat} {Q : Option AV → St → Prop} {st : List AV} {σ : St} {l1 : Option AV} {x : Option (Nat × Nat × Nat)} : Rn (d) Q (60, 18, [some (vR x), l1], st, σ) = Rn (d) Q (60, 19, [some (vR x), l1], vR x :: st, σ) := E_aload_n i60_18 rfl
theorem e60_19 {d : Nat} {Q : Option AV → St → Prop} {st : List AV} {σ : St} {l0 l1 : Option AV} {i : Nat} : Rn (d) Q (60, 19, [l0, l1], vR (some (9, 0, i)) :: st, σ) = (i < gN σ 9 ∧ Rn (d) Q (60, 22, [l0, l1], vI (gI σ 9 2 i) :: st, σ)) := E_getI i60_19 ((congrArg (fun z => fldQ z 7) o60).trans f9_7) rfl
theorem e60_22 {d : Nat} {Q : Option AV → St → Prop} {st : List AV} {σ : St} {l0 : Option AV} {x : Option (Nat × Nat × Nat)} : Rn (d) Q (60, 22, [l0, some (vR x)], st, σ) = Rn (d) Q (60, 23, [l0, some (vR x)], vR x :: st, σ) := E_aload_n i60_22 rfl
theorem e60_23 {d : Nat} {Q : Option AV → St → Prop} {st : List AV} {σ : St} {l0 l1 : Option AV} {i : Nat} : Rn (d) Q (60, 23, [l0, l1], vR (some (8, 0, i)) :: st, σ) = (i < gN σ 8 ∧ Rn (d) Q (60, 26, [l0, l1], vI (gI σ 8 0 i) :: st, σ)) := E_getI i60_23 ((congrArg (fun z => fldQ z 27) o60).trans f9_27) rfl
theorem e60_26 {d : Nat} {Q : Option AV → St → Prop} {st : List AV} {σ : St} {l0 l1 : Option AV} {x y : Int32} : Rn (d) Q (60, 26, [l0, l1], vI y :: vI x :: st, σ) = Rn (d) Q (60, 27, [l0, l1], vI (x >>> (y &&& 31)) :: st, σ) := E_ishr i60_26
theorem e60_27 {d : Nat} {Q : Option AV → St → Prop} {st : List AV} {σ : St} {l0 l1 : Option AV} : Rn (d) Q (60, 27, [l0, l1], st, σ) = Rn (d) Q (60, 28, [l0, l1], vI 1 :: st, σ) := by rw [E_iconst i60_27, ci_1]
theorem e60_28 {d : Nat} {Q : Option AV → St → Prop} {st : List AV} {σ : St} {l0 l1 : Option AV} {x y : Int32} : Rn (d) Q (60, 28, [l0, l1], vI y :: vI x :: st, σ) = Rn (d) Q (60, 29, [l0, l1], vI (x &&& y) :: st, σ) := E_iand i60_28
theorem e60_29 {d : Nat} {Q : Option AV → St → Prop} {st : List AV} {σ : St} {l0 l1 : Option AV} {x : Int32} : Rn (d) Q (60, 29, [l0, l1], vI x :: st, σ) = (if x = 0 then Rn (d) Q (60, 32, [l0, l1], st, σ) else Rn (d) Q (60, 36, [l0, l1], st, σ)) := E_if_ne 36 i60_29 (by decide)
theorem e60_32 {d : Nat} {Q : Option AV → St → Prop} {st : List AV} {σ : St} {l0 l1 : Option AV} : Rn (d) Q (60, 32, [l0, l1], st, σ) = Rn (d) Q (60, 33, [l0, l1], vI 1 :: st, σ) := by rw [E_iconst i60_32, ci_1]
theorem e60_33 {d : Nat} {Q : Option AV → St → Prop} {st : List AV} {σ : St} {l0 l1 : Option AV} : Rn (d) Q (60, 33, [l0, l1], st, σ) = Rn (d) Q (60, 37, [l0, l1], st, σ) := E_goto 37 i60_33 (by decide)
theorem e60_36 {d : Nat} {Q : Option AV → St → Prop} {st : List AV} {σ : St} {l0 l1 : Option AV} : Rn (d) Q (60, 36, [l0, l1], st, σ) = Rn (d) Q (60, 37, [l0, l1], vI 0 :: st, σ) := by rw [E_iconst i60_36, ci_0]
theorem e60_37 {d : Nat} {Q : Option AV → St → Prop} {σ : St} {l0 l1 : Option AV} {x : Int32} : Rn (d) Q (60, 37, [l0, l1], [vI x], σ) = ((x = 0 ∨ x = 1) ∧ Q (some (vI x)) σ) := E_iretZ (st := []) i60_37 r60
theorem i61_0 : ins 61 0 = some (.aload_n 0, 1) := (congrArg (fun x : PTy => x.1.lookup 0) q61).trans rfl
theorem i61_1 : ins 61 1 = some (.invokespecial 3, 3) := (congrArg (fun x : PTy => x.1.lookup 1) q61).trans rfl
theorem i61_4 : ins 61 4 = some (.aload_n 0, 1) := (congrArg (fun x : PTy => x.1.lookup 4) q61).trans rfl
theorem i61_5 : ins 61 5 = some (.sipush 256, 3) := (congrArg (fun x : PTy => x.1.lookup 5) q61).trans rfl
theorem i61_8 : ins 61 8 = some (.newarray .int, 2) := (congrArg (fun x : PTy => x.1.lookup 8) q61).trans rfl
theorem i61_10 : ins 61 10 = some (.putfield 11, 3) := (congrArg (fun x : PTy => x.1.lookup 10) q61).trans rfl
theorem i61_13 : ins 61 13 = some (.aload_n 0, 1) := (congrArg (fun x : PTy => x.1.lookup 13) q61).trans rfl
theorem i61_14 : ins 61 14 = some (.sipush 256, 3) := (congrArg (fun x : PTy => x.1.lookup 14) q61).trans rfl
theorem i61_17 : ins 61 17 = some (.newarray .int, 2) := (congrArg (fun x : PTy => x.1.lookup 17) q61).trans rfl
theorem i61_19 : ins 61 19 = some (.putfield 15, 3) := (congrArg (fun x : PTy => x.1.lookup 19) q61).trans rfl
theorem i61_22 : ins 61 22 = some (.aload_n 0, 1) := (congrArg (fun x : PTy => x.1.lookup 22) q61).trans rfl
theorem i61_23 : ins 61 23 = some (.bipush 8, 2) := (congrArg (fun x : PTy => x.1.lookup 23) q61).trans rfl
theorem i61_25 : ins 61 25 = some (.newarray .int, 2) := (congrArg (fun x : PTy => x.1.lookup 25) q61).trans rfl
theorem i61_27 : ins 61 27 = some (.putfield 18, 3) := (congrArg (fun x : PTy => x.1.lookup 27) q61).trans rfl
theorem i61_30 : ins 61 30 = some (.return_, 1) := (congrArg (fun x : PTy => x.1.lookup 30) q61).trans rfl
theorem e61_0 {d : Nat} {Q : Option AV → St → Prop} {st : List AV} {σ : St}  {x : Option (Nat × Nat × Nat)} : Rn (d) Q (61, 0, [some (vR x)], st, σ) = Rn (d) Q (61, 1, [some (vR x)], vR x :: st, σ) := E_aload_n i61_0 rfl
theorem e61_1 {d : Nat} {Q : Option AV → St → Prop} {st : List AV} {σ : St} {l0 : Option AV} {x : Nat × Nat × Nat} : Rn (d) Q (61, 1, [l0], vR (some x) :: st, σ) = (catS st ≤ 8 ∧ Rn (d) Q (61, 4, [l0], st, σ)) := E_objInit i61_1 ((congrArg (fun z => mthQ z 3) o61).trans m10_3)
theorem e61_4 {d : Nat} {Q : Option AV → St → Prop} {st : List AV} {σ : St}  {x : Option (Nat × Nat × Nat)} : Rn (d) Q (61, 4, [some (vR x)], st, σ) = Rn (d) Q (61, 5, [some (vR x)], vR x :: st, σ) := E_aload_n i61_4 rfl
theorem e61_5 {d : Nat} {Q : Option AV → St → Prop} {st : List AV} {σ : St} {l0 : Option AV} : Rn (d) Q (61, 5, [l0], st, σ) = Rn (d) Q (61, 8, [l0], vI 256 :: st, σ) := by rw [E_sipush i61_5, cs_256]
theorem e61_8 {d : Nat} {Q : Option AV → St → Prop} {st : List AV} {σ : St} {l0 : Option AV} {i : Nat} : Rn (d) Q (61, 8, [l0], vI 256 :: vR (some (10, 0, i)) :: st, σ) = (i < gN σ 10 ∧ gL σ 10 0 i = none ∧ Rn (d) Q (61, 13, [l0], st, newA σ 10 0 i 256)) := by rw [E_newarray i61_8 i61_10 ((congrArg (fun z => fldQ z 11) o61).trans f10_11) ⟨rfl, rfl⟩ (by decide) (Or.inr ⟨n61, o61⟩) (by decide +kernel), show (256 : Int32).toNatClampNeg = 256 by decide +kernel]
theorem e61_13 {d : Nat} {Q : Option AV → St → Prop} {st : List AV} {σ : St}  {x : Option (Nat × Nat × Nat)} : Rn (d) Q (61, 13, [some (vR x)], st, σ) = Rn (d) Q (61, 14, [some (vR x)], vR x :: st, σ) := E_aload_n i61_13 rfl
theorem e61_14 {d : Nat} {Q : Option AV → St → Prop} {st : List AV} {σ : St} {l0 : Option AV} : Rn (d) Q (61, 14, [l0], st, σ) = Rn (d) Q (61, 17, [l0], vI 256 :: st, σ) := by rw [E_sipush i61_14, cs_256]
theorem e61_17 {d : Nat} {Q : Option AV → St → Prop} {st : List AV} {σ : St} {l0 : Option AV} {i : Nat} : Rn (d) Q (61, 17, [l0], vI 256 :: vR (some (10, 0, i)) :: st, σ) = (i < gN σ 10 ∧ gL σ 10 1 i = none ∧ Rn (d) Q (61, 22, [l0], st, newA σ 10 1 i 256)) := by rw [E_newarray i61_17 i61_19 ((congrArg (fun z => fldQ z 15) o61).trans f10_15) ⟨rfl, rfl⟩ (by decide) (Or.inr ⟨n61, o61⟩) (by decide +kernel), show (256 : Int32).toNatClampNeg = 256 by decide +kernel]
theorem e61_22 {d : Nat} {Q : Option AV → St → Prop} {st : List AV} {σ : St}  {x : Option (Nat × Nat × Nat)} : Rn (d) Q (61, 22, [some (vR x)], st, σ) = Rn (d) Q (61, 23, [some (vR x)], vR x :: st, σ) := E_aload_n i61_22 rfl
theorem e61_23 {d : Nat} {Q : Option AV → St → Prop} {st : List AV} {σ : St} {l0 : Option AV} : Rn (d) Q (61, 23, [l0], st, σ) = Rn (d) Q (61, 25, [l0], vI 8 :: st, σ) := by rw [E_bipush i61_23, cb_8]
theorem e61_25 {d : Nat} {Q : Option AV → St → Prop} {st : List AV} {σ : St} {l0 : Option AV} {i : Nat} : Rn (d) Q (61, 25, [l0], vI 8 :: vR (some (10, 0, i)) :: st, σ) = (i < gN σ 10 ∧ gL σ 10 2 i = none ∧ Rn (d) Q (61, 30, [l0], st, newA σ 10 2 i 8)) := by rw [E_newarray i61_25 i61_27 ((congrArg (fun z => fldQ z 18) o61).trans f10_18) ⟨rfl, rfl⟩ (by decide) (Or.inr ⟨n61, o61⟩) (by decide +kernel), show (8 : Int32).toNatClampNeg = 8 by decide +kernel]
theorem e61_30 {d : Nat} {Q : Option AV → St → Prop} {σ : St} {l0 : Option AV} : Rn (d) Q (61, 30, [l0], [], σ) = Q none σ := E_ret (st := []) i61_30 r61
theorem i62_0 : ins 62 0 = some (.aload_n 0, 1) := (congrArg (fun x : PTy => x.1.lookup 0) q62).trans rfl
theorem i62_1 : ins 62 1 = some (.getfield 11, 3) := (congrArg (fun x : PTy => x.1.lookup 1) q62).trans rfl
theorem i62_4 : ins 62 4 = some (.bipush (-4), 2) := (congrArg (fun x : PTy => x.1.lookup 4) q62).trans rfl
theorem i62_6 : ins 62 6 = some (.invokestatic 21, 3) := (congrArg (fun x : PTy => x.1.lookup 6) q62).trans rfl
theorem i62_9 : ins 62 9 = some (.aload_n 0, 1) := (congrArg (fun x : PTy => x.1.lookup 9) q62).trans rfl
theorem i62_10 : ins 62 10 = some (.getfield 11, 3) := (congrArg (fun x : PTy => x.1.lookup 10) q62).trans rfl
theorem i62_13 : ins 62 13 = some (.iconst 0, 1) := (congrArg (fun x : PTy => x.1.lookup 13) q62).trans rfl
theorem i62_14 : ins 62 14 = some (.iconst 0, 1) := (congrArg (fun x : PTy => x.1.lookup 14) q62).trans rfl
theorem i62_15 : ins 62 15 = some (.iastore, 1) := (congrArg (fun x : PTy => x.1.lookup 15) q62).trans rfl
theorem i62_16 : ins 62 16 = some (.aload_n 0, 1) := (congrArg (fun x : PTy => x.1.lookup 16) q62).trans rfl
theorem i62_17 : ins 62 17 = some (.getfield 15, 3) := (congrArg (fun x : PTy => x.1.lookup 17) q62).trans rfl
theorem i62_20 : ins 62 20 = some (.iconst 0, 1) := (congrArg (fun x : PTy => x.1.lookup 20) q62).trans rfl
theorem i62_21 : ins 62 21 = some (.iconst 0, 1) := (congrArg (fun x : PTy => x.1.lookup 21) q62).trans rfl
theorem i62_22 : ins 62 22 = some (.iastore, 1) := (congrArg (fun x : PTy => x.1.lookup 22) q62).trans rfl
theorem i62_23 : ins 62 23 = some (.iconst 1, 1) := (congrArg (fun x : PTy => x.1.lookup 23) q62).trans rfl
theorem i62_24 : ins 62 24 = some (.istore 4, 2) := (congrArg (fun x : PTy => x.1.lookup 24) q62).trans rfl
theorem i62_26 : ins 62 26 = some (.iconst 0, 1) := (congrArg (fun x : PTy => x.1.lookup 26) q62).trans rfl
theorem i62_27 : ins 62 27 = some (.istore 5, 2) := (congrArg (fun x : PTy => x.1.lookup 27) q62).trans rfl
theorem i62_29 : ins 62 29 = some (.iload 5, 2) := (congrArg (fun x : PTy => x.1.lookup 29) q62).trans rfl
theorem i62_31 : ins 62 31 = some (.iload 4, 2) := (congrArg (fun x : PTy => x.1.lookup 31) q62).trans rfl
theorem i62_33 : ins 62 33 = some (.if_icmp .ge 68, 3) := (congrArg (fun x : PTy => x.1.lookup 33) q62).trans rfl
theorem i62_36 : ins 62 36 = some (.iload 5, 2) := (congrArg (fun x : PTy => x.1.lookup 36) q62).trans rfl
theorem i62_38 : ins 62 38 = some (.sipush 256, 3) := (congrArg (fun x : PTy => x.1.lookup 38) q62).trans rfl
theorem i62_41 : ins 62 41 = some (.if_icmp .ge 60, 3) := (congrArg (fun x : PTy => x.1.lookup 41) q62).trans rfl
theorem i62_44 : ins 62 44 = some (.aload_n 0, 1) := (congrArg (fun x : PTy => x.1.lookup 44) q62).trans rfl
theorem i62_45 : ins 62 45 = some (.getfield 15, 3) := (congrArg (fun x : PTy => x.1.lookup 45) q62).trans rfl
theorem i62_48 : ins 62 48 = some (.iload 5, 2) := (congrArg (fun x : PTy => x.1.lookup 48) q62).trans rfl
theorem i62_50 : ins 62 50 = some (.iaload, 1) := (congrArg (fun x : PTy => x.1.lookup 50) q62).trans rfl
theorem i62_51 : ins 62 51 = some (.istore 6, 2) := (congrArg (fun x : PTy => x.1.lookup 51) q62).trans rfl
theorem i62_53 : ins 62 53 = some (.aload_n 0, 1) := (congrArg (fun x : PTy => x.1.lookup 53) q62).trans rfl
theorem i62_54 : ins 62 54 = some (.aload_n 2, 1) := (congrArg (fun x : PTy => x.1.lookup 54) q62).trans rfl
theorem i62_55 : ins 62 55 = some (.iload 6, 2) := (congrArg (fun x : PTy => x.1.lookup 55) q62).trans rfl
theorem i62_57 : ins 62 57 = some (.invokevirtual 27, 3) := (congrArg (fun x : PTy => x.1.lookup 57) q62).trans rfl
theorem i62_60 : ins 62 60 = some (.aload_n 1, 1) := (congrArg (fun x : PTy => x.1.lookup 60) q62).trans rfl
theorem i62_61 : ins 62 61 = some (.aload_n 0, 1) := (congrArg (fun x : PTy => x.1.lookup 61) q62).trans rfl
theorem i62_62 : ins 62 62 = some (.getfield 18, 3) := (congrArg (fun x : PTy => x.1.lookup 62) q62).trans rfl
theorem i62_65 : ins 62 65 = some (.invokevirtual 30, 3) := (congrArg (fun x : PTy => x.1.lookup 65) q62).trans rfl
theorem i62_68 : ins 62 68 = some (.iload_n 3, 1) := (congrArg (fun x : PTy => x.1.lookup 68) q62).trans rfl
theorem i62_69 : ins 62 69 = some (.ishr, 1) := (congrArg (fun x : PTy => x.1.lookup 69) q62).trans rfl
theorem i62_70 : ins 62 70 = some (.iconst 1, 1) := (congrArg (fun x : PTy => x.1.lookup 70) q62).trans rfl
theorem i62_71 : ins 62 71 = some (.iand, 1) := (congrArg (fun x : PTy => x.1.lookup 71) q62).trans rfl
theorem i62_72 : ins 62 72 = some (.iconst 1, 1) := (congrArg (fun x : PTy => x.1.lookup 72) q62).trans rfl
theorem i62_73 : ins 62 73 = some (.if_icmp .ne 11, 3) := (congrArg (fun x : PTy => x.1.lookup 73) q62).trans rfl
theorem i62_76 : ins 62 76 = some (.aload_n 0, 1) := (congrArg (fun x : PTy => x.1.lookup 76) q62).trans rfl
theorem i62_77 : ins 62 77 = some (.getfield 11, 3) := (congrArg (fun x : PTy => x.1.lookup 77) q62).trans rfl
theorem i62_80 : ins 62 80 = some (.iload 6, 2) := (congrArg (fun x : PTy => x.1.lookup 80) q62).trans rfl
theorem i62_82 : ins 62 82 = some (.iaload, 1) := (congrArg (fun x : PTy => x.1.lookup 82) q62).trans rfl
theorem i62_83 : ins 62 83 = some (.ireturn, 1) := (congrArg (fun x : PTy => x.1.lookup 83) q62).trans rfl
theorem i62_84 : ins 62 84 = some (.aload_n 0, 1) := (congrArg (fun x : PTy => x.1.lookup 84) q62).trans rfl
theorem i62_85 : ins 62 85 = some (.aload_n 1, 1) := (congrArg (fun x : PTy => x.1.lookup 85) q62).trans rfl
theorem i62_86 : ins 62 86 = some (.iload 6, 2) := (congrArg (fun x : PTy => x.1.lookup 86) q62).trans rfl
theorem i62_88 : ins 62 88 = some (.iload 4, 2) := (congrArg (fun x : PTy => x.1.lookup 88) q62).trans rfl
theorem i62_90 : ins 62 90 = some (.invokevirtual 36, 3) := (congrArg (fun x : PTy => x.1.lookup 90) q62).trans rfl
theorem i62_93 : ins 62 93 = some (.istore 4, 2) := (congrArg (fun x : PTy => x.1.lookup 93) q62).trans rfl
theorem i62_95 : ins 62 95 = some (.iinc 5 1, 3) := (congrArg (fun x : PTy => x.1.lookup 95) q62).trans rfl
theorem i62_98 : ins 62 98 = some (.goto (-69), 3) := (congrArg (fun x : PTy => x.1.lookup 98) q62).trans rfl
theorem i62_101 : ins 62 101 = some (.bipush (-4), 2) := (congrArg (fun x : PTy => x.1.lookup 101) q62).trans rfl
theorem i62_103 : ins 62 103 = some (.ireturn, 1) := (congrArg (fun x : PTy => x.1.lookup 103) q62).trans rfl
theorem e62_0 {d : Nat} {Q : Option AV → St → Prop} {st : List AV} {σ : St} {l1 l2 l3 l4 l5 l6 : Option AV} {x : Option (Nat × Nat × Nat)} : Rn (d) Q (62, 0, [some (vR x), l1, l2, l3, l4, l5, l6], st, σ) = Rn (d) Q (62, 1, [some (vR x), l1, l2, l3, l4, l5, l6], vR x :: st, σ) := E_aload_n i62_0 rfl
theorem e62_1 {d : Nat} {Q : Option AV → St → Prop} {st : List AV} {σ : St} {l0 l1 l2 l3 l4 l5 l6 : Option AV} {i : Nat} : Rn (d) Q (62, 1, [l0, l1, l2, l3, l4, l5, l6], vR (some (10, 0, i)) :: st, σ) = (i < gN σ 10 ∧ ¬ gL σ 10 0 i = none ∧ Rn (d) Q (62, 4, [l0, l1, l2, l3, l4, l5, l6], vR (some (10, 1, i)) :: st, σ)) := E_getA i62_1 ((congrArg (fun z => fldQ z 11) o62).trans f10_11) (Or.inl rfl)
theorem e62_4 {d : Nat} {Q : Option AV → St → Prop} {st : List AV} {σ : St} {l0 l1 l2 l3 l4 l5 l6 : Option AV} : Rn (d) Q (62, 4, [l0, l1, l2, l3, l4, l5, l6], st, σ) = Rn (d) Q (62, 6, [l0, l1, l2, l3, l4, l5, l6], vI (-4) :: st, σ) := by rw [E_bipush i62_4, cb_m4]
theorem e62_6 {d : Nat} {Q : Option AV → St → Prop} {st : List AV} {σ : St} {l0 l1 l2 l3 l4 l5 l6 : Option AV} {a0 : Option (Nat × Nat × Nat)} {a1 : Int32} : Rn (d + 1) Q (62, 6, [l0, l1, l2, l3, l4, l5, l6], vI a1 :: vR a0 :: st, σ) = (catS st ≤ 8 ∧ Rn d (fun r σ' => Rn (d + 1) Q (62, 9, [l0, l1, l2, l3, l4, l5, l6], r.toList ++ st, σ')) (217, 0, [some (vR a0), some (vI a1), none, none], [], σ)) := E_invS1 (a := [vI a1, vR a0]) i62_6 ((congrArg (fun z => mthQ z 21) o62).trans m10_21) rfl (ek217 a0 a1) (en217 a0 a1)
theorem e62_9 {d : Nat} {Q : Option AV → St → Prop} {st : List AV} {σ : St} {l1 l2 l3 l4 l5 l6 : Option AV} {x : Option (Nat × Nat × Nat)} : Rn (d) Q (62, 9, [some (vR x), l1, l2, l3, l4, l5, l6], st, σ) = Rn (d) Q (62, 10, [some (vR x), l1, l2, l3, l4, l5, l6], vR x :: st, σ) := E_aload_n i62_9 rfl
theorem e62_10 {d : Nat} {Q : Option AV → St → Prop} {st : List AV} {σ : St} {l0 l1 l2 l3 l4 l5 l6 : Option AV} {i : Nat} : Rn (d) Q (62, 10, [l0, l1, l2, l3, l4, l5, l6], vR (some (10, 0, i)) :: st, σ) = (i < gN σ 10 ∧ ¬ gL σ 10 0 i = none ∧ Rn (d) Q (62, 13, [l0, l1, l2, l3, l4, l5, l6], vR (some (10, 1, i)) :: st, σ)) := E_getA i62_10 ((congrArg (fun z => fldQ z 11) o62).trans f10_11) (Or.inl rfl)
theorem e62_13 {d : Nat} {Q : Option AV → St → Prop} {st : List AV} {σ : St} {l0 l1 l2 l3 l4 l5 l6 : Option AV} : Rn (d) Q (62, 13, [l0, l1, l2, l3, l4, l5, l6], st, σ) = Rn (d) Q (62, 14, [l0, l1, l2, l3, l4, l5, l6], vI 0 :: st, σ) := by rw [E_iconst i62_13, ci_0]
theorem e62_14 {d : Nat} {Q : Option AV → St → Prop} {st : List AV} {σ : St} {l0 l1 l2 l3 l4 l5 l6 : Option AV} : Rn (d) Q (62, 14, [l0, l1, l2, l3, l4, l5, l6], st, σ) = Rn (d) Q (62, 15, [l0, l1, l2, l3, l4, l5, l6], vI 0 :: st, σ) := by rw [E_iconst i62_14, ci_0]
theorem e62_15 {d : Nat} {Q : Option AV → St → Prop} {st : List AV} {σ : St} {l0 l1 l2 l3 l4 l5 l6 : Option AV} {i : Nat} {j x : Int32} : Rn (d) Q (62, 15, [l0, l1, l2, l3, l4, l5, l6], vI x :: vI j :: vR (some (10, 1, i)) :: st, σ) = (∃ n, gL σ 10 0 i = some n ∧ i < gN σ 10 ∧ (0 ≤ j.toInt ∧ j.toInt < n) ∧ Rn (d) Q (62, 16, [l0, l1, l2, l3, l4, l5, l6], st, setA σ 10 0 i (upd (gA σ 10 0 i) j.toNatClampNeg x))) := E_iastore1 i62_15 rfl (by decide)
theorem e62_16 {d : Nat} {Q : Option AV → St → Prop} {st : List AV} {σ : St} {l1 l2 l3 l4 l5 l6 : Option AV} {x : Option (Nat × Nat × Nat)} : Rn (d) Q (62, 16, [some (vR x), l1, l2, l3, l4, l5, l6], st, σ) = Rn (d) Q (62, 17, [some (vR x), l1, l2, l3, l4, l5, l6], vR x :: st, σ) := E_aload_n i62_16 rfl
theorem e62_17 {d : Nat} {Q : Option AV → St → Prop} {st : List AV} {σ : St} {l0 l1 l2 l3 l4 l5 l6 : Option AV} {i : Nat} : Rn (d) Q (62, 17, [l0, l1, l2, l3, l4, l5, l6], vR (some (10, 0, i)) :: st, σ) = (i < gN σ 10 ∧ ¬ gL σ 10 1 i = none ∧ Rn (d) Q (62, 20, [l0, l1, l2, l3, l4, l5, l6], vR (some (10, 2, i)) :: st, σ)) := E_getA i62_17 ((congrArg (fun z => fldQ z 15) o62).trans f10_15) (Or.inl rfl)
theorem e62_20 {d : Nat} {Q : Option AV → St → Prop} {st : List AV} {σ : St} {l0 l1 l2 l3 l4 l5 l6 : Option AV} : Rn (d) Q (62, 20, [l0, l1, l2, l3, l4, l5, l6], st, σ) = Rn (d) Q (62, 21, [l0, l1, l2, l3, l4, l5, l6], vI 0 :: st, σ) := by rw [E_iconst i62_20, ci_0]
theorem e62_21 {d : Nat} {Q : Option AV → St → Prop} {st : List AV} {σ : St} {l0 l1 l2 l3 l4 l5 l6 : Option AV} : Rn (d) Q (62, 21, [l0, l1, l2, l3, l4, l5, l6], st, σ) = Rn (d) Q (62, 22, [l0, l1, l2, l3, l4, l5, l6], vI 0 :: st, σ) := by rw [E_iconst i62_21, ci_0]
theorem e62_22 {d : Nat} {Q : Option AV → St → Prop} {st : List AV} {σ : St} {l0 l1 l2 l3 l4 l5 l6 : Option AV} {i : Nat} {j x : Int32} : Rn (d) Q (62, 22, [l0, l1, l2, l3, l4, l5, l6], vI x :: vI j :: vR (some (10, 2, i)) :: st, σ) = (∃ n, gL σ 10 1 i = some n ∧ i < gN σ 10 ∧ (0 ≤ j.toInt ∧ j.toInt < n) ∧ Rn (d) Q (62, 23, [l0, l1, l2, l3, l4, l5, l6], st, setA σ 10 1 i (upd (gA σ 10 1 i) j.toNatClampNeg x))) := E_iastore1 i62_22 rfl (by decide)
theorem e62_23 {d : Nat} {Q : Option AV → St → Prop} {st : List AV} {σ : St} {l0 l1 l2 l3 l4 l5 l6 : Option AV} : Rn (d) Q (62, 23, [l0, l1, l2, l3, l4, l5, l6], st, σ) = Rn (d) Q (62, 24, [l0, l1, l2, l3, l4, l5, l6], vI 1 :: st, σ) := by rw [E_iconst i62_23, ci_1]
theorem s62_4 : okst 62 4 = true := by unfold okst; rw [x62]; rfl
theorem e62_24 {d : Nat} {Q : Option AV → St → Prop} {st : List AV} {σ : St} {l0 l1 l2 l3 l4 l5 l6 : Option AV} {x : Int32} : Rn (d) Q (62, 24, [l0, l1, l2, l3, l4, l5, l6], vI x :: st, σ) = Rn (d) Q (62, 26, [l0, l1, l2, l3, some (vI x), l5, l6], st, σ) := E_istore i62_24 s62_4
theorem e62_26 {d : Nat} {Q : Option AV → St → Prop} {st : List AV} {σ : St} {l0 l1 l2 l3 l4 l5 l6 : Option AV} : Rn (d) Q (62, 26, [l0, l1, l2, l3, l4, l5, l6], st, σ) = Rn (d) Q (62, 27, [l0, l1, l2, l3, l4, l5, l6], vI 0 :: st, σ) := by rw [E_iconst i62_26, ci_0]
theorem s62_5 : okst 62 5 = true := by unfold okst; rw [x62]; rfl
theorem e62_27 {d : Nat} {Q : Option AV → St → Prop} {st : List AV} {σ : St} {l0 l1 l2 l3 l4 l5 l6 : Option AV} {x : Int32} : Rn (d) Q (62, 27, [l0, l1, l2, l3, l4, l5, l6], vI x :: st, σ) = Rn (d) Q (62, 29, [l0, l1, l2, l3, l4, some (vI x), l6], st, σ) := E_istore i62_27 s62_5
theorem e62_29 {d : Nat} {Q : Option AV → St → Prop} {st : List AV} {σ : St} {l0 l1 l2 l3 l4 l6 : Option AV} {x : Int32} : Rn (d) Q (62, 29, [l0, l1, l2, l3, l4, some (vI x), l6], st, σ) = Rn (d) Q (62, 31, [l0, l1, l2, l3, l4, some (vI x), l6], vI x :: st, σ) := E_iload i62_29 rfl
theorem e62_31 {d : Nat} {Q : Option AV → St → Prop} {st : List AV} {σ : St} {l0 l1 l2 l3 l5 l6 : Option AV} {x : Int32} : Rn (d) Q (62, 31, [l0, l1, l2, l3, some (vI x), l5, l6], st, σ) = Rn (d) Q (62, 33, [l0, l1, l2, l3, some (vI x), l5, l6], vI x :: st, σ) := E_iload i62_31 rfl
theorem e62_33 {d : Nat} {Q : Option AV → St → Prop} {st : List AV} {σ : St} {l0 l1 l2 l3 l4 l5 l6 : Option AV} {x y : Int32} : Rn (d) Q (62, 33, [l0, l1, l2, l3, l4, l5, l6], vI y :: vI x :: st, σ) = (if y ≤ x then Rn (d) Q (62, 101, [l0, l1, l2, l3, l4, l5, l6], st, σ) else Rn (d) Q (62, 36, [l0, l1, l2, l3, l4, l5, l6], st, σ)) := E_icmp_ge 101 i62_33 (by decide)
theorem e62_36 {d : Nat} {Q : Option AV → St → Prop} {st : List AV} {σ : St} {l0 l1 l2 l3 l4 l6 : Option AV} {x : Int32} : Rn (d) Q (62, 36, [l0, l1, l2, l3, l4, some (vI x), l6], st, σ) = Rn (d) Q (62, 38, [l0, l1, l2, l3, l4, some (vI x), l6], vI x :: st, σ) := E_iload i62_36 rfl
theorem e62_38 {d : Nat} {Q : Option AV → St → Prop} {st : List AV} {σ : St} {l0 l1 l2 l3 l4 l5 l6 : Option AV} : Rn (d) Q (62, 38, [l0, l1, l2, l3, l4, l5, l6], st, σ) = Rn (d) Q (62, 41, [l0, l1, l2, l3, l4, l5, l6], vI 256 :: st, σ) := by rw [E_sipush i62_38, cs_256]
theorem e62_41 {d : Nat} {Q : Option AV → St → Prop} {st : List AV} {σ : St} {l0 l1 l2 l3 l4 l5 l6 : Option AV} {x y : Int32} : Rn (d) Q (62, 41, [l0, l1, l2, l3, l4, l5, l6], vI y :: vI x :: st, σ) = (if y ≤ x then Rn (d) Q (62, 101, [l0, l1, l2, l3, l4, l5, l6], st, σ) else Rn (d) Q (62, 44, [l0, l1, l2, l3, l4, l5, l6], st, σ)) := E_icmp_ge 101 i62_41 (by decide)
theorem e62_44 {d : Nat} {Q : Option AV → St → Prop} {st : List AV} {σ : St} {l1 l2 l3 l4 l5 l6 : Option AV} {x : Option (Nat × Nat × Nat)} : Rn (d) Q (62, 44, [some (vR x), l1, l2, l3, l4, l5, l6], st, σ) = Rn (d) Q (62, 45, [some (vR x), l1, l2, l3, l4, l5, l6], vR x :: st, σ) := E_aload_n i62_44 rfl
theorem e62_45 {d : Nat} {Q : Option AV → St → Prop} {st : List AV} {σ : St} {l0 l1 l2 l3 l4 l5 l6 : Option AV} {i : Nat} : Rn (d) Q (62, 45, [l0, l1, l2, l3, l4, l5, l6], vR (some (10, 0, i)) :: st, σ) = (i < gN σ 10 ∧ ¬ gL σ 10 1 i = none ∧ Rn (d) Q (62, 48, [l0, l1, l2, l3, l4, l5, l6], vR (some (10, 2, i)) :: st, σ)) := E_getA i62_45 ((congrArg (fun z => fldQ z 15) o62).trans f10_15) (Or.inl rfl)
theorem e62_48 {d : Nat} {Q : Option AV → St → Prop} {st : List AV} {σ : St} {l0 l1 l2 l3 l4 l6 : Option AV} {x : Int32} : Rn (d) Q (62, 48, [l0, l1, l2, l3, l4, some (vI x), l6], st, σ) = Rn (d) Q (62, 50, [l0, l1, l2, l3, l4, some (vI x), l6], vI x :: st, σ) := E_iload i62_48 rfl
theorem e62_50 {d : Nat} {Q : Option AV → St → Prop} {st : List AV} {σ : St} {l0 l1 l2 l3 l4 l5 l6 : Option AV} {i : Nat} {j : Int32} : Rn (d) Q (62, 50, [l0, l1, l2, l3, l4, l5, l6], vI j :: vR (some (10, 2, i)) :: st, σ) = (∃ n, gL σ 10 1 i = some n ∧ i < gN σ 10 ∧ (0 ≤ j.toInt ∧ j.toInt < n) ∧ Rn (d) Q (62, 51, [l0, l1, l2, l3, l4, l5, l6], vI (gA σ 10 1 i j.toNatClampNeg) :: st, σ)) := E_iaload1 i62_50 rfl
theorem s62_6 : okst 62 6 = true := by unfold okst; rw [x62]; rfl
theorem e62_51 {d : Nat} {Q : Option AV → St → Prop} {st : List AV} {σ : St} {l0 l1 l2 l3 l4 l5 l6 : Option AV} {x : Int32} : Rn (d) Q (62, 51, [l0, l1, l2, l3, l4, l5, l6], vI x :: st, σ) = Rn (d) Q (62, 53, [l0, l1, l2, l3, l4, l5, some (vI x)], st, σ) := E_istore i62_51 s62_6
theorem e62_53 {d : Nat} {Q : Option AV → St → Prop} {st : List AV} {σ : St} {l1 l2 l3 l4 l5 l6 : Option AV} {x : Option (Nat × Nat × Nat)} : Rn (d) Q (62, 53, [some (vR x), l1, l2, l3, l4, l5, l6], st, σ) = Rn (d) Q (62, 54, [some (vR x), l1, l2, l3, l4, l5, l6], vR x :: st, σ) := E_aload_n i62_53 rfl
theorem e62_54 {d : Nat} {Q : Option AV → St → Prop} {st : List AV} {σ : St} {l0 l1 l3 l4 l5 l6 : Option AV} {x : Option (Nat × Nat × Nat)} : Rn (d) Q (62, 54, [l0, l1, some (vR x), l3, l4, l5, l6], st, σ) = Rn (d) Q (62, 55, [l0, l1, some (vR x), l3, l4, l5, l6], vR x :: st, σ) := E_aload_n i62_54 rfl
theorem e62_55 {d : Nat} {Q : Option AV → St → Prop} {st : List AV} {σ : St} {l0 l1 l2 l3 l4 l5 : Option AV} {x : Int32} : Rn (d) Q (62, 55, [l0, l1, l2, l3, l4, l5, some (vI x)], st, σ) = Rn (d) Q (62, 57, [l0, l1, l2, l3, l4, l5, some (vI x)], vI x :: st, σ) := E_iload i62_55 rfl
theorem e62_57 {d : Nat} {Q : Option AV → St → Prop} {st : List AV} {σ : St} {l0 l1 l2 l3 l4 l5 l6 : Option AV} {i : Nat} {a1 : Option (Nat × Nat × Nat)} {a2 : Int32} : Rn (d + 1) Q (62, 57, [l0, l1, l2, l3, l4, l5, l6], vI a2 :: vR a1 :: vR (some (10, 0, i)) :: st, σ) = (i < gN σ 10 ∧ catS st ≤ 8 ∧ Rn d (fun r σ' => Rn (d + 1) Q (62, 60, [l0, l1, l2, l3, l4, l5, l6], r.toList ++ st, σ')) (63, 0, [some (vR (some (10, 0, i))), some (vR a1), some (vI a2), none], [], σ)) := E_invV (a := [vI a2, vR a1]) i62_57 ((congrArg (fun z => mthQ z 27) o62).trans m10_27) o63 rfl (ek63 i a1 a2) (en63 i a1 a2)
theorem e62_60 {d : Nat} {Q : Option AV → St → Prop} {st : List AV} {σ : St} {l0 l2 l3 l4 l5 l6 : Option AV} {x : Option (Nat × Nat × Nat)} : Rn (d) Q (62, 60, [l0, some (vR x), l2, l3, l4, l5, l6], st, σ) = Rn (d) Q (62, 61, [l0, some (vR x), l2, l3, l4, l5, l6], vR x :: st, σ) := E_aload_n i62_60 rfl
theorem e62_61 {d : Nat} {Q : Option AV → St → Prop} {st : List AV} {σ : St} {l1 l2 l3 l4 l5 l6 : Option AV} {x : Option (Nat × Nat × Nat)} : Rn (d) Q (62, 61, [some (vR x), l1, l2, l3, l4, l5, l6], st, σ) = Rn (d) Q (62, 62, [some (vR x), l1, l2, l3, l4, l5, l6], vR x :: st, σ) := E_aload_n i62_61 rfl
theorem e62_62 {d : Nat} {Q : Option AV → St → Prop} {st : List AV} {σ : St} {l0 l1 l2 l3 l4 l5 l6 : Option AV} {i : Nat} : Rn (d) Q (62, 62, [l0, l1, l2, l3, l4, l5, l6], vR (some (10, 0, i)) :: st, σ) = (i < gN σ 10 ∧ ¬ gL σ 10 2 i = none ∧ Rn (d) Q (62, 65, [l0, l1, l2, l3, l4, l5, l6], vR (some (10, 3, i)) :: st, σ)) := E_getA i62_62 ((congrArg (fun z => fldQ z 18) o62).trans f10_18) (Or.inl rfl)
theorem e62_65 {d : Nat} {Q : Option AV → St → Prop} {st : List AV} {σ : St} {l0 l1 l2 l3 l4 l5 l6 : Option AV} {i : Nat} {a1 : Option (Nat × Nat × Nat)} : Rn (d + 1) Q (62, 65, [l0, l1, l2, l3, l4, l5, l6], vR a1 :: vR (some (0, 0, i)) :: st, σ) = (i < gN σ 0 ∧ catS st ≤ 8 ∧ Rn d (fun r σ' => Rn (d + 1) Q (62, 68, [l0, l1, l2, l3, l4, l5, l6], r.toList ++ st, σ')) (11, 0, [some (vR (some (0, 0, i))), some (vR a1), none, none], [], σ)) := E_invV (a := [vR a1]) i62_65 ((congrArg (fun z => mthQ z 30) o62).trans m10_30) o11 rfl (ek11 i a1) (en11 i a1)
theorem e62_68 {d : Nat} {Q : Option AV → St → Prop} {st : List AV} {σ : St} {l0 l1 l2 l4 l5 l6 : Option AV} {x : Int32} : Rn (d) Q (62, 68, [l0, l1, l2, some (vI x), l4, l5, l6], st, σ) = Rn (d) Q (62, 69, [l0, l1, l2, some (vI x), l4, l5, l6], vI x :: st, σ) := E_iload_n i62_68 rfl
theorem e62_69 {d : Nat} {Q : Option AV → St → Prop} {st : List AV} {σ : St} {l0 l1 l2 l3 l4 l5 l6 : Option AV} {x y : Int32} : Rn (d) Q (62, 69, [l0, l1, l2, l3, l4, l5, l6], vI y :: vI x :: st, σ) = Rn (d) Q (62, 70, [l0, l1, l2, l3, l4, l5, l6], vI (x >>> (y &&& 31)) :: st, σ) := E_ishr i62_69
theorem e62_70 {d : Nat} {Q : Option AV → St → Prop} {st : List AV} {σ : St} {l0 l1 l2 l3 l4 l5 l6 : Option AV} : Rn (d) Q (62, 70, [l0, l1, l2, l3, l4, l5, l6], st, σ) = Rn (d) Q (62, 71, [l0, l1, l2, l3, l4, l5, l6], vI 1 :: st, σ) := by rw [E_iconst i62_70, ci_1]
theorem e62_71 {d : Nat} {Q : Option AV → St → Prop} {st : List AV} {σ : St} {l0 l1 l2 l3 l4 l5 l6 : Option AV} {x y : Int32} : Rn (d) Q (62, 71, [l0, l1, l2, l3, l4, l5, l6], vI y :: vI x :: st, σ) = Rn (d) Q (62, 72, [l0, l1, l2, l3, l4, l5, l6], vI (x &&& y) :: st, σ) := E_iand i62_71
theorem e62_72 {d : Nat} {Q : Option AV → St → Prop} {st : List AV} {σ : St} {l0 l1 l2 l3 l4 l5 l6 : Option AV} : Rn (d) Q (62, 72, [l0, l1, l2, l3, l4, l5, l6], st, σ) = Rn (d) Q (62, 73, [l0, l1, l2, l3, l4, l5, l6], vI 1 :: st, σ) := by rw [E_iconst i62_72, ci_1]
theorem e62_73 {d : Nat} {Q : Option AV → St → Prop} {st : List AV} {σ : St} {l0 l1 l2 l3 l4 l5 l6 : Option AV} {x y : Int32} : Rn (d) Q (62, 73, [l0, l1, l2, l3, l4, l5, l6], vI y :: vI x :: st, σ) = (if x = y then Rn (d) Q (62, 76, [l0, l1, l2, l3, l4, l5, l6], st, σ) else Rn (d) Q (62, 84, [l0, l1, l2, l3, l4, l5, l6], st, σ)) := E_icmp_ne 84 i62_73 (by decide)
theorem e62_76 {d : Nat} {Q : Option AV → St → Prop} {st : List AV} {σ : St} {l1 l2 l3 l4 l5 l6 : Option AV} {x : Option (Nat × Nat × Nat)} : Rn (d) Q (62, 76, [some (vR x), l1, l2, l3, l4, l5, l6], st, σ) = Rn (d) Q (62, 77, [some (vR x), l1, l2, l3, l4, l5, l6], vR x :: st, σ) := E_aload_n i62_76 rfl
theorem e62_77 {d : Nat} {Q : Option AV → St → Prop} {st : List AV} {σ : St} {l0 l1 l2 l3 l4 l5 l6 : Option AV} {i : Nat} : Rn (d) Q (62, 77, [l0, l1, l2, l3, l4, l5, l6], vR (some (10, 0, i)) :: st, σ) = (i < gN σ 10 ∧ ¬ gL σ 10 0 i = none ∧ Rn (d) Q (62, 80, [l0, l1, l2, l3, l4, l5, l6], vR (some (10, 1, i)) :: st, σ)) := E_getA i62_77 ((congrArg (fun z => fldQ z 11) o62).trans f10_11) (Or.inl rfl)
theorem e62_80 {d : Nat} {Q : Option AV → St → Prop} {st : List AV} {σ : St} {l0 l1 l2 l3 l4 l5 : Option AV} {x : Int32} : Rn (d) Q (62, 80, [l0, l1, l2, l3, l4, l5, some (vI x)], st, σ) = Rn (d) Q (62, 82, [l0, l1, l2, l3, l4, l5, some (vI x)], vI x :: st, σ) := E_iload i62_80 rfl
theorem e62_82 {d : Nat} {Q : Option AV → St → Prop} {st : List AV} {σ : St} {l0 l1 l2 l3 l4 l5 l6 : Option AV} {i : Nat} {j : Int32} : Rn (d) Q (62, 82, [l0, l1, l2, l3, l4, l5, l6], vI j :: vR (some (10, 1, i)) :: st, σ) = (∃ n, gL σ 10 0 i = some n ∧ i < gN σ 10 ∧ (0 ≤ j.toInt ∧ j.toInt < n) ∧ Rn (d) Q (62, 83, [l0, l1, l2, l3, l4, l5, l6], vI (gA σ 10 0 i j.toNatClampNeg) :: st, σ)) := E_iaload1 i62_82 rfl
theorem e62_83 {d : Nat} {Q : Option AV → St → Prop} {σ : St} {l0 l1 l2 l3 l4 l5 l6 : Option AV} {x : Int32} : Rn (d) Q (62, 83, [l0, l1, l2, l3, l4, l5, l6], [vI x], σ) = Q (some (vI x)) σ := E_iretI (st := []) i62_83 r62
theorem e62_84 {d : Nat} {Q : Option AV → St → Prop} {st : List AV} {σ : St} {l1 l2 l3 l4 l5 l6 : Option AV} {x : Option (Nat × Nat × Nat)} : Rn (d) Q (62, 84, [some (vR x), l1, l2, l3, l4, l5, l6], st, σ) = Rn (d) Q (62, 85, [some (vR x), l1, l2, l3, l4, l5, l6], vR x :: st, σ) := E_aload_n i62_84 rfl
theorem e62_85 {d : Nat} {Q : Option AV → St → Prop} {st : List AV} {σ : St} {l0 l2 l3 l4 l5 l6 : Option AV} {x : Option (Nat × Nat × Nat)} : Rn (d) Q (62, 85, [l0, some (vR x), l2, l3, l4, l5, l6], st, σ) = Rn (d) Q (62, 86, [l0, some (vR x), l2, l3, l4, l5, l6], vR x :: st, σ) := E_aload_n i62_85 rfl
theorem e62_86 {d : Nat} {Q : Option AV → St → Prop} {st : List AV} {σ : St} {l0 l1 l2 l3 l4 l5 : Option AV} {x : Int32} : Rn (d) Q (62, 86, [l0, l1, l2, l3, l4, l5, some (vI x)], st, σ) = Rn (d) Q (62, 88, [l0, l1, l2, l3, l4, l5, some (vI x)], vI x :: st, σ) := E_iload i62_86 rfl
theorem e62_88 {d : Nat} {Q : Option AV → St → Prop} {st : List AV} {σ : St} {l0 l1 l2 l3 l5 l6 : Option AV} {x : Int32} : Rn (d) Q (62, 88, [l0, l1, l2, l3, some (vI x), l5, l6], st, σ) = Rn (d) Q (62, 90, [l0, l1, l2, l3, some (vI x), l5, l6], vI x :: st, σ) := E_iload i62_88 rfl
theorem e62_90 {d : Nat} {Q : Option AV → St → Prop} {st : List AV} {σ : St} {l0 l1 l2 l3 l4 l5 l6 : Option AV} {i : Nat} {a1 : Option (Nat × Nat × Nat)} {a2 : Int32} {a3 : Int32} : Rn (d + 1) Q (62, 90, [l0, l1, l2, l3, l4, l5, l6], vI a3 :: vI a2 :: vR a1 :: vR (some (10, 0, i)) :: st, σ) = (i < gN σ 10 ∧ catS st ≤ 8 ∧ Rn d (fun r σ' => Rn (d + 1) Q (62, 93, [l0, l1, l2, l3, l4, l5, l6], r.toList ++ st, σ')) (64, 0, [some (vR (some (10, 0, i))), some (vR a1), some (vI a2), some (vI a3), none, none, none, none], [], σ)) := E_invV (a := [vI a3, vI a2, vR a1]) i62_90 ((congrArg (fun z => mthQ z 36) o62).trans m10_36) o64 rfl (ek64 i a1 a2 a3) (en64 i a1 a2 a3)
theorem e62_93 {d : Nat} {Q : Option AV → St → Prop} {st : List AV} {σ : St} {l0 l1 l2 l3 l4 l5 l6 : Option AV} {x : Int32} : Rn (d) Q (62, 93, [l0, l1, l2, l3, l4, l5, l6], vI x :: st, σ) = Rn (d) Q (62, 95, [l0, l1, l2, l3, some (vI x), l5, l6], st, σ) := E_istore i62_93 s62_4
theorem e62_95 {d : Nat} {Q : Option AV → St → Prop} {st : List AV} {σ : St} {l0 l1 l2 l3 l4 l6 : Option AV} {x : Int32} : Rn (d) Q (62, 95, [l0, l1, l2, l3, l4, some (vI x), l6], st, σ) = Rn (d) Q (62, 98, [l0, l1, l2, l3, l4, some (vI (x + 1)), l6], st, σ) := by rw [E_iinc i62_95 rfl (by rw [x62]; decide), show Int32.ofInt 1 = (1 : Int32) by decide +kernel]; rfl
theorem e62_98 {d : Nat} {Q : Option AV → St → Prop} {st : List AV} {σ : St} {l0 l1 l2 l3 l4 l5 l6 : Option AV} : Rn (d) Q (62, 98, [l0, l1, l2, l3, l4, l5, l6], st, σ) = Rn (d) Q (62, 29, [l0, l1, l2, l3, l4, l5, l6], st, σ) := E_goto 29 i62_98 (by decide)
theorem e62_101 {d : Nat} {Q : Option AV → St → Prop} {st : List AV} {σ : St} {l0 l1 l2 l3 l4 l5 l6 : Option AV} : Rn (d) Q (62, 101, [l0, l1, l2, l3, l4, l5, l6], st, σ) = Rn (d) Q (62, 103, [l0, l1, l2, l3, l4, l5, l6], vI (-4) :: st, σ) := by rw [E_bipush i62_101, cb_m4]
theorem e62_103 {d : Nat} {Q : Option AV → St → Prop} {σ : St} {l0 l1 l2 l3 l4 l5 l6 : Option AV} {x : Int32} : Rn (d) Q (62, 103, [l0, l1, l2, l3, l4, l5, l6], [vI x], σ) = Q (some (vI x)) σ := E_iretI (st := []) i62_103 r62
theorem i63_0 : ins 63 0 = some (.iconst 0, 1) := (congrArg (fun x : PTy => x.1.lookup 0) q63).trans rfl
theorem i63_1 : ins 63 1 = some (.istore_n 3, 1) := (congrArg (fun x : PTy => x.1.lookup 1) q63).trans rfl
theorem i63_2 : ins 63 2 = some (.iload_n 3, 1) := (congrArg (fun x : PTy => x.1.lookup 2) q63).trans rfl
theorem i63_3 : ins 63 3 = some (.bipush 8, 2) := (congrArg (fun x : PTy => x.1.lookup 3) q63).trans rfl
theorem i63_5 : ins 63 5 = some (.if_icmp .ge 32, 3) := (congrArg (fun x : PTy => x.1.lookup 5) q63).trans rfl
theorem i63_8 : ins 63 8 = some (.aload_n 0, 1) := (congrArg (fun x : PTy => x.1.lookup 8) q63).trans rfl
theorem i63_9 : ins 63 9 = some (.getfield 18, 3) := (congrArg (fun x : PTy => x.1.lookup 9) q63).trans rfl
theorem i63_12 : ins 63 12 = some (.iload_n 3, 1) := (congrArg (fun x : PTy => x.1.lookup 12) q63).trans rfl
theorem i63_13 : ins 63 13 = some (.iload_n 2, 1) := (congrArg (fun x : PTy => x.1.lookup 13) q63).trans rfl
theorem i63_14 : ins 63 14 = some (.iload_n 3, 1) := (congrArg (fun x : PTy => x.1.lookup 14) q63).trans rfl
theorem i63_15 : ins 63 15 = some (.ishr, 1) := (congrArg (fun x : PTy => x.1.lookup 15) q63).trans rfl
theorem i63_16 : ins 63 16 = some (.iconst 1, 1) := (congrArg (fun x : PTy => x.1.lookup 16) q63).trans rfl
theorem i63_17 : ins 63 17 = some (.iand, 1) := (congrArg (fun x : PTy => x.1.lookup 17) q63).trans rfl
theorem i63_18 : ins 63 18 = some (.iconst 1, 1) := (congrArg (fun x : PTy => x.1.lookup 18) q63).trans rfl
theorem i63_19 : ins 63 19 = some (.if_icmp .ne 8, 3) := (congrArg (fun x : PTy => x.1.lookup 19) q63).trans rfl
theorem i63_22 : ins 63 22 = some (.bipush 100, 2) := (congrArg (fun x : PTy => x.1.lookup 22) q63).trans rfl
theorem i63_24 : ins 63 24 = some (.goto 6, 3) := (congrArg (fun x : PTy => x.1.lookup 24) q63).trans rfl
theorem i63_27 : ins 63 27 = some (.aload_n 1, 1) := (congrArg (fun x : PTy => x.1.lookup 27) q63).trans rfl
theorem i63_28 : ins 63 28 = some (.iload_n 3, 1) := (congrArg (fun x : PTy => x.1.lookup 28) q63).trans rfl
theorem i63_29 : ins 63 29 = some (.iaload, 1) := (congrArg (fun x : PTy => x.1.lookup 29) q63).trans rfl
theorem i63_30 : ins 63 30 = some (.iastore, 1) := (congrArg (fun x : PTy => x.1.lookup 30) q63).trans rfl
theorem i63_31 : ins 63 31 = some (.iinc 3 1, 3) := (congrArg (fun x : PTy => x.1.lookup 31) q63).trans rfl
theorem i63_34 : ins 63 34 = some (.goto (-32), 3) := (congrArg (fun x : PTy => x.1.lookup 34) q63).trans rfl
theorem i63_37 : ins 63 37 = some (.return_, 1) := (congrArg (fun x : PTy => x.1.lookup 37) q63).trans rfl
theorem e63_0 {d : Nat} {Q : Option AV → St → Prop} {st : List AV} {σ : St} {l0 l1 l2 l3 : Option AV} : Rn (d) Q (63, 0, [l0, l1, l2, l3], st, σ) = Rn (d) Q (63, 1, [l0, l1, l2, l3], vI 0 :: st, σ) := by rw [E_iconst i63_0, ci_0]
theorem s63_3 : okst 63 3 = true := by unfold okst; rw [x63]; rfl
theorem e63_1 {d : Nat} {Q : Option AV → St → Prop} {st : List AV} {σ : St} {l0 l1 l2 l3 : Option AV} {x : Int32} : Rn (d) Q (63, 1, [l0, l1, l2, l3], vI x :: st, σ) = Rn (d) Q (63, 2, [l0, l1, l2, some (vI x)], st, σ) := E_istore_n i63_1 s63_3
theorem e63_2 {d : Nat} {Q : Option AV → St → Prop} {st : List AV} {σ : St} {l0 l1 l2 : Option AV} {x : Int32} : Rn (d) Q (63, 2, [l0, l1, l2, some (vI x)], st, σ) = Rn (d) Q (63, 3, [l0, l1, l2, some (vI x)], vI x :: st, σ) := E_iload_n i63_2 rfl
theorem e63_3 {d : Nat} {Q : Option AV → St → Prop} {st : List AV} {σ : St} {l0 l1 l2 l3 : Option AV} : Rn (d) Q (63, 3, [l0, l1, l2, l3], st, σ) = Rn (d) Q (63, 5, [l0, l1, l2, l3], vI 8 :: st, σ) := by rw [E_bipush i63_3, cb_8]
theorem e63_5 {d : Nat} {Q : Option AV → St → Prop} {st : List AV} {σ : St} {l0 l1 l2 l3 : Option AV} {x y : Int32} : Rn (d) Q (63, 5, [l0, l1, l2, l3], vI y :: vI x :: st, σ) = (if y ≤ x then Rn (d) Q (63, 37, [l0, l1, l2, l3], st, σ) else Rn (d) Q (63, 8, [l0, l1, l2, l3], st, σ)) := E_icmp_ge 37 i63_5 (by decide)
theorem e63_8 {d : Nat} {Q : Option AV → St → Prop} {st : List AV} {σ : St} {l1 l2 l3 : Option AV} {x : Option (Nat × Nat × Nat)} : Rn (d) Q (63, 8, [some (vR x), l1, l2, l3], st, σ) = Rn (d) Q (63, 9, [some (vR x), l1, l2, l3], vR x :: st, σ) := E_aload_n i63_8 rfl
theorem e63_9 {d : Nat} {Q : Option AV → St → Prop} {st : List AV} {σ : St} {l0 l1 l2 l3 : Option AV} {i : Nat} : Rn (d) Q (63, 9, [l0, l1, l2, l3], vR (some (10, 0, i)) :: st, σ) = (i < gN σ 10 ∧ ¬ gL σ 10 2 i = none ∧ Rn (d) Q (63, 12, [l0, l1, l2, l3], vR (some (10, 3, i)) :: st, σ)) := E_getA i63_9 ((congrArg (fun z => fldQ z 18) o63).trans f10_18) (Or.inl rfl)
theorem e63_12 {d : Nat} {Q : Option AV → St → Prop} {st : List AV} {σ : St} {l0 l1 l2 : Option AV} {x : Int32} : Rn (d) Q (63, 12, [l0, l1, l2, some (vI x)], st, σ) = Rn (d) Q (63, 13, [l0, l1, l2, some (vI x)], vI x :: st, σ) := E_iload_n i63_12 rfl
theorem e63_13 {d : Nat} {Q : Option AV → St → Prop} {st : List AV} {σ : St} {l0 l1 l3 : Option AV} {x : Int32} : Rn (d) Q (63, 13, [l0, l1, some (vI x), l3], st, σ) = Rn (d) Q (63, 14, [l0, l1, some (vI x), l3], vI x :: st, σ) := E_iload_n i63_13 rfl
theorem e63_14 {d : Nat} {Q : Option AV → St → Prop} {st : List AV} {σ : St} {l0 l1 l2 : Option AV} {x : Int32} : Rn (d) Q (63, 14, [l0, l1, l2, some (vI x)], st, σ) = Rn (d) Q (63, 15, [l0, l1, l2, some (vI x)], vI x :: st, σ) := E_iload_n i63_14 rfl
theorem e63_15 {d : Nat} {Q : Option AV → St → Prop} {st : List AV} {σ : St} {l0 l1 l2 l3 : Option AV} {x y : Int32} : Rn (d) Q (63, 15, [l0, l1, l2, l3], vI y :: vI x :: st, σ) = Rn (d) Q (63, 16, [l0, l1, l2, l3], vI (x >>> (y &&& 31)) :: st, σ) := E_ishr i63_15
theorem e63_16 {d : Nat} {Q : Option AV → St → Prop} {st : List AV} {σ : St} {l0 l1 l2 l3 : Option AV} : Rn (d) Q (63, 16, [l0, l1, l2, l3], st, σ) = Rn (d) Q (63, 17, [l0, l1, l2, l3], vI 1 :: st, σ) := by rw [E_iconst i63_16, ci_1]
theorem e63_17 {d : Nat} {Q : Option AV → St → Prop} {st : List AV} {σ : St} {l0 l1 l2 l3 : Option AV} {x y : Int32} : Rn (d) Q (63, 17, [l0, l1, l2, l3], vI y :: vI x :: st, σ) = Rn (d) Q (63, 18, [l0, l1, l2, l3], vI (x &&& y) :: st, σ) := E_iand i63_17
theorem e63_18 {d : Nat} {Q : Option AV → St → Prop} {st : List AV} {σ : St} {l0 l1 l2 l3 : Option AV} : Rn (d) Q (63, 18, [l0, l1, l2, l3], st, σ) = Rn (d) Q (63, 19, [l0, l1, l2, l3], vI 1 :: st, σ) := by rw [E_iconst i63_18, ci_1]
theorem e63_19 {d : Nat} {Q : Option AV → St → Prop} {st : List AV} {σ : St} {l0 l1 l2 l3 : Option AV} {x y : Int32} : Rn (d) Q (63, 19, [l0, l1, l2, l3], vI y :: vI x :: st, σ) = (if x = y then Rn (d) Q (63, 22, [l0, l1, l2, l3], st, σ) else Rn (d) Q (63, 27, [l0, l1, l2, l3], st, σ)) := E_icmp_ne 27 i63_19 (by decide)
theorem e63_22 {d : Nat} {Q : Option AV → St → Prop} {st : List AV} {σ : St} {l0 l1 l2 l3 : Option AV} : Rn (d) Q (63, 22, [l0, l1, l2, l3], st, σ) = Rn (d) Q (63, 24, [l0, l1, l2, l3], vI 100 :: st, σ) := by rw [E_bipush i63_22, cb_100]
theorem e63_24 {d : Nat} {Q : Option AV → St → Prop} {st : List AV} {σ : St} {l0 l1 l2 l3 : Option AV} : Rn (d) Q (63, 24, [l0, l1, l2, l3], st, σ) = Rn (d) Q (63, 30, [l0, l1, l2, l3], st, σ) := E_goto 30 i63_24 (by decide)
theorem e63_27 {d : Nat} {Q : Option AV → St → Prop} {st : List AV} {σ : St} {l0 l2 l3 : Option AV} {x : Option (Nat × Nat × Nat)} : Rn (d) Q (63, 27, [l0, some (vR x), l2, l3], st, σ) = Rn (d) Q (63, 28, [l0, some (vR x), l2, l3], vR x :: st, σ) := E_aload_n i63_27 rfl
theorem e63_28 {d : Nat} {Q : Option AV → St → Prop} {st : List AV} {σ : St} {l0 l1 l2 : Option AV} {x : Int32} : Rn (d) Q (63, 28, [l0, l1, l2, some (vI x)], st, σ) = Rn (d) Q (63, 29, [l0, l1, l2, some (vI x)], vI x :: st, σ) := E_iload_n i63_28 rfl
theorem e63_29 {d : Nat} {Q : Option AV → St → Prop} {st : List AV} {σ : St} {l0 l1 l2 l3 : Option AV} {c k i : Nat} {j : Int32} (hk : fk c k = (1, 1)) : Rn (d) Q (63, 29, [l0, l1, l2, l3], vI j :: vR (some (c, k + 1, i)) :: st, σ) = (∃ n, gL σ c k i = some n ∧ i < gN σ c ∧ (0 ≤ j.toInt ∧ j.toInt < n) ∧ Rn (d) Q (63, 30, [l0, l1, l2, l3], vI (gA σ c k i j.toNatClampNeg) :: st, σ)) := E_iaload1 i63_29 hk
theorem e63_30 {d : Nat} {Q : Option AV → St → Prop} {st : List AV} {σ : St} {l0 l1 l2 l3 : Option AV} {i : Nat} {j x : Int32} : Rn (d) Q (63, 30, [l0, l1, l2, l3], vI x :: vI j :: vR (some (10, 3, i)) :: st, σ) = (∃ n, gL σ 10 2 i = some n ∧ i < gN σ 10 ∧ (0 ≤ j.toInt ∧ j.toInt < n) ∧ Rn (d) Q (63, 31, [l0, l1, l2, l3], st, setA σ 10 2 i (upd (gA σ 10 2 i) j.toNatClampNeg x))) := E_iastore1 i63_30 rfl (by decide)
theorem e63_31 {d : Nat} {Q : Option AV → St → Prop} {st : List AV} {σ : St} {l0 l1 l2 : Option AV} {x : Int32} : Rn (d) Q (63, 31, [l0, l1, l2, some (vI x)], st, σ) = Rn (d) Q (63, 34, [l0, l1, l2, some (vI (x + 1))], st, σ) := by rw [E_iinc i63_31 rfl (by rw [x63]; decide), show Int32.ofInt 1 = (1 : Int32) by decide +kernel]; rfl
theorem e63_34 {d : Nat} {Q : Option AV → St → Prop} {st : List AV} {σ : St} {l0 l1 l2 l3 : Option AV} : Rn (d) Q (63, 34, [l0, l1, l2, l3], st, σ) = Rn (d) Q (63, 2, [l0, l1, l2, l3], st, σ) := E_goto 2 i63_34 (by decide)
theorem e63_37 {d : Nat} {Q : Option AV → St → Prop} {σ : St} {l0 l1 l2 l3 : Option AV} : Rn (d) Q (63, 37, [l0, l1, l2, l3], [], σ) = Q none σ := E_ret (st := []) i63_37 r63
theorem i64_0 : ins 64 0 = some (.aload_n 1, 1) := (congrArg (fun x : PTy => x.1.lookup 0) q64).trans rfl
theorem i64_1 : ins 64 1 = some (.aload_n 0, 1) := (congrArg (fun x : PTy => x.1.lookup 1) q64).trans rfl
theorem i64_2 : ins 64 2 = some (.getfield 18, 3) := (congrArg (fun x : PTy => x.1.lookup 2) q64).trans rfl
theorem i64_5 : ins 64 5 = some (.invokevirtual 40, 3) := (congrArg (fun x : PTy => x.1.lookup 5) q64).trans rfl
theorem i64_8 : ins 64 8 = some (.istore 4, 2) := (congrArg (fun x : PTy => x.1.lookup 8) q64).trans rfl
theorem i64_10 : ins 64 10 = some (.iload_n 3, 1) := (congrArg (fun x : PTy => x.1.lookup 10) q64).trans rfl
theorem i64_11 : ins 64 11 = some (.istore 5, 2) := (congrArg (fun x : PTy => x.1.lookup 11) q64).trans rfl
theorem i64_13 : ins 64 13 = some (.iconst 0, 1) := (congrArg (fun x : PTy => x.1.lookup 13) q64).trans rfl
theorem i64_14 : ins 64 14 = some (.istore 6, 2) := (congrArg (fun x : PTy => x.1.lookup 14) q64).trans rfl
theorem i64_16 : ins 64 16 = some (.iload 6, 2) := (congrArg (fun x : PTy => x.1.lookup 16) q64).trans rfl
theorem i64_18 : ins 64 18 = some (.bipush 8, 2) := (congrArg (fun x : PTy => x.1.lookup 18) q64).trans rfl
theorem i64_20 : ins 64 20 = some (.if_icmp .ge 79, 3) := (congrArg (fun x : PTy => x.1.lookup 20) q64).trans rfl
theorem i64_23 : ins 64 23 = some (.iload 4, 2) := (congrArg (fun x : PTy => x.1.lookup 23) q64).trans rfl
theorem i64_25 : ins 64 25 = some (.iload 6, 2) := (congrArg (fun x : PTy => x.1.lookup 25) q64).trans rfl
theorem i64_27 : ins 64 27 = some (.ishr, 1) := (congrArg (fun x : PTy => x.1.lookup 27) q64).trans rfl
theorem i64_28 : ins 64 28 = some (.iconst 1, 1) := (congrArg (fun x : PTy => x.1.lookup 28) q64).trans rfl
theorem i64_29 : ins 64 29 = some (.iand, 1) := (congrArg (fun x : PTy => x.1.lookup 29) q64).trans rfl
theorem i64_30 : ins 64 30 = some (.ifCond .ne 6, 3) := (congrArg (fun x : PTy => x.1.lookup 30) q64).trans rfl
theorem i64_33 : ins 64 33 = some (.goto 60, 3) := (congrArg (fun x : PTy => x.1.lookup 33) q64).trans rfl
theorem i64_36 : ins 64 36 = some (.iload_n 2, 1) := (congrArg (fun x : PTy => x.1.lookup 36) q64).trans rfl
theorem i64_37 : ins 64 37 = some (.aload_n 1, 1) := (congrArg (fun x : PTy => x.1.lookup 37) q64).trans rfl
theorem i64_38 : ins 64 38 = some (.iload 6, 2) := (congrArg (fun x : PTy => x.1.lookup 38) q64).trans rfl
theorem i64_40 : ins 64 40 = some (.invokevirtual 43, 3) := (congrArg (fun x : PTy => x.1.lookup 40) q64).trans rfl
theorem i64_43 : ins 64 43 = some (.ior, 1) := (congrArg (fun x : PTy => x.1.lookup 43) q64).trans rfl
theorem i64_44 : ins 64 44 = some (.istore 7, 2) := (congrArg (fun x : PTy => x.1.lookup 44) q64).trans rfl
theorem i64_46 : ins 64 46 = some (.aload_n 0, 1) := (congrArg (fun x : PTy => x.1.lookup 46) q64).trans rfl
theorem i64_47 : ins 64 47 = some (.getfield 11, 3) := (congrArg (fun x : PTy => x.1.lookup 47) q64).trans rfl
theorem i64_50 : ins 64 50 = some (.iload 7, 2) := (congrArg (fun x : PTy => x.1.lookup 50) q64).trans rfl
theorem i64_52 : ins 64 52 = some (.iaload, 1) := (congrArg (fun x : PTy => x.1.lookup 52) q64).trans rfl
theorem i64_53 : ins 64 53 = some (.bipush (-4), 2) := (congrArg (fun x : PTy => x.1.lookup 53) q64).trans rfl
theorem i64_55 : ins 64 55 = some (.if_icmp .ne 38, 3) := (congrArg (fun x : PTy => x.1.lookup 55) q64).trans rfl
theorem i64_58 : ins 64 58 = some (.iload 5, 2) := (congrArg (fun x : PTy => x.1.lookup 58) q64).trans rfl
theorem i64_60 : ins 64 60 = some (.sipush 256, 3) := (congrArg (fun x : PTy => x.1.lookup 60) q64).trans rfl
theorem i64_63 : ins 64 63 = some (.if_icmp .ge 30, 3) := (congrArg (fun x : PTy => x.1.lookup 63) q64).trans rfl
theorem i64_66 : ins 64 66 = some (.aload_n 0, 1) := (congrArg (fun x : PTy => x.1.lookup 66) q64).trans rfl
theorem i64_67 : ins 64 67 = some (.getfield 11, 3) := (congrArg (fun x : PTy => x.1.lookup 67) q64).trans rfl
theorem i64_70 : ins 64 70 = some (.iload 7, 2) := (congrArg (fun x : PTy => x.1.lookup 70) q64).trans rfl
theorem i64_72 : ins 64 72 = some (.aload_n 0, 1) := (congrArg (fun x : PTy => x.1.lookup 72) q64).trans rfl
theorem i64_73 : ins 64 73 = some (.getfield 11, 3) := (congrArg (fun x : PTy => x.1.lookup 73) q64).trans rfl
theorem i64_76 : ins 64 76 = some (.iload_n 2, 1) := (congrArg (fun x : PTy => x.1.lookup 76) q64).trans rfl
theorem i64_77 : ins 64 77 = some (.iaload, 1) := (congrArg (fun x : PTy => x.1.lookup 77) q64).trans rfl
theorem i64_78 : ins 64 78 = some (.iconst 1, 1) := (congrArg (fun x : PTy => x.1.lookup 78) q64).trans rfl
theorem i64_79 : ins 64 79 = some (.iadd, 1) := (congrArg (fun x : PTy => x.1.lookup 79) q64).trans rfl
theorem i64_80 : ins 64 80 = some (.iastore, 1) := (congrArg (fun x : PTy => x.1.lookup 80) q64).trans rfl
theorem i64_81 : ins 64 81 = some (.aload_n 0, 1) := (congrArg (fun x : PTy => x.1.lookup 81) q64).trans rfl
theorem i64_82 : ins 64 82 = some (.getfield 15, 3) := (congrArg (fun x : PTy => x.1.lookup 82) q64).trans rfl
theorem i64_85 : ins 64 85 = some (.iload 5, 2) := (congrArg (fun x : PTy => x.1.lookup 85) q64).trans rfl
theorem i64_87 : ins 64 87 = some (.iload 7, 2) := (congrArg (fun x : PTy => x.1.lookup 87) q64).trans rfl
theorem i64_89 : ins 64 89 = some (.iastore, 1) := (congrArg (fun x : PTy => x.1.lookup 89) q64).trans rfl
theorem i64_90 : ins 64 90 = some (.iinc 5 1, 3) := (congrArg (fun x : PTy => x.1.lookup 90) q64).trans rfl
theorem i64_93 : ins 64 93 = some (.iinc 6 1, 3) := (congrArg (fun x : PTy => x.1.lookup 93) q64).trans rfl
theorem i64_96 : ins 64 96 = some (.goto (-80), 3) := (congrArg (fun x : PTy => x.1.lookup 96) q64).trans rfl
theorem i64_99 : ins 64 99 = some (.iload 5, 2) := (congrArg (fun x : PTy => x.1.lookup 99) q64).trans rfl
theorem i64_101 : ins 64 101 = some (.ireturn, 1) := (congrArg (fun x : PTy => x.1.lookup 101) q64).trans rfl
theorem e64_0 {d : Nat} {Q : Option AV → St → Prop} {st : List AV} {σ : St} {l0 l2 l3 l4 l5 l6 l7 : Option AV} {x : Option (Nat × Nat × Nat)} : Rn (d) Q (64, 0, [l0, some (vR x), l2, l3, l4, l5, l6, l7], st, σ) = Rn (d) Q (64, 1, [l0, some (vR x), l2, l3, l4, l5, l6, l7], vR x :: st, σ) := E_aload_n i64_0 rfl
theorem e64_1 {d : Nat} {Q : Option AV → St → Prop} {st : List AV} {σ : St} {l1 l2 l3 l4 l5 l6 l7 : Option AV} {x : Option (Nat × Nat × Nat)} : Rn (d) Q (64, 1, [some (vR x), l1, l2, l3, l4, l5, l6, l7], st, σ) = Rn (d) Q (64, 2, [some (vR x), l1, l2, l3, l4, l5, l6, l7], vR x :: st, σ) := E_aload_n i64_1 rfl
theorem e64_2 {d : Nat} {Q : Option AV → St → Prop} {st : List AV} {σ : St} {l0 l1 l2 l3 l4 l5 l6 l7 : Option AV} {i : Nat} : Rn (d) Q (64, 2, [l0, l1, l2, l3, l4, l5, l6, l7], vR (some (10, 0, i)) :: st, σ) = (i < gN σ 10 ∧ ¬ gL σ 10 2 i = none ∧ Rn (d) Q (64, 5, [l0, l1, l2, l3, l4, l5, l6, l7], vR (some (10, 3, i)) :: st, σ)) := E_getA i64_2 ((congrArg (fun z => fldQ z 18) o64).trans f10_18) (Or.inl rfl)
theorem e64_5 {d : Nat} {Q : Option AV → St → Prop} {st : List AV} {σ : St} {l0 l1 l2 l3 l4 l5 l6 l7 : Option AV} {i : Nat} {a1 : Option (Nat × Nat × Nat)} : Rn (d + 1) Q (64, 5, [l0, l1, l2, l3, l4, l5, l6, l7], vR a1 :: vR (some (0, 0, i)) :: st, σ) = (i < gN σ 0 ∧ catS st ≤ 8 ∧ Rn d (fun r σ' => Rn (d + 1) Q (64, 8, [l0, l1, l2, l3, l4, l5, l6, l7], r.toList ++ st, σ')) (12, 0, [some (vR (some (0, 0, i))), some (vR a1), none, none], [], σ)) := E_invV (a := [vR a1]) i64_5 ((congrArg (fun z => mthQ z 40) o64).trans m10_40) o12 rfl (ek12 i a1) (en12 i a1)
theorem s64_4 : okst 64 4 = true := by unfold okst; rw [x64]; rfl
theorem e64_8 {d : Nat} {Q : Option AV → St → Prop} {st : List AV} {σ : St} {l0 l1 l2 l3 l4 l5 l6 l7 : Option AV} {x : Int32} : Rn (d) Q (64, 8, [l0, l1, l2, l3, l4, l5, l6, l7], vI x :: st, σ) = Rn (d) Q (64, 10, [l0, l1, l2, l3, some (vI x), l5, l6, l7], st, σ) := E_istore i64_8 s64_4
theorem e64_10 {d : Nat} {Q : Option AV → St → Prop} {st : List AV} {σ : St} {l0 l1 l2 l4 l5 l6 l7 : Option AV} {x : Int32} : Rn (d) Q (64, 10, [l0, l1, l2, some (vI x), l4, l5, l6, l7], st, σ) = Rn (d) Q (64, 11, [l0, l1, l2, some (vI x), l4, l5, l6, l7], vI x :: st, σ) := E_iload_n i64_10 rfl
theorem s64_5 : okst 64 5 = true := by unfold okst; rw [x64]; rfl
theorem e64_11 {d : Nat} {Q : Option AV → St → Prop} {st : List AV} {σ : St} {l0 l1 l2 l3 l4 l5 l6 l7 : Option AV} {x : Int32} : Rn (d) Q (64, 11, [l0, l1, l2, l3, l4, l5, l6, l7], vI x :: st, σ) = Rn (d) Q (64, 13, [l0, l1, l2, l3, l4, some (vI x), l6, l7], st, σ) := E_istore i64_11 s64_5
theorem e64_13 {d : Nat} {Q : Option AV → St → Prop} {st : List AV} {σ : St} {l0 l1 l2 l3 l4 l5 l6 l7 : Option AV} : Rn (d) Q (64, 13, [l0, l1, l2, l3, l4, l5, l6, l7], st, σ) = Rn (d) Q (64, 14, [l0, l1, l2, l3, l4, l5, l6, l7], vI 0 :: st, σ) := by rw [E_iconst i64_13, ci_0]
theorem s64_6 : okst 64 6 = true := by unfold okst; rw [x64]; rfl
theorem e64_14 {d : Nat} {Q : Option AV → St → Prop} {st : List AV} {σ : St} {l0 l1 l2 l3 l4 l5 l6 l7 : Option AV} {x : Int32} : Rn (d) Q (64, 14, [l0, l1, l2, l3, l4, l5, l6, l7], vI x :: st, σ) = Rn (d) Q (64, 16, [l0, l1, l2, l3, l4, l5, some (vI x), l7], st, σ) := E_istore i64_14 s64_6
theorem e64_16 {d : Nat} {Q : Option AV → St → Prop} {st : List AV} {σ : St} {l0 l1 l2 l3 l4 l5 l7 : Option AV} {x : Int32} : Rn (d) Q (64, 16, [l0, l1, l2, l3, l4, l5, some (vI x), l7], st, σ) = Rn (d) Q (64, 18, [l0, l1, l2, l3, l4, l5, some (vI x), l7], vI x :: st, σ) := E_iload i64_16 rfl
theorem e64_18 {d : Nat} {Q : Option AV → St → Prop} {st : List AV} {σ : St} {l0 l1 l2 l3 l4 l5 l6 l7 : Option AV} : Rn (d) Q (64, 18, [l0, l1, l2, l3, l4, l5, l6, l7], st, σ) = Rn (d) Q (64, 20, [l0, l1, l2, l3, l4, l5, l6, l7], vI 8 :: st, σ) := by rw [E_bipush i64_18, cb_8]
theorem e64_20 {d : Nat} {Q : Option AV → St → Prop} {st : List AV} {σ : St} {l0 l1 l2 l3 l4 l5 l6 l7 : Option AV} {x y : Int32} : Rn (d) Q (64, 20, [l0, l1, l2, l3, l4, l5, l6, l7], vI y :: vI x :: st, σ) = (if y ≤ x then Rn (d) Q (64, 99, [l0, l1, l2, l3, l4, l5, l6, l7], st, σ) else Rn (d) Q (64, 23, [l0, l1, l2, l3, l4, l5, l6, l7], st, σ)) := E_icmp_ge 99 i64_20 (by decide)
theorem e64_23 {d : Nat} {Q : Option AV → St → Prop} {st : List AV} {σ : St} {l0 l1 l2 l3 l5 l6 l7 : Option AV} {x : Int32} : Rn (d) Q (64, 23, [l0, l1, l2, l3, some (vI x), l5, l6, l7], st, σ) = Rn (d) Q (64, 25, [l0, l1, l2, l3, some (vI x), l5, l6, l7], vI x :: st, σ) := E_iload i64_23 rfl
theorem e64_25 {d : Nat} {Q : Option AV → St → Prop} {st : List AV} {σ : St} {l0 l1 l2 l3 l4 l5 l7 : Option AV} {x : Int32} : Rn (d) Q (64, 25, [l0, l1, l2, l3, l4, l5, some (vI x), l7], st, σ) = Rn (d) Q (64, 27, [l0, l1, l2, l3, l4, l5, some (vI x), l7], vI x :: st, σ) := E_iload i64_25 rfl
theorem e64_27 {d : Nat} {Q : Option AV → St → Prop} {st : List AV} {σ : St} {l0 l1 l2 l3 l4 l5 l6 l7 : Option AV} {x y : Int32} : Rn (d) Q (64, 27, [l0, l1, l2, l3, l4, l5, l6, l7], vI y :: vI x :: st, σ) = Rn (d) Q (64, 28, [l0, l1, l2, l3, l4, l5, l6, l7], vI (x >>> (y &&& 31)) :: st, σ) := E_ishr i64_27
theorem e64_28 {d : Nat} {Q : Option AV → St → Prop} {st : List AV} {σ : St} {l0 l1 l2 l3 l4 l5 l6 l7 : Option AV} : Rn (d) Q (64, 28, [l0, l1, l2, l3, l4, l5, l6, l7], st, σ) = Rn (d) Q (64, 29, [l0, l1, l2, l3, l4, l5, l6, l7], vI 1 :: st, σ) := by rw [E_iconst i64_28, ci_1]
theorem e64_29 {d : Nat} {Q : Option AV → St → Prop} {st : List AV} {σ : St} {l0 l1 l2 l3 l4 l5 l6 l7 : Option AV} {x y : Int32} : Rn (d) Q (64, 29, [l0, l1, l2, l3, l4, l5, l6, l7], vI y :: vI x :: st, σ) = Rn (d) Q (64, 30, [l0, l1, l2, l3, l4, l5, l6, l7], vI (x &&& y) :: st, σ) := E_iand i64_29
theorem e64_30 {d : Nat} {Q : Option AV → St → Prop} {st : List AV} {σ : St} {l0 l1 l2 l3 l4 l5 l6 l7 : Option AV} {x : Int32} : Rn (d) Q (64, 30, [l0, l1, l2, l3, l4, l5, l6, l7], vI x :: st, σ) = (if x = 0 then Rn (d) Q (64, 33, [l0, l1, l2, l3, l4, l5, l6, l7], st, σ) else Rn (d) Q (64, 36, [l0, l1, l2, l3, l4, l5, l6, l7], st, σ)) := E_if_ne 36 i64_30 (by decide)
theorem e64_33 {d : Nat} {Q : Option AV → St → Prop} {st : List AV} {σ : St} {l0 l1 l2 l3 l4 l5 l6 l7 : Option AV} : Rn (d) Q (64, 33, [l0, l1, l2, l3, l4, l5, l6, l7], st, σ) = Rn (d) Q (64, 93, [l0, l1, l2, l3, l4, l5, l6, l7], st, σ) := E_goto 93 i64_33 (by decide)
theorem e64_36 {d : Nat} {Q : Option AV → St → Prop} {st : List AV} {σ : St} {l0 l1 l3 l4 l5 l6 l7 : Option AV} {x : Int32} : Rn (d) Q (64, 36, [l0, l1, some (vI x), l3, l4, l5, l6, l7], st, σ) = Rn (d) Q (64, 37, [l0, l1, some (vI x), l3, l4, l5, l6, l7], vI x :: st, σ) := E_iload_n i64_36 rfl
theorem e64_37 {d : Nat} {Q : Option AV → St → Prop} {st : List AV} {σ : St} {l0 l2 l3 l4 l5 l6 l7 : Option AV} {x : Option (Nat × Nat × Nat)} : Rn (d) Q (64, 37, [l0, some (vR x), l2, l3, l4, l5, l6, l7], st, σ) = Rn (d) Q (64, 38, [l0, some (vR x), l2, l3, l4, l5, l6, l7], vR x :: st, σ) := E_aload_n i64_37 rfl
theorem e64_38 {d : Nat} {Q : Option AV → St → Prop} {st : List AV} {σ : St} {l0 l1 l2 l3 l4 l5 l7 : Option AV} {x : Int32} : Rn (d) Q (64, 38, [l0, l1, l2, l3, l4, l5, some (vI x), l7], st, σ) = Rn (d) Q (64, 40, [l0, l1, l2, l3, l4, l5, some (vI x), l7], vI x :: st, σ) := E_iload i64_38 rfl
theorem e64_40 {d : Nat} {Q : Option AV → St → Prop} {st : List AV} {σ : St} {l0 l1 l2 l3 l4 l5 l6 l7 : Option AV} {i : Nat} {a1 : Int32} : Rn (d + 1) Q (64, 40, [l0, l1, l2, l3, l4, l5, l6, l7], vI a1 :: vR (some (0, 0, i)) :: st, σ) = (i < gN σ 0 ∧ catS st ≤ 8 ∧ Rn d (fun r σ' => Rn (d + 1) Q (64, 43, [l0, l1, l2, l3, l4, l5, l6, l7], r.toList ++ st, σ')) (13, 0, [some (vR (some (0, 0, i))), some (vI a1), none, none], [], σ)) := E_invV (a := [vI a1]) i64_40 ((congrArg (fun z => mthQ z 43) o64).trans m10_43) o13 rfl (ek13 i a1) (en13 i a1)
theorem e64_43 {d : Nat} {Q : Option AV → St → Prop} {st : List AV} {σ : St} {l0 l1 l2 l3 l4 l5 l6 l7 : Option AV} {x y : Int32} : Rn (d) Q (64, 43, [l0, l1, l2, l3, l4, l5, l6, l7], vI y :: vI x :: st, σ) = Rn (d) Q (64, 44, [l0, l1, l2, l3, l4, l5, l6, l7], vI (x ||| y) :: st, σ) := E_ior i64_43
theorem s64_7 : okst 64 7 = true := by unfold okst; rw [x64]; rfl
theorem e64_44 {d : Nat} {Q : Option AV → St → Prop} {st : List AV} {σ : St} {l0 l1 l2 l3 l4 l5 l6 l7 : Option AV} {x : Int32} : Rn (d) Q (64, 44, [l0, l1, l2, l3, l4, l5, l6, l7], vI x :: st, σ) = Rn (d) Q (64, 46, [l0, l1, l2, l3, l4, l5, l6, some (vI x)], st, σ) := E_istore i64_44 s64_7
theorem e64_46 {d : Nat} {Q : Option AV → St → Prop} {st : List AV} {σ : St} {l1 l2 l3 l4 l5 l6 l7 : Option AV} {x : Option (Nat × Nat × Nat)} : Rn (d) Q (64, 46, [some (vR x), l1, l2, l3, l4, l5, l6, l7], st, σ) = Rn (d) Q (64, 47, [some (vR x), l1, l2, l3, l4, l5, l6, l7], vR x :: st, σ) := E_aload_n i64_46 rfl
theorem e64_47 {d : Nat} {Q : Option AV → St → Prop} {st : List AV} {σ : St} {l0 l1 l2 l3 l4 l5 l6 l7 : Option AV} {i : Nat} : Rn (d) Q (64, 47, [l0, l1, l2, l3, l4, l5, l6, l7], vR (some (10, 0, i)) :: st, σ) = (i < gN σ 10 ∧ ¬ gL σ 10 0 i = none ∧ Rn (d) Q (64, 50, [l0, l1, l2, l3, l4, l5, l6, l7], vR (some (10, 1, i)) :: st, σ)) := E_getA i64_47 ((congrArg (fun z => fldQ z 11) o64).trans f10_11) (Or.inl rfl)
theorem e64_50 {d : Nat} {Q : Option AV → St → Prop} {st : List AV} {σ : St} {l0 l1 l2 l3 l4 l5 l6 : Option AV} {x : Int32} : Rn (d) Q (64, 50, [l0, l1, l2, l3, l4, l5, l6, some (vI x)], st, σ) = Rn (d) Q (64, 52, [l0, l1, l2, l3, l4, l5, l6, some (vI x)], vI x :: st, σ) := E_iload i64_50 rfl
theorem e64_52 {d : Nat} {Q : Option AV → St → Prop} {st : List AV} {σ : St} {l0 l1 l2 l3 l4 l5 l6 l7 : Option AV} {i : Nat} {j : Int32} : Rn (d) Q (64, 52, [l0, l1, l2, l3, l4, l5, l6, l7], vI j :: vR (some (10, 1, i)) :: st, σ) = (∃ n, gL σ 10 0 i = some n ∧ i < gN σ 10 ∧ (0 ≤ j.toInt ∧ j.toInt < n) ∧ Rn (d) Q (64, 53, [l0, l1, l2, l3, l4, l5, l6, l7], vI (gA σ 10 0 i j.toNatClampNeg) :: st, σ)) := E_iaload1 i64_52 rfl
theorem e64_53 {d : Nat} {Q : Option AV → St → Prop} {st : List AV} {σ : St} {l0 l1 l2 l3 l4 l5 l6 l7 : Option AV} : Rn (d) Q (64, 53, [l0, l1, l2, l3, l4, l5, l6, l7], st, σ) = Rn (d) Q (64, 55, [l0, l1, l2, l3, l4, l5, l6, l7], vI (-4) :: st, σ) := by rw [E_bipush i64_53, cb_m4]
theorem e64_55 {d : Nat} {Q : Option AV → St → Prop} {st : List AV} {σ : St} {l0 l1 l2 l3 l4 l5 l6 l7 : Option AV} {x y : Int32} : Rn (d) Q (64, 55, [l0, l1, l2, l3, l4, l5, l6, l7], vI y :: vI x :: st, σ) = (if x = y then Rn (d) Q (64, 58, [l0, l1, l2, l3, l4, l5, l6, l7], st, σ) else Rn (d) Q (64, 93, [l0, l1, l2, l3, l4, l5, l6, l7], st, σ)) := E_icmp_ne 93 i64_55 (by decide)
theorem e64_58 {d : Nat} {Q : Option AV → St → Prop} {st : List AV} {σ : St} {l0 l1 l2 l3 l4 l6 l7 : Option AV} {x : Int32} : Rn (d) Q (64, 58, [l0, l1, l2, l3, l4, some (vI x), l6, l7], st, σ) = Rn (d) Q (64, 60, [l0, l1, l2, l3, l4, some (vI x), l6, l7], vI x :: st, σ) := E_iload i64_58 rfl
theorem e64_60 {d : Nat} {Q : Option AV → St → Prop} {st : List AV} {σ : St} {l0 l1 l2 l3 l4 l5 l6 l7 : Option AV} : Rn (d) Q (64, 60, [l0, l1, l2, l3, l4, l5, l6, l7], st, σ) = Rn (d) Q (64, 63, [l0, l1, l2, l3, l4, l5, l6, l7], vI 256 :: st, σ) := by rw [E_sipush i64_60, cs_256]
theorem e64_63 {d : Nat} {Q : Option AV → St → Prop} {st : List AV} {σ : St} {l0 l1 l2 l3 l4 l5 l6 l7 : Option AV} {x y : Int32} : Rn (d) Q (64, 63, [l0, l1, l2, l3, l4, l5, l6, l7], vI y :: vI x :: st, σ) = (if y ≤ x then Rn (d) Q (64, 93, [l0, l1, l2, l3, l4, l5, l6, l7], st, σ) else Rn (d) Q (64, 66, [l0, l1, l2, l3, l4, l5, l6, l7], st, σ)) := E_icmp_ge 93 i64_63 (by decide)
theorem e64_66 {d : Nat} {Q : Option AV → St → Prop} {st : List AV} {σ : St} {l1 l2 l3 l4 l5 l6 l7 : Option AV} {x : Option (Nat × Nat × Nat)} : Rn (d) Q (64, 66, [some (vR x), l1, l2, l3, l4, l5, l6, l7], st, σ) = Rn (d) Q (64, 67, [some (vR x), l1, l2, l3, l4, l5, l6, l7], vR x :: st, σ) := E_aload_n i64_66 rfl
theorem e64_67 {d : Nat} {Q : Option AV → St → Prop} {st : List AV} {σ : St} {l0 l1 l2 l3 l4 l5 l6 l7 : Option AV} {i : Nat} : Rn (d) Q (64, 67, [l0, l1, l2, l3, l4, l5, l6, l7], vR (some (10, 0, i)) :: st, σ) = (i < gN σ 10 ∧ ¬ gL σ 10 0 i = none ∧ Rn (d) Q (64, 70, [l0, l1, l2, l3, l4, l5, l6, l7], vR (some (10, 1, i)) :: st, σ)) := E_getA i64_67 ((congrArg (fun z => fldQ z 11) o64).trans f10_11) (Or.inl rfl)
theorem e64_70 {d : Nat} {Q : Option AV → St → Prop} {st : List AV} {σ : St} {l0 l1 l2 l3 l4 l5 l6 : Option AV} {x : Int32} : Rn (d) Q (64, 70, [l0, l1, l2, l3, l4, l5, l6, some (vI x)], st, σ) = Rn (d) Q (64, 72, [l0, l1, l2, l3, l4, l5, l6, some (vI x)], vI x :: st, σ) := E_iload i64_70 rfl
theorem e64_72 {d : Nat} {Q : Option AV → St → Prop} {st : List AV} {σ : St} {l1 l2 l3 l4 l5 l6 l7 : Option AV} {x : Option (Nat × Nat × Nat)} : Rn (d) Q (64, 72, [some (vR x), l1, l2, l3, l4, l5, l6, l7], st, σ) = Rn (d) Q (64, 73, [some (vR x), l1, l2, l3, l4, l5, l6, l7], vR x :: st, σ) := E_aload_n i64_72 rfl
theorem e64_73 {d : Nat} {Q : Option AV → St → Prop} {st : List AV} {σ : St} {l0 l1 l2 l3 l4 l5 l6 l7 : Option AV} {i : Nat} : Rn (d) Q (64, 73, [l0, l1, l2, l3, l4, l5, l6, l7], vR (some (10, 0, i)) :: st, σ) = (i < gN σ 10 ∧ ¬ gL σ 10 0 i = none ∧ Rn (d) Q (64, 76, [l0, l1, l2, l3, l4, l5, l6, l7], vR (some (10, 1, i)) :: st, σ)) := E_getA i64_73 ((congrArg (fun z => fldQ z 11) o64).trans f10_11) (Or.inl rfl)
theorem e64_76 {d : Nat} {Q : Option AV → St → Prop} {st : List AV} {σ : St} {l0 l1 l3 l4 l5 l6 l7 : Option AV} {x : Int32} : Rn (d) Q (64, 76, [l0, l1, some (vI x), l3, l4, l5, l6, l7], st, σ) = Rn (d) Q (64, 77, [l0, l1, some (vI x), l3, l4, l5, l6, l7], vI x :: st, σ) := E_iload_n i64_76 rfl
theorem e64_77 {d : Nat} {Q : Option AV → St → Prop} {st : List AV} {σ : St} {l0 l1 l2 l3 l4 l5 l6 l7 : Option AV} {i : Nat} {j : Int32} : Rn (d) Q (64, 77, [l0, l1, l2, l3, l4, l5, l6, l7], vI j :: vR (some (10, 1, i)) :: st, σ) = (∃ n, gL σ 10 0 i = some n ∧ i < gN σ 10 ∧ (0 ≤ j.toInt ∧ j.toInt < n) ∧ Rn (d) Q (64, 78, [l0, l1, l2, l3, l4, l5, l6, l7], vI (gA σ 10 0 i j.toNatClampNeg) :: st, σ)) := E_iaload1 i64_77 rfl
theorem e64_78 {d : Nat} {Q : Option AV → St → Prop} {st : List AV} {σ : St} {l0 l1 l2 l3 l4 l5 l6 l7 : Option AV} : Rn (d) Q (64, 78, [l0, l1, l2, l3, l4, l5, l6, l7], st, σ) = Rn (d) Q (64, 79, [l0, l1, l2, l3, l4, l5, l6, l7], vI 1 :: st, σ) := by rw [E_iconst i64_78, ci_1]
theorem e64_79 {d : Nat} {Q : Option AV → St → Prop} {st : List AV} {σ : St} {l0 l1 l2 l3 l4 l5 l6 l7 : Option AV} {x y : Int32} : Rn (d) Q (64, 79, [l0, l1, l2, l3, l4, l5, l6, l7], vI y :: vI x :: st, σ) = Rn (d) Q (64, 80, [l0, l1, l2, l3, l4, l5, l6, l7], vI (x + y) :: st, σ) := E_iadd i64_79
theorem e64_80 {d : Nat} {Q : Option AV → St → Prop} {st : List AV} {σ : St} {l0 l1 l2 l3 l4 l5 l6 l7 : Option AV} {i : Nat} {j x : Int32} : Rn (d) Q (64, 80, [l0, l1, l2, l3, l4, l5, l6, l7], vI x :: vI j :: vR (some (10, 1, i)) :: st, σ) = (∃ n, gL σ 10 0 i = some n ∧ i < gN σ 10 ∧ (0 ≤ j.toInt ∧ j.toInt < n) ∧ Rn (d) Q (64, 81, [l0, l1, l2, l3, l4, l5, l6, l7], st, setA σ 10 0 i (upd (gA σ 10 0 i) j.toNatClampNeg x))) := E_iastore1 i64_80 rfl (by decide)
theorem e64_81 {d : Nat} {Q : Option AV → St → Prop} {st : List AV} {σ : St} {l1 l2 l3 l4 l5 l6 l7 : Option AV} {x : Option (Nat × Nat × Nat)} : Rn (d) Q (64, 81, [some (vR x), l1, l2, l3, l4, l5, l6, l7], st, σ) = Rn (d) Q (64, 82, [some (vR x), l1, l2, l3, l4, l5, l6, l7], vR x :: st, σ) := E_aload_n i64_81 rfl
theorem e64_82 {d : Nat} {Q : Option AV → St → Prop} {st : List AV} {σ : St} {l0 l1 l2 l3 l4 l5 l6 l7 : Option AV} {i : Nat} : Rn (d) Q (64, 82, [l0, l1, l2, l3, l4, l5, l6, l7], vR (some (10, 0, i)) :: st, σ) = (i < gN σ 10 ∧ ¬ gL σ 10 1 i = none ∧ Rn (d) Q (64, 85, [l0, l1, l2, l3, l4, l5, l6, l7], vR (some (10, 2, i)) :: st, σ)) := E_getA i64_82 ((congrArg (fun z => fldQ z 15) o64).trans f10_15) (Or.inl rfl)
theorem e64_85 {d : Nat} {Q : Option AV → St → Prop} {st : List AV} {σ : St} {l0 l1 l2 l3 l4 l6 l7 : Option AV} {x : Int32} : Rn (d) Q (64, 85, [l0, l1, l2, l3, l4, some (vI x), l6, l7], st, σ) = Rn (d) Q (64, 87, [l0, l1, l2, l3, l4, some (vI x), l6, l7], vI x :: st, σ) := E_iload i64_85 rfl
theorem e64_87 {d : Nat} {Q : Option AV → St → Prop} {st : List AV} {σ : St} {l0 l1 l2 l3 l4 l5 l6 : Option AV} {x : Int32} : Rn (d) Q (64, 87, [l0, l1, l2, l3, l4, l5, l6, some (vI x)], st, σ) = Rn (d) Q (64, 89, [l0, l1, l2, l3, l4, l5, l6, some (vI x)], vI x :: st, σ) := E_iload i64_87 rfl
theorem e64_89 {d : Nat} {Q : Option AV → St → Prop} {st : List AV} {σ : St} {l0 l1 l2 l3 l4 l5 l6 l7 : Option AV} {i : Nat} {j x : Int32} : Rn (d) Q (64, 89, [l0, l1, l2, l3, l4, l5, l6, l7], vI x :: vI j :: vR (some (10, 2, i)) :: st, σ) = (∃ n, gL σ 10 1 i = some n ∧ i < gN σ 10 ∧ (0 ≤ j.toInt ∧ j.toInt < n) ∧ Rn (d) Q (64, 90, [l0, l1, l2, l3, l4, l5, l6, l7], st, setA σ 10 1 i (upd (gA σ 10 1 i) j.toNatClampNeg x))) := E_iastore1 i64_89 rfl (by decide)
theorem e64_90 {d : Nat} {Q : Option AV → St → Prop} {st : List AV} {σ : St} {l0 l1 l2 l3 l4 l6 l7 : Option AV} {x : Int32} : Rn (d) Q (64, 90, [l0, l1, l2, l3, l4, some (vI x), l6, l7], st, σ) = Rn (d) Q (64, 93, [l0, l1, l2, l3, l4, some (vI (x + 1)), l6, l7], st, σ) := by rw [E_iinc i64_90 rfl (by rw [x64]; decide), show Int32.ofInt 1 = (1 : Int32) by decide +kernel]; rfl
theorem e64_93 {d : Nat} {Q : Option AV → St → Prop} {st : List AV} {σ : St} {l0 l1 l2 l3 l4 l5 l7 : Option AV} {x : Int32} : Rn (d) Q (64, 93, [l0, l1, l2, l3, l4, l5, some (vI x), l7], st, σ) = Rn (d) Q (64, 96, [l0, l1, l2, l3, l4, l5, some (vI (x + 1)), l7], st, σ) := by rw [E_iinc i64_93 rfl (by rw [x64]; decide), show Int32.ofInt 1 = (1 : Int32) by decide +kernel]; rfl
theorem e64_96 {d : Nat} {Q : Option AV → St → Prop} {st : List AV} {σ : St} {l0 l1 l2 l3 l4 l5 l6 l7 : Option AV} : Rn (d) Q (64, 96, [l0, l1, l2, l3, l4, l5, l6, l7], st, σ) = Rn (d) Q (64, 16, [l0, l1, l2, l3, l4, l5, l6, l7], st, σ) := E_goto 16 i64_96 (by decide)
theorem e64_99 {d : Nat} {Q : Option AV → St → Prop} {st : List AV} {σ : St} {l0 l1 l2 l3 l4 l6 l7 : Option AV} {x : Int32} : Rn (d) Q (64, 99, [l0, l1, l2, l3, l4, some (vI x), l6, l7], st, σ) = Rn (d) Q (64, 101, [l0, l1, l2, l3, l4, some (vI x), l6, l7], vI x :: st, σ) := E_iload i64_99 rfl
theorem e64_101 {d : Nat} {Q : Option AV → St → Prop} {σ : St} {l0 l1 l2 l3 l4 l5 l6 l7 : Option AV} {x : Int32} : Rn (d) Q (64, 101, [l0, l1, l2, l3, l4, l5, l6, l7], [vI x], σ) = Q (some (vI x)) σ := E_iretI (st := []) i64_101 r64
