def SH (σ : St) : Prop := (gN σ 1 = 5 ∧ gN σ 2 = 1 ∧ gN σ 3 = 6 ∧ gN σ 5 = 1 ∧ gN σ 6 = 4 ∧ gN σ 7 = 1 ∧ gN σ 10 = 1 ∧ gN σ 11 = 1 ∧ gN σ 12 = 1) ∧ (∀ c k i, c < 13 → i < gN σ c → isA c k → gL σ c k i = some (alen c k)) ∧ (gR σ 11 0 0 = some 0 ∧ gR σ 11 13 0 = some 0 ∧ gR σ 11 17 0 = some 0 ∧ gR σ 11 18 0 = some 0) ∧ (∀ j, j < 6 → gQ σ 11 12 0 j = some j) ∧ (∀ j, j < 4 → gQ σ 11 16 0 j = some j)
theorem N1 {σ : St} (h : SH σ) : gN σ 1 = 5 := h.1.1
theorem N2 {σ : St} (h : SH σ) : gN σ 2 = 1 := h.1.2.1
theorem N3 {σ : St} (h : SH σ) : gN σ 3 = 6 := h.1.2.2.1
theorem N5 {σ : St} (h : SH σ) : gN σ 5 = 1 := h.1.2.2.2.1
theorem N6 {σ : St} (h : SH σ) : gN σ 6 = 4 := h.1.2.2.2.2.1
theorem N7 {σ : St} (h : SH σ) : gN σ 7 = 1 := h.1.2.2.2.2.2.1
theorem N10 {σ : St} (h : SH σ) : gN σ 10 = 1 := h.1.2.2.2.2.2.2.1
theorem N11 {σ : St} (h : SH σ) : gN σ 11 = 1 := h.1.2.2.2.2.2.2.2.1
theorem N12 {σ : St} (h : SH σ) : gN σ 12 = 1 := h.1.2.2.2.2.2.2.2.2
theorem L0_2 {σ : St} {i : Nat} (h : SH σ) (hi : i < gN σ 0) : gL σ 0 2 i = some 8 := h.2.1 0 2 i (by decide) hi (Or.inl rfl)
theorem L0_3 {σ : St} {i : Nat} (h : SH σ) (hi : i < gN σ 0) : gL σ 0 3 i = some 8 := h.2.1 0 3 i (by decide) hi (Or.inl rfl)
theorem L0_4 {σ : St} {i : Nat} (h : SH σ) (hi : i < gN σ 0) : gL σ 0 4 i = some 8 := h.2.1 0 4 i (by decide) hi (Or.inl rfl)
theorem L0_5 {σ : St} {i : Nat} (h : SH σ) (hi : i < gN σ 0) : gL σ 0 5 i = some 8 := h.2.1 0 5 i (by decide) hi (Or.inl rfl)
theorem L0_6 {σ : St} {i : Nat} (h : SH σ) (hi : i < gN σ 0) : gL σ 0 6 i = some 8 := h.2.1 0 6 i (by decide) hi (Or.inl rfl)
theorem L0_7 {σ : St} {i : Nat} (h : SH σ) (hi : i < gN σ 0) : gL σ 0 7 i = some 120 := h.2.1 0 7 i (by decide) hi (Or.inl rfl)
theorem L1_1 {σ : St} {i : Nat} (h : SH σ) (hi : i < gN σ 1) : gL σ 1 1 i = some 6 := h.2.1 1 1 i (by decide) hi (Or.inl rfl)
theorem L1_2 {σ : St} {i : Nat} (h : SH σ) (hi : i < gN σ 1) : gL σ 1 2 i = some 6 := h.2.1 1 2 i (by decide) hi (Or.inl rfl)
theorem L1_3 {σ : St} {i : Nat} (h : SH σ) (hi : i < gN σ 1) : gL σ 1 3 i = some 6 := h.2.1 1 3 i (by decide) hi (Or.inl rfl)
theorem L2_0 {σ : St} (h : SH σ) : gL σ 2 0 0 = some 512 := h.2.1 2 0 0 (by decide) (by rw [N2 h]; decide) (Or.inl rfl)
theorem L2_1 {σ : St} (h : SH σ) : gL σ 2 1 0 = some 512 := h.2.1 2 1 0 (by decide) (by rw [N2 h]; decide) (Or.inl rfl)
theorem L2_2 {σ : St} (h : SH σ) : gL σ 2 2 0 = some 512 := h.2.1 2 2 0 (by decide) (by rw [N2 h]; decide) (Or.inl rfl)
theorem L5_0 {σ : St} (h : SH σ) : gL σ 5 0 0 = some 6 := h.2.1 5 0 0 (by decide) (by rw [N5 h]; decide) (Or.inl rfl)
theorem L5_1 {σ : St} (h : SH σ) : gL σ 5 1 0 = some 6 := h.2.1 5 1 0 (by decide) (by rw [N5 h]; decide) (Or.inl rfl)
theorem L5_2 {σ : St} (h : SH σ) : gL σ 5 2 0 = some 6 := h.2.1 5 2 0 (by decide) (by rw [N5 h]; decide) (Or.inl rfl)
theorem L5_3 {σ : St} (h : SH σ) : gL σ 5 3 0 = some 6 := h.2.1 5 3 0 (by decide) (by rw [N5 h]; decide) (Or.inl rfl)
theorem L5_4 {σ : St} (h : SH σ) : gL σ 5 4 0 = some 7 := h.2.1 5 4 0 (by decide) (by rw [N5 h]; decide) (Or.inl rfl)
theorem L5_5 {σ : St} (h : SH σ) : gL σ 5 5 0 = some 7 := h.2.1 5 5 0 (by decide) (by rw [N5 h]; decide) (Or.inl rfl)
theorem L5_6 {σ : St} (h : SH σ) : gL σ 5 6 0 = some 6 := h.2.1 5 6 0 (by decide) (by rw [N5 h]; decide) (Or.inl rfl)
theorem L5_7 {σ : St} (h : SH σ) : gL σ 5 7 0 = some 6 := h.2.1 5 7 0 (by decide) (by rw [N5 h]; decide) (Or.inl rfl)
theorem L6_2 {σ : St} {i : Nat} (h : SH σ) (hi : i < gN σ 6) : gL σ 6 2 i = some 30 := h.2.1 6 2 i (by decide) hi (Or.inl rfl)
theorem L7_0 {σ : St} (h : SH σ) : gL σ 7 0 0 = some 120 := h.2.1 7 0 0 (by decide) (by rw [N7 h]; decide) (Or.inl rfl)
theorem L8_4 {σ : St} {i : Nat} (h : SH σ) (hi : i < gN σ 8) : gL σ 8 4 i = some 20 := h.2.1 8 4 i (by decide) hi (Or.inl rfl)
theorem L10_0 {σ : St} (h : SH σ) : gL σ 10 0 0 = some 256 := h.2.1 10 0 0 (by decide) (by rw [N10 h]; decide) (Or.inl rfl)
theorem L10_1 {σ : St} (h : SH σ) : gL σ 10 1 0 = some 256 := h.2.1 10 1 0 (by decide) (by rw [N10 h]; decide) (Or.inl rfl)
theorem L10_2 {σ : St} (h : SH σ) : gL σ 10 2 0 = some 8 := h.2.1 10 2 0 (by decide) (by rw [N10 h]; decide) (Or.inl rfl)
theorem L11_1 {σ : St} (h : SH σ) : gL σ 11 1 0 = some 24 := h.2.1 11 1 0 (by decide) (by rw [N11 h]; decide) (Or.inr rfl)
theorem L11_2 {σ : St} (h : SH σ) : gL σ 11 2 0 = some 4 := h.2.1 11 2 0 (by decide) (by rw [N11 h]; decide) (Or.inl rfl)
theorem L11_3 {σ : St} (h : SH σ) : gL σ 11 3 0 = some 4 := h.2.1 11 3 0 (by decide) (by rw [N11 h]; decide) (Or.inr rfl)
theorem L11_6 {σ : St} (h : SH σ) : gL σ 11 6 0 = some 12 := h.2.1 11 6 0 (by decide) (by rw [N11 h]; decide) (Or.inr rfl)
theorem L11_8 {σ : St} (h : SH σ) : gL σ 11 8 0 = some 6 := h.2.1 11 8 0 (by decide) (by rw [N11 h]; decide) (Or.inr rfl)
theorem L11_10 {σ : St} (h : SH σ) : gL σ 11 10 0 = some 80 := h.2.1 11 10 0 (by decide) (by rw [N11 h]; decide) (Or.inr rfl)
theorem L11_12 {σ : St} (h : SH σ) : gL σ 11 12 0 = some 6 := h.2.1 11 12 0 (by decide) (by rw [N11 h]; decide) (Or.inr rfl)
theorem L11_14 {σ : St} (h : SH σ) : gL σ 11 14 0 = some 800 := h.2.1 11 14 0 (by decide) (by rw [N11 h]; decide) (Or.inl rfl)
theorem L11_16 {σ : St} (h : SH σ) : gL σ 11 16 0 = some 4 := h.2.1 11 16 0 (by decide) (by rw [N11 h]; decide) (Or.inr rfl)
theorem L11_19 {σ : St} (h : SH σ) : gL σ 11 19 0 = some 8 := h.2.1 11 19 0 (by decide) (by rw [N11 h]; decide) (Or.inl rfl)
theorem L12_0 {σ : St} (h : SH σ) : gL σ 12 0 0 = some 120 := h.2.1 12 0 0 (by decide) (by rw [N12 h]; decide) (Or.inl rfl)
theorem L12_4 {σ : St} (h : SH σ) : gL σ 12 4 0 = some 8 := h.2.1 12 4 0 (by decide) (by rw [N12 h]; decide) (Or.inl rfl)
theorem L12_5 {σ : St} (h : SH σ) : gL σ 12 5 0 = some 8 := h.2.1 12 5 0 (by decide) (by rw [N12 h]; decide) (Or.inl rfl)
theorem L12_6 {σ : St} (h : SH σ) : gL σ 12 6 0 = some 8 := h.2.1 12 6 0 (by decide) (by rw [N12 h]; decide) (Or.inl rfl)
theorem L12_7 {σ : St} (h : SH σ) : gL σ 12 7 0 = some 8 := h.2.1 12 7 0 (by decide) (by rw [N12 h]; decide) (Or.inl rfl)
theorem L12_8 {σ : St} (h : SH σ) : gL σ 12 8 0 = some 128 := h.2.1 12 8 0 (by decide) (by rw [N12 h]; decide) (Or.inl rfl)
theorem L12_13 {σ : St} (h : SH σ) : gL σ 12 13 0 = some 128 := h.2.1 12 13 0 (by decide) (by rw [N12 h]; decide) (Or.inl rfl)
theorem L12_15 {σ : St} (h : SH σ) : gL σ 12 15 0 = some 4 := h.2.1 12 15 0 (by decide) (by rw [N12 h]; decide) (Or.inl rfl)
theorem L12_16 {σ : St} (h : SH σ) : gL σ 12 16 0 = some 24 := h.2.1 12 16 0 (by decide) (by rw [N12 h]; decide) (Or.inl rfl)
theorem L12_17 {σ : St} (h : SH σ) : gL σ 12 17 0 = some 24 := h.2.1 12 17 0 (by decide) (by rw [N12 h]; decide) (Or.inl rfl)
theorem L12_18 {σ : St} (h : SH σ) : gL σ 12 18 0 = some 192 := h.2.1 12 18 0 (by decide) (by rw [N12 h]; decide) (Or.inl rfl)
theorem L12_19 {σ : St} (h : SH σ) : gL σ 12 19 0 = some 192 := h.2.1 12 19 0 (by decide) (by rw [N12 h]; decide) (Or.inl rfl)
theorem L12_20 {σ : St} (h : SH σ) : gL σ 12 20 0 = some 192 := h.2.1 12 20 0 (by decide) (by rw [N12 h]; decide) (Or.inl rfl)
theorem L12_21 {σ : St} (h : SH σ) : gL σ 12 21 0 = some 192 := h.2.1 12 21 0 (by decide) (by rw [N12 h]; decide) (Or.inl rfl)
theorem L12_22 {σ : St} (h : SH σ) : gL σ 12 22 0 = some 3072 := h.2.1 12 22 0 (by decide) (by rw [N12 h]; decide) (Or.inl rfl)
theorem L12_24 {σ : St} (h : SH σ) : gL σ 12 24 0 = some 12 := h.2.1 12 24 0 (by decide) (by rw [N12 h]; decide) (Or.inl rfl)
theorem L12_25 {σ : St} (h : SH σ) : gL σ 12 25 0 = some 12 := h.2.1 12 25 0 (by decide) (by rw [N12 h]; decide) (Or.inl rfl)
theorem L12_26 {σ : St} (h : SH σ) : gL σ 12 26 0 = some 12 := h.2.1 12 26 0 (by decide) (by rw [N12 h]; decide) (Or.inl rfl)
theorem L12_27 {σ : St} (h : SH σ) : gL σ 12 27 0 = some 12 := h.2.1 12 27 0 (by decide) (by rw [N12 h]; decide) (Or.inl rfl)
theorem L12_28 {σ : St} (h : SH σ) : gL σ 12 28 0 = some 12 := h.2.1 12 28 0 (by decide) (by rw [N12 h]; decide) (Or.inl rfl)
theorem L12_29 {σ : St} (h : SH σ) : gL σ 12 29 0 = some 12 := h.2.1 12 29 0 (by decide) (by rw [N12 h]; decide) (Or.inl rfl)
theorem L12_30 {σ : St} (h : SH σ) : gL σ 12 30 0 = some 48000 := h.2.1 12 30 0 (by decide) (by rw [N12 h]; decide) (Or.inl rfl)
theorem L12_31 {σ : St} (h : SH σ) : gL σ 12 31 0 = some 40 := h.2.1 12 31 0 (by decide) (by rw [N12 h]; decide) (Or.inl rfl)
theorem L12_32 {σ : St} (h : SH σ) : gL σ 12 32 0 = some 128 := h.2.1 12 32 0 (by decide) (by rw [N12 h]; decide) (Or.inl rfl)
theorem L12_33 {σ : St} (h : SH σ) : gL σ 12 33 0 = some 256 := h.2.1 12 33 0 (by decide) (by rw [N12 h]; decide) (Or.inl rfl)
theorem L12_34 {σ : St} (h : SH σ) : gL σ 12 34 0 = some 256 := h.2.1 12 34 0 (by decide) (by rw [N12 h]; decide) (Or.inl rfl)
theorem L12_35 {σ : St} (h : SH σ) : gL σ 12 35 0 = some 6 := h.2.1 12 35 0 (by decide) (by rw [N12 h]; decide) (Or.inl rfl)
theorem L12_36 {σ : St} (h : SH σ) : gL σ 12 36 0 = some 6 := h.2.1 12 36 0 (by decide) (by rw [N12 h]; decide) (Or.inl rfl)
theorem L12_37 {σ : St} (h : SH σ) : gL σ 12 37 0 = some 6 := h.2.1 12 37 0 (by decide) (by rw [N12 h]; decide) (Or.inl rfl)
theorem L12_39 {σ : St} (h : SH σ) : gL σ 12 39 0 = some 80 := h.2.1 12 39 0 (by decide) (by rw [N12 h]; decide) (Or.inl rfl)
theorem L12_40 {σ : St} (h : SH σ) : gL σ 12 40 0 = some 80 := h.2.1 12 40 0 (by decide) (by rw [N12 h]; decide) (Or.inl rfl)
theorem L12_41 {σ : St} (h : SH σ) : gL σ 12 41 0 = some 80 := h.2.1 12 41 0 (by decide) (by rw [N12 h]; decide) (Or.inl rfl)
theorem L12_42 {σ : St} (h : SH σ) : gL σ 12 42 0 = some 80 := h.2.1 12 42 0 (by decide) (by rw [N12 h]; decide) (Or.inl rfl)
theorem L12_43 {σ : St} (h : SH σ) : gL σ 12 43 0 = some 80 := h.2.1 12 43 0 (by decide) (by rw [N12 h]; decide) (Or.inl rfl)
theorem L12_44 {σ : St} (h : SH σ) : gL σ 12 44 0 = some 80 := h.2.1 12 44 0 (by decide) (by rw [N12 h]; decide) (Or.inl rfl)
theorem L12_45 {σ : St} (h : SH σ) : gL σ 12 45 0 = some 80 := h.2.1 12 45 0 (by decide) (by rw [N12 h]; decide) (Or.inl rfl)
theorem L12_46 {σ : St} (h : SH σ) : gL σ 12 46 0 = some 80 := h.2.1 12 46 0 (by decide) (by rw [N12 h]; decide) (Or.inl rfl)
theorem L12_47 {σ : St} (h : SH σ) : gL σ 12 47 0 = some 80 := h.2.1 12 47 0 (by decide) (by rw [N12 h]; decide) (Or.inl rfl)
theorem L12_48 {σ : St} (h : SH σ) : gL σ 12 48 0 = some 80 := h.2.1 12 48 0 (by decide) (by rw [N12 h]; decide) (Or.inl rfl)
theorem L12_49 {σ : St} (h : SH σ) : gL σ 12 49 0 = some 80 := h.2.1 12 49 0 (by decide) (by rw [N12 h]; decide) (Or.inl rfl)
theorem L12_50 {σ : St} (h : SH σ) : gL σ 12 50 0 = some 80 := h.2.1 12 50 0 (by decide) (by rw [N12 h]; decide) (Or.inl rfl)
theorem L12_51 {σ : St} (h : SH σ) : gL σ 12 51 0 = some 80 := h.2.1 12 51 0 (by decide) (by rw [N12 h]; decide) (Or.inl rfl)
theorem L12_52 {σ : St} (h : SH σ) : gL σ 12 52 0 = some 80 := h.2.1 12 52 0 (by decide) (by rw [N12 h]; decide) (Or.inl rfl)
theorem L12_53 {σ : St} (h : SH σ) : gL σ 12 53 0 = some 1600 := h.2.1 12 53 0 (by decide) (by rw [N12 h]; decide) (Or.inl rfl)
theorem L12_55 {σ : St} (h : SH σ) : gL σ 12 55 0 = some 6 := h.2.1 12 55 0 (by decide) (by rw [N12 h]; decide) (Or.inl rfl)
theorem L12_56 {σ : St} (h : SH σ) : gL σ 12 56 0 = some 6 := h.2.1 12 56 0 (by decide) (by rw [N12 h]; decide) (Or.inl rfl)
theorem L12_57 {σ : St} (h : SH σ) : gL σ 12 57 0 = some 6 := h.2.1 12 57 0 (by decide) (by rw [N12 h]; decide) (Or.inl rfl)
theorem L12_58 {σ : St} (h : SH σ) : gL σ 12 58 0 = some 6 := h.2.1 12 58 0 (by decide) (by rw [N12 h]; decide) (Or.inl rfl)
theorem L12_60 {σ : St} (h : SH σ) : gL σ 12 60 0 = some 6 := h.2.1 12 60 0 (by decide) (by rw [N12 h]; decide) (Or.inl rfl)
theorem L12_61 {σ : St} (h : SH σ) : gL σ 12 61 0 = some 6 := h.2.1 12 61 0 (by decide) (by rw [N12 h]; decide) (Or.inl rfl)
theorem L12_62 {σ : St} (h : SH σ) : gL σ 12 62 0 = some 6 := h.2.1 12 62 0 (by decide) (by rw [N12 h]; decide) (Or.inl rfl)
theorem L12_63 {σ : St} (h : SH σ) : gL σ 12 63 0 = some 6 := h.2.1 12 63 0 (by decide) (by rw [N12 h]; decide) (Or.inl rfl)
theorem L12_68 {σ : St} (h : SH σ) : gL σ 12 68 0 = some 800 := h.2.1 12 68 0 (by decide) (by rw [N12 h]; decide) (Or.inl rfl)
theorem L12_70 {σ : St} (h : SH σ) : gL σ 12 70 0 = some 4 := h.2.1 12 70 0 (by decide) (by rw [N12 h]; decide) (Or.inl rfl)
theorem L12_71 {σ : St} (h : SH σ) : gL σ 12 71 0 = some 24 := h.2.1 12 71 0 (by decide) (by rw [N12 h]; decide) (Or.inl rfl)
theorem L12_72 {σ : St} (h : SH σ) : gL σ 12 72 0 = some 24 := h.2.1 12 72 0 (by decide) (by rw [N12 h]; decide) (Or.inl rfl)
theorem L12_73 {σ : St} (h : SH σ) : gL σ 12 73 0 = some 4 := h.2.1 12 73 0 (by decide) (by rw [N12 h]; decide) (Or.inl rfl)
theorem L12_74 {σ : St} (h : SH σ) : gL σ 12 74 0 = some 24 := h.2.1 12 74 0 (by decide) (by rw [N12 h]; decide) (Or.inl rfl)
theorem L12_75 {σ : St} (h : SH σ) : gL σ 12 75 0 = some 24 := h.2.1 12 75 0 (by decide) (by rw [N12 h]; decide) (Or.inl rfl)
theorem L12_76 {σ : St} (h : SH σ) : gL σ 12 76 0 = some 6 := h.2.1 12 76 0 (by decide) (by rw [N12 h]; decide) (Or.inl rfl)
theorem L12_77 {σ : St} (h : SH σ) : gL σ 12 77 0 = some 6 := h.2.1 12 77 0 (by decide) (by rw [N12 h]; decide) (Or.inl rfl)
theorem L12_78 {σ : St} (h : SH σ) : gL σ 12 78 0 = some 6 := h.2.1 12 78 0 (by decide) (by rw [N12 h]; decide) (Or.inl rfl)
theorem L12_79 {σ : St} (h : SH σ) : gL σ 12 79 0 = some 4 := h.2.1 12 79 0 (by decide) (by rw [N12 h]; decide) (Or.inl rfl)
theorem L12_80 {σ : St} (h : SH σ) : gL σ 12 80 0 = some 4 := h.2.1 12 80 0 (by decide) (by rw [N12 h]; decide) (Or.inl rfl)
theorem L12_81 {σ : St} (h : SH σ) : gL σ 12 81 0 = some 120 := h.2.1 12 81 0 (by decide) (by rw [N12 h]; decide) (Or.inl rfl)
theorem R11_0 {σ : St} (h : SH σ) : gR σ 11 0 0 = some 0 := h.2.2.1.1
theorem R11_13 {σ : St} (h : SH σ) : gR σ 11 13 0 = some 0 := h.2.2.1.2.1
theorem R11_17 {σ : St} (h : SH σ) : gR σ 11 17 0 = some 0 := h.2.2.1.2.2.1
theorem R11_18 {σ : St} (h : SH σ) : gR σ 11 18 0 = some 0 := h.2.2.1.2.2.2
theorem tI_m1000 : (-1000 : Int32).toInt = -1000 := by decide +kernel
theorem tI_m20 : (-20 : Int32).toInt = -20 := by decide +kernel
theorem tI_m14 : (-14 : Int32).toInt = -14 := by decide +kernel
theorem tI_m13 : (-13 : Int32).toInt = -13 := by decide +kernel
theorem tI_m12 : (-12 : Int32).toInt = -12 := by decide +kernel
theorem tI_m11 : (-11 : Int32).toInt = -11 := by decide +kernel
theorem tI_m4 : (-4 : Int32).toInt = -4 := by decide +kernel
theorem tI_m3 : (-3 : Int32).toInt = -3 := by decide +kernel
theorem tI_m2 : (-2 : Int32).toInt = -2 := by decide +kernel
theorem tI_m1 : (-1 : Int32).toInt = -1 := by decide +kernel
theorem tI_0 : (0 : Int32).toInt = 0 := by decide +kernel
theorem tI_1 : (1 : Int32).toInt = 1 := by decide +kernel
theorem tI_2 : (2 : Int32).toInt = 2 := by decide +kernel
theorem tI_3 : (3 : Int32).toInt = 3 := by decide +kernel
theorem tI_4 : (4 : Int32).toInt = 4 := by decide +kernel
theorem tI_5 : (5 : Int32).toInt = 5 := by decide +kernel
theorem tI_6 : (6 : Int32).toInt = 6 := by decide +kernel
theorem tI_7 : (7 : Int32).toInt = 7 := by decide +kernel
theorem tI_8 : (8 : Int32).toInt = 8 := by decide +kernel
theorem tI_9 : (9 : Int32).toInt = 9 := by decide +kernel
theorem tI_10 : (10 : Int32).toInt = 10 := by decide +kernel
theorem tI_11 : (11 : Int32).toInt = 11 := by decide +kernel
theorem tI_12 : (12 : Int32).toInt = 12 := by decide +kernel
theorem tI_14 : (14 : Int32).toInt = 14 := by decide +kernel
theorem tI_15 : (15 : Int32).toInt = 15 := by decide +kernel
theorem tI_16 : (16 : Int32).toInt = 16 := by decide +kernel
theorem tI_19 : (19 : Int32).toInt = 19 := by decide +kernel
theorem tI_20 : (20 : Int32).toInt = 20 := by decide +kernel
theorem tI_21 : (21 : Int32).toInt = 21 := by decide +kernel
theorem tI_30 : (30 : Int32).toInt = 30 := by decide +kernel
theorem tI_31 : (31 : Int32).toInt = 31 := by decide +kernel
theorem tI_32 : (32 : Int32).toInt = 32 := by decide +kernel
theorem tI_40 : (40 : Int32).toInt = 40 := by decide +kernel
theorem tI_60 : (60 : Int32).toInt = 60 := by decide +kernel
theorem tI_61 : (61 : Int32).toInt = 61 := by decide +kernel
theorem tI_80 : (80 : Int32).toInt = 80 := by decide +kernel
theorem tI_90 : (90 : Int32).toInt = 90 := by decide +kernel
theorem tI_97 : (97 : Int32).toInt = 97 := by decide +kernel
theorem tI_100 : (100 : Int32).toInt = 100 := by decide +kernel
theorem tI_101 : (101 : Int32).toInt = 101 := by decide +kernel
theorem tI_119 : (119 : Int32).toInt = 119 := by decide +kernel
theorem tI_120 : (120 : Int32).toInt = 120 := by decide +kernel
theorem tI_121 : (121 : Int32).toInt = 121 := by decide +kernel
theorem tI_126 : (126 : Int32).toInt = 126 := by decide +kernel
theorem tI_128 : (128 : Int32).toInt = 128 := by decide +kernel
theorem tI_255 : (255 : Int32).toInt = 255 := by decide +kernel
theorem tI_256 : (256 : Int32).toInt = 256 := by decide +kernel
theorem tI_500 : (500 : Int32).toInt = 500 := by decide +kernel
theorem tI_512 : (512 : Int32).toInt = 512 := by decide +kernel
theorem tI_600 : (600 : Int32).toInt = 600 := by decide +kernel
theorem tI_999 : (999 : Int32).toInt = 999 := by decide +kernel
theorem tI_1000 : (1000 : Int32).toInt = 1000 := by decide +kernel
theorem tI_3999 : (3999 : Int32).toInt = 3999 := by decide +kernel
theorem tI_4000 : (4000 : Int32).toInt = 4000 := by decide +kernel
theorem tI_4095 : (4095 : Int32).toInt = 4095 := by decide +kernel
theorem tI_4096 : (4096 : Int32).toInt = 4096 := by decide +kernel
theorem tI_99999 : (99999 : Int32).toInt = 99999 := by decide +kernel
theorem tI_100000 : (100000 : Int32).toInt = 100000 := by decide +kernel
theorem tL_0 : (0 : Int64).toInt = 0 := by decide +kernel
theorem tL_1 : (1 : Int64).toInt = 1 := by decide +kernel
theorem tL_2 : (2 : Int64).toInt = 2 := by decide +kernel
theorem tL_3 : (3 : Int64).toInt = 3 := by decide +kernel
theorem tL_4 : (4 : Int64).toInt = 4 := by decide +kernel
theorem tL_5 : (5 : Int64).toInt = 5 := by decide +kernel
theorem tL_7 : (7 : Int64).toInt = 7 := by decide +kernel
theorem tL_8 : (8 : Int64).toInt = 8 := by decide +kernel
theorem tL_9 : (9 : Int64).toInt = 9 := by decide +kernel
theorem tL_15 : (15 : Int64).toInt = 15 := by decide +kernel
theorem tL_19 : (19 : Int64).toInt = 19 := by decide +kernel
theorem tL_20 : (20 : Int64).toInt = 20 := by decide +kernel
theorem tL_32 : (32 : Int64).toInt = 32 := by decide +kernel
theorem tL_39 : (39 : Int64).toInt = 39 := by decide +kernel
theorem tL_48 : (48 : Int64).toInt = 48 := by decide +kernel
theorem tL_57 : (57 : Int64).toInt = 57 := by decide +kernel
theorem tL_60 : (60 : Int64).toInt = 60 := by decide +kernel
theorem tL_97 : (97 : Int64).toInt = 97 := by decide +kernel
theorem tL_100 : (100 : Int64).toInt = 100 := by decide +kernel
theorem tL_104 : (104 : Int64).toInt = 104 := by decide +kernel
theorem tL_126 : (126 : Int64).toInt = 126 := by decide +kernel
theorem tL_255 : (255 : Int64).toInt = 255 := by decide +kernel
theorem tL_3999 : (3999 : Int64).toInt = 3999 := by decide +kernel
theorem tL_4095 : (4095 : Int64).toInt = 4095 := by decide +kernel
theorem tL_99999 : (99999 : Int64).toInt = 99999 := by decide +kernel
theorem wide_toInt (a : Int32) : a.toInt64.toInt = a.toInt := Int32.toInt_toInt64 a
