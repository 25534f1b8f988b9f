/-- the two stores of the search are now and next, whichever -/
def NN (mr : Nat → Nat → Nat) : Prop := mr 44 4 = 51 ∧ mr 44 5 = 256 ∨ mr 44 4 = 256 ∧ mr 44 5 = 51
theorem NN.a {mr : Nat → Nat → Nat} (h : NN mr) : isBs (mr 44 4) := by unfold NN at h; unfold isBs; omega
theorem NN.b {mr : Nat → Nat → Nat} (h : NN mr) : isBs (mr 44 5) := by unfold NN at h; unfold isBs; omega
theorem NN_fr {mr mr' : Nat → Nat → Nat} (h : NN mr) (h1 : mr' 44 = mr 44) : NN mr' := by unfold NN at *; rw [h1]; exact h
def FLr (sc : Int) (ρ u : Nat → Int) (r : Int) : Prop := (r = -9 ∧ ∃ i : Nat, (i : Int) < sc ∧ 0 < lk0 ρ u i ∧ nog sc ρ i) ∨ (r = (if ρ 4 = -9 then 1 else 2) + lks ρ u sc.toNat ∧ ∀ i : Nat, (i : Int) < sc → ¬ (0 < lk0 ρ u i ∧ nog sc ρ i))
theorem FLr_b {sc : Int} {ρ u : Nat → Int} {r : Int} (h : FLr sc ρ u r) (hs : 1 ≤ sc ∧ sc ≤ 5) (hu : ∀ j : Nat, j < 5 → 0 ≤ u j ∧ u j ≤ 1000) : -9 ≤ r ∧ r ≤ 5002 := by
  have hk := lks_b (ρ := ρ) hu sc.toNat (by omega)
  rcases h with ⟨h, -⟩ | ⟨h, -⟩
  · omega
  · have : (sc.toNat : Int) ≤ 5 := by omega
    split at h <;> omega
theorem dX0_forget_0 : decode cX0_forget 0 = .ok (.aload_n 0, 1) := by decide +kernel
theorem dX0_forget_1 : decode cX0_forget 1 = .ok (.bipush (-3), 2) := by decide +kernel
theorem dX0_forget_3 : decode cX0_forget 3 = .ok (.putfield 40, 3) := by decide +kernel
theorem dX0_forget_6 : decode cX0_forget 6 = .ok (.return_, 1) := by decide +kernel
theorem dX0_dooms_0 : decode cX0_dooms 0 = .ok (.aload_n 0, 1) := by decide +kernel
theorem dX0_dooms_1 : decode cX0_dooms 1 = .ok (.getfield 33, 3) := by decide +kernel
theorem dX0_dooms_4 : decode cX0_dooms 4 = .ok (.aload_n 1, 1) := by decide +kernel
theorem dX0_dooms_5 : decode cX0_dooms 5 = .ok (.invokevirtual 48, 3) := by decide +kernel
theorem dX0_dooms_8 : decode cX0_dooms 8 = .ok (.ireturn, 1) := by decide +kernel
theorem dX0_leastFromStart_0 : decode cX0_leastFromStart 0 = .ok (.iconst 0, 1) := by decide +kernel
theorem dX0_leastFromStart_1 : decode cX0_leastFromStart 1 = .ok (.istore_n 1, 1) := by decide +kernel
theorem dX0_leastFromStart_2 : decode cX0_leastFromStart 2 = .ok (.iload_n 1, 1) := by decide +kernel
theorem dX0_leastFromStart_3 : decode cX0_leastFromStart 3 = .ok (.aload_n 0, 1) := by decide +kernel
theorem dX0_leastFromStart_4 : decode cX0_leastFromStart 4 = .ok (.getfield 33, 3) := by decide +kernel
theorem dX0_leastFromStart_7 : decode cX0_leastFromStart 7 = .ok (.getfield 52, 3) := by decide +kernel
theorem dX0_leastFromStart_10 : decode cX0_leastFromStart 10 = .ok (.if_icmp .ge 41, 3) := by decide +kernel
theorem dX0_leastFromStart_13 : decode cX0_leastFromStart 13 = .ok (.aload_n 0, 1) := by decide +kernel
theorem dX0_leastFromStart_14 : decode cX0_leastFromStart 14 = .ok (.getfield 44, 3) := by decide +kernel
theorem dX0_leastFromStart_17 : decode cX0_leastFromStart 17 = .ok (.aload_n 0, 1) := by decide +kernel
theorem dX0_leastFromStart_18 : decode cX0_leastFromStart 18 = .ok (.getfield 33, 3) := by decide +kernel
theorem dX0_leastFromStart_21 : decode cX0_leastFromStart 21 = .ok (.getfield 55, 3) := by decide +kernel
theorem dX0_leastFromStart_24 : decode cX0_leastFromStart 24 = .ok (.iload_n 1, 1) := by decide +kernel
theorem dX0_leastFromStart_25 : decode cX0_leastFromStart 25 = .ok (.aaload, 1) := by decide +kernel
theorem dX0_leastFromStart_26 : decode cX0_leastFromStart 26 = .ok (.invokevirtual 59, 3) := by decide +kernel
theorem dX0_leastFromStart_29 : decode cX0_leastFromStart 29 = .ok (.ifCond .eq 16, 3) := by decide +kernel
theorem dX0_leastFromStart_32 : decode cX0_leastFromStart 32 = .ok (.aload_n 0, 1) := by decide +kernel
theorem dX0_leastFromStart_33 : decode cX0_leastFromStart 33 = .ok (.getfield 33, 3) := by decide +kernel
theorem dX0_leastFromStart_36 : decode cX0_leastFromStart 36 = .ok (.getfield 55, 3) := by decide +kernel
theorem dX0_leastFromStart_39 : decode cX0_leastFromStart 39 = .ok (.iload_n 1, 1) := by decide +kernel
theorem dX0_leastFromStart_40 : decode cX0_leastFromStart 40 = .ok (.aaload, 1) := by decide +kernel
theorem dX0_leastFromStart_41 : decode cX0_leastFromStart 41 = .ok (.invokevirtual 64, 3) := by decide +kernel
theorem dX0_leastFromStart_44 : decode cX0_leastFromStart 44 = .ok (.ireturn, 1) := by decide +kernel
theorem dX0_leastFromStart_45 : decode cX0_leastFromStart 45 = .ok (.iinc 1 1, 3) := by decide +kernel
theorem dX0_leastFromStart_48 : decode cX0_leastFromStart 48 = .ok (.goto (-46), 3) := by decide +kernel
theorem dX0_leastFromStart_51 : decode cX0_leastFromStart 51 = .ok (.bipush (-9), 2) := by decide +kernel
theorem dX0_leastFromStart_53 : decode cX0_leastFromStart 53 = .ok (.ireturn, 1) := by decide +kernel
theorem dX0_setOut_0 : decode cX0_setOut 0 = .ok (.aload_n 1, 1) := by decide +kernel
theorem dX0_setOut_1 : decode cX0_setOut 1 = .ok (.aload_n 2, 1) := by decide +kernel
theorem dX0_setOut_2 : decode cX0_setOut 2 = .ok (.aload_n 0, 1) := by decide +kernel
theorem dX0_setOut_3 : decode cX0_setOut 3 = .ok (.getfield 44, 3) := by decide +kernel
theorem dX0_setOut_6 : decode cX0_setOut 6 = .ok (.getfield 117, 3) := by decide +kernel
theorem dX0_setOut_9 : decode cX0_setOut 9 = .ok (.aload_n 0, 1) := by decide +kernel
theorem dX0_setOut_10 : decode cX0_setOut 10 = .ok (.getfield 23, 3) := by decide +kernel
theorem dX0_setOut_13 : decode cX0_setOut 13 = .ok (.invokevirtual 120, 3) := by decide +kernel
theorem dX0_setOut_16 : decode cX0_setOut 16 = .ok (.pop, 1) := by decide +kernel
theorem dX0_setOut_17 : decode cX0_setOut 17 = .ok (.aload_n 0, 1) := by decide +kernel
theorem dX0_setOut_18 : decode cX0_setOut 18 = .ok (.getfield 27, 3) := by decide +kernel
theorem dX0_setOut_21 : decode cX0_setOut 21 = .ok (.invokevirtual 145, 3) := by decide +kernel
theorem dX0_setOut_24 : decode cX0_setOut 24 = .ok (.aload_n 0, 1) := by decide +kernel
theorem dX0_setOut_25 : decode cX0_setOut 25 = .ok (.getfield 27, 3) := by decide +kernel
theorem dX0_setOut_28 : decode cX0_setOut 28 = .ok (.aload_n 1, 1) := by decide +kernel
theorem dX0_setOut_29 : decode cX0_setOut 29 = .ok (.getfield 146, 3) := by decide +kernel
theorem dX0_setOut_32 : decode cX0_setOut 32 = .ok (.iconst 1, 1) := by decide +kernel
theorem dX0_setOut_33 : decode cX0_setOut 33 = .ok (.invokevirtual 149, 3) := by decide +kernel
theorem dX0_setOut_36 : decode cX0_setOut 36 = .ok (.aload_n 0, 1) := by decide +kernel
theorem dX0_setOut_37 : decode cX0_setOut 37 = .ok (.getfield 27, 3) := by decide +kernel
theorem dX0_setOut_40 : decode cX0_setOut 40 = .ok (.aload_n 1, 1) := by decide +kernel
theorem dX0_setOut_41 : decode cX0_setOut 41 = .ok (.getfield 153, 3) := by decide +kernel
theorem dX0_setOut_44 : decode cX0_setOut 44 = .ok (.iconst 1, 1) := by decide +kernel
theorem dX0_setOut_45 : decode cX0_setOut 45 = .ok (.invokevirtual 149, 3) := by decide +kernel
theorem dX0_setOut_48 : decode cX0_setOut 48 = .ok (.aload_n 0, 1) := by decide +kernel
theorem dX0_setOut_49 : decode cX0_setOut 49 = .ok (.getfield 27, 3) := by decide +kernel
theorem dX0_setOut_52 : decode cX0_setOut 52 = .ok (.aload_n 1, 1) := by decide +kernel
theorem dX0_setOut_53 : decode cX0_setOut 53 = .ok (.getfield 156, 3) := by decide +kernel
theorem dX0_setOut_56 : decode cX0_setOut 56 = .ok (.iconst 1, 1) := by decide +kernel
theorem dX0_setOut_57 : decode cX0_setOut 57 = .ok (.invokevirtual 149, 3) := by decide +kernel
theorem dX0_setOut_60 : decode cX0_setOut 60 = .ok (.aload_n 0, 1) := by decide +kernel
theorem dX0_setOut_61 : decode cX0_setOut 61 = .ok (.getfield 23, 3) := by decide +kernel
theorem dX0_setOut_64 : decode cX0_setOut 64 = .ok (.aload_n 1, 1) := by decide +kernel
theorem dX0_setOut_65 : decode cX0_setOut 65 = .ok (.aload_n 1, 1) := by decide +kernel
theorem dX0_setOut_66 : decode cX0_setOut 66 = .ok (.getfield 156, 3) := by decide +kernel
theorem dX0_setOut_69 : decode cX0_setOut 69 = .ok (.invokevirtual 159, 3) := by decide +kernel
theorem dX0_setOut_72 : decode cX0_setOut 72 = .ok (.iconst (-1), 1) := by decide +kernel
theorem dX0_setOut_73 : decode cX0_setOut 73 = .ok (.invokevirtual 149, 3) := by decide +kernel
theorem dX0_setOut_76 : decode cX0_setOut 76 = .ok (.return_, 1) := by decide +kernel
theorem dX0_findSums_0 : decode cX0_findSums 0 = .ok (.iconst 0, 1) := by decide +kernel
theorem dX0_findSums_1 : decode cX0_findSums 1 = .ok (.istore_n 1, 1) := by decide +kernel
theorem dX0_findSums_2 : decode cX0_findSums 2 = .ok (.iconst 0, 1) := by decide +kernel
theorem dX0_findSums_3 : decode cX0_findSums 3 = .ok (.istore_n 2, 1) := by decide +kernel
theorem dX0_findSums_4 : decode cX0_findSums 4 = .ok (.iload_n 2, 1) := by decide +kernel
theorem dX0_findSums_5 : decode cX0_findSums 5 = .ok (.aload_n 0, 1) := by decide +kernel
theorem dX0_findSums_6 : decode cX0_findSums 6 = .ok (.getfield 33, 3) := by decide +kernel
theorem dX0_findSums_9 : decode cX0_findSums 9 = .ok (.getfield 52, 3) := by decide +kernel
theorem dX0_findSums_12 : decode cX0_findSums 12 = .ok (.if_icmp .ge 97, 3) := by decide +kernel
theorem dX0_findSums_15 : decode cX0_findSums 15 = .ok (.iload_n 1, 1) := by decide +kernel
theorem dX0_findSums_16 : decode cX0_findSums 16 = .ok (.aload_n 0, 1) := by decide +kernel
theorem dX0_findSums_17 : decode cX0_findSums 17 = .ok (.getfield 33, 3) := by decide +kernel
theorem dX0_findSums_20 : decode cX0_findSums 20 = .ok (.getfield 55, 3) := by decide +kernel
theorem dX0_findSums_23 : decode cX0_findSums 23 = .ok (.iload_n 2, 1) := by decide +kernel
theorem dX0_findSums_24 : decode cX0_findSums 24 = .ok (.aaload, 1) := by decide +kernel
theorem dX0_findSums_25 : decode cX0_findSums 25 = .ok (.invokevirtual 64, 3) := by decide +kernel
theorem dX0_findSums_28 : decode cX0_findSums 28 = .ok (.invokestatic 104, 3) := by decide +kernel
theorem dX0_findSums_31 : decode cX0_findSums 31 = .ok (.istore_n 1, 1) := by decide +kernel
theorem dX0_findSums_32 : decode cX0_findSums 32 = .ok (.iconst 0, 1) := by decide +kernel
theorem dX0_findSums_33 : decode cX0_findSums 33 = .ok (.istore_n 3, 1) := by decide +kernel
theorem dX0_findSums_34 : decode cX0_findSums 34 = .ok (.iload_n 3, 1) := by decide +kernel
theorem dX0_findSums_35 : decode cX0_findSums 35 = .ok (.aload_n 0, 1) := by decide +kernel
theorem dX0_findSums_36 : decode cX0_findSums 36 = .ok (.getfield 44, 3) := by decide +kernel
theorem dX0_findSums_39 : decode cX0_findSums 39 = .ok (.getfield 110, 3) := by decide +kernel
theorem dX0_findSums_42 : decode cX0_findSums 42 = .ok (.if_icmp .ge 61, 3) := by decide +kernel
theorem dX0_findSums_45 : decode cX0_findSums 45 = .ok (.aload_n 0, 1) := by decide +kernel
theorem dX0_findSums_46 : decode cX0_findSums 46 = .ok (.getfield 44, 3) := by decide +kernel
theorem dX0_findSums_49 : decode cX0_findSums 49 = .ok (.getfield 113, 3) := by decide +kernel
theorem dX0_findSums_52 : decode cX0_findSums 52 = .ok (.iload_n 3, 1) := by decide +kernel
theorem dX0_findSums_53 : decode cX0_findSums 53 = .ok (.aaload, 1) := by decide +kernel
theorem dX0_findSums_54 : decode cX0_findSums 54 = .ok (.aload_n 0, 1) := by decide +kernel
theorem dX0_findSums_55 : decode cX0_findSums 55 = .ok (.getfield 33, 3) := by decide +kernel
theorem dX0_findSums_58 : decode cX0_findSums 58 = .ok (.getfield 55, 3) := by decide +kernel
theorem dX0_findSums_61 : decode cX0_findSums 61 = .ok (.iload_n 2, 1) := by decide +kernel
theorem dX0_findSums_62 : decode cX0_findSums 62 = .ok (.aaload, 1) := by decide +kernel
theorem dX0_findSums_63 : decode cX0_findSums 63 = .ok (.aload_n 0, 1) := by decide +kernel
theorem dX0_findSums_64 : decode cX0_findSums 64 = .ok (.getfield 44, 3) := by decide +kernel
theorem dX0_findSums_67 : decode cX0_findSums 67 = .ok (.getfield 117, 3) := by decide +kernel
theorem dX0_findSums_70 : decode cX0_findSums 70 = .ok (.aload_n 0, 1) := by decide +kernel
theorem dX0_findSums_71 : decode cX0_findSums 71 = .ok (.getfield 23, 3) := by decide +kernel
theorem dX0_findSums_74 : decode cX0_findSums 74 = .ok (.invokevirtual 120, 3) := by decide +kernel
theorem dX0_findSums_77 : decode cX0_findSums 77 = .ok (.istore 4, 2) := by decide +kernel
theorem dX0_findSums_79 : decode cX0_findSums 79 = .ok (.iload_n 1, 1) := by decide +kernel
theorem dX0_findSums_80 : decode cX0_findSums 80 = .ok (.iload 4, 2) := by decide +kernel
theorem dX0_findSums_82 : decode cX0_findSums 82 = .ok (.invokestatic 104, 3) := by decide +kernel
theorem dX0_findSums_85 : decode cX0_findSums 85 = .ok (.istore_n 1, 1) := by decide +kernel
theorem dX0_findSums_86 : decode cX0_findSums 86 = .ok (.aload_n 0, 1) := by decide +kernel
theorem dX0_findSums_87 : decode cX0_findSums 87 = .ok (.getfield 14, 3) := by decide +kernel
theorem dX0_findSums_90 : decode cX0_findSums 90 = .ok (.iload_n 2, 1) := by decide +kernel
theorem dX0_findSums_91 : decode cX0_findSums 91 = .ok (.iload_n 3, 1) := by decide +kernel
theorem dX0_findSums_92 : decode cX0_findSums 92 = .ok (.iload 4, 2) := by decide +kernel
theorem dX0_findSums_94 : decode cX0_findSums 94 = .ok (.invokevirtual 126, 3) := by decide +kernel
theorem dX0_findSums_97 : decode cX0_findSums 97 = .ok (.iinc 3 1, 3) := by decide +kernel
theorem dX0_findSums_100 : decode cX0_findSums 100 = .ok (.goto (-66), 3) := by decide +kernel
theorem dX0_findSums_103 : decode cX0_findSums 103 = .ok (.iinc 2 1, 3) := by decide +kernel
theorem dX0_findSums_106 : decode cX0_findSums 106 = .ok (.goto (-102), 3) := by decide +kernel
theorem dX0_findSums_109 : decode cX0_findSums 109 = .ok (.iload_n 1, 1) := by decide +kernel
theorem dX0_findSums_110 : decode cX0_findSums 110 = .ok (.ireturn, 1) := by decide +kernel
theorem dX0_keepOld_0 : decode cX0_keepOld 0 = .ok (.iconst 0, 1) := by decide +kernel
theorem dX0_keepOld_1 : decode cX0_keepOld 1 = .ok (.istore_n 2, 1) := by decide +kernel
theorem dX0_keepOld_2 : decode cX0_keepOld 2 = .ok (.iload_n 2, 1) := by decide +kernel
theorem dX0_keepOld_3 : decode cX0_keepOld 3 = .ok (.aload_n 0, 1) := by decide +kernel
theorem dX0_keepOld_4 : decode cX0_keepOld 4 = .ok (.getfield 33, 3) := by decide +kernel
theorem dX0_keepOld_7 : decode cX0_keepOld 7 = .ok (.getfield 52, 3) := by decide +kernel
theorem dX0_keepOld_10 : decode cX0_keepOld 10 = .ok (.if_icmp .ge 61, 3) := by decide +kernel
theorem dX0_keepOld_13 : decode cX0_keepOld 13 = .ok (.aload_n 0, 1) := by decide +kernel
theorem dX0_keepOld_14 : decode cX0_keepOld 14 = .ok (.getfield 33, 3) := by decide +kernel
theorem dX0_keepOld_17 : decode cX0_keepOld 17 = .ok (.getfield 55, 3) := by decide +kernel
theorem dX0_keepOld_20 : decode cX0_keepOld 20 = .ok (.iload_n 2, 1) := by decide +kernel
theorem dX0_keepOld_21 : decode cX0_keepOld 21 = .ok (.aaload, 1) := by decide +kernel
theorem dX0_keepOld_22 : decode cX0_keepOld 22 = .ok (.invokevirtual 64, 3) := by decide +kernel
theorem dX0_keepOld_25 : decode cX0_keepOld 25 = .ok (.iload_n 1, 1) := by decide +kernel
theorem dX0_keepOld_26 : decode cX0_keepOld 26 = .ok (.if_icmp .ne 39, 3) := by decide +kernel
theorem dX0_keepOld_29 : decode cX0_keepOld 29 = .ok (.aload_n 0, 1) := by decide +kernel
theorem dX0_keepOld_30 : decode cX0_keepOld 30 = .ok (.getfield 37, 3) := by decide +kernel
theorem dX0_keepOld_33 : decode cX0_keepOld 33 = .ok (.aload_n 0, 1) := by decide +kernel
theorem dX0_keepOld_34 : decode cX0_keepOld 34 = .ok (.getfield 33, 3) := by decide +kernel
theorem dX0_keepOld_37 : decode cX0_keepOld 37 = .ok (.getfield 55, 3) := by decide +kernel
theorem dX0_keepOld_40 : decode cX0_keepOld 40 = .ok (.iload_n 2, 1) := by decide +kernel
theorem dX0_keepOld_41 : decode cX0_keepOld 41 = .ok (.aaload, 1) := by decide +kernel
theorem dX0_keepOld_42 : decode cX0_keepOld 42 = .ok (.invokevirtual 48, 3) := by decide +kernel
theorem dX0_keepOld_45 : decode cX0_keepOld 45 = .ok (.ifCond .ne 20, 3) := by decide +kernel
theorem dX0_keepOld_48 : decode cX0_keepOld 48 = .ok (.aload_n 0, 1) := by decide +kernel
theorem dX0_keepOld_49 : decode cX0_keepOld 49 = .ok (.getfield 37, 3) := by decide +kernel
theorem dX0_keepOld_52 : decode cX0_keepOld 52 = .ok (.aload_n 0, 1) := by decide +kernel
theorem dX0_keepOld_53 : decode cX0_keepOld 53 = .ok (.getfield 33, 3) := by decide +kernel
theorem dX0_keepOld_56 : decode cX0_keepOld 56 = .ok (.getfield 55, 3) := by decide +kernel
theorem dX0_keepOld_59 : decode cX0_keepOld 59 = .ok (.iload_n 2, 1) := by decide +kernel
theorem dX0_keepOld_60 : decode cX0_keepOld 60 = .ok (.aaload, 1) := by decide +kernel
theorem dX0_keepOld_61 : decode cX0_keepOld 61 = .ok (.iconst 0, 1) := by decide +kernel
theorem dX0_keepOld_62 : decode cX0_keepOld 62 = .ok (.invokevirtual 90, 3) := by decide +kernel
theorem dX0_keepOld_65 : decode cX0_keepOld 65 = .ok (.iinc 2 1, 3) := by decide +kernel
theorem dX0_keepOld_68 : decode cX0_keepOld 68 = .ok (.goto (-66), 3) := by decide +kernel
theorem dX0_keepOld_71 : decode cX0_keepOld 71 = .ok (.return_, 1) := by decide +kernel
theorem dX0_takeBadOnes_0 : decode cX0_takeBadOnes 0 = .ok (.aload_n 0, 1) := by decide +kernel
theorem dX0_takeBadOnes_1 : decode cX0_takeBadOnes 1 = .ok (.getfield 33, 3) := by decide +kernel
theorem dX0_takeBadOnes_4 : decode cX0_takeBadOnes 4 = .ok (.invokevirtual 81, 3) := by decide +kernel
theorem dX0_takeBadOnes_7 : decode cX0_takeBadOnes 7 = .ok (.iconst 1, 1) := by decide +kernel
theorem dX0_takeBadOnes_8 : decode cX0_takeBadOnes 8 = .ok (.istore_n 1, 1) := by decide +kernel
theorem dX0_takeBadOnes_9 : decode cX0_takeBadOnes 9 = .ok (.iload_n 1, 1) := by decide +kernel
theorem dX0_takeBadOnes_10 : decode cX0_takeBadOnes 10 = .ok (.bipush 45, 2) := by decide +kernel
theorem dX0_takeBadOnes_12 : decode cX0_takeBadOnes 12 = .ok (.if_icmp .gt 80, 3) := by decide +kernel
theorem dX0_takeBadOnes_15 : decode cX0_takeBadOnes 15 = .ok (.iconst 0, 1) := by decide +kernel
theorem dX0_takeBadOnes_16 : decode cX0_takeBadOnes 16 = .ok (.istore_n 2, 1) := by decide +kernel
theorem dX0_takeBadOnes_17 : decode cX0_takeBadOnes 17 = .ok (.iload_n 2, 1) := by decide +kernel
theorem dX0_takeBadOnes_18 : decode cX0_takeBadOnes 18 = .ok (.aload_n 0, 1) := by decide +kernel
theorem dX0_takeBadOnes_19 : decode cX0_takeBadOnes 19 = .ok (.getfield 44, 3) := by decide +kernel
theorem dX0_takeBadOnes_22 : decode cX0_takeBadOnes 22 = .ok (.getfield 84, 3) := by decide +kernel
theorem dX0_takeBadOnes_25 : decode cX0_takeBadOnes 25 = .ok (.if_icmp .ge 61, 3) := by decide +kernel
theorem dX0_takeBadOnes_28 : decode cX0_takeBadOnes 28 = .ok (.aload_n 0, 1) := by decide +kernel
theorem dX0_takeBadOnes_29 : decode cX0_takeBadOnes 29 = .ok (.getfield 44, 3) := by decide +kernel
theorem dX0_takeBadOnes_32 : decode cX0_takeBadOnes 32 = .ok (.getfield 87, 3) := by decide +kernel
theorem dX0_takeBadOnes_35 : decode cX0_takeBadOnes 35 = .ok (.iload_n 2, 1) := by decide +kernel
theorem dX0_takeBadOnes_36 : decode cX0_takeBadOnes 36 = .ok (.aaload, 1) := by decide +kernel
theorem dX0_takeBadOnes_37 : decode cX0_takeBadOnes 37 = .ok (.invokevirtual 64, 3) := by decide +kernel
theorem dX0_takeBadOnes_40 : decode cX0_takeBadOnes 40 = .ok (.iload_n 1, 1) := by decide +kernel
theorem dX0_takeBadOnes_41 : decode cX0_takeBadOnes 41 = .ok (.if_icmp .ne 39, 3) := by decide +kernel
theorem dX0_takeBadOnes_44 : decode cX0_takeBadOnes 44 = .ok (.aload_n 0, 1) := by decide +kernel
theorem dX0_takeBadOnes_45 : decode cX0_takeBadOnes 45 = .ok (.getfield 33, 3) := by decide +kernel
theorem dX0_takeBadOnes_48 : decode cX0_takeBadOnes 48 = .ok (.aload_n 0, 1) := by decide +kernel
theorem dX0_takeBadOnes_49 : decode cX0_takeBadOnes 49 = .ok (.getfield 44, 3) := by decide +kernel
theorem dX0_takeBadOnes_52 : decode cX0_takeBadOnes 52 = .ok (.getfield 87, 3) := by decide +kernel
theorem dX0_takeBadOnes_55 : decode cX0_takeBadOnes 55 = .ok (.iload_n 2, 1) := by decide +kernel
theorem dX0_takeBadOnes_56 : decode cX0_takeBadOnes 56 = .ok (.aaload, 1) := by decide +kernel
theorem dX0_takeBadOnes_57 : decode cX0_takeBadOnes 57 = .ok (.invokevirtual 48, 3) := by decide +kernel
theorem dX0_takeBadOnes_60 : decode cX0_takeBadOnes 60 = .ok (.ifCond .ne 20, 3) := by decide +kernel
theorem dX0_takeBadOnes_63 : decode cX0_takeBadOnes 63 = .ok (.aload_n 0, 1) := by decide +kernel
theorem dX0_takeBadOnes_64 : decode cX0_takeBadOnes 64 = .ok (.getfield 33, 3) := by decide +kernel
theorem dX0_takeBadOnes_67 : decode cX0_takeBadOnes 67 = .ok (.aload_n 0, 1) := by decide +kernel
theorem dX0_takeBadOnes_68 : decode cX0_takeBadOnes 68 = .ok (.getfield 44, 3) := by decide +kernel
theorem dX0_takeBadOnes_71 : decode cX0_takeBadOnes 71 = .ok (.getfield 87, 3) := by decide +kernel
theorem dX0_takeBadOnes_74 : decode cX0_takeBadOnes 74 = .ok (.iload_n 2, 1) := by decide +kernel
theorem dX0_takeBadOnes_75 : decode cX0_takeBadOnes 75 = .ok (.aaload, 1) := by decide +kernel
theorem dX0_takeBadOnes_76 : decode cX0_takeBadOnes 76 = .ok (.iconst 1, 1) := by decide +kernel
theorem dX0_takeBadOnes_77 : decode cX0_takeBadOnes 77 = .ok (.invokevirtual 90, 3) := by decide +kernel
theorem dX0_takeBadOnes_80 : decode cX0_takeBadOnes 80 = .ok (.iinc 2 1, 3) := by decide +kernel
theorem dX0_takeBadOnes_83 : decode cX0_takeBadOnes 83 = .ok (.goto (-66), 3) := by decide +kernel
theorem dX0_takeBadOnes_86 : decode cX0_takeBadOnes 86 = .ok (.iinc 1 1, 3) := by decide +kernel
theorem dX0_takeBadOnes_89 : decode cX0_takeBadOnes 89 = .ok (.goto (-80), 3) := by decide +kernel
theorem dX0_takeBadOnes_92 : decode cX0_takeBadOnes 92 = .ok (.return_, 1) := by decide +kernel
theorem hl_yX0_forget : (yX0_forget.cls ≠ "java/lang/invoke/MethodHandle" ∧ yX0_forget.cls ≠ "java/lang/invoke/VarHandle") ∧ (parseMethodDescriptor yX0_forget.desc).map (fun d => d.parameters.length) = some 0 := by decide +kernel
theorem hl_yX0_dooms : (yX0_dooms.cls ≠ "java/lang/invoke/MethodHandle" ∧ yX0_dooms.cls ≠ "java/lang/invoke/VarHandle") ∧ (parseMethodDescriptor yX0_dooms.desc).map (fun d => d.parameters.length) = some 1 := by decide +kernel
theorem hl_yX0_leastFromStart : (yX0_leastFromStart.cls ≠ "java/lang/invoke/MethodHandle" ∧ yX0_leastFromStart.cls ≠ "java/lang/invoke/VarHandle") ∧ (parseMethodDescriptor yX0_leastFromStart.desc).map (fun d => d.parameters.length) = some 0 := by decide +kernel
theorem hl_yX0_setOut : (yX0_setOut.cls ≠ "java/lang/invoke/MethodHandle" ∧ yX0_setOut.cls ≠ "java/lang/invoke/VarHandle") ∧ (parseMethodDescriptor yX0_setOut.desc).map (fun d => d.parameters.length) = some 2 := by decide +kernel
theorem hl_yX0_findSums : (yX0_findSums.cls ≠ "java/lang/invoke/MethodHandle" ∧ yX0_findSums.cls ≠ "java/lang/invoke/VarHandle") ∧ (parseMethodDescriptor yX0_findSums.desc).map (fun d => d.parameters.length) = some 0 := by decide +kernel
theorem hl_yX0_keepOld : (yX0_keepOld.cls ≠ "java/lang/invoke/MethodHandle" ∧ yX0_keepOld.cls ≠ "java/lang/invoke/VarHandle") ∧ (parseMethodDescriptor yX0_keepOld.desc).map (fun d => d.parameters.length) = some 1 := by decide +kernel
theorem hl_yX0_takeBadOnes : (yX0_takeBadOnes.cls ≠ "java/lang/invoke/MethodHandle" ∧ yX0_takeBadOnes.cls ≠ "java/lang/invoke/VarHandle") ∧ (parseMethodDescriptor yX0_takeBadOnes.desc).map (fun d => d.parameters.length) = some 0 := by decide +kernel
set_option maxRecDepth 20000 in
set_option maxHeartbeats 4000000 in
theorem c_X0_forget {l : Launch} {G : Gt} {n0 : Nat} {mi : Nat → Nat → Int} {mr : Nat → Nat → Nat}  : Cv l yX0_forget cX0_forget 1 1 G n0 [.ref (n0 + 44)] mi mr (fun mi9 mr9 => up2 mi 44 6 (-3) = mi9 ∧ mr = mr9) := by
  refine Ct_of (by decide +kernel) (by intro v hv; simp at hv; rcases hv with rfl <;> rfl) (Nat.le_of_ble_eq_true rfl) ?_
  intro p e s m args below meth c9 X hr hname
  show WW _ _ _ _ _ _ _ _ _ _ _ _ _ _ _ _ _ _ _ [some (.ref (n0 + 44))] _
  refine w_aload_n X dX0_forget_0 rfl ?_
  refine w_bipush X dX0_forget_1 rfl ?_
  refine w_put X (by decide) (σ_44 G n0 _ _) rfl gW_X0 tyX0 tyX0_ok nmX0 6 (by decide) gF_X0_40 rfl rfl rfl (Nat.le_of_ble_eq_true rfl) dX0_forget_3 (WW.eqf (sp_44_6 _) ?_)
  refine s_vret X hr dX0_forget_6 ?_
  exact ⟨rfl, rfl⟩
set_option maxRecDepth 20000 in
set_option maxHeartbeats 4000000 in
theorem c_X0_dooms {l : Launch} {G : Gt} {n0 : Nat} {mi : Nat → Nat → Int} {mr : Nat → Nat → Nat} (hNN : NN mr) {c : Nat} (hB : BO mi mr (mr 44 4)) (hc : isCr c) (hcb : CB mi c) : Ci l yX0_dooms cX0_dooms 2 .boolean 4 G n0 [.ref (n0 + 44), .ref (n0 + c)] mi mr (fun r9 mi9 mr9 => mi = mi9 ∧ mr = mr9 ∧ (r9 = 1 ∧ (∃ y ∈ Ef mi mr (mr 44 4), gv (T5 (mi (c + 1))) y.1) ∨ r9 = 0 ∧ ∀ y ∈ Ef mi mr (mr 44 4), ¬ gv (T5 (mi (c + 1))) y.1)) := by
  refine Ct_of (by decide +kernel) (by intro v hv; simp at hv; rcases hv with rfl | rfl <;> rfl) (Nat.le_of_ble_eq_true rfl) ?_
  intro p e s m args below meth c9 X hr hname
  show WW _ _ _ _ _ _ _ _ _ _ _ _ _ _ _ _ _ _ _ [some (.ref (n0 + 44)), some (.ref (n0 + c))] _
  refine w_aload_n X dX0_dooms_0 rfl ?_
  refine w_get X (by decide) (σ_44 G n0 _ _) rfl gW_X0 4 (by decide) gF_X0_33 rfl dX0_dooms_1 ?_
  refine w_aload_n X dX0_dooms_4 rfl ?_
  refine s_callVi X _ (c_X1_cover (l := l) (G := G) (n0 := n0) hB hc hcb) gM_X0_48 gI_yX1_cover gS_yX1_cover gN_X1 gC_yX1_cover (isBs_k hNN.a) (σ_bs G n0 _ _ hNN.a) rfl dX0_dooms_5 hl_yX1_cover ⟨Nat.le_of_ble_eq_true rfl, Nat.le_of_ble_eq_true rfl⟩ (Nat.le_of_ble_eq_true rfl) rfl (fun r1 mi1 mr1 h1 => ?_)
  obtain ⟨rfl, rfl, h1⟩ := h1
  refine s_zret X hr dX0_dooms_8 (by rcases h1 with q | q; exact Or.inr q.1; exact Or.inl q.1) ?_
  exact ⟨rfl, rfl, cov_E h1⟩
set_option maxRecDepth 20000 in
set_option maxHeartbeats 4000000 in
theorem c_X0_leastFromStart {l : Launch} {G : Gt} {n0 : Nat} {mi : Nat → Nat → Int} {mr : Nat → Nat → Nat} (hNN : NN mr) (hL : LW mi) (hB : BO mi mr (mr 44 4)) : Ci l yX0_leastFromStart cX0_leastFromStart 2 .int 3 G n0 [.ref (n0 + 44)] mi mr (fun r9 mi9 mr9 => mi = mi9 ∧ mr = mr9 ∧ ((r9 = -9 ∧ ∀ i : Nat, (i : Int) < mi (mr 44 4) 2 → ¬ inst (mi 1 4) (mi (mr (mr 44 4 + 1) i + 1)) (mi 1 3)) ∨ ∃ i : Nat, (i : Int) < mi (mr 44 4) 2 ∧ inst (mi 1 4) (mi (mr (mr 44 4 + 1) i + 1)) (mi 1 3) ∧ (∀ j : Nat, j < i → ¬ inst (mi 1 4) (mi (mr (mr 44 4 + 1) j + 1)) (mi 1 3)) ∧ r9 = sum5 (mi (mr (mr 44 4 + 1) i + 1)))) := by
  refine Ct_of (by decide +kernel) (by intro v hv; simp at hv; rcases hv with rfl <;> rfl) (Nat.le_of_ble_eq_true rfl) ?_
  intro p e s m args below meth c9 X hr hname
  show WW _ _ _ _ _ _ _ _ _ _ _ _ _ _ _ _ _ _ _ [some (.ref (n0 + 44)), none] _
  have hB2 := hB.2.1
  refine w_iconst X dX0_leastFromStart_0 ?_
  refine w_ist2_1 X dX0_leastFromStart_1 ?_
  have loop : ∀ (n : Nat) (i : Nat) (x1 : Option Value), ((i : Int) ≤ mi (mr 44 4) 2) → (∀ j : Nat, j < i → ¬ inst (mi 1 4) (mi (mr (mr 44 4 + 1) j + 1)) (mi 1 3)) → n = 101 - i → WSi p l e s m args below meth c9 3 (fun r9 mi9 mr9 => mi = mi9 ∧ mr = mr9 ∧ ((r9 = -9 ∧ ∀ i : Nat, (i : Int) < mi (mr 44 4) 2 → ¬ inst (mi 1 4) (mi (mr (mr 44 4 + 1) i + 1)) (mi 1 3)) ∨ ∃ i : Nat, (i : Int) < mi (mr 44 4) 2 ∧ inst (mi 1 4) (mi (mr (mr 44 4 + 1) i + 1)) (mi 1 3) ∧ (∀ j : Nat, j < i → ¬ inst (mi 1 4) (mi (mr (mr 44 4 + 1) j + 1)) (mi 1 3)) ∧ r9 = sum5 (mi (mr (mr 44 4 + 1) i + 1)))) G n0 2 mi mr 2 [some (.ref (n0 + 44)), some (.int (jI (i : Int)))] [] := by
    intro n
    induction n using Nat.strongRecOn with
    | ind n ih_loop =>
      intro i x1 hi hinv hn
      refine w_iload_n X dX0_leastFromStart_2 rfl ?_
      refine w_aload_n X dX0_leastFromStart_3 rfl ?_
      refine w_get X (by decide) (σ_44 G n0 _ _) rfl gW_X0 4 (by decide) gF_X0_33 rfl dX0_leastFromStart_4 ?_
      refine w_getN X (isBs_k hNN.a) (σ_bs G n0 _ _ hNN.a) rfl gW_X1 2 (by decide) gF_X0_52 rfl dX0_leastFromStart_7 ?_
      refine w_icmp_ge X 51 dX0_leastFromStart_10 (by decide) (fun c10_1 => ?_) (fun c10_1 => ?_)
      ·
        refine w_bipush X dX0_leastFromStart_51 rfl ?_
        refine s_iret X hr dX0_leastFromStart_53 ?_
        exact ⟨rfl, rfl, Or.inl ⟨rfl, fun j hj => hinv j (by omega)⟩⟩
      ·
        refine w_aload_n X dX0_leastFromStart_13 rfl ?_
        refine w_get X (by decide) (σ_44 G n0 _ _) rfl gW_X0 0 (by decide) gF_X0_44 rfl dX0_leastFromStart_14 ?_
        refine w_aload_n X dX0_leastFromStart_17 rfl ?_
        refine w_get X (by decide) (σ_44 G n0 _ _) rfl gW_X0 4 (by decide) gF_X0_33 rfl dX0_leastFromStart_18 ?_
        refine w_getN X (isBs_k hNN.a) (σ_bs G n0 _ _ hNN.a) rfl gW_X1 0 (by decide) gF_X0_55 rfl dX0_leastFromStart_21 ?_
        refine w_iload_n X dX0_leastFromStart_24 rfl ?_
        refine s_aald X (t := 2) (i) (isBs_k1 hNN.a) (σ_r1 G n0 _ _ hNN.a) rfl dX0_leastFromStart_25 ?_
        refine s_callVi X _ (c_X5_isInStart (l := l) (G := G) (n0 := n0) hL (hB.cr (by omega)) (hB.2.2.2.2.1 i (by omega))) gM_X0_59 gI_yX5_isInStart gS_yX5_isInStart gN_X5 gC_yX5_isInStart (by decide) (σ_1 G n0 _ _) rfl dX0_leastFromStart_26 hl_yX5_isInStart ⟨Nat.le_of_ble_eq_true rfl, Nat.le_of_ble_eq_true rfl⟩ (Nat.le_of_ble_eq_true rfl) rfl (fun r1 mi1 mr1 h1 => ?_)
        obtain ⟨rfl, rfl, h1⟩ := h1
        refine w_if_eq X 45 dX0_leastFromStart_29 (by decide) (fun c29_2 => ?_) (fun c29_2 => ?_)
        ·
          refine w_iinc2_1 X dX0_leastFromStart_45 ?_
          refine w_goto X 2 dX0_leastFromStart_48 (by decide) ?_
          exact ih_loop _ (by omega) (i + 1) none (by omega) (fun j hj => by rcases (show j < i ∨ j = i by omega) with q | q; exact hinv j q; subst q; rcases h1 with q1 | q1; omega; exact q1.2) rfl
        ·
          refine w_aload_n X dX0_leastFromStart_32 rfl ?_
          refine w_get X (by decide) (σ_44 G n0 _ _) rfl gW_X0 4 (by decide) gF_X0_33 rfl dX0_leastFromStart_33 ?_
          refine w_getN X (isBs_k hNN.a) (σ_bs G n0 _ _ hNN.a) rfl gW_X1 0 (by decide) gF_X0_55 rfl dX0_leastFromStart_36 ?_
          refine w_iload_n X dX0_leastFromStart_39 rfl ?_
          refine s_aald X (t := 2) (i) (isBs_k1 hNN.a) (σ_r1 G n0 _ _ hNN.a) rfl dX0_leastFromStart_40 ?_
          refine s_callVi X _ (c_X3_sum (l := l) (G := G) (n0 := n0) (hB.cr (by omega))) gM_X0_64 gI_yX3_sum gS_yX3_sum gN_X3 gC_yX3_sum (isCr_k (hB.cr (by omega))) (σ_cr G n0 _ _ (hB.cr (by omega))) rfl dX0_leastFromStart_41 hl_yX3_sum ⟨Nat.le_of_ble_eq_true rfl, Nat.le_of_ble_eq_true rfl⟩ (Nat.le_of_ble_eq_true rfl) rfl (fun r2 mi2 mr2 h2 => ?_)
          obtain ⟨rfl, rfl, h2⟩ := h2
          refine s_iret X hr dX0_leastFromStart_44 ?_
          rcases h1 with q1 | q1
          · exact ⟨rfl, rfl, Or.inr ⟨i, by omega, q1.2, hinv, h2⟩⟩
          · omega
  exact loop _ 0 none (by omega) (fun j hj => absurd hj (by omega)) rfl
set_option maxRecDepth 20000 in
set_option maxHeartbeats 4000000 in
theorem c_X0_setOut {l : Launch} {G : Gt} {n0 : Nat} {mi : Nat → Nat → Int} {mr : Nat → Nat → Nat} {k c : Nat} (hk : isRu k) (hc : isCr c) (hv : RV (mi 1 3) mi k) (hcb : CB mi c) (hcd : c ≠ 47) (hgo : ∀ i : Nat, (i : Int) < mi 1 3 → ¬ (0 < lk0 (mi k) (mi (c + 1)) i ∧ nog (mi 1 3) (mi k) i)) : Cv l yX0_setOut cX0_setOut 3 4 G n0 [.ref (n0 + 44), .ref (n0 + k), .ref (n0 + c)] mi mr (fun mi9 mr9 => (∀ j : Nat, j < 5 → mi9 50 j = lv (mi k) j + nd (mi k) j) ∧ (∀ j : Nat, j < 5 → mi9 48 j = (if (j : Int) < mi 1 3 then lk (mi k) (mi (c + 1)) j else 0) - (if mi k 7 ≠ -9 ∧ gol (mi k) (mi k 7).toNat = (j : Int) then 1 else 0)) ∧ (∀ a, a ≠ 48 → a ≠ 50 → mi9 a = mi a) ∧ mr = mr9) := by
  refine Ct_of (by decide +kernel) (by intro v hv; simp at hv; rcases hv with rfl | rfl | rfl <;> rfl) (Nat.le_of_ble_eq_true rfl) ?_
  intro p e s m args below meth c9 X hr hname
  show WW _ _ _ _ _ _ _ _ _ _ _ _ _ _ _ _ _ _ _ [some (.ref (n0 + 44)), some (.ref (n0 + k)), some (.ref (n0 + c))] _
  obtain ⟨v1, v2, v3, v4, v6, v7, vs, vg⟩ := id hv
  have hkr := hk
  unfold isRu at hkr
  refine w_aload_n X dX0_setOut_0 rfl ?_
  refine w_aload_n X dX0_setOut_1 rfl ?_
  refine w_aload_n X dX0_setOut_2 rfl ?_
  refine w_get X (by decide) (σ_44 G n0 _ _) rfl gW_X0 0 (by decide) gF_X0_44 rfl dX0_setOut_3 ?_
  refine w_getN X (by decide) (σ_1 G n0 _ _) rfl gW_X5 3 (by decide) gF_X0_117 rfl dX0_setOut_6 ?_
  refine w_aload_n X dX0_setOut_9 rfl ?_
  refine w_get X (by decide) (σ_44 G n0 _ _) rfl gW_X0 2 (by decide) gF_X0_23 rfl dX0_setOut_10 ?_
  refine s_callVi X _ (c_X6_findLack (l := l) (G := G) (n0 := n0) hk hv hc cr_47 hcd hcb) gM_X0_120 gI_yX6_findLack gS_yX6_findLack gN_X6 gC_yX6_findLack (isRu_k hk) (σ_ru G n0 _ _ hk) rfl dX0_setOut_13 hl_yX6_findLack ⟨Nat.le_of_ble_eq_true rfl, Nat.le_of_ble_eq_true rfl⟩ (Nat.le_of_ble_eq_true rfl) rfl (fun r1 mi1 mr1 h1 => ?_)
  obtain ⟨h1, rfl⟩ := h1
  obtain ⟨hlk, hfr1⟩ : (∀ j : Nat, j < 5 → mi1 48 j = if (j : Int) < mi 1 3 then lk (mi k) (mi (c + 1)) j else 0) ∧ ∀ a, a ≠ 48 → mi1 a = mi a := by
    rcases h1 with ⟨q, ⟨i, q1, q2, q3⟩, -⟩ | ⟨-, -, q, q2⟩
    · exact absurd ⟨q2, q3⟩ (hgo i q1)
    · exact ⟨q, q2⟩
  clear h1
  refine w_pop X dX0_setOut_16 rfl ?_
  refine w_aload_n X dX0_setOut_17 rfl ?_
  refine w_get X (by decide) (σ_44 G n0 _ _) rfl gW_X0 3 (by decide) gF_X0_27 rfl dX0_setOut_18 ?_
  refine s_callVv X _ (c_X3_clear (l := l) (G := G) (n0 := n0) cr_49) gM_X0_145 gI_yX3_clear gS_yX3_clear gN_X3 gC_yX3_clear (isCr_k cr_49) (σ_cr G n0 _ _ cr_49) rfl dX0_setOut_21 hl_yX3_clear ⟨Nat.le_of_ble_eq_true rfl, Nat.le_of_ble_eq_true rfl⟩ (Nat.le_of_ble_eq_true rfl) rfl (fun mi2 mr2 h2 => ?_)
  obtain ⟨rfl, rfl⟩ := h2
  have hz0 : ∀ j : Nat, j < 5 → row5 mi1 50 (fun _ => 0) 50 j = 0 := fun j hj => row5_s hj
  have hf0 : ∀ a, a ≠ 50 → row5 mi1 50 (fun _ => 0) a = mi1 a := fun a ha => row5_k ha
  generalize row5 mi1 50 (fun _ => 0) = mi0 at hz0 hf0 ⊢
  have hk0 : mi0 k = mi k := by rw [hf0 k (by omega), hfr1 k (by omega)]
  refine w_aload_n X dX0_setOut_24 rfl ?_
  refine w_get X (by decide) (σ_44 G n0 _ _) rfl gW_X0 3 (by decide) gF_X0_27 rfl dX0_setOut_25 ?_
  refine w_aload_n X dX0_setOut_28 rfl ?_
  refine w_getN X (isRu_k hk) (σ_ru G n0 _ _ hk) rfl gW_X6 2 (by decide) gF_X0_146 rfl dX0_setOut_29 ?_
  rw [hk0]
  refine w_iconst X dX0_setOut_32 ?_
  refine s_callVv X _ (c_X3_add (l := l) (G := G) (n0 := n0) cr_49 (by first | assumption | (refine ⟨?_, ?_⟩ <;> omega))) gM_X0_149 gI_yX3_add gS_yX3_add gN_X3 gC_yX3_add (isCr_k cr_49) (σ_cr G n0 _ _ cr_49) rfl dX0_setOut_33 hl_yX3_add ⟨Nat.le_of_ble_eq_true rfl, Nat.le_of_ble_eq_true rfl⟩ (Nat.le_of_ble_eq_true rfl) rfl (fun mi3 mr3 h3 => ?_)
  obtain ⟨e9, rfl⟩ := h3
  have hm3 : ∀ j : Nat, j < 5 → mi3 50 j = mi0 50 j + (if mi k 2 = (j : Int) then 1 else 0) := by
    intro j hj
    by_cases q : 0 ≤ mi k 2
    · rw [if_pos ⟨by omega, by omega⟩] at e9
      rw [← e9, up2_add q]
    · rw [if_neg (by omega)] at e9
      rw [← e9, if_neg (show ¬ mi k 2 = (j : Int) by omega), Int.add_zero]
  have hf3 : ∀ a, a ≠ 50 → mi3 a = mi0 a := by
    intro a ha
    by_cases q : 0 ≤ mi k 2
    · rw [if_pos ⟨by omega, by omega⟩] at e9
      rw [← e9, up2_k _ _ _ _ ha]
    · rw [if_neg (by omega)] at e9
      rw [← e9]
  have hk3 : mi3 k = mi k := by rw [hf3 k (by omega)]; exact hk0
  clear e9
  refine w_aload_n X dX0_setOut_36 rfl ?_
  refine w_get X (by decide) (σ_44 G n0 _ _) rfl gW_X0 3 (by decide) gF_X0_27 rfl dX0_setOut_37 ?_
  refine w_aload_n X dX0_setOut_40 rfl ?_
  refine w_getN X (isRu_k hk) (σ_ru G n0 _ _ hk) rfl gW_X6 4 (by decide) gF_X0_153 rfl dX0_setOut_41 ?_
  rw [hk3]
  refine w_iconst X dX0_setOut_44 ?_
  refine s_callVv X _ (c_X3_add (l := l) (G := G) (n0 := n0) cr_49 (by first | assumption | (refine ⟨?_, ?_⟩ <;> omega))) gM_X0_149 gI_yX3_add gS_yX3_add gN_X3 gC_yX3_add (isCr_k cr_49) (σ_cr G n0 _ _ cr_49) rfl dX0_setOut_45 hl_yX3_add ⟨Nat.le_of_ble_eq_true rfl, Nat.le_of_ble_eq_true rfl⟩ (Nat.le_of_ble_eq_true rfl) rfl (fun mi4 mr4 h4 => ?_)
  obtain ⟨e9, rfl⟩ := h4
  have hm4 : ∀ j : Nat, j < 5 → mi4 50 j = mi3 50 j + (if mi k 4 = (j : Int) then 1 else 0) := by
    intro j hj
    by_cases q : 0 ≤ mi k 4
    · rw [if_pos ⟨by omega, by omega⟩] at e9
      rw [← e9, up2_add q]
    · rw [if_neg (by omega)] at e9
      rw [← e9, if_neg (show ¬ mi k 4 = (j : Int) by omega), Int.add_zero]
  have hf4 : ∀ a, a ≠ 50 → mi4 a = mi3 a := by
    intro a ha
    by_cases q : 0 ≤ mi k 4
    · rw [if_pos ⟨by omega, by omega⟩] at e9
      rw [← e9, up2_k _ _ _ _ ha]
    · rw [if_neg (by omega)] at e9
      rw [← e9]
  have hk4 : mi4 k = mi k := by rw [hf4 k (by omega)]; exact hk3
  clear e9
  refine w_aload_n X dX0_setOut_48 rfl ?_
  refine w_get X (by decide) (σ_44 G n0 _ _) rfl gW_X0 3 (by decide) gF_X0_27 rfl dX0_setOut_49 ?_
  refine w_aload_n X dX0_setOut_52 rfl ?_
  refine w_getN X (isRu_k hk) (σ_ru G n0 _ _ hk) rfl gW_X6 7 (by decide) gF_X0_156 rfl dX0_setOut_53 ?_
  rw [hk4]
  refine w_iconst X dX0_setOut_56 ?_
  refine s_callVv X _ (c_X3_add (l := l) (G := G) (n0 := n0) cr_49 (by first | assumption | (refine ⟨?_, ?_⟩ <;> omega))) gM_X0_149 gI_yX3_add gS_yX3_add gN_X3 gC_yX3_add (isCr_k cr_49) (σ_cr G n0 _ _ cr_49) rfl dX0_setOut_57 hl_yX3_add ⟨Nat.le_of_ble_eq_true rfl, Nat.le_of_ble_eq_true rfl⟩ (Nat.le_of_ble_eq_true rfl) rfl (fun mi5 mr5 h5 => ?_)
  obtain ⟨e9, rfl⟩ := h5
  have hm5 : ∀ j : Nat, j < 5 → mi5 50 j = mi4 50 j + (if mi k 7 = (j : Int) then 1 else 0) := by
    intro j hj
    by_cases q : 0 ≤ mi k 7
    · rw [if_pos ⟨by omega, by omega⟩] at e9
      rw [← e9, up2_add q]
    · rw [if_neg (by omega)] at e9
      rw [← e9, if_neg (show ¬ mi k 7 = (j : Int) by omega), Int.add_zero]
  have hf5 : ∀ a, a ≠ 50 → mi5 a = mi4 a := by
    intro a ha
    by_cases q : 0 ≤ mi k 7
    · rw [if_pos ⟨by omega, by omega⟩] at e9
      rw [← e9, up2_k _ _ _ _ ha]
    · rw [if_neg (by omega)] at e9
      rw [← e9]
  have hk5 : mi5 k = mi k := by rw [hf5 k (by omega)]; exact hk4
  clear e9
  refine w_aload_n X dX0_setOut_60 rfl ?_
  refine w_get X (by decide) (σ_44 G n0 _ _) rfl gW_X0 2 (by decide) gF_X0_23 rfl dX0_setOut_61 ?_
  refine w_aload_n X dX0_setOut_64 rfl ?_
  refine w_aload_n X dX0_setOut_65 rfl ?_
  refine w_getN X (isRu_k hk) (σ_ru G n0 _ _ hk) rfl gW_X6 7 (by decide) gF_X0_156 rfl dX0_setOut_66 ?_
  rw [hk5]
  have hv6 : RV (mi 1 3) mi5 k := RV_fr hv hk5 (by rw [hf5 _ (by omega), hf4 _ (by omega), hf3 _ (by omega), hf0 _ (by omega), hfr1 _ (by omega)])
  refine s_callVi X _ (c_X6_goalOf (l := l) (G := G) (n0 := n0) hk hv6 (by first | assumption | (refine ⟨?_, ?_⟩ <;> omega))) gM_X0_159 gI_yX6_goalOf gS_yX6_goalOf gN_X6 gC_yX6_goalOf (isRu_k hk) (σ_ru G n0 _ _ hk) rfl dX0_setOut_69 hl_yX6_goalOf ⟨Nat.le_of_ble_eq_true rfl, Nat.le_of_ble_eq_true rfl⟩ (Nat.le_of_ble_eq_true rfl) rfl (fun r6 mi6 mr6 h6 => ?_)
  obtain ⟨rfl, rfl, h6, b9, q9⟩ := h6
  refine w_iconst X dX0_setOut_72 ?_
  refine s_callVv X _ (c_X3_add (l := l) (G := G) (n0 := n0) cr_47 (by first | assumption | (refine ⟨?_, ?_⟩ <;> omega))) gM_X0_149 gI_yX3_add gS_yX3_add gN_X3 gC_yX3_add (isCr_k cr_47) (σ_cr G n0 _ _ cr_47) rfl dX0_setOut_73 hl_yX3_add ⟨Nat.le_of_ble_eq_true rfl, Nat.le_of_ble_eq_true rfl⟩ (Nat.le_of_ble_eq_true rfl) rfl (fun mi7 mr7 h7 => ?_)
  obtain ⟨e9, rfl⟩ := h7
  have h48 : ∀ j : Nat, j < 5 → mi5 48 j = if (j : Int) < mi 1 3 then lk (mi k) (mi (c + 1)) j else 0 := fun j hj => by rw [hf5 48 (by decide), hf4 48 (by decide), hf3 48 (by decide), hf0 48 (by decide)]; exact hlk j hj
  rw [hk5] at h6
  refine s_vret X hr dX0_setOut_76 ?_
  refine ⟨?_, ?_, ?_, rfl⟩
  · intro j hj
    have hne : mi7 50 = mi5 50 := by
      rw [← e9]
      split
      · exact up2_k _ _ _ _ (by decide)
      · rfl
    rw [hne, hm5 j hj, hm4 j hj, hm3 j hj, hz0 j hj]
    unfold lv nd
    simp only [eq_comm (a := (j : Int))]
    omega
  · intro j hj
    by_cases q : mi k 7 = -9
    · rw [if_neg (by omega)] at h6
      rw [if_neg (by omega)] at e9
      rw [← e9, h48 j hj, show (if mi k 7 ≠ -9 ∧ gol (mi k) (mi k 7).toNat = (j : Int) then (1 : Int) else 0) = 0 from if_neg (fun w => w.1 q), Int.sub_zero]
    · rw [if_pos ⟨by omega, by omega⟩] at h6
      have hgb := vg (mi k 7).toNat (by omega)
      rw [if_pos ⟨by omega, by omega⟩] at e9
      rw [← e9, up2_add (by omega), h48 j hj, h6]
      by_cases q2 : gol (mi k) (mi k 7).toNat = (j : Int)
      · rw [show (if mi k 7 ≠ -9 ∧ gol (mi k) (mi k 7).toNat = (j : Int) then (1 : Int) else 0) = 1 from if_pos ⟨q, q2⟩, if_pos q2]; omega
      · rw [show (if mi k 7 ≠ -9 ∧ gol (mi k) (mi k 7).toNat = (j : Int) then (1 : Int) else 0) = 0 from if_neg (fun w => q2 w.2), if_neg q2]; omega
  · intro a ha ha2
    have hne : mi7 a = mi5 a := by
      rw [← e9]
      split
      · exact up2_k _ _ _ _ ha
      · rfl
    rw [hne, hf5 a ha2, hf4 a ha2, hf3 a ha2, hf0 a ha2, hfr1 a ha]
