/-! what a rule says, as its places hold it -/
def gol (ρ : Nat → Int) (j : Nat) : Int := if ρ 1 = 2 then ρ 6 / 10 ^ j % 10 else j
def lv (ρ : Nat → Int) (z : Int) : Int := (if z = ρ 2 then 1 else 0) + (if z = ρ 4 then 1 else 0)
def cm (ρ : Nat → Int) (z : Int) : Int := (if z = ρ 3 then 1 else 0) + (if z = ρ 5 then 1 else 0)
def nd (ρ : Nat → Int) (z : Int) : Int := if z = ρ 7 then 1 else 0
def fit (ρ v : Nat → Int) : Prop := ∀ j : Nat, j < 5 → lv ρ j + nd ρ j ≤ v j
def psm (ρ v : Nat → Int) : Nat → Nat → Int
  | 0, _ => 0
  | n + 1, x => psm ρ v n x + (if gol ρ n = x then v n - lv ρ n else 0)
def led (ρ v : Nat → Int) (x : Nat) : Int := psm ρ v 5 x + (if ρ 3 = x then 1 else 0) + (if ρ 5 = x then 1 else 0)
/-- a rule's places are in order, for so many states -/
def RV (sc : Int) (mi : Nat → Nat → Int) (k : Nat) : Prop := (0 ≤ mi k 1 ∧ mi k 1 ≤ 2) ∧ (0 ≤ mi k 2 ∧ mi k 2 < sc) ∧ (0 ≤ mi k 3 ∧ mi k 3 < sc) ∧ (mi k 1 = 1 ∧ (0 ≤ mi k 4 ∧ mi k 4 < sc) ∧ (0 ≤ mi k 5 ∧ mi k 5 < sc) ∨ mi k 1 ≠ 1 ∧ mi k 4 = -9 ∧ mi k 5 = -9) ∧ (-9 ≤ mi k 6 ∧ mi k 6 < 100000) ∧ (mi k 7 = -9 ∨ 0 ≤ mi k 7 ∧ mi k 7 < sc) ∧ (1 ≤ sc ∧ sc ≤ 5) ∧ ∀ j : Nat, j < 5 → mi (k + 1) j = gol (mi k) j ∧ 0 ≤ gol (mi k) j ∧ gol (mi k) j < 5 ∧ ((j : Int) < sc → gol (mi k) j < sc)
theorem lv_b (ρ : Nat → Int) (z : Int) : 0 ≤ lv ρ z ∧ lv ρ z ≤ 2 := by
  unfold lv
  by_cases h1 : z = ρ 2 <;> by_cases h2 : z = ρ 4 <;> simp [h1, h2]
  all_goals (first | (split <;> omega) | omega)
theorem row5_add {mi : Nat → Nat → Int} {k : Nat} {f : Nat → Int} {g x : Int} (h : 0 ≤ g ∧ g < 5) : up2 (row5 mi k f) k g.toNat (row5 mi k f k g.toNat + x) = row5 mi k (fun j => f j + if g = j then x else 0) := by
  funext a b
  by_cases ha : a = k
  · subst ha
    by_cases hb : b < 5
    · by_cases hg : b = g.toNat
      · have e : g = (b : Int) := by omega
        subst e
        simp [up2, row5, hb]
      · have e : ¬ g = (b : Int) := by omega
        simp [up2, row5, hb, hg, e]
    · have hg : ¬ b = g.toNat := by omega
      simp [up2, row5, hb, hg]
  · simp [up2, row5, ha]
theorem dX6_leavers_0 : decode cX6_leavers 0 = .ok (.iload_n 1, 1) := by decide +kernel
theorem dX6_leavers_1 : decode cX6_leavers 1 = .ok (.aload_n 0, 1) := by decide +kernel
theorem dX6_leavers_2 : decode cX6_leavers 2 = .ok (.getfield 19, 3) := by decide +kernel
theorem dX6_leavers_5 : decode cX6_leavers 5 = .ok (.if_icmp .ne 7, 3) := by decide +kernel
theorem dX6_leavers_8 : decode cX6_leavers 8 = .ok (.iconst 1, 1) := by decide +kernel
theorem dX6_leavers_9 : decode cX6_leavers 9 = .ok (.goto 4, 3) := by decide +kernel
theorem dX6_leavers_12 : decode cX6_leavers 12 = .ok (.iconst 0, 1) := by decide +kernel
theorem dX6_leavers_13 : decode cX6_leavers 13 = .ok (.iload_n 1, 1) := by decide +kernel
theorem dX6_leavers_14 : decode cX6_leavers 14 = .ok (.aload_n 0, 1) := by decide +kernel
theorem dX6_leavers_15 : decode cX6_leavers 15 = .ok (.getfield 25, 3) := by decide +kernel
theorem dX6_leavers_18 : decode cX6_leavers 18 = .ok (.if_icmp .ne 7, 3) := by decide +kernel
theorem dX6_leavers_21 : decode cX6_leavers 21 = .ok (.iconst 1, 1) := by decide +kernel
theorem dX6_leavers_22 : decode cX6_leavers 22 = .ok (.goto 4, 3) := by decide +kernel
theorem dX6_leavers_25 : decode cX6_leavers 25 = .ok (.iconst 0, 1) := by decide +kernel
theorem dX6_leavers_26 : decode cX6_leavers 26 = .ok (.iadd, 1) := by decide +kernel
theorem dX6_leavers_27 : decode cX6_leavers 27 = .ok (.ireturn, 1) := by decide +kernel
theorem dX6_comers_0 : decode cX6_comers 0 = .ok (.iload_n 1, 1) := by decide +kernel
theorem dX6_comers_1 : decode cX6_comers 1 = .ok (.aload_n 0, 1) := by decide +kernel
theorem dX6_comers_2 : decode cX6_comers 2 = .ok (.getfield 22, 3) := by decide +kernel
theorem dX6_comers_5 : decode cX6_comers 5 = .ok (.if_icmp .ne 7, 3) := by decide +kernel
theorem dX6_comers_8 : decode cX6_comers 8 = .ok (.iconst 1, 1) := by decide +kernel
theorem dX6_comers_9 : decode cX6_comers 9 = .ok (.goto 4, 3) := by decide +kernel
theorem dX6_comers_12 : decode cX6_comers 12 = .ok (.iconst 0, 1) := by decide +kernel
theorem dX6_comers_13 : decode cX6_comers 13 = .ok (.iload_n 1, 1) := by decide +kernel
theorem dX6_comers_14 : decode cX6_comers 14 = .ok (.aload_n 0, 1) := by decide +kernel
theorem dX6_comers_15 : decode cX6_comers 15 = .ok (.getfield 28, 3) := by decide +kernel
theorem dX6_comers_18 : decode cX6_comers 18 = .ok (.if_icmp .ne 7, 3) := by decide +kernel
theorem dX6_comers_21 : decode cX6_comers 21 = .ok (.iconst 1, 1) := by decide +kernel
theorem dX6_comers_22 : decode cX6_comers 22 = .ok (.goto 4, 3) := by decide +kernel
theorem dX6_comers_25 : decode cX6_comers 25 = .ok (.iconst 0, 1) := by decide +kernel
theorem dX6_comers_26 : decode cX6_comers 26 = .ok (.iadd, 1) := by decide +kernel
theorem dX6_comers_27 : decode cX6_comers 27 = .ok (.ireturn, 1) := by decide +kernel
theorem dX6_goalOf_0 : decode cX6_goalOf 0 = .ok (.iload_n 1, 1) := by decide +kernel
theorem dX6_goalOf_1 : decode cX6_goalOf 1 = .ok (.ifCond .lt 21, 3) := by decide +kernel
theorem dX6_goalOf_4 : decode cX6_goalOf 4 = .ok (.iload_n 1, 1) := by decide +kernel
theorem dX6_goalOf_5 : decode cX6_goalOf 5 = .ok (.aload_n 0, 1) := by decide +kernel
theorem dX6_goalOf_6 : decode cX6_goalOf 6 = .ok (.getfield 9, 3) := by decide +kernel
theorem dX6_goalOf_9 : decode cX6_goalOf 9 = .ok (.arraylength, 1) := by decide +kernel
theorem dX6_goalOf_10 : decode cX6_goalOf 10 = .ok (.if_icmp .ge 12, 3) := by decide +kernel
theorem dX6_goalOf_13 : decode cX6_goalOf 13 = .ok (.aload_n 0, 1) := by decide +kernel
theorem dX6_goalOf_14 : decode cX6_goalOf 14 = .ok (.getfield 9, 3) := by decide +kernel
theorem dX6_goalOf_17 : decode cX6_goalOf 17 = .ok (.iload_n 1, 1) := by decide +kernel
theorem dX6_goalOf_18 : decode cX6_goalOf 18 = .ok (.iaload, 1) := by decide +kernel
theorem dX6_goalOf_19 : decode cX6_goalOf 19 = .ok (.goto 5, 3) := by decide +kernel
theorem dX6_goalOf_22 : decode cX6_goalOf 22 = .ok (.bipush (-9), 2) := by decide +kernel
theorem dX6_goalOf_24 : decode cX6_goalOf 24 = .ok (.ireturn, 1) := by decide +kernel
theorem dX6_fits_0 : decode cX6_fits 0 = .ok (.iconst 0, 1) := by decide +kernel
theorem dX6_fits_1 : decode cX6_fits 1 = .ok (.istore_n 2, 1) := by decide +kernel
theorem dX6_fits_2 : decode cX6_fits 2 = .ok (.iload_n 2, 1) := by decide +kernel
theorem dX6_fits_3 : decode cX6_fits 3 = .ok (.iconst 5, 1) := by decide +kernel
theorem dX6_fits_4 : decode cX6_fits 4 = .ok (.if_icmp .ge 40, 3) := by decide +kernel
theorem dX6_fits_7 : decode cX6_fits 7 = .ok (.aload_n 0, 1) := by decide +kernel
theorem dX6_fits_8 : decode cX6_fits 8 = .ok (.iload_n 2, 1) := by decide +kernel
theorem dX6_fits_9 : decode cX6_fits 9 = .ok (.invokevirtual 40, 3) := by decide +kernel
theorem dX6_fits_12 : decode cX6_fits 12 = .ok (.iload_n 2, 1) := by decide +kernel
theorem dX6_fits_13 : decode cX6_fits 13 = .ok (.aload_n 0, 1) := by decide +kernel
theorem dX6_fits_14 : decode cX6_fits 14 = .ok (.getfield 34, 3) := by decide +kernel
theorem dX6_fits_17 : decode cX6_fits 17 = .ok (.if_icmp .ne 7, 3) := by decide +kernel
theorem dX6_fits_20 : decode cX6_fits 20 = .ok (.iconst 1, 1) := by decide +kernel
theorem dX6_fits_21 : decode cX6_fits 21 = .ok (.goto 4, 3) := by decide +kernel
theorem dX6_fits_24 : decode cX6_fits 24 = .ok (.iconst 0, 1) := by decide +kernel
theorem dX6_fits_25 : decode cX6_fits 25 = .ok (.iadd, 1) := by decide +kernel
theorem dX6_fits_26 : decode cX6_fits 26 = .ok (.istore_n 3, 1) := by decide +kernel
theorem dX6_fits_27 : decode cX6_fits 27 = .ok (.aload_n 1, 1) := by decide +kernel
theorem dX6_fits_28 : decode cX6_fits 28 = .ok (.iload_n 2, 1) := by decide +kernel
theorem dX6_fits_29 : decode cX6_fits 29 = .ok (.invokevirtual 44, 3) := by decide +kernel
theorem dX6_fits_32 : decode cX6_fits 32 = .ok (.iload_n 3, 1) := by decide +kernel
theorem dX6_fits_33 : decode cX6_fits 33 = .ok (.if_icmp .ge 5, 3) := by decide +kernel
theorem dX6_fits_36 : decode cX6_fits 36 = .ok (.iconst 0, 1) := by decide +kernel
theorem dX6_fits_37 : decode cX6_fits 37 = .ok (.ireturn, 1) := by decide +kernel
theorem dX6_fits_38 : decode cX6_fits 38 = .ok (.iinc 2 1, 3) := by decide +kernel
theorem dX6_fits_41 : decode cX6_fits 41 = .ok (.goto (-39), 3) := by decide +kernel
theorem dX6_fits_44 : decode cX6_fits 44 = .ok (.iconst 1, 1) := by decide +kernel
theorem dX6_fits_45 : decode cX6_fits 45 = .ok (.ireturn, 1) := by decide +kernel
theorem dX6_lead_0 : decode cX6_lead 0 = .ok (.aload_n 2, 1) := by decide +kernel
theorem dX6_lead_1 : decode cX6_lead 1 = .ok (.invokevirtual 49, 3) := by decide +kernel
theorem dX6_lead_4 : decode cX6_lead 4 = .ok (.iconst 0, 1) := by decide +kernel
theorem dX6_lead_5 : decode cX6_lead 5 = .ok (.istore_n 3, 1) := by decide +kernel
theorem dX6_lead_6 : decode cX6_lead 6 = .ok (.iload_n 3, 1) := by decide +kernel
theorem dX6_lead_7 : decode cX6_lead 7 = .ok (.aload_n 0, 1) := by decide +kernel
theorem dX6_lead_8 : decode cX6_lead 8 = .ok (.getfield 9, 3) := by decide +kernel
theorem dX6_lead_11 : decode cX6_lead 11 = .ok (.arraylength, 1) := by decide +kernel
theorem dX6_lead_12 : decode cX6_lead 12 = .ok (.if_icmp .ge 30, 3) := by decide +kernel
theorem dX6_lead_15 : decode cX6_lead 15 = .ok (.aload_n 2, 1) := by decide +kernel
theorem dX6_lead_16 : decode cX6_lead 16 = .ok (.aload_n 0, 1) := by decide +kernel
theorem dX6_lead_17 : decode cX6_lead 17 = .ok (.getfield 9, 3) := by decide +kernel
theorem dX6_lead_20 : decode cX6_lead 20 = .ok (.iload_n 3, 1) := by decide +kernel
theorem dX6_lead_21 : decode cX6_lead 21 = .ok (.iaload, 1) := by decide +kernel
theorem dX6_lead_22 : decode cX6_lead 22 = .ok (.aload_n 1, 1) := by decide +kernel
theorem dX6_lead_23 : decode cX6_lead 23 = .ok (.iload_n 3, 1) := by decide +kernel
theorem dX6_lead_24 : decode cX6_lead 24 = .ok (.invokevirtual 44, 3) := by decide +kernel
theorem dX6_lead_27 : decode cX6_lead 27 = .ok (.aload_n 0, 1) := by decide +kernel
theorem dX6_lead_28 : decode cX6_lead 28 = .ok (.iload_n 3, 1) := by decide +kernel
theorem dX6_lead_29 : decode cX6_lead 29 = .ok (.invokevirtual 40, 3) := by decide +kernel
theorem dX6_lead_32 : decode cX6_lead 32 = .ok (.isub, 1) := by decide +kernel
theorem dX6_lead_33 : decode cX6_lead 33 = .ok (.invokevirtual 52, 3) := by decide +kernel
theorem dX6_lead_36 : decode cX6_lead 36 = .ok (.iinc 3 1, 3) := by decide +kernel
theorem dX6_lead_39 : decode cX6_lead 39 = .ok (.goto (-33), 3) := by decide +kernel
theorem dX6_lead_42 : decode cX6_lead 42 = .ok (.aload_n 2, 1) := by decide +kernel
theorem dX6_lead_43 : decode cX6_lead 43 = .ok (.aload_n 0, 1) := by decide +kernel
theorem dX6_lead_44 : decode cX6_lead 44 = .ok (.getfield 22, 3) := by decide +kernel
theorem dX6_lead_47 : decode cX6_lead 47 = .ok (.iconst 1, 1) := by decide +kernel
theorem dX6_lead_48 : decode cX6_lead 48 = .ok (.invokevirtual 52, 3) := by decide +kernel
theorem dX6_lead_51 : decode cX6_lead 51 = .ok (.aload_n 2, 1) := by decide +kernel
theorem dX6_lead_52 : decode cX6_lead 52 = .ok (.aload_n 0, 1) := by decide +kernel
theorem dX6_lead_53 : decode cX6_lead 53 = .ok (.getfield 28, 3) := by decide +kernel
theorem dX6_lead_56 : decode cX6_lead 56 = .ok (.iconst 1, 1) := by decide +kernel
theorem dX6_lead_57 : decode cX6_lead 57 = .ok (.invokevirtual 52, 3) := by decide +kernel
theorem dX6_lead_60 : decode cX6_lead 60 = .ok (.return_, 1) := by decide +kernel
theorem dX6_findLack_0 : decode cX6_findLack 0 = .ok (.aload_n 0, 1) := by decide +kernel
theorem dX6_findLack_1 : decode cX6_findLack 1 = .ok (.getfield 25, 3) := by decide +kernel
theorem dX6_findLack_4 : decode cX6_findLack 4 = .ok (.bipush (-9), 2) := by decide +kernel
theorem dX6_findLack_6 : decode cX6_findLack 6 = .ok (.if_icmp .ne 7, 3) := by decide +kernel
theorem dX6_findLack_9 : decode cX6_findLack 9 = .ok (.iconst 1, 1) := by decide +kernel
theorem dX6_findLack_10 : decode cX6_findLack 10 = .ok (.goto 4, 3) := by decide +kernel
theorem dX6_findLack_13 : decode cX6_findLack 13 = .ok (.iconst 2, 1) := by decide +kernel
theorem dX6_findLack_14 : decode cX6_findLack 14 = .ok (.istore 4, 2) := by decide +kernel
theorem dX6_findLack_16 : decode cX6_findLack 16 = .ok (.aload_n 3, 1) := by decide +kernel
theorem dX6_findLack_17 : decode cX6_findLack 17 = .ok (.invokevirtual 49, 3) := by decide +kernel
theorem dX6_findLack_20 : decode cX6_findLack 20 = .ok (.iconst 0, 1) := by decide +kernel
theorem dX6_findLack_21 : decode cX6_findLack 21 = .ok (.istore 5, 2) := by decide +kernel
theorem dX6_findLack_23 : decode cX6_findLack 23 = .ok (.iload 5, 2) := by decide +kernel
theorem dX6_findLack_25 : decode cX6_findLack 25 = .ok (.iload_n 2, 1) := by decide +kernel
theorem dX6_findLack_26 : decode cX6_findLack 26 = .ok (.if_icmp .ge 91, 3) := by decide +kernel
theorem dX6_findLack_29 : decode cX6_findLack 29 = .ok (.iconst 0, 1) := by decide +kernel
theorem dX6_findLack_30 : decode cX6_findLack 30 = .ok (.aload_n 1, 1) := by decide +kernel
theorem dX6_findLack_31 : decode cX6_findLack 31 = .ok (.iload 5, 2) := by decide +kernel
theorem dX6_findLack_33 : decode cX6_findLack 33 = .ok (.invokevirtual 44, 3) := by decide +kernel
theorem dX6_findLack_36 : decode cX6_findLack 36 = .ok (.aload_n 0, 1) := by decide +kernel
theorem dX6_findLack_37 : decode cX6_findLack 37 = .ok (.iload 5, 2) := by decide +kernel
theorem dX6_findLack_39 : decode cX6_findLack 39 = .ok (.invokevirtual 56, 3) := by decide +kernel
theorem dX6_findLack_42 : decode cX6_findLack 42 = .ok (.isub, 1) := by decide +kernel
theorem dX6_findLack_43 : decode cX6_findLack 43 = .ok (.invokestatic 59, 3) := by decide +kernel
theorem dX6_findLack_46 : decode cX6_findLack 46 = .ok (.istore 6, 2) := by decide +kernel
theorem dX6_findLack_48 : decode cX6_findLack 48 = .ok (.iload 6, 2) := by decide +kernel
theorem dX6_findLack_50 : decode cX6_findLack 50 = .ok (.ifCond .le 16, 3) := by decide +kernel
theorem dX6_findLack_53 : decode cX6_findLack 53 = .ok (.aload_n 0, 1) := by decide +kernel
theorem dX6_findLack_54 : decode cX6_findLack 54 = .ok (.iload 5, 2) := by decide +kernel
theorem dX6_findLack_56 : decode cX6_findLack 56 = .ok (.iload_n 2, 1) := by decide +kernel
theorem dX6_findLack_57 : decode cX6_findLack 57 = .ok (.invokevirtual 65, 3) := by decide +kernel
theorem dX6_findLack_60 : decode cX6_findLack 60 = .ok (.ifCond .ne 6, 3) := by decide +kernel
theorem dX6_findLack_63 : decode cX6_findLack 63 = .ok (.bipush (-9), 2) := by decide +kernel
theorem dX6_findLack_65 : decode cX6_findLack 65 = .ok (.ireturn, 1) := by decide +kernel
theorem dX6_findLack_66 : decode cX6_findLack 66 = .ok (.aload_n 0, 1) := by decide +kernel
theorem dX6_findLack_67 : decode cX6_findLack 67 = .ok (.getfield 34, 3) := by decide +kernel
theorem dX6_findLack_70 : decode cX6_findLack 70 = .ok (.bipush (-9), 2) := by decide +kernel
theorem dX6_findLack_72 : decode cX6_findLack 72 = .ok (.if_icmp .eq 24, 3) := by decide +kernel
theorem dX6_findLack_75 : decode cX6_findLack 75 = .ok (.aload_n 0, 1) := by decide +kernel
theorem dX6_findLack_76 : decode cX6_findLack 76 = .ok (.aload_n 0, 1) := by decide +kernel
theorem dX6_findLack_77 : decode cX6_findLack 77 = .ok (.getfield 34, 3) := by decide +kernel
theorem dX6_findLack_80 : decode cX6_findLack 80 = .ok (.invokevirtual 69, 3) := by decide +kernel
theorem dX6_findLack_83 : decode cX6_findLack 83 = .ok (.iload 5, 2) := by decide +kernel
theorem dX6_findLack_85 : decode cX6_findLack 85 = .ok (.if_icmp .ne 11, 3) := by decide +kernel
theorem dX6_findLack_88 : decode cX6_findLack 88 = .ok (.iconst 1, 1) := by decide +kernel
theorem dX6_findLack_89 : decode cX6_findLack 89 = .ok (.iload 6, 2) := by decide +kernel
theorem dX6_findLack_91 : decode cX6_findLack 91 = .ok (.invokestatic 59, 3) := by decide +kernel
theorem dX6_findLack_94 : decode cX6_findLack 94 = .ok (.istore 6, 2) := by decide +kernel
theorem dX6_findLack_96 : decode cX6_findLack 96 = .ok (.aload_n 3, 1) := by decide +kernel
theorem dX6_findLack_97 : decode cX6_findLack 97 = .ok (.iload 5, 2) := by decide +kernel
theorem dX6_findLack_99 : decode cX6_findLack 99 = .ok (.iload 6, 2) := by decide +kernel
theorem dX6_findLack_101 : decode cX6_findLack 101 = .ok (.invokevirtual 72, 3) := by decide +kernel
theorem dX6_findLack_104 : decode cX6_findLack 104 = .ok (.iload 4, 2) := by decide +kernel
theorem dX6_findLack_106 : decode cX6_findLack 106 = .ok (.iload 6, 2) := by decide +kernel
theorem dX6_findLack_108 : decode cX6_findLack 108 = .ok (.iadd, 1) := by decide +kernel
theorem dX6_findLack_109 : decode cX6_findLack 109 = .ok (.istore 4, 2) := by decide +kernel
theorem dX6_findLack_111 : decode cX6_findLack 111 = .ok (.iinc 5 1, 3) := by decide +kernel
theorem dX6_findLack_114 : decode cX6_findLack 114 = .ok (.goto (-91), 3) := by decide +kernel
theorem dX6_findLack_117 : decode cX6_findLack 117 = .ok (.iload 4, 2) := by decide +kernel
theorem dX6_findLack_119 : decode cX6_findLack 119 = .ok (.ireturn, 1) := by decide +kernel
theorem dX6_isGoal_0 : decode cX6_isGoal 0 = .ok (.iconst 0, 1) := by decide +kernel
theorem dX6_isGoal_1 : decode cX6_isGoal 1 = .ok (.istore_n 3, 1) := by decide +kernel
theorem dX6_isGoal_2 : decode cX6_isGoal 2 = .ok (.iload_n 3, 1) := by decide +kernel
theorem dX6_isGoal_3 : decode cX6_isGoal 3 = .ok (.iload_n 2, 1) := by decide +kernel
theorem dX6_isGoal_4 : decode cX6_isGoal 4 = .ok (.if_icmp .ge 20, 3) := by decide +kernel
theorem dX6_isGoal_7 : decode cX6_isGoal 7 = .ok (.aload_n 0, 1) := by decide +kernel
theorem dX6_isGoal_8 : decode cX6_isGoal 8 = .ok (.iload_n 3, 1) := by decide +kernel
theorem dX6_isGoal_9 : decode cX6_isGoal 9 = .ok (.invokevirtual 69, 3) := by decide +kernel
theorem dX6_isGoal_12 : decode cX6_isGoal 12 = .ok (.iload_n 1, 1) := by decide +kernel
theorem dX6_isGoal_13 : decode cX6_isGoal 13 = .ok (.if_icmp .ne 5, 3) := by decide +kernel
theorem dX6_isGoal_16 : decode cX6_isGoal 16 = .ok (.iconst 1, 1) := by decide +kernel
theorem dX6_isGoal_17 : decode cX6_isGoal 17 = .ok (.ireturn, 1) := by decide +kernel
theorem dX6_isGoal_18 : decode cX6_isGoal 18 = .ok (.iinc 3 1, 3) := by decide +kernel
theorem dX6_isGoal_21 : decode cX6_isGoal 21 = .ok (.goto (-19), 3) := by decide +kernel
theorem dX6_isGoal_24 : decode cX6_isGoal 24 = .ok (.iconst 0, 1) := by decide +kernel
theorem dX6_isGoal_25 : decode cX6_isGoal 25 = .ok (.ireturn, 1) := by decide +kernel
theorem dX6_isLastToGoal_0 : decode cX6_isLastToGoal 0 = .ok (.iload_n 1, 1) := by decide +kernel
theorem dX6_isLastToGoal_1 : decode cX6_isLastToGoal 1 = .ok (.iconst 1, 1) := by decide +kernel
theorem dX6_isLastToGoal_2 : decode cX6_isLastToGoal 2 = .ok (.iadd, 1) := by decide +kernel
theorem dX6_isLastToGoal_3 : decode cX6_isLastToGoal 3 = .ok (.istore_n 3, 1) := by decide +kernel
theorem dX6_isLastToGoal_4 : decode cX6_isLastToGoal 4 = .ok (.iload_n 3, 1) := by decide +kernel
theorem dX6_isLastToGoal_5 : decode cX6_isLastToGoal 5 = .ok (.iload_n 2, 1) := by decide +kernel
theorem dX6_isLastToGoal_6 : decode cX6_isLastToGoal 6 = .ok (.if_icmp .ge 24, 3) := by decide +kernel
theorem dX6_isLastToGoal_9 : decode cX6_isLastToGoal 9 = .ok (.aload_n 0, 1) := by decide +kernel
theorem dX6_isLastToGoal_10 : decode cX6_isLastToGoal 10 = .ok (.iload_n 3, 1) := by decide +kernel
theorem dX6_isLastToGoal_11 : decode cX6_isLastToGoal 11 = .ok (.invokevirtual 69, 3) := by decide +kernel
theorem dX6_isLastToGoal_14 : decode cX6_isLastToGoal 14 = .ok (.aload_n 0, 1) := by decide +kernel
theorem dX6_isLastToGoal_15 : decode cX6_isLastToGoal 15 = .ok (.iload_n 1, 1) := by decide +kernel
theorem dX6_isLastToGoal_16 : decode cX6_isLastToGoal 16 = .ok (.invokevirtual 69, 3) := by decide +kernel
theorem dX6_isLastToGoal_19 : decode cX6_isLastToGoal 19 = .ok (.if_icmp .ne 5, 3) := by decide +kernel
theorem dX6_isLastToGoal_22 : decode cX6_isLastToGoal 22 = .ok (.iconst 0, 1) := by decide +kernel
theorem dX6_isLastToGoal_23 : decode cX6_isLastToGoal 23 = .ok (.ireturn, 1) := by decide +kernel
theorem dX6_isLastToGoal_24 : decode cX6_isLastToGoal 24 = .ok (.iinc 3 1, 3) := by decide +kernel
theorem dX6_isLastToGoal_27 : decode cX6_isLastToGoal 27 = .ok (.goto (-23), 3) := by decide +kernel
theorem dX6_isLastToGoal_30 : decode cX6_isLastToGoal 30 = .ok (.iconst 1, 1) := by decide +kernel
theorem dX6_isLastToGoal_31 : decode cX6_isLastToGoal 31 = .ok (.ireturn, 1) := by decide +kernel
theorem dX6_become_0 : decode cX6_become 0 = .ok (.aload_n 0, 1) := by decide +kernel
theorem dX6_become_1 : decode cX6_become 1 = .ok (.iload_n 1, 1) := by decide +kernel
theorem dX6_become_2 : decode cX6_become 2 = .ok (.putfield 15, 3) := by decide +kernel
theorem dX6_become_5 : decode cX6_become 5 = .ok (.aload_n 0, 1) := by decide +kernel
theorem dX6_become_6 : decode cX6_become 6 = .ok (.iload_n 2, 1) := by decide +kernel
theorem dX6_become_7 : decode cX6_become 7 = .ok (.putfield 19, 3) := by decide +kernel
theorem dX6_become_10 : decode cX6_become 10 = .ok (.aload_n 0, 1) := by decide +kernel
theorem dX6_become_11 : decode cX6_become 11 = .ok (.iload_n 3, 1) := by decide +kernel
theorem dX6_become_12 : decode cX6_become 12 = .ok (.putfield 22, 3) := by decide +kernel
theorem dX6_become_15 : decode cX6_become 15 = .ok (.aload_n 0, 1) := by decide +kernel
theorem dX6_become_16 : decode cX6_become 16 = .ok (.iload 4, 2) := by decide +kernel
theorem dX6_become_18 : decode cX6_become 18 = .ok (.putfield 25, 3) := by decide +kernel
theorem dX6_become_21 : decode cX6_become 21 = .ok (.aload_n 0, 1) := by decide +kernel
theorem dX6_become_22 : decode cX6_become 22 = .ok (.iload 5, 2) := by decide +kernel
theorem dX6_become_24 : decode cX6_become 24 = .ok (.putfield 28, 3) := by decide +kernel
theorem dX6_become_27 : decode cX6_become 27 = .ok (.aload_n 0, 1) := by decide +kernel
theorem dX6_become_28 : decode cX6_become 28 = .ok (.iload 6, 2) := by decide +kernel
theorem dX6_become_30 : decode cX6_become 30 = .ok (.putfield 31, 3) := by decide +kernel
theorem dX6_become_33 : decode cX6_become 33 = .ok (.aload_n 0, 1) := by decide +kernel
theorem dX6_become_34 : decode cX6_become 34 = .ok (.bipush (-9), 2) := by decide +kernel
theorem dX6_become_36 : decode cX6_become 36 = .ok (.putfield 34, 3) := by decide +kernel
theorem dX6_become_39 : decode cX6_become 39 = .ok (.aload_n 0, 1) := by decide +kernel
theorem dX6_become_40 : decode cX6_become 40 = .ok (.invokevirtual 37, 3) := by decide +kernel
theorem dX6_become_43 : decode cX6_become 43 = .ok (.return_, 1) := by decide +kernel
theorem dX6_setGoals_0 : decode cX6_setGoals 0 = .ok (.aload_n 0, 1) := by decide +kernel
theorem dX6_setGoals_1 : decode cX6_setGoals 1 = .ok (.getfield 31, 3) := by decide +kernel
theorem dX6_setGoals_4 : decode cX6_setGoals 4 = .ok (.istore_n 1, 1) := by decide +kernel
theorem dX6_setGoals_5 : decode cX6_setGoals 5 = .ok (.iconst 0, 1) := by decide +kernel
theorem dX6_setGoals_6 : decode cX6_setGoals 6 = .ok (.istore_n 2, 1) := by decide +kernel
theorem dX6_setGoals_7 : decode cX6_setGoals 7 = .ok (.iload_n 2, 1) := by decide +kernel
theorem dX6_setGoals_8 : decode cX6_setGoals 8 = .ok (.aload_n 0, 1) := by decide +kernel
theorem dX6_setGoals_9 : decode cX6_setGoals 9 = .ok (.getfield 9, 3) := by decide +kernel
theorem dX6_setGoals_12 : decode cX6_setGoals 12 = .ok (.arraylength, 1) := by decide +kernel
theorem dX6_setGoals_13 : decode cX6_setGoals 13 = .ok (.if_icmp .ge 36, 3) := by decide +kernel
theorem dX6_setGoals_16 : decode cX6_setGoals 16 = .ok (.aload_n 0, 1) := by decide +kernel
theorem dX6_setGoals_17 : decode cX6_setGoals 17 = .ok (.getfield 9, 3) := by decide +kernel
theorem dX6_setGoals_20 : decode cX6_setGoals 20 = .ok (.iload_n 2, 1) := by decide +kernel
theorem dX6_setGoals_21 : decode cX6_setGoals 21 = .ok (.aload_n 0, 1) := by decide +kernel
theorem dX6_setGoals_22 : decode cX6_setGoals 22 = .ok (.getfield 15, 3) := by decide +kernel
theorem dX6_setGoals_25 : decode cX6_setGoals 25 = .ok (.iconst 2, 1) := by decide +kernel
theorem dX6_setGoals_26 : decode cX6_setGoals 26 = .ok (.if_icmp .ne 10, 3) := by decide +kernel
theorem dX6_setGoals_29 : decode cX6_setGoals 29 = .ok (.iload_n 1, 1) := by decide +kernel
theorem dX6_setGoals_30 : decode cX6_setGoals 30 = .ok (.bipush 10, 2) := by decide +kernel
theorem dX6_setGoals_32 : decode cX6_setGoals 32 = .ok (.irem, 1) := by decide +kernel
theorem dX6_setGoals_33 : decode cX6_setGoals 33 = .ok (.goto 4, 3) := by decide +kernel
theorem dX6_setGoals_36 : decode cX6_setGoals 36 = .ok (.iload_n 2, 1) := by decide +kernel
theorem dX6_setGoals_37 : decode cX6_setGoals 37 = .ok (.iastore, 1) := by decide +kernel
theorem dX6_setGoals_38 : decode cX6_setGoals 38 = .ok (.iload_n 1, 1) := by decide +kernel
theorem dX6_setGoals_39 : decode cX6_setGoals 39 = .ok (.bipush 10, 2) := by decide +kernel
theorem dX6_setGoals_41 : decode cX6_setGoals 41 = .ok (.idiv, 1) := by decide +kernel
theorem dX6_setGoals_42 : decode cX6_setGoals 42 = .ok (.istore_n 1, 1) := by decide +kernel
theorem dX6_setGoals_43 : decode cX6_setGoals 43 = .ok (.iinc 2 1, 3) := by decide +kernel
theorem dX6_setGoals_46 : decode cX6_setGoals 46 = .ok (.goto (-39), 3) := by decide +kernel
theorem dX6_setGoals_49 : decode cX6_setGoals 49 = .ok (.return_, 1) := by decide +kernel
theorem hl_yX6_leavers : (yX6_leavers.cls ≠ "java/lang/invoke/MethodHandle" ∧ yX6_leavers.cls ≠ "java/lang/invoke/VarHandle") ∧ (parseMethodDescriptor yX6_leavers.desc).map (fun d => d.parameters.length) = some 1 := by decide +kernel
theorem hl_yX6_comers : (yX6_comers.cls ≠ "java/lang/invoke/MethodHandle" ∧ yX6_comers.cls ≠ "java/lang/invoke/VarHandle") ∧ (parseMethodDescriptor yX6_comers.desc).map (fun d => d.parameters.length) = some 1 := by decide +kernel
theorem hl_yX6_goalOf : (yX6_goalOf.cls ≠ "java/lang/invoke/MethodHandle" ∧ yX6_goalOf.cls ≠ "java/lang/invoke/VarHandle") ∧ (parseMethodDescriptor yX6_goalOf.desc).map (fun d => d.parameters.length) = some 1 := by decide +kernel
theorem hl_yX6_fits : (yX6_fits.cls ≠ "java/lang/invoke/MethodHandle" ∧ yX6_fits.cls ≠ "java/lang/invoke/VarHandle") ∧ (parseMethodDescriptor yX6_fits.desc).map (fun d => d.parameters.length) = some 1 := by decide +kernel
theorem hl_yX6_lead : (yX6_lead.cls ≠ "java/lang/invoke/MethodHandle" ∧ yX6_lead.cls ≠ "java/lang/invoke/VarHandle") ∧ (parseMethodDescriptor yX6_lead.desc).map (fun d => d.parameters.length) = some 2 := by decide +kernel
theorem hl_yX6_findLack : (yX6_findLack.cls ≠ "java/lang/invoke/MethodHandle" ∧ yX6_findLack.cls ≠ "java/lang/invoke/VarHandle") ∧ (parseMethodDescriptor yX6_findLack.desc).map (fun d => d.parameters.length) = some 3 := by decide +kernel
theorem hl_yX6_isGoal : (yX6_isGoal.cls ≠ "java/lang/invoke/MethodHandle" ∧ yX6_isGoal.cls ≠ "java/lang/invoke/VarHandle") ∧ (parseMethodDescriptor yX6_isGoal.desc).map (fun d => d.parameters.length) = some 2 := by decide +kernel
theorem hl_yX6_isLastToGoal : (yX6_isLastToGoal.cls ≠ "java/lang/invoke/MethodHandle" ∧ yX6_isLastToGoal.cls ≠ "java/lang/invoke/VarHandle") ∧ (parseMethodDescriptor yX6_isLastToGoal.desc).map (fun d => d.parameters.length) = some 2 := by decide +kernel
theorem hl_yX6_become : (yX6_become.cls ≠ "java/lang/invoke/MethodHandle" ∧ yX6_become.cls ≠ "java/lang/invoke/VarHandle") ∧ (parseMethodDescriptor yX6_become.desc).map (fun d => d.parameters.length) = some 6 := by decide +kernel
theorem hl_yX6_setGoals : (yX6_setGoals.cls ≠ "java/lang/invoke/MethodHandle" ∧ yX6_setGoals.cls ≠ "java/lang/invoke/VarHandle") ∧ (parseMethodDescriptor yX6_setGoals.desc).map (fun d => d.parameters.length) = some 0 := by decide +kernel
set_option maxRecDepth 20000 in
set_option maxHeartbeats 4000000 in
theorem c_X6_leavers {l : Launch} {G : Gt} {n0 : Nat} {mi : Nat → Nat → Int} {mr : Nat → Nat → Nat} {k : Nat} (hk : isRu k) {sc : Int} (hv : RV sc mi k) {z : Int} (hz : rg z) : Ci l yX6_leavers cX6_leavers 2 .int 1 G n0 [.ref (n0 + k), .int (jI z)] mi mr (fun r9 mi9 mr9 => mi = mi9 ∧ mr = mr9 ∧ r9 = lv (mi k) z ∧ 0 ≤ r9 ∧ r9 ≤ 2) := by
  refine Ct_of (by decide +kernel) (by intro v hv; simp at hv; rcases hv with rfl | rfl <;> rfl) (Nat.le_of_ble_eq_true rfl) ?_
  intro p e s m args below meth c9 X hr hname
  show WW _ _ _ _ _ _ _ _ _ _ _ _ _ _ _ _ _ _ _ [some (.ref (n0 + k)), some (.int (jI z))] _
  obtain ⟨v1, v2, v3, v4, v6, v7, vs, vg⟩ := id hv
  refine w_iload_n X dX6_leavers_0 rfl ?_
  refine w_aload_n X dX6_leavers_1 rfl ?_
  refine w_get X (isRu_k hk) (σ_ru G n0 _ _ hk) rfl gW_X6 2 (by decide) gF_X6_19 rfl dX6_leavers_2 ?_
  refine w_icmp_ne X 12 dX6_leavers_5 (by decide) (fun c5_1 => ?_) (fun c5_1 => ?_)
  ·
    refine w_iconst X dX6_leavers_12 ?_
    refine w_iload_n X dX6_leavers_13 rfl ?_
    refine w_aload_n X dX6_leavers_14 rfl ?_
    refine w_get X (isRu_k hk) (σ_ru G n0 _ _ hk) rfl gW_X6 4 (by decide) gF_X6_25 rfl dX6_leavers_15 ?_
    refine w_icmp_ne X 25 dX6_leavers_18 (by decide) (fun c18_2 => ?_) (fun c18_2 => ?_)
    ·
      refine w_iconst X dX6_leavers_25 ?_
      refine w_iadd X dX6_leavers_26 ?_
      refine s_iret X hr dX6_leavers_27 ?_
      refine ⟨rfl, rfl, ?_, by omega, by omega⟩
      unfold lv
      repeat (first | rw [if_pos (by assumption)] | rw [if_neg (by assumption)])
    ·
      refine w_iconst X dX6_leavers_21 ?_
      refine w_goto X 26 dX6_leavers_22 (by decide) ?_
      refine w_iadd X dX6_leavers_26 ?_
      refine s_iret X hr dX6_leavers_27 ?_
      refine ⟨rfl, rfl, ?_, by omega, by omega⟩
      unfold lv
      repeat (first | rw [if_pos (by assumption)] | rw [if_neg (by assumption)])
  ·
    refine w_iconst X dX6_leavers_8 ?_
    refine w_goto X 13 dX6_leavers_9 (by decide) ?_
    refine w_iload_n X dX6_leavers_13 rfl ?_
    refine w_aload_n X dX6_leavers_14 rfl ?_
    refine w_get X (isRu_k hk) (σ_ru G n0 _ _ hk) rfl gW_X6 4 (by decide) gF_X6_25 rfl dX6_leavers_15 ?_
    refine w_icmp_ne X 25 dX6_leavers_18 (by decide) (fun c18_3 => ?_) (fun c18_3 => ?_)
    ·
      refine w_iconst X dX6_leavers_25 ?_
      refine w_iadd X dX6_leavers_26 ?_
      refine s_iret X hr dX6_leavers_27 ?_
      refine ⟨rfl, rfl, ?_, by omega, by omega⟩
      unfold lv
      repeat (first | rw [if_pos (by assumption)] | rw [if_neg (by assumption)])
    ·
      refine w_iconst X dX6_leavers_21 ?_
      refine w_goto X 26 dX6_leavers_22 (by decide) ?_
      refine w_iadd X dX6_leavers_26 ?_
      refine s_iret X hr dX6_leavers_27 ?_
      refine ⟨rfl, rfl, ?_, by omega, by omega⟩
      unfold lv
      repeat (first | rw [if_pos (by assumption)] | rw [if_neg (by assumption)])
set_option maxRecDepth 20000 in
set_option maxHeartbeats 4000000 in
theorem c_X6_comers {l : Launch} {G : Gt} {n0 : Nat} {mi : Nat → Nat → Int} {mr : Nat → Nat → Nat} {k : Nat} (hk : isRu k) {sc : Int} (hv : RV sc mi k) {z : Int} (hz : rg z) : Ci l yX6_comers cX6_comers 2 .int 1 G n0 [.ref (n0 + k), .int (jI z)] mi mr (fun r9 mi9 mr9 => mi = mi9 ∧ mr = mr9 ∧ r9 = cm (mi k) z ∧ 0 ≤ r9 ∧ r9 ≤ 2) := by
  refine Ct_of (by decide +kernel) (by intro v hv; simp at hv; rcases hv with rfl | rfl <;> rfl) (Nat.le_of_ble_eq_true rfl) ?_
  intro p e s m args below meth c9 X hr hname
  show WW _ _ _ _ _ _ _ _ _ _ _ _ _ _ _ _ _ _ _ [some (.ref (n0 + k)), some (.int (jI z))] _
  obtain ⟨v1, v2, v3, v4, v6, v7, vs, vg⟩ := id hv
  refine w_iload_n X dX6_comers_0 rfl ?_
  refine w_aload_n X dX6_comers_1 rfl ?_
  refine w_get X (isRu_k hk) (σ_ru G n0 _ _ hk) rfl gW_X6 3 (by decide) gF_X6_22 rfl dX6_comers_2 ?_
  refine w_icmp_ne X 12 dX6_comers_5 (by decide) (fun c5_1 => ?_) (fun c5_1 => ?_)
  ·
    refine w_iconst X dX6_comers_12 ?_
    refine w_iload_n X dX6_comers_13 rfl ?_
    refine w_aload_n X dX6_comers_14 rfl ?_
    refine w_get X (isRu_k hk) (σ_ru G n0 _ _ hk) rfl gW_X6 5 (by decide) gF_X6_28 rfl dX6_comers_15 ?_
    refine w_icmp_ne X 25 dX6_comers_18 (by decide) (fun c18_2 => ?_) (fun c18_2 => ?_)
    ·
      refine w_iconst X dX6_comers_25 ?_
      refine w_iadd X dX6_comers_26 ?_
      refine s_iret X hr dX6_comers_27 ?_
      refine ⟨rfl, rfl, ?_, by omega, by omega⟩
      unfold cm
      repeat (first | rw [if_pos (by assumption)] | rw [if_neg (by assumption)])
    ·
      refine w_iconst X dX6_comers_21 ?_
      refine w_goto X 26 dX6_comers_22 (by decide) ?_
      refine w_iadd X dX6_comers_26 ?_
      refine s_iret X hr dX6_comers_27 ?_
      refine ⟨rfl, rfl, ?_, by omega, by omega⟩
      unfold cm
      repeat (first | rw [if_pos (by assumption)] | rw [if_neg (by assumption)])
  ·
    refine w_iconst X dX6_comers_8 ?_
    refine w_goto X 13 dX6_comers_9 (by decide) ?_
    refine w_iload_n X dX6_comers_13 rfl ?_
    refine w_aload_n X dX6_comers_14 rfl ?_
    refine w_get X (isRu_k hk) (σ_ru G n0 _ _ hk) rfl gW_X6 5 (by decide) gF_X6_28 rfl dX6_comers_15 ?_
    refine w_icmp_ne X 25 dX6_comers_18 (by decide) (fun c18_3 => ?_) (fun c18_3 => ?_)
    ·
      refine w_iconst X dX6_comers_25 ?_
      refine w_iadd X dX6_comers_26 ?_
      refine s_iret X hr dX6_comers_27 ?_
      refine ⟨rfl, rfl, ?_, by omega, by omega⟩
      unfold cm
      repeat (first | rw [if_pos (by assumption)] | rw [if_neg (by assumption)])
    ·
      refine w_iconst X dX6_comers_21 ?_
      refine w_goto X 26 dX6_comers_22 (by decide) ?_
      refine w_iadd X dX6_comers_26 ?_
      refine s_iret X hr dX6_comers_27 ?_
      refine ⟨rfl, rfl, ?_, by omega, by omega⟩
      unfold cm
      repeat (first | rw [if_pos (by assumption)] | rw [if_neg (by assumption)])
set_option maxRecDepth 20000 in
set_option maxHeartbeats 4000000 in
theorem c_X6_goalOf {l : Launch} {G : Gt} {n0 : Nat} {mi : Nat → Nat → Int} {mr : Nat → Nat → Nat} {k : Nat} (hk : isRu k) {sc : Int} (hv : RV sc mi k) {z : Int} (hz : rg z) : Ci l yX6_goalOf cX6_goalOf 2 .int 1 G n0 [.ref (n0 + k), .int (jI z)] mi mr (fun r9 mi9 mr9 => mi = mi9 ∧ mr = mr9 ∧ (r9 = if 0 ≤ z ∧ z < 5 then gol (mi k) z.toNat else -9) ∧ -9 ≤ r9 ∧ r9 < 5) := by
  refine Ct_of (by decide +kernel) (by intro v hv; simp at hv; rcases hv with rfl | rfl <;> rfl) (Nat.le_of_ble_eq_true rfl) ?_
  intro p e s m args below meth c9 X hr hname
  show WW _ _ _ _ _ _ _ _ _ _ _ _ _ _ _ _ _ _ _ [some (.ref (n0 + k)), some (.int (jI z))] _
  obtain ⟨v1, v2, v3, v4, v6, v7, vs, vg⟩ := id hv
  refine w_iload_n X dX6_goalOf_0 rfl ?_
  refine w_if_lt X 22 dX6_goalOf_1 (by decide) (fun c1_1 => ?_) (fun c1_1 => ?_)
  ·
    refine w_bipush X dX6_goalOf_22 rfl ?_
    refine s_iret X hr dX6_goalOf_24 ?_
    first | (have q := vg z.toNat (by omega); exact ⟨rfl, rfl, by rw [if_pos ⟨by omega, by omega⟩]; exact q.1, by omega, by omega⟩) | exact ⟨rfl, rfl, by rw [if_neg (by omega)], by omega, by omega⟩
  ·
    refine w_iload_n X dX6_goalOf_4 rfl ?_
    refine w_aload_n X dX6_goalOf_5 rfl ?_
    refine w_get X (isRu_k hk) (σ_ru G n0 _ _ hk) rfl gW_X6 0 (by decide) gF_X6_9 rfl dX6_goalOf_6 ?_
    refine w_alen X (t := 0) (isRu_k1 hk) (σ_go G n0 _ _ hk) rfl dX6_goalOf_9 ?_
    refine s_alen (b := 5) rfl ?_
    refine w_icmp_ge X 22 dX6_goalOf_10 (by decide) (fun c10_2 => ?_) (fun c10_2 => ?_)
    ·
      refine w_bipush X dX6_goalOf_22 rfl ?_
      refine s_iret X hr dX6_goalOf_24 ?_
      first | (have q := vg z.toNat (by omega); exact ⟨rfl, rfl, by rw [if_pos ⟨by omega, by omega⟩]; exact q.1, by omega, by omega⟩) | exact ⟨rfl, rfl, by rw [if_neg (by omega)], by omega, by omega⟩
    ·
      refine w_aload_n X dX6_goalOf_13 rfl ?_
      refine w_get X (isRu_k hk) (σ_ru G n0 _ _ hk) rfl gW_X6 0 (by decide) gF_X6_9 rfl dX6_goalOf_14 ?_
      refine w_iload_n X dX6_goalOf_17 rfl ?_
      refine s_iald X _ (isRu_k1 hk) (fun _ => σ_go G n0 _ _ hk) dX6_goalOf_18 ?_ (hj := rfl)
      refine w_goto X 24 dX6_goalOf_19 (by decide) ?_
      refine s_iret X hr dX6_goalOf_24 ?_
      first | (have q := vg z.toNat (by omega); exact ⟨rfl, rfl, by rw [if_pos ⟨by omega, by omega⟩]; exact q.1, by omega, by omega⟩) | exact ⟨rfl, rfl, by rw [if_neg (by omega)], by omega, by omega⟩
set_option maxRecDepth 20000 in
set_option maxHeartbeats 4000000 in
theorem c_X6_fits {l : Launch} {G : Gt} {n0 : Nat} {mi : Nat → Nat → Int} {mr : Nat → Nat → Nat} {k : Nat} (hk : isRu k) {sc : Int} (hv : RV sc mi k) {c : Nat} (hc : isCr c) (hb : CB mi c) : Ci l yX6_fits cX6_fits 4 .boolean 2 G n0 [.ref (n0 + k), .ref (n0 + c)] mi mr (fun r9 mi9 mr9 => mi = mi9 ∧ mr = mr9 ∧ (r9 = 1 ∧ fit (mi k) (mi (c + 1)) ∨ r9 = 0 ∧ ¬ fit (mi k) (mi (c + 1)))) := by
  refine Ct_of (by decide +kernel) (by intro v hv; simp at hv; rcases hv with rfl | rfl <;> rfl) (Nat.le_of_ble_eq_true rfl) ?_
  intro p e s m args below meth c9 X hr hname
  show WW _ _ _ _ _ _ _ _ _ _ _ _ _ _ _ _ _ _ _ [some (.ref (n0 + k)), some (.ref (n0 + c)), none, none] _
  obtain ⟨v1, v2, v3, v4, v6, v7, vs, vg⟩ := id hv
  have hcb : ∀ j : Nat, j < 5 → 0 ≤ mi (c + 1) j ∧ mi (c + 1) j ≤ 1000 := CB_at hb
  refine w_iconst X dX6_fits_0 ?_
  refine w_ist4_2 X dX6_fits_1 ?_
  have loop : ∀ (n : Nat) (i : Nat) (x3 : Option Value), (i ≤ 5) → (∀ j : Nat, j < i → lv (mi k) j + nd (mi k) j ≤ mi (c + 1) j) → n = 5 - i → WSi p l e s m args below meth c9 2 (fun r9 mi9 mr9 => mi = mi9 ∧ mr = mr9 ∧ (r9 = 1 ∧ fit (mi k) (mi (c + 1)) ∨ r9 = 0 ∧ ¬ fit (mi k) (mi (c + 1)))) G n0 4 mi mr 2 [some (.ref (n0 + k)), some (.ref (n0 + c)), some (.int (jI (i : Int))), x3] [] := by
    intro n
    induction n using Nat.strongRecOn with
    | ind n ih_loop =>
      intro i x3 hi hinv hn
      refine w_iload_n X dX6_fits_2 rfl ?_
      refine w_iconst X dX6_fits_3 ?_
      refine w_icmp_ge X 44 dX6_fits_4 (by decide) (fun c4_1 => ?_) (fun c4_1 => ?_)
      ·
        refine w_iconst X dX6_fits_44 ?_
        refine s_zret X hr dX6_fits_45 (by omega) ?_
        exact ⟨rfl, rfl, Or.inl ⟨rfl, fun j hj => hinv j (by omega)⟩⟩
      ·
        refine w_aload_n X dX6_fits_7 rfl ?_
        refine w_iload_n X dX6_fits_8 rfl ?_
        refine s_callVi X _ (c_X6_leavers (l := l) (G := G) (n0 := n0) hk hv (by first | assumption | (refine ⟨?_, ?_⟩ <;> omega))) gM_X6_40 gI_yX6_leavers gS_yX6_leavers gN_X6 gC_yX6_leavers (isRu_k hk) (σ_ru G n0 _ _ hk) rfl dX6_fits_9 hl_yX6_leavers ⟨Nat.le_of_ble_eq_true rfl, Nat.le_of_ble_eq_true rfl⟩ (Nat.le_of_ble_eq_true rfl) rfl (fun r1 mi1 mr1 h1 => ?_)
        obtain ⟨rfl, rfl, h1, b9, b9b⟩ := h1
        refine w_iload_n X dX6_fits_12 rfl ?_
        refine w_aload_n X dX6_fits_13 rfl ?_
        refine w_get X (isRu_k hk) (σ_ru G n0 _ _ hk) rfl gW_X6 7 (by decide) gF_X6_34 rfl dX6_fits_14 ?_
        refine w_icmp_ne X 24 dX6_fits_17 (by decide) (fun c17_2 => ?_) (fun c17_2 => ?_)
        ·
          have hn : nd (mi k) i = 0 := if_neg (by assumption)
          refine w_iconst X dX6_fits_24 ?_
          refine w_iadd X dX6_fits_25 ?_
          refine w_ist4_3 X dX6_fits_26 ?_
          refine w_aload_n X dX6_fits_27 rfl ?_
          refine w_iload_n X dX6_fits_28 rfl ?_
          refine s_callVi X _ (c_X3_of (l := l) (G := G) (n0 := n0) hc (by first | assumption | (refine ⟨?_, ?_⟩ <;> omega))) gM_X6_44 gI_yX3_of gS_yX3_of gN_X3 gC_yX3_of (isCr_k hc) (σ_cr G n0 _ _ hc) rfl dX6_fits_29 hl_yX3_of ⟨Nat.le_of_ble_eq_true rfl, Nat.le_of_ble_eq_true rfl⟩ (Nat.le_of_ble_eq_true rfl) rfl (fun r2 mi2 mr2 h2 => ?_)
          obtain ⟨rfl, rfl, h2⟩ := h2
          rw [if_pos ⟨by omega, by omega⟩, Int.toNat_natCast] at h2
          refine w_iload_n X dX6_fits_32 rfl ?_
          have q8 := hcb i (by omega)
          refine w_icmp_ge X 38 dX6_fits_33 (by decide) (fun c33_3 => ?_) (fun c33_3 => ?_)
          ·
            refine w_iinc4_2 X dX6_fits_38 ?_
            refine w_goto X 2 dX6_fits_41 (by decide) ?_
            exact ih_loop _ (by omega) (i + 1) _ (by omega) (fun j hj => by rcases (show j < i ∨ j = i by omega) with q | q; exact hinv j q; subst q; omega) rfl
          ·
            refine w_iconst X dX6_fits_36 ?_
            refine s_zret X hr dX6_fits_37 (by omega) ?_
            refine ⟨rfl, rfl, Or.inr ⟨rfl, fun hf => ?_⟩⟩
            have q := hf i (by omega)
            omega
        ·
          have hn : nd (mi k) i = 1 := if_pos (by assumption)
          refine w_iconst X dX6_fits_20 ?_
          refine w_goto X 25 dX6_fits_21 (by decide) ?_
          refine w_iadd X dX6_fits_25 ?_
          refine w_ist4_3 X dX6_fits_26 ?_
          refine w_aload_n X dX6_fits_27 rfl ?_
          refine w_iload_n X dX6_fits_28 rfl ?_
          refine s_callVi X _ (c_X3_of (l := l) (G := G) (n0 := n0) hc (by first | assumption | (refine ⟨?_, ?_⟩ <;> omega))) gM_X6_44 gI_yX3_of gS_yX3_of gN_X3 gC_yX3_of (isCr_k hc) (σ_cr G n0 _ _ hc) rfl dX6_fits_29 hl_yX3_of ⟨Nat.le_of_ble_eq_true rfl, Nat.le_of_ble_eq_true rfl⟩ (Nat.le_of_ble_eq_true rfl) rfl (fun r2 mi2 mr2 h2 => ?_)
          obtain ⟨rfl, rfl, h2⟩ := h2
          rw [if_pos ⟨by omega, by omega⟩, Int.toNat_natCast] at h2
          refine w_iload_n X dX6_fits_32 rfl ?_
          have q8 := hcb i (by omega)
          refine w_icmp_ge X 38 dX6_fits_33 (by decide) (fun c33_4 => ?_) (fun c33_4 => ?_)
          ·
            refine w_iinc4_2 X dX6_fits_38 ?_
            refine w_goto X 2 dX6_fits_41 (by decide) ?_
            exact ih_loop _ (by omega) (i + 1) _ (by omega) (fun j hj => by rcases (show j < i ∨ j = i by omega) with q | q; exact hinv j q; subst q; omega) rfl
          ·
            refine w_iconst X dX6_fits_36 ?_
            refine s_zret X hr dX6_fits_37 (by omega) ?_
            refine ⟨rfl, rfl, Or.inr ⟨rfl, fun hf => ?_⟩⟩
            have q := hf i (by omega)
            omega
  exact loop _ 0 none (by omega) (fun j hj => absurd hj (by omega)) rfl
set_option maxRecDepth 20000 in
set_option maxHeartbeats 4000000 in
theorem c_X6_isGoal {l : Launch} {G : Gt} {n0 : Nat} {mi : Nat → Nat → Int} {mr : Nat → Nat → Nat} {k : Nat} (hk : isRu k) {sc : Int} (hv : RV sc mi k) {z : Int} (hz : rg z) : Ci l yX6_isGoal cX6_isGoal 4 .boolean 2 G n0 [.ref (n0 + k), .int (jI z), .int (jI sc)] mi mr (fun r9 mi9 mr9 => mi = mi9 ∧ mr = mr9 ∧ (r9 = 1 ∧ (∃ j : Nat, (j : Int) < sc ∧ gol (mi k) j = z) ∨ r9 = 0 ∧ ∀ j : Nat, (j : Int) < sc → gol (mi k) j ≠ z)) := by
  refine Ct_of (by decide +kernel) (by intro v hv; simp at hv; rcases hv with rfl | rfl | rfl <;> rfl) (Nat.le_of_ble_eq_true rfl) ?_
  intro p e s m args below meth c9 X hr hname
  show WW _ _ _ _ _ _ _ _ _ _ _ _ _ _ _ _ _ _ _ [some (.ref (n0 + k)), some (.int (jI z)), some (.int (jI sc)), none] _
  obtain ⟨v1, v2, v3, v4, v6, v7, vs, vg⟩ := id hv
  refine w_iconst X dX6_isGoal_0 ?_
  refine w_ist4_3 X dX6_isGoal_1 ?_
  have loop : ∀ (n : Nat) (i : Nat) (x3 : Option Value), ((i : Int) ≤ sc) → (∀ j : Nat, j < i → gol (mi k) j ≠ z) → n = 5 - i → WSi p l e s m args below meth c9 2 (fun r9 mi9 mr9 => mi = mi9 ∧ mr = mr9 ∧ (r9 = 1 ∧ (∃ j : Nat, (j : Int) < sc ∧ gol (mi k) j = z) ∨ r9 = 0 ∧ ∀ j : Nat, (j : Int) < sc → gol (mi k) j ≠ z)) G n0 4 mi mr 2 [some (.ref (n0 + k)), some (.int (jI z)), some (.int (jI sc)), some (.int (jI (i : Int)))] [] := by
    intro n
    induction n using Nat.strongRecOn with
    | ind n ih_loop =>
      intro i x3 hi hinv hn
      refine w_iload_n X dX6_isGoal_2 rfl ?_
      refine w_iload_n X dX6_isGoal_3 rfl ?_
      refine w_icmp_ge X 24 dX6_isGoal_4 (by decide) (fun c4_1 => ?_) (fun c4_1 => ?_)
      ·
        refine w_iconst X dX6_isGoal_24 ?_
        refine s_zret X hr dX6_isGoal_25 (by omega) ?_
        exact ⟨rfl, rfl, Or.inr ⟨rfl, fun j hj => hinv j (by omega)⟩⟩
      ·
        refine w_aload_n X dX6_isGoal_7 rfl ?_
        refine w_iload_n X dX6_isGoal_8 rfl ?_
        refine s_callVi X _ (c_X6_goalOf (l := l) (G := G) (n0 := n0) hk hv (by first | assumption | (refine ⟨?_, ?_⟩ <;> omega))) gM_X6_69 gI_yX6_goalOf gS_yX6_goalOf gN_X6 gC_yX6_goalOf (isRu_k hk) (σ_ru G n0 _ _ hk) rfl dX6_isGoal_9 hl_yX6_goalOf ⟨Nat.le_of_ble_eq_true rfl, Nat.le_of_ble_eq_true rfl⟩ (Nat.le_of_ble_eq_true rfl) rfl (fun r1 mi1 mr1 h1 => ?_)
        obtain ⟨rfl, rfl, h1, b9, q9⟩ := h1
        rw [if_pos ⟨by omega, by omega⟩, Int.toNat_natCast] at h1
        refine w_iload_n X dX6_isGoal_12 rfl ?_
        refine w_icmp_ne X 18 dX6_isGoal_13 (by decide) (fun c13_2 => ?_) (fun c13_2 => ?_)
        ·
          refine w_iinc4_3 X dX6_isGoal_18 ?_
          refine w_goto X 2 dX6_isGoal_21 (by decide) ?_
          exact ih_loop _ (by omega) (i + 1) none (by omega) (fun j hj => by rcases (show j < i ∨ j = i by omega) with q | q; exact hinv j q; subst q; omega) rfl
        ·
          refine w_iconst X dX6_isGoal_16 ?_
          refine s_zret X hr dX6_isGoal_17 (by omega) ?_
          exact ⟨rfl, rfl, Or.inl ⟨rfl, i, by omega, by omega⟩⟩
  exact loop _ 0 none (by omega) (fun j hj => absurd hj (by omega)) rfl
set_option maxRecDepth 20000 in
set_option maxHeartbeats 4000000 in
theorem c_X6_isLastToGoal {l : Launch} {G : Gt} {n0 : Nat} {mi : Nat → Nat → Int} {mr : Nat → Nat → Nat} {k : Nat} (hk : isRu k) {sc : Int} (hv : RV sc mi k) {s1 : Nat} (hs1 : (s1 : Int) < sc) : Ci l yX6_isLastToGoal cX6_isLastToGoal 4 .boolean 2 G n0 [.ref (n0 + k), .int (jI (s1 : Int)), .int (jI sc)] mi mr (fun r9 mi9 mr9 => mi = mi9 ∧ mr = mr9 ∧ (r9 = 1 ∧ (∀ j : Nat, s1 < j → (j : Int) < sc → gol (mi k) j ≠ gol (mi k) s1) ∨ r9 = 0 ∧ ∃ j : Nat, s1 < j ∧ (j : Int) < sc ∧ gol (mi k) j = gol (mi k) s1)) := by
  refine Ct_of (by decide +kernel) (by intro v hv; simp at hv; rcases hv with rfl | rfl | rfl <;> rfl) (Nat.le_of_ble_eq_true rfl) ?_
  intro p e s m args below meth c9 X hr hname
  show WW _ _ _ _ _ _ _ _ _ _ _ _ _ _ _ _ _ _ _ [some (.ref (n0 + k)), some (.int (jI (s1 : Int))), some (.int (jI sc)), none] _
  obtain ⟨v1, v2, v3, v4, v6, v7, vs, vg⟩ := id hv
  refine w_iload_n X dX6_isLastToGoal_0 rfl ?_
  refine w_iconst X dX6_isLastToGoal_1 ?_
  refine w_iadd X dX6_isLastToGoal_2 ?_
  refine w_ist4_3 X dX6_isLastToGoal_3 ?_
  have loop : ∀ (n : Nat) (i : Nat) (x3 : Option Value), (s1 < i ∧ (i : Int) ≤ sc) → (∀ j : Nat, s1 < j → j < i → gol (mi k) j ≠ gol (mi k) s1) → n = 5 - i → WSi p l e s m args below meth c9 2 (fun r9 mi9 mr9 => mi = mi9 ∧ mr = mr9 ∧ (r9 = 1 ∧ (∀ j : Nat, s1 < j → (j : Int) < sc → gol (mi k) j ≠ gol (mi k) s1) ∨ r9 = 0 ∧ ∃ j : Nat, s1 < j ∧ (j : Int) < sc ∧ gol (mi k) j = gol (mi k) s1)) G n0 4 mi mr 4 [some (.ref (n0 + k)), some (.int (jI (s1 : Int))), some (.int (jI sc)), some (.int (jI (i : Int)))] [] := by
    intro n
    induction n using Nat.strongRecOn with
    | ind n ih_loop =>
      intro i x3 hi hinv hn
      refine w_iload_n X dX6_isLastToGoal_4 rfl ?_
      refine w_iload_n X dX6_isLastToGoal_5 rfl ?_
      refine w_icmp_ge X 30 dX6_isLastToGoal_6 (by decide) (fun c6_1 => ?_) (fun c6_1 => ?_)
      ·
        refine w_iconst X dX6_isLastToGoal_30 ?_
        refine s_zret X hr dX6_isLastToGoal_31 (by omega) ?_
        exact ⟨rfl, rfl, Or.inl ⟨rfl, fun j hj hj2 => hinv j hj (by omega)⟩⟩
      ·
        refine w_aload_n X dX6_isLastToGoal_9 rfl ?_
        refine w_iload_n X dX6_isLastToGoal_10 rfl ?_
        refine s_callVi X _ (c_X6_goalOf (l := l) (G := G) (n0 := n0) hk hv (by first | assumption | (refine ⟨?_, ?_⟩ <;> omega))) gM_X6_69 gI_yX6_goalOf gS_yX6_goalOf gN_X6 gC_yX6_goalOf (isRu_k hk) (σ_ru G n0 _ _ hk) rfl dX6_isLastToGoal_11 hl_yX6_goalOf ⟨Nat.le_of_ble_eq_true rfl, Nat.le_of_ble_eq_true rfl⟩ (Nat.le_of_ble_eq_true rfl) rfl (fun r1 mi1 mr1 h1 => ?_)
        obtain ⟨rfl, rfl, h1, b9, q9⟩ := h1
        rw [if_pos ⟨by omega, by omega⟩, Int.toNat_natCast] at h1
        refine w_aload_n X dX6_isLastToGoal_14 rfl ?_
        refine w_iload_n X dX6_isLastToGoal_15 rfl ?_
        refine s_callVi X _ (c_X6_goalOf (l := l) (G := G) (n0 := n0) hk hv (by first | assumption | (refine ⟨?_, ?_⟩ <;> omega))) gM_X6_69 gI_yX6_goalOf gS_yX6_goalOf gN_X6 gC_yX6_goalOf (isRu_k hk) (σ_ru G n0 _ _ hk) rfl dX6_isLastToGoal_16 hl_yX6_goalOf ⟨Nat.le_of_ble_eq_true rfl, Nat.le_of_ble_eq_true rfl⟩ (Nat.le_of_ble_eq_true rfl) rfl (fun r2 mi2 mr2 h2 => ?_)
        obtain ⟨rfl, rfl, h2, b9, q9⟩ := h2
        rw [if_pos ⟨by omega, by omega⟩, Int.toNat_natCast] at h2
        refine w_icmp_ne X 24 dX6_isLastToGoal_19 (by decide) (fun c19_2 => ?_) (fun c19_2 => ?_)
        ·
          refine w_iinc4_3 X dX6_isLastToGoal_24 ?_
          refine w_goto X 4 dX6_isLastToGoal_27 (by decide) ?_
          exact ih_loop _ (by omega) (i + 1) none (by omega) (fun j hj0 hj => by rcases (show j < i ∨ j = i by omega) with q | q; exact hinv j hj0 q; subst q; omega) rfl
        ·
          refine w_iconst X dX6_isLastToGoal_22 ?_
          refine s_zret X hr dX6_isLastToGoal_23 (by omega) ?_
          exact ⟨rfl, rfl, Or.inr ⟨rfl, i, by omega, by omega, by omega⟩⟩
  exact loop _ (s1 + 1) none (by omega) (fun j hj hj2 => absurd hj (by omega)) rfl
theorem RV_fr {sc : Int} {mi mi' : Nat → Nat → Int} {k : Nat} (h : RV sc mi k) (h1 : mi' k = mi k) (h2 : mi' (k + 1) = mi (k + 1)) : RV sc mi' k := by
  unfold RV at h ⊢
  rw [h1, h2]
  exact h
theorem CB_fr {mi mi' : Nat → Nat → Int} {c : Nat} (h : CB mi c) (h1 : mi' (c + 1) = mi (c + 1)) : CB mi' c := by
  unfold CB at h ⊢
  rw [h1]
  exact h
theorem ap_rc {k c : Nat} (hk : isRu k) (hc : isCr c) : k ≠ c + 1 ∧ k + 1 ≠ c + 1 ∧ k ≠ c ∧ k + 1 ≠ c := by
  unfold isRu at hk
  unfold isCr at hc
  omega
theorem ap_cc {c d : Nat} (hc : isCr c) (hd : isCr d) (h : c ≠ d) : c + 1 ≠ d + 1 ∧ c + 1 ≠ d ∧ c ≠ d + 1 := by
  unfold isCr at hc hd
  omega
-- lead
set_option maxRecDepth 20000 in
set_option maxHeartbeats 4000000 in
theorem c_X6_lead {l : Launch} {G : Gt} {n0 : Nat} {mi : Nat → Nat → Int} {mr : Nat → Nat → Nat} {k : Nat} (hk : isRu k) {sc : Int} (hv : RV sc mi k) {c d : Nat} (hc : isCr c) (hd : isCr d) (hcd : c ≠ d) : Cv l yX6_lead cX6_lead 4 2 G n0 [.ref (n0 + k), .ref (n0 + c), .ref (n0 + d)] mi mr (fun mi9 mr9 => ((∀ j : Nat, j < 5 → mi9 (d + 1) j = led (mi k) (mi (c + 1)) j) ∧ ∀ a, a ≠ d + 1 → mi9 a = mi a) ∧ mr = mr9) := by
  refine Ct_of (by decide +kernel) (by intro v hv; simp at hv; rcases hv with rfl | rfl | rfl <;> rfl) (Nat.le_of_ble_eq_true rfl) ?_
  intro p e s m args below meth c9 X hr hname
  show WW _ _ _ _ _ _ _ _ _ _ _ _ _ _ _ _ _ _ _ [some (.ref (n0 + k)), some (.ref (n0 + c)), some (.ref (n0 + d)), none] _
  obtain ⟨v1, v2, v3, v4, v6, v7, vs, vg⟩ := id hv
  have hap := ap_rc hk hd
  have hapc := ap_cc hc hd hcd
  refine w_aload_n X dX6_lead_0 rfl ?_
  refine s_callVv X _ (c_X3_clear (l := l) (G := G) (n0 := n0) hd) gM_X6_49 gI_yX3_clear gS_yX3_clear gN_X3 gC_yX3_clear (isCr_k hd) (σ_cr G n0 _ _ hd) rfl dX6_lead_1 hl_yX3_clear ⟨Nat.le_of_ble_eq_true rfl, Nat.le_of_ble_eq_true rfl⟩ (Nat.le_of_ble_eq_true rfl) rfl (fun mi1 mr1 h1 => ?_)
  obtain ⟨rfl, rfl⟩ := h1
  have hm0 : ∀ a, a ≠ d + 1 → row5 mi (d + 1) (fun _ => 0) a = mi a := fun a ha => row5_k ha
  have hF0 : ∀ j : Nat, j < 5 → row5 mi (d + 1) (fun _ => 0) (d + 1) j = psm (mi k) (mi (c + 1)) 0 j := fun j hj => row5_s hj
  generalize row5 mi (d + 1) (fun _ => 0) = mi0 at hm0 hF0 ⊢
  refine w_iconst X dX6_lead_4 ?_
  refine w_ist4_3 X dX6_lead_5 ?_
  have loop : ∀ (n : Nat) (mi' : Nat → Nat → Int) (i : Nat) (x3 : Option Value), (i ≤ 5) → (∀ a, a ≠ d + 1 → mi' a = mi a) → (∀ j : Nat, j < 5 → mi' (d + 1) j = psm (mi k) (mi (c + 1)) i j) → n = 5 - i → WSv p l e s m args below meth c9 2 (fun mi9 mr9 => ((∀ j : Nat, j < 5 → mi9 (d + 1) j = led (mi k) (mi (c + 1)) j) ∧ ∀ a, a ≠ d + 1 → mi9 a = mi a) ∧ mr = mr9) G n0 4 mi' mr 6 [some (.ref (n0 + k)), some (.ref (n0 + c)), some (.ref (n0 + d)), some (.int (jI (i : Int)))] [] := by
    intro n
    induction n using Nat.strongRecOn with
    | ind n ih_loop =>
      intro mi' i x3 hi hm hF hn
      have hv2 : RV sc mi' k := RV_fr hv (hm _ hap.1) (hm _ hap.2.1)
      refine w_iload_n X dX6_lead_6 rfl ?_
      refine w_aload_n X dX6_lead_7 rfl ?_
      refine w_get X (isRu_k hk) (σ_ru G n0 _ _ hk) rfl gW_X6 0 (by decide) gF_X6_9 rfl dX6_lead_8 ?_
      refine w_alen X (t := 0) (isRu_k1 hk) (σ_go G n0 _ _ hk) rfl dX6_lead_11 ?_
      refine s_alen (b := 5) rfl ?_
      refine w_icmp_ge X 42 dX6_lead_12 (by decide) (fun c12_1 => ?_) (fun c12_1 => ?_)
      ·
        have hq1 : mi' k 3 = mi k 3 := by rw [hm _ hap.1]
        have hq2 : mi' k 5 = mi k 5 := by rw [hm _ hap.1]
        refine w_aload_n X dX6_lead_42 rfl ?_
        refine w_aload_n X dX6_lead_43 rfl ?_
        refine w_get X (isRu_k hk) (σ_ru G n0 _ _ hk) rfl gW_X6 3 (by decide) gF_X6_22 rfl dX6_lead_44 ?_
        refine w_iconst X dX6_lead_47 ?_
        refine s_callVv X _ (c_X3_add (l := l) (G := G) (n0 := n0) hd (by first | assumption | (refine ⟨?_, ?_⟩ <;> omega))) gM_X6_52 gI_yX3_add gS_yX3_add gN_X3 gC_yX3_add (isCr_k hd) (σ_cr G n0 _ _ hd) rfl dX6_lead_48 hl_yX3_add ⟨Nat.le_of_ble_eq_true rfl, Nat.le_of_ble_eq_true rfl⟩ (Nat.le_of_ble_eq_true rfl) rfl (fun mi2 mr2 h2 => ?_)
        obtain ⟨e9, rfl⟩ := h2
        rw [if_pos ⟨by omega, by omega⟩] at e9
        have eF9 : ∀ j : Nat, mi2 (d + 1) j = mi' (d + 1) j + (if mi k 3 = (j : Int) then 1 else 0) := fun j => by rw [← e9, up2_add (by omega), hq1]
        have em9 : ∀ a, a ≠ d + 1 → mi2 a = mi' a := fun a ha => by rw [← e9]; exact up2_k _ _ _ _ ha
        have hq3 : mi2 k 5 = mi k 5 := by rw [em9 _ hap.1]; exact hq2
        refine w_aload_n X dX6_lead_51 rfl ?_
        refine w_aload_n X dX6_lead_52 rfl ?_
        refine w_get X (isRu_k hk) (σ_ru G n0 _ _ hk) rfl gW_X6 5 (by decide) gF_X6_28 rfl dX6_lead_53 ?_
        refine w_iconst X dX6_lead_56 ?_
        refine s_callVv X _ (c_X3_add (l := l) (G := G) (n0 := n0) hd (by first | assumption | (refine ⟨?_, ?_⟩ <;> omega))) gM_X6_52 gI_yX3_add gS_yX3_add gN_X3 gC_yX3_add (isCr_k hd) (σ_cr G n0 _ _ hd) rfl dX6_lead_57 hl_yX3_add ⟨Nat.le_of_ble_eq_true rfl, Nat.le_of_ble_eq_true rfl⟩ (Nat.le_of_ble_eq_true rfl) rfl (fun mi3 mr3 h3 => ?_)
        obtain ⟨e9, rfl⟩ := h3
        have hfin : ∀ j : Nat, mi3 (d + 1) j = mi' (d + 1) j + (if mi k 3 = (j : Int) then 1 else 0) + (if mi k 5 = (j : Int) then 1 else 0) := by
          intro j
          by_cases hq : mi k 5 = -9
          · rw [if_neg (by omega)] at e9
            rw [← e9, eF9, if_neg (show ¬ mi k 5 = (j : Int) by omega), Int.add_zero]
          · rw [if_pos ⟨by omega, by omega⟩] at e9
            rw [← e9, up2_add (by omega), eF9, hq3]
        have hfr : ∀ a, a ≠ d + 1 → mi3 a = mi' a := by
          intro a ha
          rw [← e9]
          split
          · rw [up2_k _ _ _ _ ha]; exact em9 a ha
          · exact em9 a ha
        refine s_vret X hr dX6_lead_60 ?_
        refine ⟨⟨?_, ?_⟩, rfl⟩
        · intro j hj
          rw [hfin j, hF j hj, show i = 5 by omega]
          rfl
        · intro a ha
          rw [hfr a ha, hm a ha]
      ·
        have hg := vg i (by omega)
        have hgk : mi' (k + 1) i = gol (mi k) i := by rw [hm _ hap.2.1]; exact hg.1
        refine w_aload_n X dX6_lead_15 rfl ?_
        refine w_aload_n X dX6_lead_16 rfl ?_
        refine w_get X (isRu_k hk) (σ_ru G n0 _ _ hk) rfl gW_X6 0 (by decide) gF_X6_9 rfl dX6_lead_17 ?_
        refine w_iload_n X dX6_lead_20 rfl ?_
        refine s_iald X (i) (isRu_k1 hk) (fun _ => σ_go G n0 _ _ hk) dX6_lead_21 ?_
        refine w_aload_n X dX6_lead_22 rfl ?_
        refine w_iload_n X dX6_lead_23 rfl ?_
        refine s_callVi X _ (c_X3_of (l := l) (G := G) (n0 := n0) hc (by first | assumption | (refine ⟨?_, ?_⟩ <;> omega))) gM_X6_44 gI_yX3_of gS_yX3_of gN_X3 gC_yX3_of (isCr_k hc) (σ_cr G n0 _ _ hc) rfl dX6_lead_24 hl_yX3_of ⟨Nat.le_of_ble_eq_true rfl, Nat.le_of_ble_eq_true rfl⟩ (Nat.le_of_ble_eq_true rfl) rfl (fun r2 mi2 mr2 h2 => ?_)
        obtain ⟨rfl, rfl, h2⟩ := h2
        rw [if_pos ⟨by omega, by omega⟩, Int.toNat_natCast] at h2
        refine w_aload_n X dX6_lead_27 rfl ?_
        refine w_iload_n X dX6_lead_28 rfl ?_
        refine s_callVi X _ (c_X6_leavers (l := l) (G := G) (n0 := n0) hk hv2 (by first | assumption | (refine ⟨?_, ?_⟩ <;> omega))) gM_X6_40 gI_yX6_leavers gS_yX6_leavers gN_X6 gC_yX6_leavers (isRu_k hk) (σ_ru G n0 _ _ hk) rfl dX6_lead_29 hl_yX6_leavers ⟨Nat.le_of_ble_eq_true rfl, Nat.le_of_ble_eq_true rfl⟩ (Nat.le_of_ble_eq_true rfl) rfl (fun r3 mi3 mr3 h3 => ?_)
        obtain ⟨rfl, rfl, h3, b9, b9b⟩ := h3
        refine w_isub X dX6_lead_32 ?_
        refine s_callVv X _ (c_X3_add (l := l) (G := G) (n0 := n0) hd (by first | assumption | (refine ⟨?_, ?_⟩ <;> omega))) gM_X6_52 gI_yX3_add gS_yX3_add gN_X3 gC_yX3_add (isCr_k hd) (σ_cr G n0 _ _ hd) rfl dX6_lead_33 hl_yX3_add ⟨Nat.le_of_ble_eq_true rfl, Nat.le_of_ble_eq_true rfl⟩ (Nat.le_of_ble_eq_true rfl) rfl (fun mi4 mr4 h4 => ?_)
        obtain ⟨e9, rfl⟩ := h4
        rw [if_pos ⟨by omega, by omega⟩] at e9
        subst e9
        refine w_iinc4_3 X dX6_lead_36 ?_
        refine w_goto X 6 dX6_lead_39 (by decide) ?_
        have hx : r2 - r3 = mi (c + 1) i - lv (mi k) i := by rw [h2, h3, hm _ hapc.1, hm _ hap.1]
        rw [hx]
        exact ih_loop _ (by omega) _ (i + 1) none (by omega) (fun a ha => (up2_k _ _ _ _ ha).trans (hm a ha)) (fun j hj => by rw [hgk, up2_add hg.2.1, hF j hj]; rfl) rfl
  exact loop _ mi0 0 none (by omega) hm0 hF0 rfl
theorem ite_step {j i : Nat} {a : Int} (q : ¬ j = i) : (if j < i then a else 0) = (if j < i + 1 then a else 0) := by
  by_cases h : j < i
  · rw [if_pos h, if_pos (by omega)]
  · rw [if_neg h, if_neg (by omega)]
def lk0 (ρ u : Nat → Int) (i : Nat) : Int := if u i - cm ρ i ≤ 0 then 0 else u i - cm ρ i
def lk (ρ u : Nat → Int) (i : Nat) : Int := if ρ 7 ≠ -9 ∧ gol ρ (ρ 7).toNat = i ∧ lk0 ρ u i < 1 then 1 else lk0 ρ u i
def lks (ρ u : Nat → Int) : Nat → Int
  | 0 => 0
  | n + 1 => lks ρ u n + lk ρ u n
def nog (sc : Int) (ρ : Nat → Int) (i : Nat) : Prop := ∀ j : Nat, (j : Int) < sc → gol ρ j ≠ i
theorem lk_need {ρ u : Nat → Int} {i : Nat} (h : ρ 7 ≠ -9) (hg : gol ρ (ρ 7).toNat = i) : lk ρ u i = if lk0 ρ u i < 1 then 1 else lk0 ρ u i := by
  unfold lk
  by_cases q : lk0 ρ u i < 1
  · rw [if_pos ⟨h, hg, q⟩, if_pos q]
  · rw [if_neg (fun w => q w.2.2), if_neg q]
theorem lk0_b {ρ u : Nat → Int} {i : Nat} (h : 0 ≤ u i ∧ u i ≤ 1000) (h2 : 0 ≤ cm ρ i) : 0 ≤ lk0 ρ u i ∧ lk0 ρ u i ≤ 1000 := by
  unfold lk0
  split <;> omega
theorem lk_b {ρ u : Nat → Int} {i : Nat} (h : 0 ≤ u i ∧ u i ≤ 1000) (h2 : 0 ≤ cm ρ i) : 0 ≤ lk ρ u i ∧ lk ρ u i ≤ 1000 := by
  have := lk0_b h h2
  unfold lk
  split <;> omega
theorem cm_b (ρ : Nat → Int) (z : Int) : 0 ≤ cm ρ z ∧ cm ρ z ≤ 2 := by
  unfold cm
  by_cases h1 : z = ρ 3 <;> by_cases h2 : z = ρ 5 <;> simp [h1, h2]
  all_goals (first | (split <;> omega) | omega)
theorem lks_b {ρ u : Nat → Int} (h : ∀ j : Nat, j < 5 → 0 ≤ u j ∧ u j ≤ 1000) : ∀ n : Nat, n ≤ 5 → 0 ≤ lks ρ u n ∧ lks ρ u n ≤ 1000 * n
  | 0, _ => by simp [lks]
  | n + 1, hn => by
    have h1 := lks_b (ρ := ρ) h n (by omega)
    have h2 := lk_b (h n (by omega)) (cm_b ρ n).1
    show 0 ≤ lks ρ u n + lk ρ u n ∧ lks ρ u n + lk ρ u n ≤ 1000 * ((n + 1 : Nat) : Int)
    omega
-- findLack
set_option maxRecDepth 20000 in
set_option maxHeartbeats 4000000 in
theorem c_X6_findLack {l : Launch} {G : Gt} {n0 : Nat} {mi : Nat → Nat → Int} {mr : Nat → Nat → Nat} {k : Nat} (hk : isRu k) {sc : Int} (hv : RV sc mi k) {c d : Nat} (hc : isCr c) (hd : isCr d) (hcd : c ≠ d) (hb : CB mi c) : Ci l yX6_findLack cX6_findLack 7 .int 3 G n0 [.ref (n0 + k), .ref (n0 + c), .int (jI sc), .ref (n0 + d)] mi mr (fun r9 mi9 mr9 => (r9 = -9 ∧ (∃ i : Nat, (i : Int) < sc ∧ 0 < lk0 (mi k) (mi (c + 1)) i ∧ nog sc (mi k) i) ∧ (∀ a, a ≠ d + 1 → mi9 a = mi a) ∨ r9 = (if mi k 4 = -9 then 1 else 2) + lks (mi k) (mi (c + 1)) sc.toNat ∧ (∀ i : Nat, (i : Int) < sc → ¬ (0 < lk0 (mi k) (mi (c + 1)) i ∧ nog sc (mi k) i)) ∧ (∀ j : Nat, j < 5 → mi9 (d + 1) j = if (j : Int) < sc then lk (mi k) (mi (c + 1)) j else 0) ∧ ∀ a, a ≠ d + 1 → mi9 a = mi a) ∧ mr = mr9) := by
  refine Ct_of (by decide +kernel) (by intro v hv; simp at hv; rcases hv with rfl | rfl | rfl | rfl <;> rfl) (Nat.le_of_ble_eq_true rfl) ?_
  intro p e s m args below meth c9 X hr hname
  show WW _ _ _ _ _ _ _ _ _ _ _ _ _ _ _ _ _ _ _ [some (.ref (n0 + k)), some (.ref (n0 + c)), some (.int (jI sc)), some (.ref (n0 + d)), none, none, none] _
  obtain ⟨v1, v2, v3, v4, v6, v7, vs, vg⟩ := id hv
  have hap := ap_rc hk hd
  have hapc := ap_cc hc hd hcd
  have hcb := CB_at hb
  refine w_aload_n X dX6_findLack_0 rfl ?_
  refine w_get X (isRu_k hk) (σ_ru G n0 _ _ hk) rfl gW_X6 4 (by decide) gF_X6_25 rfl dX6_findLack_1 ?_
  refine w_bipush X dX6_findLack_4 rfl ?_
  refine w_icmp_ne X 13 dX6_findLack_6 (by decide) (fun c6_1 => ?_) (fun c6_1 => ?_)
  ·
    have hs0 : (if mi k 4 = -9 then 1 else 2 : Int) = 2 := if_neg (by omega)
    refine w_iconst X dX6_findLack_13 ?_
    refine w_ist7_4 X dX6_findLack_14 ?_
    refine w_aload_n X dX6_findLack_16 rfl ?_
    refine s_callVv X _ (c_X3_clear (l := l) (G := G) (n0 := n0) hd) gM_X6_49 gI_yX3_clear gS_yX3_clear gN_X3 gC_yX3_clear (isCr_k hd) (σ_cr G n0 _ _ hd) rfl dX6_findLack_17 hl_yX3_clear ⟨Nat.le_of_ble_eq_true rfl, Nat.le_of_ble_eq_true rfl⟩ (Nat.le_of_ble_eq_true rfl) rfl (fun mi1 mr1 h1 => ?_)
    obtain ⟨rfl, rfl⟩ := h1
    have hm0 : ∀ a, a ≠ d + 1 → row5 mi (d + 1) (fun _ => 0) a = mi a := fun a ha => row5_k ha
    have hF0 : ∀ j : Nat, j < 5 → row5 mi (d + 1) (fun _ => 0) (d + 1) j = if j < 0 then lk (mi k) (mi (c + 1)) j else 0 := fun j hj => by rw [row5_s hj, if_neg (by omega)]
    generalize row5 mi (d + 1) (fun _ => 0) = mi0 at hm0 hF0 ⊢
    refine w_iconst X dX6_findLack_20 ?_
    refine w_ist7_5 X dX6_findLack_21 ?_
    have loop : ∀ (n : Nat) (mi' : Nat → Nat → Int) (i : Nat) (t : Int) (x6 : Option Value), ((i : Int) ≤ sc) → (∀ a, a ≠ d + 1 → mi' a = mi a) → (∀ j : Nat, j < 5 → mi' (d + 1) j = if j < i then lk (mi k) (mi (c + 1)) j else 0) → (∀ j : Nat, j < i → ¬ (0 < lk0 (mi k) (mi (c + 1)) j ∧ nog sc (mi k) j)) → (t = (if mi k 4 = -9 then 1 else 2) + lks (mi k) (mi (c + 1)) i) → n = 5 - i → WSi p l e s m args below meth c9 3 (fun r9 mi9 mr9 => (r9 = -9 ∧ (∃ i : Nat, (i : Int) < sc ∧ 0 < lk0 (mi k) (mi (c + 1)) i ∧ nog sc (mi k) i) ∧ (∀ a, a ≠ d + 1 → mi9 a = mi a) ∨ r9 = (if mi k 4 = -9 then 1 else 2) + lks (mi k) (mi (c + 1)) sc.toNat ∧ (∀ i : Nat, (i : Int) < sc → ¬ (0 < lk0 (mi k) (mi (c + 1)) i ∧ nog sc (mi k) i)) ∧ (∀ j : Nat, j < 5 → mi9 (d + 1) j = if (j : Int) < sc then lk (mi k) (mi (c + 1)) j else 0) ∧ ∀ a, a ≠ d + 1 → mi9 a = mi a) ∧ mr = mr9) G n0 7 mi' mr 23 [some (.ref (n0 + k)), some (.ref (n0 + c)), some (.int (jI sc)), some (.ref (n0 + d)), some (.int (jI t)), some (.int (jI (i : Int))), x6] [] := by
      intro n
      induction n using Nat.strongRecOn with
      | ind n ih_loop =>
        intro mi' i t x6 hi hm hF hN ht hn
        have hv2 : RV sc mi' k := RV_fr hv (hm _ hap.1) (hm _ hap.2.1)
        have hk1 : mi' (c + 1) = mi (c + 1) := hm _ hapc.1
        have hk2 : mi' k = mi k := hm _ hap.1
        refine w_iload X dX6_findLack_23 rfl ?_
        refine w_iload_n X dX6_findLack_25 rfl ?_
        refine w_icmp_ge X 117 dX6_findLack_26 (by decide) (fun c26_2 => ?_) (fun c26_2 => ?_)
        ·
          refine w_iload X dX6_findLack_117 rfl ?_
          refine s_iret X hr dX6_findLack_119 ?_
          refine ⟨Or.inr ⟨?_, fun j hj => hN j (by omega), fun j hj => ?_, hm⟩, rfl⟩
          · rw [ht, show sc.toNat = i by omega]
          · rw [hF j hj]
            by_cases q : j < i
            · rw [if_pos q, if_pos (by omega)]
            · rw [if_neg q, if_neg (by omega)]
        ·
          have hu := hcb i (by omega)
          have hcm := cm_b (mi k) i
          have hq7 : mi' k 7 = mi k 7 := by rw [hm _ hap.1]
          refine w_iconst X dX6_findLack_29 ?_
          refine w_aload_n X dX6_findLack_30 rfl ?_
          refine w_iload X dX6_findLack_31 rfl ?_
          refine s_callVi X _ (c_X3_of (l := l) (G := G) (n0 := n0) hc (by first | assumption | (refine ⟨?_, ?_⟩ <;> omega))) gM_X6_44 gI_yX3_of gS_yX3_of gN_X3 gC_yX3_of (isCr_k hc) (σ_cr G n0 _ _ hc) rfl dX6_findLack_33 hl_yX3_of ⟨Nat.le_of_ble_eq_true rfl, Nat.le_of_ble_eq_true rfl⟩ (Nat.le_of_ble_eq_true rfl) rfl (fun r2 mi2 mr2 h2 => ?_)
          obtain ⟨rfl, rfl, h2⟩ := h2
          rw [if_pos ⟨by omega, by omega⟩, Int.toNat_natCast] at h2
          rw [hk1] at h2
          refine w_aload_n X dX6_findLack_36 rfl ?_
          refine w_iload X dX6_findLack_37 rfl ?_
          refine s_callVi X _ (c_X6_comers (l := l) (G := G) (n0 := n0) hk hv2 (by first | assumption | (refine ⟨?_, ?_⟩ <;> omega))) gM_X6_56 gI_yX6_comers gS_yX6_comers gN_X6 gC_yX6_comers (isRu_k hk) (σ_ru G n0 _ _ hk) rfl dX6_findLack_39 hl_yX6_comers ⟨Nat.le_of_ble_eq_true rfl, Nat.le_of_ble_eq_true rfl⟩ (Nat.le_of_ble_eq_true rfl) rfl (fun r3 mi3 mr3 h3 => ?_)
          obtain ⟨rfl, rfl, h3, b9, b9b⟩ := h3
          rw [hk2] at h3
          refine w_isub X dX6_findLack_42 ?_
          refine w_mmax X gM_X6_59 ⟨Nat.le_of_ble_eq_true rfl, Nat.le_of_ble_eq_true rfl⟩ ⟨Nat.zero_le _, Nat.zero_le _⟩ (Nat.le_of_ble_eq_true rfl) dX6_findLack_43 (fun z4 h4 => ?_)
          refine w_ist7_6 X dX6_findLack_46 ?_
          have hl0 : lk0 (mi k) (mi (c + 1)) i = z4 := by unfold lk0; split <;> omega
          refine w_iload X dX6_findLack_48 rfl ?_
          refine w_if_le X 66 dX6_findLack_50 (by decide) (fun c50_3 => ?_) (fun c50_3 => ?_)
          ·
            have hnn : ¬ (0 < lk0 (mi k) (mi (c + 1)) i ∧ nog sc (mi k) i) := by
              intro q
              have q1 := q.1
              first
              | omega
              | (rcases h5 with ⟨q5, j, hj, hj2⟩ | q5
                 exact q.2 j hj (by rw [← hk2]; exact hj2)
                 omega)
            try clear h5
            refine w_aload_n X dX6_findLack_66 rfl ?_
            refine w_get X (isRu_k hk) (σ_ru G n0 _ _ hk) rfl gW_X6 7 (by decide) gF_X6_34 rfl dX6_findLack_67 ?_
            refine w_bipush X dX6_findLack_70 rfl ?_
            refine w_icmp_eq X 96 dX6_findLack_72 (by decide) (fun c72_4 => ?_) (fun c72_4 => ?_)
            ·
              have hlk : lk (mi k) (mi (c + 1)) i = z4 := by
                first
                | (unfold lk; rw [if_neg (fun w => w.1 (by omega)), hl0] <;> omega)
                | (unfold lk; rw [if_neg (fun w => by have q9 := w.2.1; omega), hl0] <;> omega)
                | (rw [lk_need (by omega) (by omega)]; split <;> omega)
              refine w_aload_n X dX6_findLack_96 rfl ?_
              refine w_iload X dX6_findLack_97 rfl ?_
              refine w_iload X dX6_findLack_99 rfl ?_
              refine s_callVv X _ (c_X3_set (l := l) (G := G) (n0 := n0) hd (by first | assumption | (refine ⟨?_, ?_⟩ <;> omega))) gM_X6_72 gI_yX3_set gS_yX3_set gN_X3 gC_yX3_set (isCr_k hd) (σ_cr G n0 _ _ hd) rfl dX6_findLack_101 hl_yX3_set ⟨Nat.le_of_ble_eq_true rfl, Nat.le_of_ble_eq_true rfl⟩ (Nat.le_of_ble_eq_true rfl) rfl (fun mi5 mr5 h5 => ?_)
              obtain ⟨e9, rfl⟩ := h5
              rw [if_pos ⟨by omega, by omega⟩, Int.toNat_natCast] at e9
              subst e9
              refine w_iload X dX6_findLack_104 rfl ?_
              refine w_iload X dX6_findLack_106 rfl ?_
              refine w_iadd X dX6_findLack_108 ?_
              refine w_ist7_4 X dX6_findLack_109 ?_
              refine w_iinc7_5 X dX6_findLack_111 ?_
              refine w_goto X 23 dX6_findLack_114 (by decide) ?_
              exact ih_loop _ (by omega) _ (i + 1) _ _ (by omega) (fun a ha => (up2_k _ _ _ _ ha).trans (hm a ha)) (fun j hj => by
                by_cases q : j = i
                · subst q; rw [up2_s, if_pos (by omega)]; exact hlk.symm
                · rw [up2_j _ _ _ _ q, hF j hj, ite_step q])
                (fun j hj => by rcases (show j < i ∨ j = i by omega) with q | q; exact hN j q; subst q; exact hnn) (by rw [ht]; show _ = _ + (lks _ _ i + lk _ _ i); omega) rfl
            ·
              refine w_aload_n X dX6_findLack_75 rfl ?_
              refine w_aload_n X dX6_findLack_76 rfl ?_
              refine w_get X (isRu_k hk) (σ_ru G n0 _ _ hk) rfl gW_X6 7 (by decide) gF_X6_34 rfl dX6_findLack_77 ?_
              refine s_callVi X _ (c_X6_goalOf (l := l) (G := G) (n0 := n0) hk hv2 (by first | assumption | (refine ⟨?_, ?_⟩ <;> omega))) gM_X6_69 gI_yX6_goalOf gS_yX6_goalOf gN_X6 gC_yX6_goalOf (isRu_k hk) (σ_ru G n0 _ _ hk) rfl dX6_findLack_80 hl_yX6_goalOf ⟨Nat.le_of_ble_eq_true rfl, Nat.le_of_ble_eq_true rfl⟩ (Nat.le_of_ble_eq_true rfl) rfl (fun r5 mi5 mr5 h5 => ?_)
              obtain ⟨rfl, rfl, h5, b9, q9⟩ := h5
              rw [if_pos ⟨by omega, by omega⟩, hk2] at h5
              refine w_iload X dX6_findLack_83 rfl ?_
              refine w_icmp_ne X 96 dX6_findLack_85 (by decide) (fun c85_5 => ?_) (fun c85_5 => ?_)
              ·
                have hlk : lk (mi k) (mi (c + 1)) i = z4 := by
                  first
                  | (unfold lk; rw [if_neg (fun w => w.1 (by omega)), hl0] <;> omega)
                  | (unfold lk; rw [if_neg (fun w => by have q9 := w.2.1; omega), hl0] <;> omega)
                  | (rw [lk_need (by omega) (by omega)]; split <;> omega)
                refine w_aload_n X dX6_findLack_96 rfl ?_
                refine w_iload X dX6_findLack_97 rfl ?_
                refine w_iload X dX6_findLack_99 rfl ?_
                refine s_callVv X _ (c_X3_set (l := l) (G := G) (n0 := n0) hd (by first | assumption | (refine ⟨?_, ?_⟩ <;> omega))) gM_X6_72 gI_yX3_set gS_yX3_set gN_X3 gC_yX3_set (isCr_k hd) (σ_cr G n0 _ _ hd) rfl dX6_findLack_101 hl_yX3_set ⟨Nat.le_of_ble_eq_true rfl, Nat.le_of_ble_eq_true rfl⟩ (Nat.le_of_ble_eq_true rfl) rfl (fun mi6 mr6 h6 => ?_)
                obtain ⟨e9, rfl⟩ := h6
                rw [if_pos ⟨by omega, by omega⟩, Int.toNat_natCast] at e9
                subst e9
                refine w_iload X dX6_findLack_104 rfl ?_
                refine w_iload X dX6_findLack_106 rfl ?_
                refine w_iadd X dX6_findLack_108 ?_
                refine w_ist7_4 X dX6_findLack_109 ?_
                refine w_iinc7_5 X dX6_findLack_111 ?_
                refine w_goto X 23 dX6_findLack_114 (by decide) ?_
                exact ih_loop _ (by omega) _ (i + 1) _ _ (by omega) (fun a ha => (up2_k _ _ _ _ ha).trans (hm a ha)) (fun j hj => by
                  by_cases q : j = i
                  · subst q; rw [up2_s, if_pos (by omega)]; exact hlk.symm
                  · rw [up2_j _ _ _ _ q, hF j hj, ite_step q])
                  (fun j hj => by rcases (show j < i ∨ j = i by omega) with q | q; exact hN j q; subst q; exact hnn) (by rw [ht]; show _ = _ + (lks _ _ i + lk _ _ i); omega) rfl
              ·
                refine w_iconst X dX6_findLack_88 ?_
                refine w_iload X dX6_findLack_89 rfl ?_
                refine w_mmax X gM_X6_59 ⟨Nat.le_of_ble_eq_true rfl, Nat.le_of_ble_eq_true rfl⟩ ⟨Nat.zero_le _, Nat.zero_le _⟩ (Nat.le_of_ble_eq_true rfl) dX6_findLack_91 (fun z6 h6 => ?_)
                refine w_ist7_6 X dX6_findLack_94 ?_
                have hlk : lk (mi k) (mi (c + 1)) i = z6 := by
                  first
                  | (unfold lk; rw [if_neg (fun w => w.1 (by omega)), hl0] <;> omega)
                  | (unfold lk; rw [if_neg (fun w => by have q9 := w.2.1; omega), hl0] <;> omega)
                  | (rw [lk_need (by omega) (by omega)]; split <;> omega)
                refine w_aload_n X dX6_findLack_96 rfl ?_
                refine w_iload X dX6_findLack_97 rfl ?_
                refine w_iload X dX6_findLack_99 rfl ?_
                refine s_callVv X _ (c_X3_set (l := l) (G := G) (n0 := n0) hd (by first | assumption | (refine ⟨?_, ?_⟩ <;> omega))) gM_X6_72 gI_yX3_set gS_yX3_set gN_X3 gC_yX3_set (isCr_k hd) (σ_cr G n0 _ _ hd) rfl dX6_findLack_101 hl_yX3_set ⟨Nat.le_of_ble_eq_true rfl, Nat.le_of_ble_eq_true rfl⟩ (Nat.le_of_ble_eq_true rfl) rfl (fun mi7 mr7 h7 => ?_)
                obtain ⟨e9, rfl⟩ := h7
                rw [if_pos ⟨by omega, by omega⟩, Int.toNat_natCast] at e9
                subst e9
                refine w_iload X dX6_findLack_104 rfl ?_
                refine w_iload X dX6_findLack_106 rfl ?_
                refine w_iadd X dX6_findLack_108 ?_
                refine w_ist7_4 X dX6_findLack_109 ?_
                refine w_iinc7_5 X dX6_findLack_111 ?_
                refine w_goto X 23 dX6_findLack_114 (by decide) ?_
                exact ih_loop _ (by omega) _ (i + 1) _ _ (by omega) (fun a ha => (up2_k _ _ _ _ ha).trans (hm a ha)) (fun j hj => by
                  by_cases q : j = i
                  · subst q; rw [up2_s, if_pos (by omega)]; exact hlk.symm
                  · rw [up2_j _ _ _ _ q, hF j hj, ite_step q])
                  (fun j hj => by rcases (show j < i ∨ j = i by omega) with q | q; exact hN j q; subst q; exact hnn) (by rw [ht]; show _ = _ + (lks _ _ i + lk _ _ i); omega) rfl
          ·
            refine w_aload_n X dX6_findLack_53 rfl ?_
            refine w_iload X dX6_findLack_54 rfl ?_
            refine w_iload_n X dX6_findLack_56 rfl ?_
            refine s_callVi X _ (c_X6_isGoal (l := l) (G := G) (n0 := n0) hk hv2 (by first | assumption | (refine ⟨?_, ?_⟩ <;> omega))) gM_X6_65 gI_yX6_isGoal gS_yX6_isGoal gN_X6 gC_yX6_isGoal (isRu_k hk) (σ_ru G n0 _ _ hk) rfl dX6_findLack_57 hl_yX6_isGoal ⟨Nat.le_of_ble_eq_true rfl, Nat.le_of_ble_eq_true rfl⟩ (Nat.le_of_ble_eq_true rfl) rfl (fun r5 mi5 mr5 h5 => ?_)
            obtain ⟨rfl, rfl, h5⟩ := h5
            refine w_if_ne X 66 dX6_findLack_60 (by decide) (fun c60_6 => ?_) (fun c60_6 => ?_)
            ·
              have hnn : ¬ (0 < lk0 (mi k) (mi (c + 1)) i ∧ nog sc (mi k) i) := by
                intro q
                have q1 := q.1
                first
                | omega
                | (rcases h5 with ⟨q5, j, hj, hj2⟩ | q5
                   exact q.2 j hj (by rw [← hk2]; exact hj2)
                   omega)
              try clear h5
              refine w_aload_n X dX6_findLack_66 rfl ?_
              refine w_get X (isRu_k hk) (σ_ru G n0 _ _ hk) rfl gW_X6 7 (by decide) gF_X6_34 rfl dX6_findLack_67 ?_
              refine w_bipush X dX6_findLack_70 rfl ?_
              refine w_icmp_eq X 96 dX6_findLack_72 (by decide) (fun c72_7 => ?_) (fun c72_7 => ?_)
              ·
                have hlk : lk (mi k) (mi (c + 1)) i = z4 := by
                  first
                  | (unfold lk; rw [if_neg (fun w => w.1 (by omega)), hl0] <;> omega)
                  | (unfold lk; rw [if_neg (fun w => by have q9 := w.2.1; omega), hl0] <;> omega)
                  | (rw [lk_need (by omega) (by omega)]; split <;> omega)
                refine w_aload_n X dX6_findLack_96 rfl ?_
                refine w_iload X dX6_findLack_97 rfl ?_
                refine w_iload X dX6_findLack_99 rfl ?_
                refine s_callVv X _ (c_X3_set (l := l) (G := G) (n0 := n0) hd (by first | assumption | (refine ⟨?_, ?_⟩ <;> omega))) gM_X6_72 gI_yX3_set gS_yX3_set gN_X3 gC_yX3_set (isCr_k hd) (σ_cr G n0 _ _ hd) rfl dX6_findLack_101 hl_yX3_set ⟨Nat.le_of_ble_eq_true rfl, Nat.le_of_ble_eq_true rfl⟩ (Nat.le_of_ble_eq_true rfl) rfl (fun mi6 mr6 h6 => ?_)
                obtain ⟨e9, rfl⟩ := h6
                rw [if_pos ⟨by omega, by omega⟩, Int.toNat_natCast] at e9
                subst e9
                refine w_iload X dX6_findLack_104 rfl ?_
                refine w_iload X dX6_findLack_106 rfl ?_
                refine w_iadd X dX6_findLack_108 ?_
                refine w_ist7_4 X dX6_findLack_109 ?_
                refine w_iinc7_5 X dX6_findLack_111 ?_
                refine w_goto X 23 dX6_findLack_114 (by decide) ?_
                exact ih_loop _ (by omega) _ (i + 1) _ _ (by omega) (fun a ha => (up2_k _ _ _ _ ha).trans (hm a ha)) (fun j hj => by
                  by_cases q : j = i
                  · subst q; rw [up2_s, if_pos (by omega)]; exact hlk.symm
                  · rw [up2_j _ _ _ _ q, hF j hj, ite_step q])
                  (fun j hj => by rcases (show j < i ∨ j = i by omega) with q | q; exact hN j q; subst q; exact hnn) (by rw [ht]; show _ = _ + (lks _ _ i + lk _ _ i); omega) rfl
              ·
                refine w_aload_n X dX6_findLack_75 rfl ?_
                refine w_aload_n X dX6_findLack_76 rfl ?_
                refine w_get X (isRu_k hk) (σ_ru G n0 _ _ hk) rfl gW_X6 7 (by decide) gF_X6_34 rfl dX6_findLack_77 ?_
                refine s_callVi X _ (c_X6_goalOf (l := l) (G := G) (n0 := n0) hk hv2 (by first | assumption | (refine ⟨?_, ?_⟩ <;> omega))) gM_X6_69 gI_yX6_goalOf gS_yX6_goalOf gN_X6 gC_yX6_goalOf (isRu_k hk) (σ_ru G n0 _ _ hk) rfl dX6_findLack_80 hl_yX6_goalOf ⟨Nat.le_of_ble_eq_true rfl, Nat.le_of_ble_eq_true rfl⟩ (Nat.le_of_ble_eq_true rfl) rfl (fun r6 mi6 mr6 h6 => ?_)
                obtain ⟨rfl, rfl, h6, b9, q9⟩ := h6
                rw [if_pos ⟨by omega, by omega⟩, hk2] at h6
                refine w_iload X dX6_findLack_83 rfl ?_
                refine w_icmp_ne X 96 dX6_findLack_85 (by decide) (fun c85_8 => ?_) (fun c85_8 => ?_)
                ·
                  have hlk : lk (mi k) (mi (c + 1)) i = z4 := by
                    first
                    | (unfold lk; rw [if_neg (fun w => w.1 (by omega)), hl0] <;> omega)
                    | (unfold lk; rw [if_neg (fun w => by have q9 := w.2.1; omega), hl0] <;> omega)
                    | (rw [lk_need (by omega) (by omega)]; split <;> omega)
                  refine w_aload_n X dX6_findLack_96 rfl ?_
                  refine w_iload X dX6_findLack_97 rfl ?_
                  refine w_iload X dX6_findLack_99 rfl ?_
                  refine s_callVv X _ (c_X3_set (l := l) (G := G) (n0 := n0) hd (by first | assumption | (refine ⟨?_, ?_⟩ <;> omega))) gM_X6_72 gI_yX3_set gS_yX3_set gN_X3 gC_yX3_set (isCr_k hd) (σ_cr G n0 _ _ hd) rfl dX6_findLack_101 hl_yX3_set ⟨Nat.le_of_ble_eq_true rfl, Nat.le_of_ble_eq_true rfl⟩ (Nat.le_of_ble_eq_true rfl) rfl (fun mi7 mr7 h7 => ?_)
                  obtain ⟨e9, rfl⟩ := h7
                  rw [if_pos ⟨by omega, by omega⟩, Int.toNat_natCast] at e9
                  subst e9
                  refine w_iload X dX6_findLack_104 rfl ?_
                  refine w_iload X dX6_findLack_106 rfl ?_
                  refine w_iadd X dX6_findLack_108 ?_
                  refine w_ist7_4 X dX6_findLack_109 ?_
                  refine w_iinc7_5 X dX6_findLack_111 ?_
                  refine w_goto X 23 dX6_findLack_114 (by decide) ?_
                  exact ih_loop _ (by omega) _ (i + 1) _ _ (by omega) (fun a ha => (up2_k _ _ _ _ ha).trans (hm a ha)) (fun j hj => by
                    by_cases q : j = i
                    · subst q; rw [up2_s, if_pos (by omega)]; exact hlk.symm
                    · rw [up2_j _ _ _ _ q, hF j hj, ite_step q])
                    (fun j hj => by rcases (show j < i ∨ j = i by omega) with q | q; exact hN j q; subst q; exact hnn) (by rw [ht]; show _ = _ + (lks _ _ i + lk _ _ i); omega) rfl
                ·
                  refine w_iconst X dX6_findLack_88 ?_
                  refine w_iload X dX6_findLack_89 rfl ?_
                  refine w_mmax X gM_X6_59 ⟨Nat.le_of_ble_eq_true rfl, Nat.le_of_ble_eq_true rfl⟩ ⟨Nat.zero_le _, Nat.zero_le _⟩ (Nat.le_of_ble_eq_true rfl) dX6_findLack_91 (fun z7 h7 => ?_)
                  refine w_ist7_6 X dX6_findLack_94 ?_
                  have hlk : lk (mi k) (mi (c + 1)) i = z7 := by
                    first
                    | (unfold lk; rw [if_neg (fun w => w.1 (by omega)), hl0] <;> omega)
                    | (unfold lk; rw [if_neg (fun w => by have q9 := w.2.1; omega), hl0] <;> omega)
                    | (rw [lk_need (by omega) (by omega)]; split <;> omega)
                  refine w_aload_n X dX6_findLack_96 rfl ?_
                  refine w_iload X dX6_findLack_97 rfl ?_
                  refine w_iload X dX6_findLack_99 rfl ?_
                  refine s_callVv X _ (c_X3_set (l := l) (G := G) (n0 := n0) hd (by first | assumption | (refine ⟨?_, ?_⟩ <;> omega))) gM_X6_72 gI_yX3_set gS_yX3_set gN_X3 gC_yX3_set (isCr_k hd) (σ_cr G n0 _ _ hd) rfl dX6_findLack_101 hl_yX3_set ⟨Nat.le_of_ble_eq_true rfl, Nat.le_of_ble_eq_true rfl⟩ (Nat.le_of_ble_eq_true rfl) rfl (fun mi8 mr8 h8 => ?_)
                  obtain ⟨e9, rfl⟩ := h8
                  rw [if_pos ⟨by omega, by omega⟩, Int.toNat_natCast] at e9
                  subst e9
                  refine w_iload X dX6_findLack_104 rfl ?_
                  refine w_iload X dX6_findLack_106 rfl ?_
                  refine w_iadd X dX6_findLack_108 ?_
                  refine w_ist7_4 X dX6_findLack_109 ?_
                  refine w_iinc7_5 X dX6_findLack_111 ?_
                  refine w_goto X 23 dX6_findLack_114 (by decide) ?_
                  exact ih_loop _ (by omega) _ (i + 1) _ _ (by omega) (fun a ha => (up2_k _ _ _ _ ha).trans (hm a ha)) (fun j hj => by
                    by_cases q : j = i
                    · subst q; rw [up2_s, if_pos (by omega)]; exact hlk.symm
                    · rw [up2_j _ _ _ _ q, hF j hj, ite_step q])
                    (fun j hj => by rcases (show j < i ∨ j = i by omega) with q | q; exact hN j q; subst q; exact hnn) (by rw [ht]; show _ = _ + (lks _ _ i + lk _ _ i); omega) rfl
            ·
              refine w_bipush X dX6_findLack_63 rfl ?_
              refine s_iret X hr dX6_findLack_65 ?_
              refine ⟨Or.inl ⟨rfl, ⟨i, by omega, by omega, ?_⟩, hm⟩, rfl⟩
              intro j hj hj2
              rcases h5 with q5 | q5
              · omega
              · exact q5.2 j hj (by rw [hk2]; exact hj2)
    exact loop _ mi0 0 _ none (by omega) hm0 hF0 (fun j hj => absurd hj (by omega)) (by rw [hs0]; simp [lks]) rfl
  ·
    have hs0 : (if mi k 4 = -9 then 1 else 2 : Int) = 1 := if_pos (by omega)
    refine w_iconst X dX6_findLack_9 ?_
    refine w_goto X 14 dX6_findLack_10 (by decide) ?_
    refine w_ist7_4 X dX6_findLack_14 ?_
    refine w_aload_n X dX6_findLack_16 rfl ?_
    refine s_callVv X _ (c_X3_clear (l := l) (G := G) (n0 := n0) hd) gM_X6_49 gI_yX3_clear gS_yX3_clear gN_X3 gC_yX3_clear (isCr_k hd) (σ_cr G n0 _ _ hd) rfl dX6_findLack_17 hl_yX3_clear ⟨Nat.le_of_ble_eq_true rfl, Nat.le_of_ble_eq_true rfl⟩ (Nat.le_of_ble_eq_true rfl) rfl (fun mi1 mr1 h1 => ?_)
    obtain ⟨rfl, rfl⟩ := h1
    have hm0 : ∀ a, a ≠ d + 1 → row5 mi (d + 1) (fun _ => 0) a = mi a := fun a ha => row5_k ha
    have hF0 : ∀ j : Nat, j < 5 → row5 mi (d + 1) (fun _ => 0) (d + 1) j = if j < 0 then lk (mi k) (mi (c + 1)) j else 0 := fun j hj => by rw [row5_s hj, if_neg (by omega)]
    generalize row5 mi (d + 1) (fun _ => 0) = mi0 at hm0 hF0 ⊢
    refine w_iconst X dX6_findLack_20 ?_
    refine w_ist7_5 X dX6_findLack_21 ?_
    have loop : ∀ (n : Nat) (mi' : Nat → Nat → Int) (i : Nat) (t : Int) (x6 : Option Value), ((i : Int) ≤ sc) → (∀ a, a ≠ d + 1 → mi' a = mi a) → (∀ j : Nat, j < 5 → mi' (d + 1) j = if j < i then lk (mi k) (mi (c + 1)) j else 0) → (∀ j : Nat, j < i → ¬ (0 < lk0 (mi k) (mi (c + 1)) j ∧ nog sc (mi k) j)) → (t = (if mi k 4 = -9 then 1 else 2) + lks (mi k) (mi (c + 1)) i) → n = 5 - i → WSi p l e s m args below meth c9 3 (fun r9 mi9 mr9 => (r9 = -9 ∧ (∃ i : Nat, (i : Int) < sc ∧ 0 < lk0 (mi k) (mi (c + 1)) i ∧ nog sc (mi k) i) ∧ (∀ a, a ≠ d + 1 → mi9 a = mi a) ∨ r9 = (if mi k 4 = -9 then 1 else 2) + lks (mi k) (mi (c + 1)) sc.toNat ∧ (∀ i : Nat, (i : Int) < sc → ¬ (0 < lk0 (mi k) (mi (c + 1)) i ∧ nog sc (mi k) i)) ∧ (∀ j : Nat, j < 5 → mi9 (d + 1) j = if (j : Int) < sc then lk (mi k) (mi (c + 1)) j else 0) ∧ ∀ a, a ≠ d + 1 → mi9 a = mi a) ∧ mr = mr9) G n0 7 mi' mr 23 [some (.ref (n0 + k)), some (.ref (n0 + c)), some (.int (jI sc)), some (.ref (n0 + d)), some (.int (jI t)), some (.int (jI (i : Int))), x6] [] := by
      intro n
      induction n using Nat.strongRecOn with
      | ind n ih_loop =>
        intro mi' i t x6 hi hm hF hN ht hn
        have hv2 : RV sc mi' k := RV_fr hv (hm _ hap.1) (hm _ hap.2.1)
        have hk1 : mi' (c + 1) = mi (c + 1) := hm _ hapc.1
        have hk2 : mi' k = mi k := hm _ hap.1
        refine w_iload X dX6_findLack_23 rfl ?_
        refine w_iload_n X dX6_findLack_25 rfl ?_
        refine w_icmp_ge X 117 dX6_findLack_26 (by decide) (fun c26_9 => ?_) (fun c26_9 => ?_)
        ·
          refine w_iload X dX6_findLack_117 rfl ?_
          refine s_iret X hr dX6_findLack_119 ?_
          refine ⟨Or.inr ⟨?_, fun j hj => hN j (by omega), fun j hj => ?_, hm⟩, rfl⟩
          · rw [ht, show sc.toNat = i by omega]
          · rw [hF j hj]
            by_cases q : j < i
            · rw [if_pos q, if_pos (by omega)]
            · rw [if_neg q, if_neg (by omega)]
        ·
          have hu := hcb i (by omega)
          have hcm := cm_b (mi k) i
          have hq7 : mi' k 7 = mi k 7 := by rw [hm _ hap.1]
          refine w_iconst X dX6_findLack_29 ?_
          refine w_aload_n X dX6_findLack_30 rfl ?_
          refine w_iload X dX6_findLack_31 rfl ?_
          refine s_callVi X _ (c_X3_of (l := l) (G := G) (n0 := n0) hc (by first | assumption | (refine ⟨?_, ?_⟩ <;> omega))) gM_X6_44 gI_yX3_of gS_yX3_of gN_X3 gC_yX3_of (isCr_k hc) (σ_cr G n0 _ _ hc) rfl dX6_findLack_33 hl_yX3_of ⟨Nat.le_of_ble_eq_true rfl, Nat.le_of_ble_eq_true rfl⟩ (Nat.le_of_ble_eq_true rfl) rfl (fun r2 mi2 mr2 h2 => ?_)
          obtain ⟨rfl, rfl, h2⟩ := h2
          rw [if_pos ⟨by omega, by omega⟩, Int.toNat_natCast] at h2
          rw [hk1] at h2
          refine w_aload_n X dX6_findLack_36 rfl ?_
          refine w_iload X dX6_findLack_37 rfl ?_
          refine s_callVi X _ (c_X6_comers (l := l) (G := G) (n0 := n0) hk hv2 (by first | assumption | (refine ⟨?_, ?_⟩ <;> omega))) gM_X6_56 gI_yX6_comers gS_yX6_comers gN_X6 gC_yX6_comers (isRu_k hk) (σ_ru G n0 _ _ hk) rfl dX6_findLack_39 hl_yX6_comers ⟨Nat.le_of_ble_eq_true rfl, Nat.le_of_ble_eq_true rfl⟩ (Nat.le_of_ble_eq_true rfl) rfl (fun r3 mi3 mr3 h3 => ?_)
          obtain ⟨rfl, rfl, h3, b9, b9b⟩ := h3
          rw [hk2] at h3
          refine w_isub X dX6_findLack_42 ?_
          refine w_mmax X gM_X6_59 ⟨Nat.le_of_ble_eq_true rfl, Nat.le_of_ble_eq_true rfl⟩ ⟨Nat.zero_le _, Nat.zero_le _⟩ (Nat.le_of_ble_eq_true rfl) dX6_findLack_43 (fun z4 h4 => ?_)
          refine w_ist7_6 X dX6_findLack_46 ?_
          have hl0 : lk0 (mi k) (mi (c + 1)) i = z4 := by unfold lk0; split <;> omega
          refine w_iload X dX6_findLack_48 rfl ?_
          refine w_if_le X 66 dX6_findLack_50 (by decide) (fun c50_10 => ?_) (fun c50_10 => ?_)
          ·
            have hnn : ¬ (0 < lk0 (mi k) (mi (c + 1)) i ∧ nog sc (mi k) i) := by
              intro q
              have q1 := q.1
              first
              | omega
              | (rcases h5 with ⟨q5, j, hj, hj2⟩ | q5
                 exact q.2 j hj (by rw [← hk2]; exact hj2)
                 omega)
            try clear h5
            refine w_aload_n X dX6_findLack_66 rfl ?_
            refine w_get X (isRu_k hk) (σ_ru G n0 _ _ hk) rfl gW_X6 7 (by decide) gF_X6_34 rfl dX6_findLack_67 ?_
            refine w_bipush X dX6_findLack_70 rfl ?_
            refine w_icmp_eq X 96 dX6_findLack_72 (by decide) (fun c72_11 => ?_) (fun c72_11 => ?_)
            ·
              have hlk : lk (mi k) (mi (c + 1)) i = z4 := by
                first
                | (unfold lk; rw [if_neg (fun w => w.1 (by omega)), hl0] <;> omega)
                | (unfold lk; rw [if_neg (fun w => by have q9 := w.2.1; omega), hl0] <;> omega)
                | (rw [lk_need (by omega) (by omega)]; split <;> omega)
              refine w_aload_n X dX6_findLack_96 rfl ?_
              refine w_iload X dX6_findLack_97 rfl ?_
              refine w_iload X dX6_findLack_99 rfl ?_
              refine s_callVv X _ (c_X3_set (l := l) (G := G) (n0 := n0) hd (by first | assumption | (refine ⟨?_, ?_⟩ <;> omega))) gM_X6_72 gI_yX3_set gS_yX3_set gN_X3 gC_yX3_set (isCr_k hd) (σ_cr G n0 _ _ hd) rfl dX6_findLack_101 hl_yX3_set ⟨Nat.le_of_ble_eq_true rfl, Nat.le_of_ble_eq_true rfl⟩ (Nat.le_of_ble_eq_true rfl) rfl (fun mi5 mr5 h5 => ?_)
              obtain ⟨e9, rfl⟩ := h5
              rw [if_pos ⟨by omega, by omega⟩, Int.toNat_natCast] at e9
              subst e9
              refine w_iload X dX6_findLack_104 rfl ?_
              refine w_iload X dX6_findLack_106 rfl ?_
              refine w_iadd X dX6_findLack_108 ?_
              refine w_ist7_4 X dX6_findLack_109 ?_
              refine w_iinc7_5 X dX6_findLack_111 ?_
              refine w_goto X 23 dX6_findLack_114 (by decide) ?_
              exact ih_loop _ (by omega) _ (i + 1) _ _ (by omega) (fun a ha => (up2_k _ _ _ _ ha).trans (hm a ha)) (fun j hj => by
                by_cases q : j = i
                · subst q; rw [up2_s, if_pos (by omega)]; exact hlk.symm
                · rw [up2_j _ _ _ _ q, hF j hj, ite_step q])
                (fun j hj => by rcases (show j < i ∨ j = i by omega) with q | q; exact hN j q; subst q; exact hnn) (by rw [ht]; show _ = _ + (lks _ _ i + lk _ _ i); omega) rfl
            ·
              refine w_aload_n X dX6_findLack_75 rfl ?_
              refine w_aload_n X dX6_findLack_76 rfl ?_
              refine w_get X (isRu_k hk) (σ_ru G n0 _ _ hk) rfl gW_X6 7 (by decide) gF_X6_34 rfl dX6_findLack_77 ?_
              refine s_callVi X _ (c_X6_goalOf (l := l) (G := G) (n0 := n0) hk hv2 (by first | assumption | (refine ⟨?_, ?_⟩ <;> omega))) gM_X6_69 gI_yX6_goalOf gS_yX6_goalOf gN_X6 gC_yX6_goalOf (isRu_k hk) (σ_ru G n0 _ _ hk) rfl dX6_findLack_80 hl_yX6_goalOf ⟨Nat.le_of_ble_eq_true rfl, Nat.le_of_ble_eq_true rfl⟩ (Nat.le_of_ble_eq_true rfl) rfl (fun r5 mi5 mr5 h5 => ?_)
              obtain ⟨rfl, rfl, h5, b9, q9⟩ := h5
              rw [if_pos ⟨by omega, by omega⟩, hk2] at h5
              refine w_iload X dX6_findLack_83 rfl ?_
              refine w_icmp_ne X 96 dX6_findLack_85 (by decide) (fun c85_12 => ?_) (fun c85_12 => ?_)
              ·
                have hlk : lk (mi k) (mi (c + 1)) i = z4 := by
                  first
                  | (unfold lk; rw [if_neg (fun w => w.1 (by omega)), hl0] <;> omega)
                  | (unfold lk; rw [if_neg (fun w => by have q9 := w.2.1; omega), hl0] <;> omega)
                  | (rw [lk_need (by omega) (by omega)]; split <;> omega)
                refine w_aload_n X dX6_findLack_96 rfl ?_
                refine w_iload X dX6_findLack_97 rfl ?_
                refine w_iload X dX6_findLack_99 rfl ?_
                refine s_callVv X _ (c_X3_set (l := l) (G := G) (n0 := n0) hd (by first | assumption | (refine ⟨?_, ?_⟩ <;> omega))) gM_X6_72 gI_yX3_set gS_yX3_set gN_X3 gC_yX3_set (isCr_k hd) (σ_cr G n0 _ _ hd) rfl dX6_findLack_101 hl_yX3_set ⟨Nat.le_of_ble_eq_true rfl, Nat.le_of_ble_eq_true rfl⟩ (Nat.le_of_ble_eq_true rfl) rfl (fun mi6 mr6 h6 => ?_)
                obtain ⟨e9, rfl⟩ := h6
                rw [if_pos ⟨by omega, by omega⟩, Int.toNat_natCast] at e9
                subst e9
                refine w_iload X dX6_findLack_104 rfl ?_
                refine w_iload X dX6_findLack_106 rfl ?_
                refine w_iadd X dX6_findLack_108 ?_
                refine w_ist7_4 X dX6_findLack_109 ?_
                refine w_iinc7_5 X dX6_findLack_111 ?_
                refine w_goto X 23 dX6_findLack_114 (by decide) ?_
                exact ih_loop _ (by omega) _ (i + 1) _ _ (by omega) (fun a ha => (up2_k _ _ _ _ ha).trans (hm a ha)) (fun j hj => by
                  by_cases q : j = i
                  · subst q; rw [up2_s, if_pos (by omega)]; exact hlk.symm
                  · rw [up2_j _ _ _ _ q, hF j hj, ite_step q])
                  (fun j hj => by rcases (show j < i ∨ j = i by omega) with q | q; exact hN j q; subst q; exact hnn) (by rw [ht]; show _ = _ + (lks _ _ i + lk _ _ i); omega) rfl
              ·
                refine w_iconst X dX6_findLack_88 ?_
                refine w_iload X dX6_findLack_89 rfl ?_
                refine w_mmax X gM_X6_59 ⟨Nat.le_of_ble_eq_true rfl, Nat.le_of_ble_eq_true rfl⟩ ⟨Nat.zero_le _, Nat.zero_le _⟩ (Nat.le_of_ble_eq_true rfl) dX6_findLack_91 (fun z6 h6 => ?_)
                refine w_ist7_6 X dX6_findLack_94 ?_
                have hlk : lk (mi k) (mi (c + 1)) i = z6 := by
                  first
                  | (unfold lk; rw [if_neg (fun w => w.1 (by omega)), hl0] <;> omega)
                  | (unfold lk; rw [if_neg (fun w => by have q9 := w.2.1; omega), hl0] <;> omega)
                  | (rw [lk_need (by omega) (by omega)]; split <;> omega)
                refine w_aload_n X dX6_findLack_96 rfl ?_
                refine w_iload X dX6_findLack_97 rfl ?_
                refine w_iload X dX6_findLack_99 rfl ?_
                refine s_callVv X _ (c_X3_set (l := l) (G := G) (n0 := n0) hd (by first | assumption | (refine ⟨?_, ?_⟩ <;> omega))) gM_X6_72 gI_yX3_set gS_yX3_set gN_X3 gC_yX3_set (isCr_k hd) (σ_cr G n0 _ _ hd) rfl dX6_findLack_101 hl_yX3_set ⟨Nat.le_of_ble_eq_true rfl, Nat.le_of_ble_eq_true rfl⟩ (Nat.le_of_ble_eq_true rfl) rfl (fun mi7 mr7 h7 => ?_)
                obtain ⟨e9, rfl⟩ := h7
                rw [if_pos ⟨by omega, by omega⟩, Int.toNat_natCast] at e9
                subst e9
                refine w_iload X dX6_findLack_104 rfl ?_
                refine w_iload X dX6_findLack_106 rfl ?_
                refine w_iadd X dX6_findLack_108 ?_
                refine w_ist7_4 X dX6_findLack_109 ?_
                refine w_iinc7_5 X dX6_findLack_111 ?_
                refine w_goto X 23 dX6_findLack_114 (by decide) ?_
                exact ih_loop _ (by omega) _ (i + 1) _ _ (by omega) (fun a ha => (up2_k _ _ _ _ ha).trans (hm a ha)) (fun j hj => by
                  by_cases q : j = i
                  · subst q; rw [up2_s, if_pos (by omega)]; exact hlk.symm
                  · rw [up2_j _ _ _ _ q, hF j hj, ite_step q])
                  (fun j hj => by rcases (show j < i ∨ j = i by omega) with q | q; exact hN j q; subst q; exact hnn) (by rw [ht]; show _ = _ + (lks _ _ i + lk _ _ i); omega) rfl
          ·
            refine w_aload_n X dX6_findLack_53 rfl ?_
            refine w_iload X dX6_findLack_54 rfl ?_
            refine w_iload_n X dX6_findLack_56 rfl ?_
            refine s_callVi X _ (c_X6_isGoal (l := l) (G := G) (n0 := n0) hk hv2 (by first | assumption | (refine ⟨?_, ?_⟩ <;> omega))) gM_X6_65 gI_yX6_isGoal gS_yX6_isGoal gN_X6 gC_yX6_isGoal (isRu_k hk) (σ_ru G n0 _ _ hk) rfl dX6_findLack_57 hl_yX6_isGoal ⟨Nat.le_of_ble_eq_true rfl, Nat.le_of_ble_eq_true rfl⟩ (Nat.le_of_ble_eq_true rfl) rfl (fun r5 mi5 mr5 h5 => ?_)
            obtain ⟨rfl, rfl, h5⟩ := h5
            refine w_if_ne X 66 dX6_findLack_60 (by decide) (fun c60_13 => ?_) (fun c60_13 => ?_)
            ·
              have hnn : ¬ (0 < lk0 (mi k) (mi (c + 1)) i ∧ nog sc (mi k) i) := by
                intro q
                have q1 := q.1
                first
                | omega
                | (rcases h5 with ⟨q5, j, hj, hj2⟩ | q5
                   exact q.2 j hj (by rw [← hk2]; exact hj2)
                   omega)
              try clear h5
              refine w_aload_n X dX6_findLack_66 rfl ?_
              refine w_get X (isRu_k hk) (σ_ru G n0 _ _ hk) rfl gW_X6 7 (by decide) gF_X6_34 rfl dX6_findLack_67 ?_
              refine w_bipush X dX6_findLack_70 rfl ?_
              refine w_icmp_eq X 96 dX6_findLack_72 (by decide) (fun c72_14 => ?_) (fun c72_14 => ?_)
              ·
                have hlk : lk (mi k) (mi (c + 1)) i = z4 := by
                  first
                  | (unfold lk; rw [if_neg (fun w => w.1 (by omega)), hl0] <;> omega)
                  | (unfold lk; rw [if_neg (fun w => by have q9 := w.2.1; omega), hl0] <;> omega)
                  | (rw [lk_need (by omega) (by omega)]; split <;> omega)
                refine w_aload_n X dX6_findLack_96 rfl ?_
                refine w_iload X dX6_findLack_97 rfl ?_
                refine w_iload X dX6_findLack_99 rfl ?_
                refine s_callVv X _ (c_X3_set (l := l) (G := G) (n0 := n0) hd (by first | assumption | (refine ⟨?_, ?_⟩ <;> omega))) gM_X6_72 gI_yX3_set gS_yX3_set gN_X3 gC_yX3_set (isCr_k hd) (σ_cr G n0 _ _ hd) rfl dX6_findLack_101 hl_yX3_set ⟨Nat.le_of_ble_eq_true rfl, Nat.le_of_ble_eq_true rfl⟩ (Nat.le_of_ble_eq_true rfl) rfl (fun mi6 mr6 h6 => ?_)
                obtain ⟨e9, rfl⟩ := h6
                rw [if_pos ⟨by omega, by omega⟩, Int.toNat_natCast] at e9
                subst e9
                refine w_iload X dX6_findLack_104 rfl ?_
                refine w_iload X dX6_findLack_106 rfl ?_
                refine w_iadd X dX6_findLack_108 ?_
                refine w_ist7_4 X dX6_findLack_109 ?_
                refine w_iinc7_5 X dX6_findLack_111 ?_
                refine w_goto X 23 dX6_findLack_114 (by decide) ?_
                exact ih_loop _ (by omega) _ (i + 1) _ _ (by omega) (fun a ha => (up2_k _ _ _ _ ha).trans (hm a ha)) (fun j hj => by
                  by_cases q : j = i
                  · subst q; rw [up2_s, if_pos (by omega)]; exact hlk.symm
                  · rw [up2_j _ _ _ _ q, hF j hj, ite_step q])
                  (fun j hj => by rcases (show j < i ∨ j = i by omega) with q | q; exact hN j q; subst q; exact hnn) (by rw [ht]; show _ = _ + (lks _ _ i + lk _ _ i); omega) rfl
              ·
                refine w_aload_n X dX6_findLack_75 rfl ?_
                refine w_aload_n X dX6_findLack_76 rfl ?_
                refine w_get X (isRu_k hk) (σ_ru G n0 _ _ hk) rfl gW_X6 7 (by decide) gF_X6_34 rfl dX6_findLack_77 ?_
                refine s_callVi X _ (c_X6_goalOf (l := l) (G := G) (n0 := n0) hk hv2 (by first | assumption | (refine ⟨?_, ?_⟩ <;> omega))) gM_X6_69 gI_yX6_goalOf gS_yX6_goalOf gN_X6 gC_yX6_goalOf (isRu_k hk) (σ_ru G n0 _ _ hk) rfl dX6_findLack_80 hl_yX6_goalOf ⟨Nat.le_of_ble_eq_true rfl, Nat.le_of_ble_eq_true rfl⟩ (Nat.le_of_ble_eq_true rfl) rfl (fun r6 mi6 mr6 h6 => ?_)
                obtain ⟨rfl, rfl, h6, b9, q9⟩ := h6
                rw [if_pos ⟨by omega, by omega⟩, hk2] at h6
                refine w_iload X dX6_findLack_83 rfl ?_
                refine w_icmp_ne X 96 dX6_findLack_85 (by decide) (fun c85_15 => ?_) (fun c85_15 => ?_)
                ·
                  have hlk : lk (mi k) (mi (c + 1)) i = z4 := by
                    first
                    | (unfold lk; rw [if_neg (fun w => w.1 (by omega)), hl0] <;> omega)
                    | (unfold lk; rw [if_neg (fun w => by have q9 := w.2.1; omega), hl0] <;> omega)
                    | (rw [lk_need (by omega) (by omega)]; split <;> omega)
                  refine w_aload_n X dX6_findLack_96 rfl ?_
                  refine w_iload X dX6_findLack_97 rfl ?_
                  refine w_iload X dX6_findLack_99 rfl ?_
                  refine s_callVv X _ (c_X3_set (l := l) (G := G) (n0 := n0) hd (by first | assumption | (refine ⟨?_, ?_⟩ <;> omega))) gM_X6_72 gI_yX3_set gS_yX3_set gN_X3 gC_yX3_set (isCr_k hd) (σ_cr G n0 _ _ hd) rfl dX6_findLack_101 hl_yX3_set ⟨Nat.le_of_ble_eq_true rfl, Nat.le_of_ble_eq_true rfl⟩ (Nat.le_of_ble_eq_true rfl) rfl (fun mi7 mr7 h7 => ?_)
                  obtain ⟨e9, rfl⟩ := h7
                  rw [if_pos ⟨by omega, by omega⟩, Int.toNat_natCast] at e9
                  subst e9
                  refine w_iload X dX6_findLack_104 rfl ?_
                  refine w_iload X dX6_findLack_106 rfl ?_
                  refine w_iadd X dX6_findLack_108 ?_
                  refine w_ist7_4 X dX6_findLack_109 ?_
                  refine w_iinc7_5 X dX6_findLack_111 ?_
                  refine w_goto X 23 dX6_findLack_114 (by decide) ?_
                  exact ih_loop _ (by omega) _ (i + 1) _ _ (by omega) (fun a ha => (up2_k _ _ _ _ ha).trans (hm a ha)) (fun j hj => by
                    by_cases q : j = i
                    · subst q; rw [up2_s, if_pos (by omega)]; exact hlk.symm
                    · rw [up2_j _ _ _ _ q, hF j hj, ite_step q])
                    (fun j hj => by rcases (show j < i ∨ j = i by omega) with q | q; exact hN j q; subst q; exact hnn) (by rw [ht]; show _ = _ + (lks _ _ i + lk _ _ i); omega) rfl
                ·
                  refine w_iconst X dX6_findLack_88 ?_
                  refine w_iload X dX6_findLack_89 rfl ?_
                  refine w_mmax X gM_X6_59 ⟨Nat.le_of_ble_eq_true rfl, Nat.le_of_ble_eq_true rfl⟩ ⟨Nat.zero_le _, Nat.zero_le _⟩ (Nat.le_of_ble_eq_true rfl) dX6_findLack_91 (fun z7 h7 => ?_)
                  refine w_ist7_6 X dX6_findLack_94 ?_
                  have hlk : lk (mi k) (mi (c + 1)) i = z7 := by
                    first
                    | (unfold lk; rw [if_neg (fun w => w.1 (by omega)), hl0] <;> omega)
                    | (unfold lk; rw [if_neg (fun w => by have q9 := w.2.1; omega), hl0] <;> omega)
                    | (rw [lk_need (by omega) (by omega)]; split <;> omega)
                  refine w_aload_n X dX6_findLack_96 rfl ?_
                  refine w_iload X dX6_findLack_97 rfl ?_
                  refine w_iload X dX6_findLack_99 rfl ?_
                  refine s_callVv X _ (c_X3_set (l := l) (G := G) (n0 := n0) hd (by first | assumption | (refine ⟨?_, ?_⟩ <;> omega))) gM_X6_72 gI_yX3_set gS_yX3_set gN_X3 gC_yX3_set (isCr_k hd) (σ_cr G n0 _ _ hd) rfl dX6_findLack_101 hl_yX3_set ⟨Nat.le_of_ble_eq_true rfl, Nat.le_of_ble_eq_true rfl⟩ (Nat.le_of_ble_eq_true rfl) rfl (fun mi8 mr8 h8 => ?_)
                  obtain ⟨e9, rfl⟩ := h8
                  rw [if_pos ⟨by omega, by omega⟩, Int.toNat_natCast] at e9
                  subst e9
                  refine w_iload X dX6_findLack_104 rfl ?_
                  refine w_iload X dX6_findLack_106 rfl ?_
                  refine w_iadd X dX6_findLack_108 ?_
                  refine w_ist7_4 X dX6_findLack_109 ?_
                  refine w_iinc7_5 X dX6_findLack_111 ?_
                  refine w_goto X 23 dX6_findLack_114 (by decide) ?_
                  exact ih_loop _ (by omega) _ (i + 1) _ _ (by omega) (fun a ha => (up2_k _ _ _ _ ha).trans (hm a ha)) (fun j hj => by
                    by_cases q : j = i
                    · subst q; rw [up2_s, if_pos (by omega)]; exact hlk.symm
                    · rw [up2_j _ _ _ _ q, hF j hj, ite_step q])
                    (fun j hj => by rcases (show j < i ∨ j = i by omega) with q | q; exact hN j q; subst q; exact hnn) (by rw [ht]; show _ = _ + (lks _ _ i + lk _ _ i); omega) rfl
            ·
              refine w_bipush X dX6_findLack_63 rfl ?_
              refine s_iret X hr dX6_findLack_65 ?_
              refine ⟨Or.inl ⟨rfl, ⟨i, by omega, by omega, ?_⟩, hm⟩, rfl⟩
              intro j hj hj2
              rcases h5 with q5 | q5
              · omega
              · exact q5.2 j hj (by rw [hk2]; exact hj2)
    exact loop _ mi0 0 _ none (by omega) hm0 hF0 (fun j hj => absurd hj (by omega)) (by rw [hs0]; simp [lks]) rfl
set_option maxRecDepth 20000 in
set_option maxHeartbeats 4000000 in
theorem c_X6_setGoals {l : Launch} {G : Gt} {n0 : Nat} {mi : Nat → Nat → Int} {mr : Nat → Nat → Nat} {k : Nat} (hk : isRu k) (hr1 : rg (mi k 1)) (hr6 : rg (mi k 6)) (h6 : mi k 1 = 2 → 0 ≤ mi k 6) : Cv l yX6_setGoals cX6_setGoals 3 1 G n0 [.ref (n0 + k)] mi mr (fun mi9 mr9 => (∀ j : Nat, j < 5 → mi9 (k + 1) j = gol (mi k) j) ∧ (∀ a, a ≠ k + 1 → mi9 a = mi a) ∧ mr = mr9) := by
  refine Ct_of (by decide +kernel) (by intro v hv; simp at hv; rcases hv with rfl <;> rfl) (Nat.le_of_ble_eq_true rfl) ?_
  intro p e s m args below meth c9 X hr hname
  show WW _ _ _ _ _ _ _ _ _ _ _ _ _ _ _ _ _ _ _ [some (.ref (n0 + k)), none, none] _
  refine w_aload_n X dX6_setGoals_0 rfl ?_
  refine w_get X (isRu_k hk) (σ_ru G n0 _ _ hk) rfl gW_X6 6 (by decide) gF_X6_31 rfl dX6_setGoals_1 ?_
  refine w_ist3_1 X dX6_setGoals_4 ?_
  refine w_iconst X dX6_setGoals_5 ?_
  refine w_ist3_2 X dX6_setGoals_6 ?_
  have loop : ∀ (n : Nat) (mi' : Nat → Nat → Int) (i : Nat) (z : Int), (i ≤ 5) → (∀ a, a ≠ k + 1 → mi' a = mi a) → (∀ j : Nat, j < i → mi' (k + 1) j = gol (mi k) j) → (rg z ∧ (mi k 1 = 2 → 0 ≤ z ∧ z = mi k 6 / 10 ^ i)) → n = 5 - i → WSv p l e s m args below meth c9 1 (fun mi9 mr9 => (∀ j : Nat, j < 5 → mi9 (k + 1) j = gol (mi k) j) ∧ (∀ a, a ≠ k + 1 → mi9 a = mi a) ∧ mr = mr9) G n0 3 mi' mr 7 [some (.ref (n0 + k)), some (.int (jI z)), some (.int (jI (i : Int)))] [] := by
    intro n
    induction n using Nat.strongRecOn with
    | ind n ih_loop =>
      intro mi' i z hi hm hF hz hn
      have hk1 : mi' k 1 = mi k 1 := by rw [hm _ (by omega)]
      refine w_iload_n X dX6_setGoals_7 rfl ?_
      refine w_aload_n X dX6_setGoals_8 rfl ?_
      refine w_get X (isRu_k hk) (σ_ru G n0 _ _ hk) rfl gW_X6 0 (by decide) gF_X6_9 rfl dX6_setGoals_9 ?_
      refine w_alen X (t := 0) (isRu_k1 hk) (σ_go G n0 _ _ hk) rfl dX6_setGoals_12 ?_
      refine s_alen (b := 5) rfl ?_
      refine w_icmp_ge X 49 dX6_setGoals_13 (by decide) (fun c13_1 => ?_) (fun c13_1 => ?_)
      ·
        refine s_vret X hr dX6_setGoals_49 ?_
        exact ⟨fun j hj => hF j (by omega), hm, rfl⟩
      ·
        refine w_aload_n X dX6_setGoals_16 rfl ?_
        refine w_get X (isRu_k hk) (σ_ru G n0 _ _ hk) rfl gW_X6 0 (by decide) gF_X6_9 rfl dX6_setGoals_17 ?_
        refine w_iload_n X dX6_setGoals_20 rfl ?_
        refine w_aload_n X dX6_setGoals_21 rfl ?_
        refine w_get X (isRu_k hk) (σ_ru G n0 _ _ hk) rfl gW_X6 1 (by decide) gF_X6_15 rfl dX6_setGoals_22 ?_
        refine w_iconst X dX6_setGoals_25 ?_
        refine w_icmp_ne X 36 dX6_setGoals_26 (by decide) (fun c26_2 => ?_) (fun c26_2 => ?_)
        ·
          have hgo : gol (mi k) i = i := if_neg (by omega)
          refine w_iload_n X dX6_setGoals_36 rfl ?_
          refine s_iast X (i) (isRu_k1 hk) (fun _ => σ_go G n0 _ _ hk) dX6_setGoals_37 ?_
          refine w_iload_n X dX6_setGoals_38 rfl ?_
          refine w_bipush X dX6_setGoals_39 rfl ?_
          refine w_idivT X dX6_setGoals_41 (fun z1 h1 => ?_)
          refine w_ist3_1 X dX6_setGoals_42 ?_
          refine w_iinc3_2 X dX6_setGoals_43 ?_
          refine w_goto X 7 dX6_setGoals_46 (by decide) ?_
          have e8 : mi k 6 / 10 ^ (i + 1) = mi k 6 / 10 ^ i / 10 := by rw [Int.pow_succ, Int.ediv_ediv_of_nonneg (Int.le_of_lt (Int.pow_pos (by decide)))]
          have hz8 : mi k 1 = 2 → 0 ≤ z1 ∧ z1 = mi k 6 / 10 ^ (i + 1) := by
            intro q
            obtain ⟨q2, q3⟩ := hz.2 q
            rw [e8, ← q3]
            omega
          exact ih_loop _ (by omega) _ (i + 1) _ (by omega) (fun a ha => (up2_k _ _ _ _ ha).trans (hm a ha)) (fun j hj => by
            by_cases q : j = i
            · subst q; rw [up2_s]; exact hgo.symm
            · rw [up2_j _ _ _ _ q]; exact hF j (by omega))
            ⟨⟨by omega, by omega⟩, hz8⟩ rfl
        ·
          have hgo : gol (mi k) i = z % 10 := by unfold gol; rw [if_pos (by omega), (hz.2 (by omega)).2]
          refine w_iload_n X dX6_setGoals_29 rfl ?_
          refine w_bipush X dX6_setGoals_30 rfl ?_
          refine w_irem X dX6_setGoals_32 ?_ (ha := by have := hz.2 (by omega); have := hz.1.2; omega)
          refine w_goto X 37 dX6_setGoals_33 (by decide) ?_
          refine s_iast X (i) (isRu_k1 hk) (fun _ => σ_go G n0 _ _ hk) dX6_setGoals_37 ?_
          refine w_iload_n X dX6_setGoals_38 rfl ?_
          refine w_bipush X dX6_setGoals_39 rfl ?_
          refine w_idivT X dX6_setGoals_41 (fun z1 h1 => ?_)
          refine w_ist3_1 X dX6_setGoals_42 ?_
          refine w_iinc3_2 X dX6_setGoals_43 ?_
          refine w_goto X 7 dX6_setGoals_46 (by decide) ?_
          have e8 : mi k 6 / 10 ^ (i + 1) = mi k 6 / 10 ^ i / 10 := by rw [Int.pow_succ, Int.ediv_ediv_of_nonneg (Int.le_of_lt (Int.pow_pos (by decide)))]
          have hz8 : mi k 1 = 2 → 0 ≤ z1 ∧ z1 = mi k 6 / 10 ^ (i + 1) := by
            intro q
            obtain ⟨q2, q3⟩ := hz.2 q
            rw [e8, ← q3]
            omega
          exact ih_loop _ (by omega) _ (i + 1) _ (by omega) (fun a ha => (up2_k _ _ _ _ ha).trans (hm a ha)) (fun j hj => by
            by_cases q : j = i
            · subst q; rw [up2_s]; exact hgo.symm
            · rw [up2_j _ _ _ _ q]; exact hF j (by omega))
            ⟨⟨by omega, by omega⟩, hz8⟩ rfl
  exact loop _ mi 0 _ (by omega) (fun _ _ => rfl) (fun j hj => absurd hj (by omega)) ⟨hr6, fun q => ⟨h6 q, by simp⟩⟩ rfl
set_option maxRecDepth 20000 in
set_option maxHeartbeats 4000000 in
theorem c_X6_become {l : Launch} {G : Gt} {n0 : Nat} {mi : Nat → Nat → Int} {mr : Nat → Nat → Nat} {k : Nat} (hk : isRu k) {z1 z2 z3 z4 z5 z6 : Int} (hz1 : rg z1) (hz6 : rg z6) (h6 : z1 = 2 → 0 ≤ z6) : Cv l yX6_become cX6_become 7 2 G n0 [.ref (n0 + k), .int (jI z1), .int (jI z2), .int (jI z3), .int (jI z4), .int (jI z5), .int (jI z6)] mi mr (fun mi9 mr9 => (mi9 k 1 = z1 ∧ mi9 k 2 = z2 ∧ mi9 k 3 = z3 ∧ mi9 k 4 = z4 ∧ mi9 k 5 = z5 ∧ mi9 k 6 = z6 ∧ mi9 k 7 = -9) ∧ (∀ j : Nat, j < 5 → mi9 (k + 1) j = gol (mi9 k) j) ∧ (∀ a, a ≠ k → a ≠ k + 1 → mi9 a = mi a) ∧ mr = mr9) := by
  refine Ct_of (by decide +kernel) (by intro v hv; simp at hv; rcases hv with rfl | rfl | rfl | rfl | rfl | rfl | rfl <;> rfl) (Nat.le_of_ble_eq_true rfl) ?_
  intro p e s m args below meth c9 X hr hname
  show WW _ _ _ _ _ _ _ _ _ _ _ _ _ _ _ _ _ _ _ [some (.ref (n0 + k)), some (.int (jI z1)), some (.int (jI z2)), some (.int (jI z3)), some (.int (jI z4)), some (.int (jI z5)), some (.int (jI z6))] _
  refine w_aload_n X dX6_become_0 rfl ?_
  refine w_iload_n X dX6_become_1 rfl ?_
  refine w_put X (isRu_k hk) (σ_ru G n0 _ _ hk) rfl gW_X6 tyX6 tyX6_ok nmX6 1 (by decide) gF_X6_15 rfl rfl rfl (Nat.le_of_ble_eq_true rfl) dX6_become_2 (WW.eqf (sp_ru_1 hk _) ?_)
  refine w_aload_n X dX6_become_5 rfl ?_
  refine w_iload_n X dX6_become_6 rfl ?_
  refine w_put X (isRu_k hk) (σ_ru G n0 _ _ hk) rfl gW_X6 tyX6 tyX6_ok nmX6 2 (by decide) gF_X6_19 rfl rfl rfl (Nat.le_of_ble_eq_true rfl) dX6_become_7 (WW.eqf (sp_ru_2 hk _) ?_)
  refine w_aload_n X dX6_become_10 rfl ?_
  refine w_iload_n X dX6_become_11 rfl ?_
  refine w_put X (isRu_k hk) (σ_ru G n0 _ _ hk) rfl gW_X6 tyX6 tyX6_ok nmX6 3 (by decide) gF_X6_22 rfl rfl rfl (Nat.le_of_ble_eq_true rfl) dX6_become_12 (WW.eqf (sp_ru_3 hk _) ?_)
  refine w_aload_n X dX6_become_15 rfl ?_
  refine w_iload X dX6_become_16 rfl ?_
  refine w_put X (isRu_k hk) (σ_ru G n0 _ _ hk) rfl gW_X6 tyX6 tyX6_ok nmX6 4 (by decide) gF_X6_25 rfl rfl rfl (Nat.le_of_ble_eq_true rfl) dX6_become_18 (WW.eqf (sp_ru_4 hk _) ?_)
  refine w_aload_n X dX6_become_21 rfl ?_
  refine w_iload X dX6_become_22 rfl ?_
  refine w_put X (isRu_k hk) (σ_ru G n0 _ _ hk) rfl gW_X6 tyX6 tyX6_ok nmX6 5 (by decide) gF_X6_28 rfl rfl rfl (Nat.le_of_ble_eq_true rfl) dX6_become_24 (WW.eqf (sp_ru_5 hk _) ?_)
  refine w_aload_n X dX6_become_27 rfl ?_
  refine w_iload X dX6_become_28 rfl ?_
  refine w_put X (isRu_k hk) (σ_ru G n0 _ _ hk) rfl gW_X6 tyX6 tyX6_ok nmX6 6 (by decide) gF_X6_31 rfl rfl rfl (Nat.le_of_ble_eq_true rfl) dX6_become_30 (WW.eqf (sp_ru_6 hk _) ?_)
  refine w_aload_n X dX6_become_33 rfl ?_
  refine w_bipush X dX6_become_34 rfl ?_
  refine w_put X (isRu_k hk) (σ_ru G n0 _ _ hk) rfl gW_X6 tyX6 tyX6_ok nmX6 7 (by decide) gF_X6_34 rfl rfl rfl (Nat.le_of_ble_eq_true rfl) dX6_become_36 (WW.eqf (sp_ru_7 hk _) ?_)
  refine w_aload_n X dX6_become_39 rfl ?_
  have hq1 : rg ((up2 (up2 (up2 (up2 (up2 (up2 (up2 mi k 1 z1) k 2 z2) k 3 z3) k 4 z4) k 5 z5) k 6 z6) k 7 (-9)) k 1) := by simp [up2]; exact hz1
  have hq6 : rg ((up2 (up2 (up2 (up2 (up2 (up2 (up2 mi k 1 z1) k 2 z2) k 3 z3) k 4 z4) k 5 z5) k 6 z6) k 7 (-9)) k 6) := by simp [up2]; exact hz6
  have hq16 : (up2 (up2 (up2 (up2 (up2 (up2 (up2 mi k 1 z1) k 2 z2) k 3 z3) k 4 z4) k 5 z5) k 6 z6) k 7 (-9)) k 1 = 2 → 0 ≤ (up2 (up2 (up2 (up2 (up2 (up2 (up2 mi k 1 z1) k 2 z2) k 3 z3) k 4 z4) k 5 z5) k 6 z6) k 7 (-9)) k 6 := by simp [up2]; exact h6
  refine s_callVv X _ (c_X6_setGoals (l := l) (G := G) (n0 := n0) hk hq1 hq6 hq16) gM_X6_37 gI_yX6_setGoals gS_yX6_setGoals gN_X6 gC_yX6_setGoals (isRu_k hk) (σ_ru G n0 _ _ hk) rfl dX6_become_40 hl_yX6_setGoals ⟨Nat.le_of_ble_eq_true rfl, Nat.le_of_ble_eq_true rfl⟩ (Nat.le_of_ble_eq_true rfl) rfl (fun mi1 mr1 h1 => ?_)
  obtain ⟨hg9, hf9, rfl⟩ := h1
  refine s_vret X hr dX6_become_43 ?_
  have e1 : mi1 k = up2 (up2 (up2 (up2 (up2 (up2 (up2 mi k 1 z1) k 2 z2) k 3 z3) k 4 z4) k 5 z5) k 6 z6) k 7 (-9) k := hf9 k (by omega)
  refine ⟨⟨?_, ?_, ?_, ?_, ?_, ?_, ?_⟩, fun j hj => by rw [hg9 j hj, e1], fun a ha ha2 => ?_, rfl⟩
  all_goals (first | (rw [e1]; simp [up2]; done) | (rw [hf9 a ha2]; funext b; simp [up2, ha]))
