/-- the code of the first so many digits -/
def cdn (v : Nat → Int) : Nat → Int
  | 0 => 0
  | n + 1 => cdn v n * 10 + v n
theorem cdn_b {v : Nat → Int} (h : ∀ j : Nat, j < 5 → 0 ≤ v j ∧ v j ≤ 9) : ∀ n : Nat, n ≤ 5 → 0 ≤ cdn v n ∧ cdn v n + 1 ≤ 10 ^ n
  | 0, _ => ⟨Int.le_refl _, Int.le_refl _⟩
  | n + 1, hn => by
    have h1 := cdn_b h n (by omega)
    have h2 := h n (by omega)
    show 0 ≤ cdn v n * 10 + v n ∧ cdn v n * 10 + v n + 1 ≤ 10 ^ (n + 1)
    rw [Int.pow_succ]
    omega
theorem cdn_m {v : Nat → Int} (h : ∀ j : Nat, j < 5 → 0 ≤ v j ∧ v j ≤ 9) {n : Nat} (hn : n ≤ 5) : 0 ≤ cdn v n ∧ cdn v n ≤ 99999 := by
  have := cdn_b h n hn
  have : (10 : Int) ^ n ≤ 100000 := by
    rcases (show n = 0 ∨ n = 1 ∨ n = 2 ∨ n = 3 ∨ n = 4 ∨ n = 5 by omega) with rfl | rfl | rfl | rfl | rfl | rfl <;> decide
  omega
theorem cdn_c {v w : Nat → Int} : ∀ {n : Nat}, (∀ j, j < n → v j = w j) → cdn v n = cdn w n
  | 0, _ => rfl
  | n + 1, h => by
    show cdn v n * 10 + v n = cdn w n * 10 + w n
    rw [cdn_c (fun j hj => h j (by omega)), h n (by omega)]
/-- the digits out of the code -/
theorem cdn_d {v : Nat → Int} (h : ∀ j : Nat, j < 5 → 0 ≤ v j ∧ v j ≤ 9) : ∀ (n i : Nat), n ≤ 5 → i < n → cdn v n / 10 ^ (n - 1 - i) % 10 = v i
  | 0, i, _, hi => absurd hi (by omega)
  | n + 1, i, hn, hi => by
    have hv := h n (by omega)
    have hb := cdn_b h n (by omega)
    show (cdn v n * 10 + v n) / 10 ^ (n + 1 - 1 - i) % 10 = v i
    by_cases q : i = n
    · subst q
      rw [show i + 1 - 1 - i = 0 by omega, Int.pow_zero, Int.ediv_one]
      omega
    · have e : n + 1 - 1 - i = (n - 1 - i) + 1 := by omega
      rw [e, Int.pow_succ, Int.mul_comm (10 ^ (n - 1 - i)) 10, ← Int.ediv_ediv_of_nonneg (show (0 : Int) ≤ 10 by decide), show (cdn v n * 10 + v n) / 10 = cdn v n by omega]
      exact cdn_d h n i (by omega) (by omega)
theorem dX4_forget_0 : decode cX4_forget 0 = .ok (.aload_n 0, 1) := by decide +kernel
theorem dX4_forget_1 : decode cX4_forget 1 = .ok (.bipush (-9), 2) := by decide +kernel
theorem dX4_forget_3 : decode cX4_forget 3 = .ok (.putfield 47, 3) := by decide +kernel
theorem dX4_forget_6 : decode cX4_forget 6 = .ok (.return_, 1) := by decide +kernel
theorem hl_yX4_forget : (yX4_forget.cls ≠ "java/lang/invoke/MethodHandle" ∧ yX4_forget.cls ≠ "java/lang/invoke/VarHandle") ∧ (parseMethodDescriptor yX4_forget.desc).map (fun d => d.parameters.length) = some 0 := by decide +kernel
theorem dX4_isPlace_0 : decode cX4_isPlace 0 = .ok (.iload_n 1, 1) := by decide +kernel
theorem dX4_isPlace_1 : decode cX4_isPlace 1 = .ok (.ifCond .lt 15, 3) := by decide +kernel
theorem dX4_isPlace_4 : decode cX4_isPlace 4 = .ok (.iload_n 1, 1) := by decide +kernel
theorem dX4_isPlace_5 : decode cX4_isPlace 5 = .ok (.aload_n 0, 1) := by decide +kernel
theorem dX4_isPlace_6 : decode cX4_isPlace 6 = .ok (.getfield 51, 3) := by decide +kernel
theorem dX4_isPlace_9 : decode cX4_isPlace 9 = .ok (.if_icmp .ge 7, 3) := by decide +kernel
theorem dX4_isPlace_12 : decode cX4_isPlace 12 = .ok (.iconst 1, 1) := by decide +kernel
theorem dX4_isPlace_13 : decode cX4_isPlace 13 = .ok (.goto 4, 3) := by decide +kernel
theorem dX4_isPlace_16 : decode cX4_isPlace 16 = .ok (.iconst 0, 1) := by decide +kernel
theorem dX4_isPlace_17 : decode cX4_isPlace 17 = .ok (.ireturn, 1) := by decide +kernel
theorem hl_yX4_isPlace : (yX4_isPlace.cls ≠ "java/lang/invoke/MethodHandle" ∧ yX4_isPlace.cls ≠ "java/lang/invoke/VarHandle") ∧ (parseMethodDescriptor yX4_isPlace.desc).map (fun d => d.parameters.length) = some 1 := by decide +kernel
theorem dX4_codeAt_0 : decode cX4_codeAt 0 = .ok (.aload_n 0, 1) := by decide +kernel
theorem dX4_codeAt_1 : decode cX4_codeAt 1 = .ok (.iload_n 1, 1) := by decide +kernel
theorem dX4_codeAt_2 : decode cX4_codeAt 2 = .ok (.invokevirtual 122, 3) := by decide +kernel
theorem dX4_codeAt_5 : decode cX4_codeAt 5 = .ok (.ifCond .eq 12, 3) := by decide +kernel
theorem dX4_codeAt_8 : decode cX4_codeAt 8 = .ok (.aload_n 0, 1) := by decide +kernel
theorem dX4_codeAt_9 : decode cX4_codeAt 9 = .ok (.getfield 21, 3) := by decide +kernel
theorem dX4_codeAt_12 : decode cX4_codeAt 12 = .ok (.iload_n 1, 1) := by decide +kernel
theorem dX4_codeAt_13 : decode cX4_codeAt 13 = .ok (.iaload, 1) := by decide +kernel
theorem dX4_codeAt_14 : decode cX4_codeAt 14 = .ok (.goto 4, 3) := by decide +kernel
theorem dX4_codeAt_17 : decode cX4_codeAt 17 = .ok (.iconst 0, 1) := by decide +kernel
theorem dX4_codeAt_18 : decode cX4_codeAt 18 = .ok (.ireturn, 1) := by decide +kernel
theorem hl_yX4_codeAt : (yX4_codeAt.cls ≠ "java/lang/invoke/MethodHandle" ∧ yX4_codeAt.cls ≠ "java/lang/invoke/VarHandle") ∧ (parseMethodDescriptor yX4_codeAt.desc).map (fun d => d.parameters.length) = some 1 := by decide +kernel
theorem dX4_levelOf_0 : decode cX4_levelOf 0 = .ok (.aload_n 0, 1) := by decide +kernel
theorem dX4_levelOf_1 : decode cX4_levelOf 1 = .ok (.iload_n 1, 1) := by decide +kernel
theorem dX4_levelOf_2 : decode cX4_levelOf 2 = .ok (.invokevirtual 122, 3) := by decide +kernel
theorem dX4_levelOf_5 : decode cX4_levelOf 5 = .ok (.ifCond .eq 12, 3) := by decide +kernel
theorem dX4_levelOf_8 : decode cX4_levelOf 8 = .ok (.aload_n 0, 1) := by decide +kernel
theorem dX4_levelOf_9 : decode cX4_levelOf 9 = .ok (.getfield 25, 3) := by decide +kernel
theorem dX4_levelOf_12 : decode cX4_levelOf 12 = .ok (.iload_n 1, 1) := by decide +kernel
theorem dX4_levelOf_13 : decode cX4_levelOf 13 = .ok (.iaload, 1) := by decide +kernel
theorem dX4_levelOf_14 : decode cX4_levelOf 14 = .ok (.goto 5, 3) := by decide +kernel
theorem dX4_levelOf_17 : decode cX4_levelOf 17 = .ok (.bipush (-9), 2) := by decide +kernel
theorem dX4_levelOf_19 : decode cX4_levelOf 19 = .ok (.ireturn, 1) := by decide +kernel
theorem hl_yX4_levelOf : (yX4_levelOf.cls ≠ "java/lang/invoke/MethodHandle" ∧ yX4_levelOf.cls ≠ "java/lang/invoke/VarHandle") ∧ (parseMethodDescriptor yX4_levelOf.desc).map (fun d => d.parameters.length) = some 1 := by decide +kernel
theorem dX4_come_0 : decode cX4_come 0 = .ok (.aload_n 0, 1) := by decide +kernel
theorem dX4_come_1 : decode cX4_come 1 = .ok (.iload_n 1, 1) := by decide +kernel
theorem dX4_come_2 : decode cX4_come 2 = .ok (.invokevirtual 122, 3) := by decide +kernel
theorem dX4_come_5 : decode cX4_come 5 = .ok (.ifCond .eq 53, 3) := by decide +kernel
theorem dX4_come_8 : decode cX4_come 8 = .ok (.aload_n 0, 1) := by decide +kernel
theorem dX4_come_9 : decode cX4_come 9 = .ok (.getfield 25, 3) := by decide +kernel
theorem dX4_come_12 : decode cX4_come 12 = .ok (.iload_n 1, 1) := by decide +kernel
theorem dX4_come_13 : decode cX4_come 13 = .ok (.iaload, 1) := by decide +kernel
theorem dX4_come_14 : decode cX4_come 14 = .ok (.bipush (-9), 2) := by decide +kernel
theorem dX4_come_16 : decode cX4_come 16 = .ok (.if_icmp .ne 42, 3) := by decide +kernel
theorem dX4_come_19 : decode cX4_come 19 = .ok (.aload_n 0, 1) := by decide +kernel
theorem dX4_come_20 : decode cX4_come 20 = .ok (.getfield 54, 3) := by decide +kernel
theorem dX4_come_23 : decode cX4_come 23 = .ok (.aload_n 0, 1) := by decide +kernel
theorem dX4_come_24 : decode cX4_come 24 = .ok (.getfield 28, 3) := by decide +kernel
theorem dX4_come_27 : decode cX4_come 27 = .ok (.arraylength, 1) := by decide +kernel
theorem dX4_come_28 : decode cX4_come 28 = .ok (.if_icmp .ge 30, 3) := by decide +kernel
theorem dX4_come_31 : decode cX4_come 31 = .ok (.aload_n 0, 1) := by decide +kernel
theorem dX4_come_32 : decode cX4_come 32 = .ok (.getfield 25, 3) := by decide +kernel
theorem dX4_come_35 : decode cX4_come 35 = .ok (.iload_n 1, 1) := by decide +kernel
theorem dX4_come_36 : decode cX4_come 36 = .ok (.iload_n 2, 1) := by decide +kernel
theorem dX4_come_37 : decode cX4_come 37 = .ok (.iastore, 1) := by decide +kernel
theorem dX4_come_38 : decode cX4_come 38 = .ok (.aload_n 0, 1) := by decide +kernel
theorem dX4_come_39 : decode cX4_come 39 = .ok (.getfield 28, 3) := by decide +kernel
theorem dX4_come_42 : decode cX4_come 42 = .ok (.aload_n 0, 1) := by decide +kernel
theorem dX4_come_43 : decode cX4_come 43 = .ok (.getfield 54, 3) := by decide +kernel
theorem dX4_come_46 : decode cX4_come 46 = .ok (.iload_n 1, 1) := by decide +kernel
theorem dX4_come_47 : decode cX4_come 47 = .ok (.iastore, 1) := by decide +kernel
theorem dX4_come_48 : decode cX4_come 48 = .ok (.aload_n 0, 1) := by decide +kernel
theorem dX4_come_49 : decode cX4_come 49 = .ok (.dup, 1) := by decide +kernel
theorem dX4_come_50 : decode cX4_come 50 = .ok (.getfield 54, 3) := by decide +kernel
theorem dX4_come_53 : decode cX4_come 53 = .ok (.iconst 1, 1) := by decide +kernel
theorem dX4_come_54 : decode cX4_come 54 = .ok (.iadd, 1) := by decide +kernel
theorem dX4_come_55 : decode cX4_come 55 = .ok (.putfield 54, 3) := by decide +kernel
theorem dX4_come_58 : decode cX4_come 58 = .ok (.return_, 1) := by decide +kernel
theorem hl_yX4_come : (yX4_come.cls ≠ "java/lang/invoke/MethodHandle" ∧ yX4_come.cls ≠ "java/lang/invoke/VarHandle") ∧ (parseMethodDescriptor yX4_come.desc).map (fun d => d.parameters.length) = some 2 := by decide +kernel
theorem dX4_codeOf_0 : decode cX4_codeOf 0 = .ok (.iconst 0, 1) := by decide +kernel
theorem dX4_codeOf_1 : decode cX4_codeOf 1 = .ok (.istore_n 2, 1) := by decide +kernel
theorem dX4_codeOf_2 : decode cX4_codeOf 2 = .ok (.iconst 0, 1) := by decide +kernel
theorem dX4_codeOf_3 : decode cX4_codeOf 3 = .ok (.istore_n 3, 1) := by decide +kernel
theorem dX4_codeOf_4 : decode cX4_codeOf 4 = .ok (.iload_n 3, 1) := by decide +kernel
theorem dX4_codeOf_5 : decode cX4_codeOf 5 = .ok (.aload_n 0, 1) := by decide +kernel
theorem dX4_codeOf_6 : decode cX4_codeOf 6 = .ok (.getfield 60, 3) := by decide +kernel
theorem dX4_codeOf_9 : decode cX4_codeOf 9 = .ok (.getfield 102, 3) := by decide +kernel
theorem dX4_codeOf_12 : decode cX4_codeOf 12 = .ok (.if_icmp .ge 20, 3) := by decide +kernel
theorem dX4_codeOf_15 : decode cX4_codeOf 15 = .ok (.iload_n 2, 1) := by decide +kernel
theorem dX4_codeOf_16 : decode cX4_codeOf 16 = .ok (.bipush 10, 2) := by decide +kernel
theorem dX4_codeOf_18 : decode cX4_codeOf 18 = .ok (.imul, 1) := by decide +kernel
theorem dX4_codeOf_19 : decode cX4_codeOf 19 = .ok (.aload_n 1, 1) := by decide +kernel
theorem dX4_codeOf_20 : decode cX4_codeOf 20 = .ok (.iload_n 3, 1) := by decide +kernel
theorem dX4_codeOf_21 : decode cX4_codeOf 21 = .ok (.invokevirtual 90, 3) := by decide +kernel
theorem dX4_codeOf_24 : decode cX4_codeOf 24 = .ok (.iadd, 1) := by decide +kernel
theorem dX4_codeOf_25 : decode cX4_codeOf 25 = .ok (.istore_n 2, 1) := by decide +kernel
theorem dX4_codeOf_26 : decode cX4_codeOf 26 = .ok (.iinc 3 1, 3) := by decide +kernel
theorem dX4_codeOf_29 : decode cX4_codeOf 29 = .ok (.goto (-25), 3) := by decide +kernel
theorem dX4_codeOf_32 : decode cX4_codeOf 32 = .ok (.iload_n 2, 1) := by decide +kernel
theorem dX4_codeOf_33 : decode cX4_codeOf 33 = .ok (.ireturn, 1) := by decide +kernel
theorem hl_yX4_codeOf : (yX4_codeOf.cls ≠ "java/lang/invoke/MethodHandle" ∧ yX4_codeOf.cls ≠ "java/lang/invoke/VarHandle") ∧ (parseMethodDescriptor yX4_codeOf.desc).map (fun d => d.parameters.length) = some 1 := by decide +kernel
theorem dX4_decode_0 : decode cX4_decode 0 = .ok (.iload_n 1, 1) := by decide +kernel
theorem dX4_decode_1 : decode cX4_decode 1 = .ok (.istore_n 2, 1) := by decide +kernel
theorem dX4_decode_2 : decode cX4_decode 2 = .ok (.aload_n 0, 1) := by decide +kernel
theorem dX4_decode_3 : decode cX4_decode 3 = .ok (.getfield 12, 3) := by decide +kernel
theorem dX4_decode_6 : decode cX4_decode 6 = .ok (.invokevirtual 99, 3) := by decide +kernel
theorem dX4_decode_9 : decode cX4_decode 9 = .ok (.aload_n 0, 1) := by decide +kernel
theorem dX4_decode_10 : decode cX4_decode 10 = .ok (.getfield 60, 3) := by decide +kernel
theorem dX4_decode_13 : decode cX4_decode 13 = .ok (.getfield 102, 3) := by decide +kernel
theorem dX4_decode_16 : decode cX4_decode 16 = .ok (.iconst 1, 1) := by decide +kernel
theorem dX4_decode_17 : decode cX4_decode 17 = .ok (.isub, 1) := by decide +kernel
theorem dX4_decode_18 : decode cX4_decode 18 = .ok (.istore_n 3, 1) := by decide +kernel
theorem dX4_decode_19 : decode cX4_decode 19 = .ok (.iload_n 3, 1) := by decide +kernel
theorem dX4_decode_20 : decode cX4_decode 20 = .ok (.ifCond .lt 26, 3) := by decide +kernel
theorem dX4_decode_23 : decode cX4_decode 23 = .ok (.aload_n 0, 1) := by decide +kernel
theorem dX4_decode_24 : decode cX4_decode 24 = .ok (.getfield 12, 3) := by decide +kernel
theorem dX4_decode_27 : decode cX4_decode 27 = .ok (.iload_n 3, 1) := by decide +kernel
theorem dX4_decode_28 : decode cX4_decode 28 = .ok (.iload_n 2, 1) := by decide +kernel
theorem dX4_decode_29 : decode cX4_decode 29 = .ok (.bipush 10, 2) := by decide +kernel
theorem dX4_decode_31 : decode cX4_decode 31 = .ok (.irem, 1) := by decide +kernel
theorem dX4_decode_32 : decode cX4_decode 32 = .ok (.invokevirtual 107, 3) := by decide +kernel
theorem dX4_decode_35 : decode cX4_decode 35 = .ok (.iload_n 2, 1) := by decide +kernel
theorem dX4_decode_36 : decode cX4_decode 36 = .ok (.bipush 10, 2) := by decide +kernel
theorem dX4_decode_38 : decode cX4_decode 38 = .ok (.idiv, 1) := by decide +kernel
theorem dX4_decode_39 : decode cX4_decode 39 = .ok (.istore_n 2, 1) := by decide +kernel
theorem dX4_decode_40 : decode cX4_decode 40 = .ok (.iinc 3 (-1), 3) := by decide +kernel
theorem dX4_decode_43 : decode cX4_decode 43 = .ok (.goto (-24), 3) := by decide +kernel
theorem dX4_decode_46 : decode cX4_decode 46 = .ok (.return_, 1) := by decide +kernel
theorem hl_yX4_decode : (yX4_decode.cls ≠ "java/lang/invoke/MethodHandle" ∧ yX4_decode.cls ≠ "java/lang/invoke/VarHandle") ∧ (parseMethodDescriptor yX4_decode.desc).map (fun d => d.parameters.length) = some 1 := by decide +kernel
theorem dX4_placeOf_0 : decode cX4_placeOf 0 = .ok (.iconst 0, 1) := by decide +kernel
theorem dX4_placeOf_1 : decode cX4_placeOf 1 = .ok (.istore_n 2, 1) := by decide +kernel
theorem dX4_placeOf_2 : decode cX4_placeOf 2 = .ok (.sipush 256, 3) := by decide +kernel
theorem dX4_placeOf_5 : decode cX4_placeOf 5 = .ok (.istore_n 3, 1) := by decide +kernel
theorem dX4_placeOf_6 : decode cX4_placeOf 6 = .ok (.iload_n 3, 1) := by decide +kernel
theorem dX4_placeOf_7 : decode cX4_placeOf 7 = .ok (.ifCond .le 38, 3) := by decide +kernel
theorem dX4_placeOf_10 : decode cX4_placeOf 10 = .ok (.iload_n 2, 1) := by decide +kernel
theorem dX4_placeOf_11 : decode cX4_placeOf 11 = .ok (.iload_n 3, 1) := by decide +kernel
theorem dX4_placeOf_12 : decode cX4_placeOf 12 = .ok (.iadd, 1) := by decide +kernel
theorem dX4_placeOf_13 : decode cX4_placeOf 13 = .ok (.istore 4, 2) := by decide +kernel
theorem dX4_placeOf_15 : decode cX4_placeOf 15 = .ok (.iload 4, 2) := by decide +kernel
theorem dX4_placeOf_17 : decode cX4_placeOf 17 = .ok (.aload_n 0, 1) := by decide +kernel
theorem dX4_placeOf_18 : decode cX4_placeOf 18 = .ok (.getfield 51, 3) := by decide +kernel
theorem dX4_placeOf_21 : decode cX4_placeOf 21 = .ok (.if_icmp .ge 17, 3) := by decide +kernel
theorem dX4_placeOf_24 : decode cX4_placeOf 24 = .ok (.aload_n 0, 1) := by decide +kernel
theorem dX4_placeOf_25 : decode cX4_placeOf 25 = .ok (.getfield 21, 3) := by decide +kernel
theorem dX4_placeOf_28 : decode cX4_placeOf 28 = .ok (.iload 4, 2) := by decide +kernel
theorem dX4_placeOf_30 : decode cX4_placeOf 30 = .ok (.iaload, 1) := by decide +kernel
theorem dX4_placeOf_31 : decode cX4_placeOf 31 = .ok (.iload_n 1, 1) := by decide +kernel
theorem dX4_placeOf_32 : decode cX4_placeOf 32 = .ok (.if_icmp .gt 6, 3) := by decide +kernel
theorem dX4_placeOf_35 : decode cX4_placeOf 35 = .ok (.iload 4, 2) := by decide +kernel
theorem dX4_placeOf_37 : decode cX4_placeOf 37 = .ok (.istore_n 2, 1) := by decide +kernel
theorem dX4_placeOf_38 : decode cX4_placeOf 38 = .ok (.iload_n 3, 1) := by decide +kernel
theorem dX4_placeOf_39 : decode cX4_placeOf 39 = .ok (.iconst 2, 1) := by decide +kernel
theorem dX4_placeOf_40 : decode cX4_placeOf 40 = .ok (.idiv, 1) := by decide +kernel
theorem dX4_placeOf_41 : decode cX4_placeOf 41 = .ok (.istore_n 3, 1) := by decide +kernel
theorem dX4_placeOf_42 : decode cX4_placeOf 42 = .ok (.goto (-36), 3) := by decide +kernel
theorem dX4_placeOf_45 : decode cX4_placeOf 45 = .ok (.iload_n 2, 1) := by decide +kernel
theorem dX4_placeOf_46 : decode cX4_placeOf 46 = .ok (.ireturn, 1) := by decide +kernel
theorem hl_yX4_placeOf : (yX4_placeOf.cls ≠ "java/lang/invoke/MethodHandle" ∧ yX4_placeOf.cls ≠ "java/lang/invoke/VarHandle") ∧ (parseMethodDescriptor yX4_placeOf.desc).map (fun d => d.parameters.length) = some 1 := by decide +kernel
theorem dX4_advance_0 : decode cX4_advance 0 = .ok (.aload_n 0, 1) := by decide +kernel
theorem dX4_advance_1 : decode cX4_advance 1 = .ok (.getfield 60, 3) := by decide +kernel
theorem dX4_advance_4 : decode cX4_advance 4 = .ok (.getfield 102, 3) := by decide +kernel
theorem dX4_advance_7 : decode cX4_advance 7 = .ok (.iconst 1, 1) := by decide +kernel
theorem dX4_advance_8 : decode cX4_advance 8 = .ok (.isub, 1) := by decide +kernel
theorem dX4_advance_9 : decode cX4_advance 9 = .ok (.istore_n 1, 1) := by decide +kernel
theorem dX4_advance_10 : decode cX4_advance 10 = .ok (.iconst 0, 1) := by decide +kernel
theorem dX4_advance_11 : decode cX4_advance 11 = .ok (.istore_n 2, 1) := by decide +kernel
theorem dX4_advance_12 : decode cX4_advance 12 = .ok (.iload_n 1, 1) := by decide +kernel
theorem dX4_advance_13 : decode cX4_advance 13 = .ok (.istore_n 3, 1) := by decide +kernel
theorem dX4_advance_14 : decode cX4_advance 14 = .ok (.iload_n 3, 1) := by decide +kernel
theorem dX4_advance_15 : decode cX4_advance 15 = .ok (.ifCond .le 57, 3) := by decide +kernel
theorem dX4_advance_18 : decode cX4_advance 18 = .ok (.iload_n 2, 1) := by decide +kernel
theorem dX4_advance_19 : decode cX4_advance 19 = .ok (.aload_n 0, 1) := by decide +kernel
theorem dX4_advance_20 : decode cX4_advance 20 = .ok (.getfield 12, 3) := by decide +kernel
theorem dX4_advance_23 : decode cX4_advance 23 = .ok (.iload_n 3, 1) := by decide +kernel
theorem dX4_advance_24 : decode cX4_advance 24 = .ok (.invokevirtual 90, 3) := by decide +kernel
theorem dX4_advance_27 : decode cX4_advance 27 = .ok (.iadd, 1) := by decide +kernel
theorem dX4_advance_28 : decode cX4_advance 28 = .ok (.istore_n 2, 1) := by decide +kernel
theorem dX4_advance_29 : decode cX4_advance 29 = .ok (.aload_n 0, 1) := by decide +kernel
theorem dX4_advance_30 : decode cX4_advance 30 = .ok (.getfield 12, 3) := by decide +kernel
theorem dX4_advance_33 : decode cX4_advance 33 = .ok (.iload_n 3, 1) := by decide +kernel
theorem dX4_advance_34 : decode cX4_advance 34 = .ok (.iconst 0, 1) := by decide +kernel
theorem dX4_advance_35 : decode cX4_advance 35 = .ok (.invokevirtual 107, 3) := by decide +kernel
theorem dX4_advance_38 : decode cX4_advance 38 = .ok (.iload_n 2, 1) := by decide +kernel
theorem dX4_advance_39 : decode cX4_advance 39 = .ok (.ifCond .le 27, 3) := by decide +kernel
theorem dX4_advance_42 : decode cX4_advance 42 = .ok (.aload_n 0, 1) := by decide +kernel
theorem dX4_advance_43 : decode cX4_advance 43 = .ok (.getfield 12, 3) := by decide +kernel
theorem dX4_advance_46 : decode cX4_advance 46 = .ok (.iload_n 3, 1) := by decide +kernel
theorem dX4_advance_47 : decode cX4_advance 47 = .ok (.iconst 1, 1) := by decide +kernel
theorem dX4_advance_48 : decode cX4_advance 48 = .ok (.isub, 1) := by decide +kernel
theorem dX4_advance_49 : decode cX4_advance 49 = .ok (.iconst 1, 1) := by decide +kernel
theorem dX4_advance_50 : decode cX4_advance 50 = .ok (.invokevirtual 119, 3) := by decide +kernel
theorem dX4_advance_53 : decode cX4_advance 53 = .ok (.aload_n 0, 1) := by decide +kernel
theorem dX4_advance_54 : decode cX4_advance 54 = .ok (.getfield 12, 3) := by decide +kernel
theorem dX4_advance_57 : decode cX4_advance 57 = .ok (.iload_n 1, 1) := by decide +kernel
theorem dX4_advance_58 : decode cX4_advance 58 = .ok (.iload_n 2, 1) := by decide +kernel
theorem dX4_advance_59 : decode cX4_advance 59 = .ok (.iconst 1, 1) := by decide +kernel
theorem dX4_advance_60 : decode cX4_advance 60 = .ok (.isub, 1) := by decide +kernel
theorem dX4_advance_61 : decode cX4_advance 61 = .ok (.invokevirtual 107, 3) := by decide +kernel
theorem dX4_advance_64 : decode cX4_advance 64 = .ok (.iconst 1, 1) := by decide +kernel
theorem dX4_advance_65 : decode cX4_advance 65 = .ok (.ireturn, 1) := by decide +kernel
theorem dX4_advance_66 : decode cX4_advance 66 = .ok (.iinc 3 (-1), 3) := by decide +kernel
theorem dX4_advance_69 : decode cX4_advance 69 = .ok (.goto (-55), 3) := by decide +kernel
theorem dX4_advance_72 : decode cX4_advance 72 = .ok (.iconst 0, 1) := by decide +kernel
theorem dX4_advance_73 : decode cX4_advance 73 = .ok (.ireturn, 1) := by decide +kernel
theorem hl_yX4_advance : (yX4_advance.cls ≠ "java/lang/invoke/MethodHandle" ∧ yX4_advance.cls ≠ "java/lang/invoke/VarHandle") ∧ (parseMethodDescriptor yX4_advance.desc).map (fun d => d.parameters.length) = some 0 := by decide +kernel
set_option maxRecDepth 20000 in
set_option maxHeartbeats 4000000 in
theorem c_X4_forget {l : Launch} {G : Gt} {n0 : Nat} {mi : Nat → Nat → Int} {mr : Nat → Nat → Nat}  : Cv l yX4_forget cX4_forget 1 1 G n0 [.ref (n0 + 461)] mi mr (fun mi9 mr9 => up2 mi 461 9 (-9) = mi9 ∧ mr = mr9) := by
  refine Ct_of (by decide +kernel) (by intro v hv; simp at hv; rcases hv with rfl <;> rfl) (Nat.le_of_ble_eq_true rfl) ?_
  intro p e s m args below meth c9 X hr hname
  show WW _ _ _ _ _ _ _ _ _ _ _ _ _ _ _ _ _ _ _ [some (.ref (n0 + 461))] _
  refine w_aload_n X dX4_forget_0 rfl ?_
  refine w_bipush X dX4_forget_1 rfl ?_
  refine w_put X (by decide) (σ_461 G n0 _ _) rfl gW_X4 tyX4 tyX4_ok nmX4 9 (by decide) gF_X4_47 rfl rfl rfl (Nat.le_of_ble_eq_true rfl) dX4_forget_3 (WW.eqf (sp_461_9 _) ?_)
  refine s_vret X hr dX4_forget_6 ?_
  exact ⟨rfl, rfl⟩
set_option maxRecDepth 20000 in
set_option maxHeartbeats 4000000 in
theorem c_X4_isPlace {l : Launch} {G : Gt} {n0 : Nat} {mi : Nat → Nat → Int} {mr : Nat → Nat → Nat} (hcc : 0 ≤ mi 461 10 ∧ mi 461 10 ≤ 495) {z : Int} (hz : rg z) : Ci l yX4_isPlace cX4_isPlace 2 .boolean 1 G n0 [.ref (n0 + 461), .int (jI z)] mi mr (fun r9 mi9 mr9 => mi = mi9 ∧ mr = mr9 ∧ (r9 = 1 ∧ 0 ≤ z ∧ z < mi 461 10 ∨ r9 = 0 ∧ ¬ (0 ≤ z ∧ z < mi 461 10))) := by
  refine Ct_of (by decide +kernel) (by intro v hv; simp at hv; rcases hv with rfl | rfl <;> rfl) (Nat.le_of_ble_eq_true rfl) ?_
  intro p e s m args below meth c9 X hr hname
  show WW _ _ _ _ _ _ _ _ _ _ _ _ _ _ _ _ _ _ _ [some (.ref (n0 + 461)), some (.int (jI z))] _
  refine w_iload_n X dX4_isPlace_0 rfl ?_
  refine w_if_lt X 16 dX4_isPlace_1 (by decide) (fun c1_1 => ?_) (fun c1_1 => ?_)
  ·
    refine w_iconst X dX4_isPlace_16 ?_
    refine s_zret X hr dX4_isPlace_17 (by omega) ?_
    exact ⟨rfl, rfl, by omega⟩
  ·
    refine w_iload_n X dX4_isPlace_4 rfl ?_
    refine w_aload_n X dX4_isPlace_5 rfl ?_
    refine w_get X (by decide) (σ_461 G n0 _ _) rfl gW_X4 10 (by decide) gF_X4_51 rfl dX4_isPlace_6 ?_
    refine w_icmp_ge X 16 dX4_isPlace_9 (by decide) (fun c9_2 => ?_) (fun c9_2 => ?_)
    ·
      refine w_iconst X dX4_isPlace_16 ?_
      refine s_zret X hr dX4_isPlace_17 (by omega) ?_
      exact ⟨rfl, rfl, by omega⟩
    ·
      refine w_iconst X dX4_isPlace_12 ?_
      refine w_goto X 17 dX4_isPlace_13 (by decide) ?_
      refine s_zret X hr dX4_isPlace_17 (by omega) ?_
      exact ⟨rfl, rfl, by omega⟩
set_option maxRecDepth 20000 in
set_option maxHeartbeats 4000000 in
theorem c_X4_codeAt {l : Launch} {G : Gt} {n0 : Nat} {mi : Nat → Nat → Int} {mr : Nat → Nat → Nat} (hcc : 0 ≤ mi 461 10 ∧ mi 461 10 ≤ 495) {z : Int} (hz : rg z) : Ci l yX4_codeAt cX4_codeAt 2 .int 2 G n0 [.ref (n0 + 461), .int (jI z)] mi mr (fun r9 mi9 mr9 => mi = mi9 ∧ mr = mr9 ∧ r9 = if 0 ≤ z ∧ z < mi 461 10 then mi 466 z.toNat else 0) := by
  refine Ct_of (by decide +kernel) (by intro v hv; simp at hv; rcases hv with rfl | rfl <;> rfl) (Nat.le_of_ble_eq_true rfl) ?_
  intro p e s m args below meth c9 X hr hname
  show WW _ _ _ _ _ _ _ _ _ _ _ _ _ _ _ _ _ _ _ [some (.ref (n0 + 461)), some (.int (jI z))] _
  refine w_aload_n X dX4_codeAt_0 rfl ?_
  refine w_iload_n X dX4_codeAt_1 rfl ?_
  refine s_callVi X _ (c_X4_isPlace (l := l) (G := G) (n0 := n0) hcc (by first | assumption | (refine ⟨?_, ?_⟩ <;> omega))) gM_X4_122 gI_yX4_isPlace gS_yX4_isPlace gN_X4 gC_yX4_isPlace (by decide) (σ_461 G n0 _ _) rfl dX4_codeAt_2 hl_yX4_isPlace ⟨Nat.le_of_ble_eq_true rfl, Nat.le_of_ble_eq_true rfl⟩ (Nat.le_of_ble_eq_true rfl) rfl (fun r1 mi1 mr1 h1 => ?_)
  obtain ⟨rfl, rfl, h1⟩ := h1
  refine w_if_eq X 17 dX4_codeAt_5 (by decide) (fun c5_1 => ?_) (fun c5_1 => ?_)
  ·
    refine w_iconst X dX4_codeAt_17 ?_
    refine s_iret X hr dX4_codeAt_18 ?_
    first | exact ⟨rfl, rfl, by rw [if_pos ⟨by omega, by omega⟩]⟩ | exact ⟨rfl, rfl, by rw [if_neg (by omega)]⟩
  ·
    refine w_aload_n X dX4_codeAt_8 rfl ?_
    refine w_get X (by decide) (σ_461 G n0 _ _) rfl gW_X4 3 (by decide) gF_X4_21 rfl dX4_codeAt_9 ?_
    refine w_iload_n X dX4_codeAt_12 rfl ?_
    refine s_iald X _ (by decide) (fun _ => σ_f4 G n0 _ _ (by decide)) dX4_codeAt_13 ?_ (hj := rfl)
    refine w_goto X 18 dX4_codeAt_14 (by decide) ?_
    refine s_iret X hr dX4_codeAt_18 ?_
    first | exact ⟨rfl, rfl, by rw [if_pos ⟨by omega, by omega⟩]⟩ | exact ⟨rfl, rfl, by rw [if_neg (by omega)]⟩
set_option maxRecDepth 20000 in
set_option maxHeartbeats 4000000 in
theorem c_X4_levelOf {l : Launch} {G : Gt} {n0 : Nat} {mi : Nat → Nat → Int} {mr : Nat → Nat → Nat} (hcc : 0 ≤ mi 461 10 ∧ mi 461 10 ≤ 495) {z : Int} (hz : rg z) : Ci l yX4_levelOf cX4_levelOf 2 .int 2 G n0 [.ref (n0 + 461), .int (jI z)] mi mr (fun r9 mi9 mr9 => mi = mi9 ∧ mr = mr9 ∧ r9 = if 0 ≤ z ∧ z < mi 461 10 then mi 467 z.toNat else -9) := by
  refine Ct_of (by decide +kernel) (by intro v hv; simp at hv; rcases hv with rfl | rfl <;> rfl) (Nat.le_of_ble_eq_true rfl) ?_
  intro p e s m args below meth c9 X hr hname
  show WW _ _ _ _ _ _ _ _ _ _ _ _ _ _ _ _ _ _ _ [some (.ref (n0 + 461)), some (.int (jI z))] _
  refine w_aload_n X dX4_levelOf_0 rfl ?_
  refine w_iload_n X dX4_levelOf_1 rfl ?_
  refine s_callVi X _ (c_X4_isPlace (l := l) (G := G) (n0 := n0) hcc (by first | assumption | (refine ⟨?_, ?_⟩ <;> omega))) gM_X4_122 gI_yX4_isPlace gS_yX4_isPlace gN_X4 gC_yX4_isPlace (by decide) (σ_461 G n0 _ _) rfl dX4_levelOf_2 hl_yX4_isPlace ⟨Nat.le_of_ble_eq_true rfl, Nat.le_of_ble_eq_true rfl⟩ (Nat.le_of_ble_eq_true rfl) rfl (fun r1 mi1 mr1 h1 => ?_)
  obtain ⟨rfl, rfl, h1⟩ := h1
  refine w_if_eq X 17 dX4_levelOf_5 (by decide) (fun c5_1 => ?_) (fun c5_1 => ?_)
  ·
    refine w_bipush X dX4_levelOf_17 rfl ?_
    refine s_iret X hr dX4_levelOf_19 ?_
    first | exact ⟨rfl, rfl, by rw [if_pos ⟨by omega, by omega⟩]⟩ | exact ⟨rfl, rfl, by rw [if_neg (by omega)]⟩
  ·
    refine w_aload_n X dX4_levelOf_8 rfl ?_
    refine w_get X (by decide) (σ_461 G n0 _ _) rfl gW_X4 4 (by decide) gF_X4_25 rfl dX4_levelOf_9 ?_
    refine w_iload_n X dX4_levelOf_12 rfl ?_
    refine s_iald X _ (by decide) (fun _ => σ_f4 G n0 _ _ (by decide)) dX4_levelOf_13 ?_ (hj := rfl)
    refine w_goto X 19 dX4_levelOf_14 (by decide) ?_
    refine s_iret X hr dX4_levelOf_19 ?_
    first | exact ⟨rfl, rfl, by rw [if_pos ⟨by omega, by omega⟩]⟩ | exact ⟨rfl, rfl, by rw [if_neg (by omega)]⟩
set_option maxRecDepth 20000 in
set_option maxHeartbeats 4000000 in
theorem c_X4_come {l : Launch} {G : Gt} {n0 : Nat} {mi : Nat → Nat → Int} {mr : Nat → Nat → Nat} (hcc : 0 ≤ mi 461 10 ∧ mi 461 10 ≤ 495) (hcm : 0 ≤ mi 461 11 ∧ mi 461 11 ≤ 495) {z x : Int} (hz : rg z) (hlv : 0 ≤ z → z < mi 461 10 → rg (mi 467 z.toNat)) : Cv l yX4_come cX4_come 3 2 G n0 [.ref (n0 + 461), .int (jI z), .int (jI x)] mi mr (fun mi9 mr9 => (if 0 ≤ z ∧ z < mi 461 10 ∧ mi 467 z.toNat = -9 ∧ mi 461 11 < 495 then up2 (up2 (up2 mi 467 z.toNat x) 468 (mi 461 11).toNat z) 461 11 (mi 461 11 + 1) else mi) = mi9 ∧ mr = mr9) := by
  refine Ct_of (by decide +kernel) (by intro v hv; simp at hv; rcases hv with rfl | rfl | rfl <;> rfl) (Nat.le_of_ble_eq_true rfl) ?_
  intro p e s m args below meth c9 X hr hname
  show WW _ _ _ _ _ _ _ _ _ _ _ _ _ _ _ _ _ _ _ [some (.ref (n0 + 461)), some (.int (jI z)), some (.int (jI x))] _
  refine w_aload_n X dX4_come_0 rfl ?_
  refine w_iload_n X dX4_come_1 rfl ?_
  refine s_callVi X _ (c_X4_isPlace (l := l) (G := G) (n0 := n0) hcc (by first | assumption | (refine ⟨?_, ?_⟩ <;> omega))) gM_X4_122 gI_yX4_isPlace gS_yX4_isPlace gN_X4 gC_yX4_isPlace (by decide) (σ_461 G n0 _ _) rfl dX4_come_2 hl_yX4_isPlace ⟨Nat.le_of_ble_eq_true rfl, Nat.le_of_ble_eq_true rfl⟩ (Nat.le_of_ble_eq_true rfl) rfl (fun r1 mi1 mr1 h1 => ?_)
  obtain ⟨rfl, rfl, h1⟩ := h1
  refine w_if_eq X 58 dX4_come_5 (by decide) (fun c5_1 => ?_) (fun c5_1 => ?_)
  ·
    refine s_vret X hr dX4_come_58 ?_
    first | exact ⟨by rw [if_neg (by omega)], rfl⟩ | exact ⟨by rw [if_pos ⟨by omega, by omega, by omega, by omega⟩], rfl⟩
  ·
    refine w_aload_n X dX4_come_8 rfl ?_
    refine w_get X (by decide) (σ_461 G n0 _ _) rfl gW_X4 4 (by decide) gF_X4_25 rfl dX4_come_9 ?_
    refine w_iload_n X dX4_come_12 rfl ?_
    refine s_iald X _ (by decide) (fun _ => σ_f4 G n0 _ _ (by decide)) dX4_come_13 ?_ (hj := rfl)
    have hlv2 := hlv (by omega) (by omega)
    refine w_bipush X dX4_come_14 rfl ?_
    refine w_icmp_ne X 58 dX4_come_16 (by decide) (fun c16_2 => ?_) (fun c16_2 => ?_)
    ·
      refine s_vret X hr dX4_come_58 ?_
      first | exact ⟨by rw [if_neg (by omega)], rfl⟩ | exact ⟨by rw [if_pos ⟨by omega, by omega, by omega, by omega⟩], rfl⟩
    ·
      refine w_aload_n X dX4_come_19 rfl ?_
      refine w_get X (by decide) (σ_461 G n0 _ _) rfl gW_X4 11 (by decide) gF_X4_54 rfl dX4_come_20 ?_
      refine w_aload_n X dX4_come_23 rfl ?_
      refine w_get X (by decide) (σ_461 G n0 _ _) rfl gW_X4 5 (by decide) gF_X4_28 rfl dX4_come_24 ?_
      refine w_alen X (t := 0) (by decide) (σ_f4 G n0 _ _ (by decide)) rfl dX4_come_27 ?_
      refine s_alen (b := 495) rfl ?_
      refine w_icmp_ge X 58 dX4_come_28 (by decide) (fun c28_3 => ?_) (fun c28_3 => ?_)
      ·
        refine s_vret X hr dX4_come_58 ?_
        first | exact ⟨by rw [if_neg (by omega)], rfl⟩ | exact ⟨by rw [if_pos ⟨by omega, by omega, by omega, by omega⟩], rfl⟩
      ·
        refine w_aload_n X dX4_come_31 rfl ?_
        refine w_get X (by decide) (σ_461 G n0 _ _) rfl gW_X4 4 (by decide) gF_X4_25 rfl dX4_come_32 ?_
        refine w_iload_n X dX4_come_35 rfl ?_
        refine w_iload_n X dX4_come_36 rfl ?_
        refine s_iast X _ (by decide) (fun _ => σ_f4 G n0 _ _ (by decide)) dX4_come_37 ?_ (hj := rfl)
        refine w_aload_n X dX4_come_38 rfl ?_
        refine w_get X (by decide) (σ_461 G n0 _ _) rfl gW_X4 5 (by decide) gF_X4_28 rfl dX4_come_39 ?_
        refine w_aload_n X dX4_come_42 rfl ?_
        refine w_get X (by decide) (σ_461 G n0 _ _) rfl gW_X4 11 (by decide) gF_X4_54 rfl dX4_come_43 ?_
        rw [up2_k _ _ _ _ (show (461 : Nat) ≠ 467 by decide)]
        refine w_iload_n X dX4_come_46 rfl ?_
        refine s_iast X _ (by decide) (fun _ => σ_f4 G n0 _ _ (by decide)) dX4_come_47 ?_ (hj := rfl)
        refine w_aload_n X dX4_come_48 rfl ?_
        refine w_dup X dX4_come_49 rfl ?_
        refine w_get X (by decide) (σ_461 G n0 _ _) rfl gW_X4 11 (by decide) gF_X4_54 rfl dX4_come_50 ?_
        rw [up2_k _ _ _ _ (show (461 : Nat) ≠ 468 by decide), up2_k _ _ _ _ (show (461 : Nat) ≠ 467 by decide)]
        refine w_iconst X dX4_come_53 ?_
        refine w_iadd X dX4_come_54 ?_
        refine w_put X (by decide) (σ_461 G n0 _ _) rfl gW_X4 tyX4 tyX4_ok nmX4 11 (by decide) gF_X4_54 rfl rfl rfl (Nat.le_of_ble_eq_true rfl) dX4_come_55 (WW.eqf (sp_461_11 _) ?_)
        refine s_vret X hr dX4_come_58 ?_
        first | exact ⟨by rw [if_neg (by omega)], rfl⟩ | exact ⟨by rw [if_pos ⟨by omega, by omega, by omega, by omega⟩], rfl⟩
set_option maxRecDepth 20000 in
set_option maxHeartbeats 4000000 in
theorem c_X4_codeOf {l : Launch} {G : Gt} {n0 : Nat} {mi : Nat → Nat → Int} {mr : Nat → Nat → Nat} (hsc : 1 ≤ mi 1 3 ∧ mi 1 3 ≤ 5) {c : Nat} (hc : isCr c) (h09 : ∀ j : Nat, j < 5 → 0 ≤ mi (c + 1) j ∧ mi (c + 1) j ≤ 9) : Ci l yX4_codeOf cX4_codeOf 4 .int 2 G n0 [.ref (n0 + 461), .ref (n0 + c)] mi mr (fun r9 mi9 mr9 => mi = mi9 ∧ mr = mr9 ∧ r9 = cdn (mi (c + 1)) (mi 1 3).toNat) := by
  refine Ct_of (by decide +kernel) (by intro v hv; simp at hv; rcases hv with rfl | rfl <;> rfl) (Nat.le_of_ble_eq_true rfl) ?_
  intro p e s m args below meth c9 X hr hname
  show WW _ _ _ _ _ _ _ _ _ _ _ _ _ _ _ _ _ _ _ [some (.ref (n0 + 461)), some (.ref (n0 + c)), none, none] _
  refine w_iconst X dX4_codeOf_0 ?_
  refine w_ist4_2 X dX4_codeOf_1 ?_
  refine w_iconst X dX4_codeOf_2 ?_
  refine w_ist4_3 X dX4_codeOf_3 ?_
  have loop : ∀ (n : Nat) (i : Nat) (x3 : Option Value), ((i : Int) ≤ mi 1 3) → n = 5 - i → WSi p l e s m args below meth c9 2 (fun r9 mi9 mr9 => mi = mi9 ∧ mr = mr9 ∧ r9 = cdn (mi (c + 1)) (mi 1 3).toNat) G n0 4 mi mr 4 [some (.ref (n0 + 461)), some (.ref (n0 + c)), some (.int (jI (cdn (mi (c + 1)) i))), some (.int (jI (i : Int)))] [] := by
    intro n
    induction n using Nat.strongRecOn with
    | ind n ih_loop =>
      intro i x3 hi hn
      have hcd := cdn_m h09 (show i ≤ 5 by omega)
      have hvi : i < 5 → 0 ≤ mi (c + 1) i ∧ mi (c + 1) i ≤ 9 := h09 i
      refine w_iload_n X dX4_codeOf_4 rfl ?_
      refine w_aload_n X dX4_codeOf_5 rfl ?_
      refine w_get X (by decide) (σ_461 G n0 _ _) rfl gW_X4 0 (by decide) gF_X4_60 rfl dX4_codeOf_6 ?_
      refine w_getN X (by decide) (σ_1 G n0 _ _) rfl gW_X5 3 (by decide) gF_X4_102 rfl dX4_codeOf_9 ?_
      refine w_icmp_ge X 32 dX4_codeOf_12 (by decide) (fun c12_1 => ?_) (fun c12_1 => ?_)
      ·
        refine w_iload_n X dX4_codeOf_32 rfl ?_
        refine s_iret X hr dX4_codeOf_33 ?_
        exact ⟨rfl, rfl, by rw [show (mi 1 3).toNat = i by omega]⟩
      ·
        have hvi := hvi (by omega)
        refine w_iload_n X dX4_codeOf_15 rfl ?_
        refine w_bipush X dX4_codeOf_16 rfl ?_
        refine w_imul X dX4_codeOf_18 ?_
        refine w_aload_n X dX4_codeOf_19 rfl ?_
        refine w_iload_n X dX4_codeOf_20 rfl ?_
        refine s_callVi X _ (c_X3_of (l := l) (G := G) (n0 := n0) hc (by first | assumption | (refine ⟨?_, ?_⟩ <;> omega))) gM_X4_90 gI_yX3_of gS_yX3_of gN_X3 gC_yX3_of (isCr_k hc) (σ_cr G n0 _ _ hc) rfl dX4_codeOf_21 hl_yX3_of ⟨Nat.le_of_ble_eq_true rfl, Nat.le_of_ble_eq_true rfl⟩ (Nat.le_of_ble_eq_true rfl) rfl (fun r1 mi1 mr1 h1 => ?_)
        obtain ⟨rfl, rfl, h1⟩ := h1
        rw [if_pos ⟨by omega, by omega⟩, Int.toNat_natCast] at h1
        refine w_iadd X dX4_codeOf_24 ?_
        refine w_ist4_2 X dX4_codeOf_25 ?_
        refine w_iinc4_3 X dX4_codeOf_26 ?_
        refine w_goto X 4 dX4_codeOf_29 (by decide) ?_
        rw [h1]
        exact ih_loop _ (by omega) (i + 1) none (by omega) rfl
  exact loop _ 0 none (by omega) rfl
set_option maxRecDepth 20000 in
set_option maxHeartbeats 4000000 in
theorem c_X4_decode {l : Launch} {G : Gt} {n0 : Nat} {mi : Nat → Nat → Int} {mr : Nat → Nat → Nat} (hsc : 1 ≤ mi 1 3 ∧ mi 1 3 ≤ 5) {z : Int} (hz : 0 ≤ z ∧ z < 2147483648) : Cv l yX4_decode cX4_decode 4 2 G n0 [.ref (n0 + 461), .int (jI z)] mi mr (fun mi9 mr9 => (∀ j : Nat, j < 5 → mi9 463 j = if (j : Int) < mi 1 3 then z / 10 ^ ((mi 1 3).toNat - 1 - j) % 10 else 0) ∧ (∀ a, a ≠ 463 → mi9 a = mi a) ∧ mr = mr9) := by
  refine Ct_of (by decide +kernel) (by intro v hv; simp at hv; rcases hv with rfl | rfl <;> rfl) (Nat.le_of_ble_eq_true rfl) ?_
  intro p e s m args below meth c9 X hr hname
  show WW _ _ _ _ _ _ _ _ _ _ _ _ _ _ _ _ _ _ _ [some (.ref (n0 + 461)), some (.int (jI z)), none, none] _
  refine w_iload_n X dX4_decode_0 rfl ?_
  refine w_ist4_2 X dX4_decode_1 ?_
  refine w_aload_n X dX4_decode_2 rfl ?_
  refine w_get X (by decide) (σ_461 G n0 _ _) rfl gW_X4 1 (by decide) gF_X4_12 rfl dX4_decode_3 ?_
  refine s_callVv X _ (c_X3_clear (l := l) (G := G) (n0 := n0) cr_462) gM_X4_99 gI_yX3_clear gS_yX3_clear gN_X3 gC_yX3_clear (isCr_k cr_462) (σ_cr G n0 _ _ cr_462) rfl dX4_decode_6 hl_yX3_clear ⟨Nat.le_of_ble_eq_true rfl, Nat.le_of_ble_eq_true rfl⟩ (Nat.le_of_ble_eq_true rfl) rfl (fun mi1 mr1 h1 => ?_)
  obtain ⟨rfl, rfl⟩ := h1
  refine w_aload_n X dX4_decode_9 rfl ?_
  refine w_get X (by decide) (σ_461 G n0 _ _) rfl gW_X4 0 (by decide) gF_X4_60 rfl dX4_decode_10 ?_
  refine w_getN X (by decide) (σ_1 G n0 _ _) rfl gW_X5 3 (by decide) gF_X4_102 rfl dX4_decode_13 ?_
  refine w_iconst X dX4_decode_16 ?_
  refine w_isub X dX4_decode_17 ?_
  refine w_ist4_3 X dX4_decode_18 ?_
  have loop : ∀ (n : Nat) (mi' : Nat → Nat → Int) (k : Nat) (x : Int), ((k : Int) ≤ mi 1 3) → (x = z / 10 ^ ((mi 1 3).toNat - k) ∧ 0 ≤ x ∧ x < 2147483648) → (∀ a, a ≠ 463 → mi' a = mi a) → (∀ j : Nat, j < 5 → mi' 463 j = if k ≤ j ∧ (j : Int) < mi 1 3 then z / 10 ^ ((mi 1 3).toNat - 1 - j) % 10 else 0) → n = k → WSv p l e s m args below meth c9 2 (fun mi9 mr9 => (∀ j : Nat, j < 5 → mi9 463 j = if (j : Int) < mi 1 3 then z / 10 ^ ((mi 1 3).toNat - 1 - j) % 10 else 0) ∧ (∀ a, a ≠ 463 → mi9 a = mi a) ∧ mr = mr9) G n0 4 mi' mr 19 [some (.ref (n0 + 461)), some (.int (jI z)), some (.int (jI x)), some (.int (jI ((k : Int) - 1)))] [] := by
    intro n
    induction n using Nat.strongRecOn with
    | ind n ih_loop =>
      intro mi' k x hk hx hm hv hn
      refine w_iload_n X dX4_decode_19 rfl ?_
      refine w_if_lt X 46 dX4_decode_20 (by decide) (fun c20_1 => ?_) (fun c20_1 => ?_)
      ·
        refine s_vret X hr dX4_decode_46 ?_
        have hk0 : k = 0 := by omega
        subst hk0
        refine ⟨fun j hj => ?_, hm, rfl⟩
        rw [hv j hj]
        by_cases q : (j : Int) < mi 1 3
        · rw [if_pos ⟨by omega, q⟩, if_pos q]
        · rw [if_neg (by omega), if_neg q]
      ·
        refine w_aload_n X dX4_decode_23 rfl ?_
        refine w_get X (by decide) (σ_461 G n0 _ _) rfl gW_X4 1 (by decide) gF_X4_12 rfl dX4_decode_24 ?_
        refine w_iload_n X dX4_decode_27 rfl ?_
        refine w_iload_n X dX4_decode_28 rfl ?_
        refine w_bipush X dX4_decode_29 rfl ?_
        refine w_irem X dX4_decode_31 ?_
        refine s_callVv X _ (c_X3_set (l := l) (G := G) (n0 := n0) cr_462 (by first | assumption | (refine ⟨?_, ?_⟩ <;> omega))) gM_X4_107 gI_yX3_set gS_yX3_set gN_X3 gC_yX3_set (isCr_k cr_462) (σ_cr G n0 _ _ cr_462) rfl dX4_decode_32 hl_yX3_set ⟨Nat.le_of_ble_eq_true rfl, Nat.le_of_ble_eq_true rfl⟩ (Nat.le_of_ble_eq_true rfl) rfl (fun mi2 mr2 h2 => ?_)
        obtain ⟨e9, rfl⟩ := h2
        rw [if_pos ⟨by omega, by omega⟩] at e9
        refine w_iload_n X dX4_decode_35 rfl ?_
        refine w_bipush X dX4_decode_36 rfl ?_
        refine w_idiv X dX4_decode_38 ?_
        refine w_ist4_2 X dX4_decode_39 ?_
        refine w_iinc4_3 X dX4_decode_40 ?_
        refine w_goto X 19 dX4_decode_43 (by decide) ?_
        obtain ⟨k', rfl⟩ : ∃ k', k = k' + 1 := ⟨k - 1, by omega⟩
        rw [show ((k' + 1 : Nat) : Int) - 1 + -1 = (k' : Int) - 1 by omega]
        have e8 : z / 10 ^ ((mi 1 3).toNat - k') = x / 10 := by rw [show (mi 1 3).toNat - k' = (mi 1 3).toNat - (k' + 1) + 1 by omega, Int.pow_succ, ← Int.ediv_ediv_of_nonneg (Int.le_of_lt (Int.pow_pos (by decide))), ← hx.1]
        rw [show (((k' + 1 : Nat) : Int) - 1).toNat = k' by omega] at e9
        exact ih_loop _ (by omega) mi2 k' (x / 10) (by omega) ⟨e8.symm, by omega, by omega⟩ (fun a ha => by rw [← e9, up2_k _ _ _ _ ha]; exact hm a ha) (fun j hj => by
          rw [← e9]
          by_cases q : j = k'
          · subst q
            rw [up2_s, if_pos ⟨by omega, by omega⟩, hx.1, show (mi 1 3).toNat - 1 - j = (mi 1 3).toNat - (j + 1) by omega]
          · rw [up2_j _ _ _ _ q, hv j hj]
            by_cases q2 : k' + 1 ≤ j ∧ (j : Int) < mi 1 3
            · rw [if_pos q2, if_pos ⟨by omega, q2.2⟩]
            · rw [if_neg q2, if_neg (by omega)]) rfl
  have hf0 : ∀ a, a ≠ 463 → row5 mi 463 (fun _ => 0) a = mi a := fun a ha => row5_k ha
  rw [hf0 1 (by decide)]
  have e0 : mi 1 3 - 1 = (((mi 1 3).toNat : Nat) : Int) - 1 := by omega
  rw [e0]
  exact loop _ (row5 mi 463 (fun _ => 0)) (mi 1 3).toNat z (by omega) ⟨by rw [Nat.sub_self, Int.pow_zero, Int.ediv_one], by omega, by omega⟩ hf0 (fun j hj => by rw [row5_s hj, if_neg (by omega)]) rfl
set_option maxRecDepth 20000 in
set_option maxHeartbeats 4000000 in
theorem c_X4_placeOf {l : Launch} {G : Gt} {n0 : Nat} {mi : Nat → Nat → Int} {mr : Nat → Nat → Nat} (hcc : 1 ≤ mi 461 10 ∧ mi 461 10 ≤ 495) {z : Int} (hz : rg z) (h00 : mi 466 0 ≤ z) (hcr : ∀ i : Nat, (i : Int) < mi 461 10 → rg (mi 466 i)) (hinc : ∀ i j : Nat, i < j → (j : Int) < mi 461 10 → mi 466 i < mi 466 j) : Ci l yX4_placeOf cX4_placeOf 5 .int 1 G n0 [.ref (n0 + 461), .int (jI z)] mi mr (fun r9 mi9 mr9 => mi = mi9 ∧ mr = mr9 ∧ ∃ p0 : Nat, r9 = (p0 : Int) ∧ (p0 : Int) < mi 461 10 ∧ mi 466 p0 ≤ z ∧ ∀ q : Nat, (q : Int) < mi 461 10 → p0 < q → z < mi 466 q) := by
  refine Ct_of (by decide +kernel) (by intro v hv; simp at hv; rcases hv with rfl | rfl <;> rfl) (Nat.le_of_ble_eq_true rfl) ?_
  intro p e s m args below meth c9 X hr hname
  show WW _ _ _ _ _ _ _ _ _ _ _ _ _ _ _ _ _ _ _ [some (.ref (n0 + 461)), some (.int (jI z)), none, none, none] _
  refine w_iconst X dX4_placeOf_0 ?_
  refine w_ist5_2 X dX4_placeOf_1 ?_
  refine w_sipush X dX4_placeOf_2 rfl ?_
  refine w_ist5_3 X dX4_placeOf_5 ?_
  have loop : ∀ (n : Nat) (p0 s0 B : Nat) (x4 : Option Value), ((p0 : Int) < mi 461 10 ∧ mi 466 p0 ≤ z) → (s0 = 256 ∨ s0 = 128 ∨ s0 = 64 ∨ s0 = 32 ∨ s0 = 16 ∨ s0 = 8 ∨ s0 = 4 ∨ s0 = 2 ∨ s0 = 1 ∨ s0 = 0) → (s0 = 0 ∧ B = 1 ∨ 1 ≤ s0 ∧ B = 2 * s0) → (∀ q : Nat, (q : Int) < mi 461 10 → p0 + B ≤ q → z < mi 466 q) → n = s0 → WSi p l e s m args below meth c9 1 (fun r9 mi9 mr9 => mi = mi9 ∧ mr = mr9 ∧ ∃ p0 : Nat, r9 = (p0 : Int) ∧ (p0 : Int) < mi 461 10 ∧ mi 466 p0 ≤ z ∧ ∀ q : Nat, (q : Int) < mi 461 10 → p0 < q → z < mi 466 q) G n0 5 mi mr 6 [some (.ref (n0 + 461)), some (.int (jI z)), some (.int (jI (p0 : Int))), some (.int (jI (s0 : Int))), x4] [] := by
    intro n
    induction n using Nat.strongRecOn with
    | ind n ih_loop =>
      intro p0 s0 B x4 hp hs hB hv hn
      refine w_iload_n X dX4_placeOf_6 rfl ?_
      refine w_if_le X 45 dX4_placeOf_7 (by decide) (fun c7_1 => ?_) (fun c7_1 => ?_)
      ·
        refine w_iload_n X dX4_placeOf_45 rfl ?_
        refine s_iret X hr dX4_placeOf_46 ?_
        have hs0 : s0 = 0 := by omega
        exact ⟨rfl, rfl, p0, rfl, hp.1, hp.2, fun q hq hq2 => hv q hq (by omega)⟩
      ·
        refine w_iload_n X dX4_placeOf_10 rfl ?_
        refine w_iload_n X dX4_placeOf_11 rfl ?_
        refine w_iadd X dX4_placeOf_12 ?_
        refine w_ist5_4 X dX4_placeOf_13 ?_
        refine w_iload X dX4_placeOf_15 rfl ?_
        refine w_aload_n X dX4_placeOf_17 rfl ?_
        refine w_get X (by decide) (σ_461 G n0 _ _) rfl gW_X4 10 (by decide) gF_X4_51 rfl dX4_placeOf_18 ?_
        refine w_icmp_ge X 38 dX4_placeOf_21 (by decide) (fun c21_2 => ?_) (fun c21_2 => ?_)
        ·
          refine w_iload_n X dX4_placeOf_38 rfl ?_
          refine w_iconst X dX4_placeOf_39 ?_
          refine w_idiv X dX4_placeOf_40 ?_
          refine w_ist5_3 X dX4_placeOf_41 ?_
          refine w_goto X 6 dX4_placeOf_42 (by decide) ?_
          have hs2 : s0 / 2 = 256 ∨ s0 / 2 = 128 ∨ s0 / 2 = 64 ∨ s0 / 2 = 32 ∨ s0 / 2 = 16 ∨ s0 / 2 = 8 ∨ s0 / 2 = 4 ∨ s0 / 2 = 2 ∨ s0 / 2 = 1 ∨ s0 / 2 = 0 := by omega
          have hB2 : s0 / 2 = 0 ∧ s0 = 1 ∨ 1 ≤ s0 / 2 ∧ s0 = 2 * (s0 / 2) := by omega
          exact ih_loop _ (by omega) p0 (s0 / 2) s0 _ hp hs2 hB2 (fun q hq hq2 => by
            by_cases q3 : (p0 : Int) + (s0 : Int) < mi 461 10
            · have q4 : z < mi 466 (p0 + s0) := by omega
              by_cases q5 : q = p0 + s0
              · subst q5; exact q4
              · have := hinc (p0 + s0) q (by omega) hq
                omega
            · omega) rfl
        ·
          have hcb := hcr (p0 + s0) (by omega)
          refine w_aload_n X dX4_placeOf_24 rfl ?_
          refine w_get X (by decide) (σ_461 G n0 _ _) rfl gW_X4 3 (by decide) gF_X4_21 rfl dX4_placeOf_25 ?_
          refine w_iload X dX4_placeOf_28 rfl ?_
          refine s_iald X (p0 + s0) (by decide) (fun _ => σ_f4 G n0 _ _ (by decide)) dX4_placeOf_30 ?_
          refine w_iload_n X dX4_placeOf_31 rfl ?_
          refine w_icmp_gt X 38 dX4_placeOf_32 (by decide) (fun c32_3 => ?_) (fun c32_3 => ?_)
          ·
            refine w_iload_n X dX4_placeOf_38 rfl ?_
            refine w_iconst X dX4_placeOf_39 ?_
            refine w_idiv X dX4_placeOf_40 ?_
            refine w_ist5_3 X dX4_placeOf_41 ?_
            refine w_goto X 6 dX4_placeOf_42 (by decide) ?_
            have hs2 : s0 / 2 = 256 ∨ s0 / 2 = 128 ∨ s0 / 2 = 64 ∨ s0 / 2 = 32 ∨ s0 / 2 = 16 ∨ s0 / 2 = 8 ∨ s0 / 2 = 4 ∨ s0 / 2 = 2 ∨ s0 / 2 = 1 ∨ s0 / 2 = 0 := by omega
            have hB2 : s0 / 2 = 0 ∧ s0 = 1 ∨ 1 ≤ s0 / 2 ∧ s0 = 2 * (s0 / 2) := by omega
            exact ih_loop _ (by omega) p0 (s0 / 2) s0 _ hp hs2 hB2 (fun q hq hq2 => by
              by_cases q3 : (p0 : Int) + (s0 : Int) < mi 461 10
              · have q4 : z < mi 466 (p0 + s0) := by omega
                by_cases q5 : q = p0 + s0
                · subst q5; exact q4
                · have := hinc (p0 + s0) q (by omega) hq
                  omega
              · omega) rfl
          ·
            refine w_iload X dX4_placeOf_35 rfl ?_
            refine w_ist5_2 X dX4_placeOf_37 ?_
            refine w_iload_n X dX4_placeOf_38 rfl ?_
            refine w_iconst X dX4_placeOf_39 ?_
            refine w_idiv X dX4_placeOf_40 ?_
            refine w_ist5_3 X dX4_placeOf_41 ?_
            refine w_goto X 6 dX4_placeOf_42 (by decide) ?_
            have hs2 : s0 / 2 = 256 ∨ s0 / 2 = 128 ∨ s0 / 2 = 64 ∨ s0 / 2 = 32 ∨ s0 / 2 = 16 ∨ s0 / 2 = 8 ∨ s0 / 2 = 4 ∨ s0 / 2 = 2 ∨ s0 / 2 = 1 ∨ s0 / 2 = 0 := by omega
            have hB2 : s0 / 2 = 0 ∧ s0 = 1 ∨ 1 ≤ s0 / 2 ∧ s0 = 2 * (s0 / 2) := by omega
            exact ih_loop _ (by omega) (p0 + s0) (s0 / 2) s0 _ ⟨by omega, by omega⟩ hs2 hB2 (fun q hq hq2 => hv q hq (by omega)) rfl
  exact loop _ 0 256 512 _ ⟨by omega, h00⟩ (by omega) (by omega) (fun q hq hq2 => by omega) rfl
