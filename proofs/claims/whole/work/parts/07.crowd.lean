def be5 (u v : Nat → Int) : Prop := sum5 u < sum5 v ∨ sum5 u = sum5 v ∧ (u 0 < v 0 ∨ u 0 = v 0 ∧ (u 1 < v 1 ∨ u 1 = v 1 ∧ (u 2 < v 2 ∨ u 2 = v 2 ∧ (u 3 < v 3 ∨ u 3 = v 3 ∧ u 4 < v 4))))
theorem dX3_of_0 : decode cX3_of 0 = .ok (.iload_n 1, 1) := by decide +kernel
theorem dX3_of_1 : decode cX3_of 1 = .ok (.ifCond .lt 21, 3) := by decide +kernel
theorem dX3_of_4 : decode cX3_of 4 = .ok (.iload_n 1, 1) := by decide +kernel
theorem dX3_of_5 : decode cX3_of 5 = .ok (.aload_n 0, 1) := by decide +kernel
theorem dX3_of_6 : decode cX3_of 6 = .ok (.getfield 9, 3) := by decide +kernel
theorem dX3_of_9 : decode cX3_of 9 = .ok (.arraylength, 1) := by decide +kernel
theorem dX3_of_10 : decode cX3_of 10 = .ok (.if_icmp .ge 12, 3) := by decide +kernel
theorem dX3_of_13 : decode cX3_of 13 = .ok (.aload_n 0, 1) := by decide +kernel
theorem dX3_of_14 : decode cX3_of 14 = .ok (.getfield 9, 3) := by decide +kernel
theorem dX3_of_17 : decode cX3_of 17 = .ok (.iload_n 1, 1) := by decide +kernel
theorem dX3_of_18 : decode cX3_of 18 = .ok (.iaload, 1) := by decide +kernel
theorem dX3_of_19 : decode cX3_of 19 = .ok (.goto 4, 3) := by decide +kernel
theorem dX3_of_22 : decode cX3_of 22 = .ok (.iconst 0, 1) := by decide +kernel
theorem dX3_of_23 : decode cX3_of 23 = .ok (.ireturn, 1) := by decide +kernel
theorem dX3_set_0 : decode cX3_set 0 = .ok (.iload_n 1, 1) := by decide +kernel
theorem dX3_set_1 : decode cX3_set 1 = .ok (.ifCond .lt 19, 3) := by decide +kernel
theorem dX3_set_4 : decode cX3_set 4 = .ok (.iload_n 1, 1) := by decide +kernel
theorem dX3_set_5 : decode cX3_set 5 = .ok (.aload_n 0, 1) := by decide +kernel
theorem dX3_set_6 : decode cX3_set 6 = .ok (.getfield 9, 3) := by decide +kernel
theorem dX3_set_9 : decode cX3_set 9 = .ok (.arraylength, 1) := by decide +kernel
theorem dX3_set_10 : decode cX3_set 10 = .ok (.if_icmp .ge 10, 3) := by decide +kernel
theorem dX3_set_13 : decode cX3_set 13 = .ok (.aload_n 0, 1) := by decide +kernel
theorem dX3_set_14 : decode cX3_set 14 = .ok (.getfield 9, 3) := by decide +kernel
theorem dX3_set_17 : decode cX3_set 17 = .ok (.iload_n 1, 1) := by decide +kernel
theorem dX3_set_18 : decode cX3_set 18 = .ok (.iload_n 2, 1) := by decide +kernel
theorem dX3_set_19 : decode cX3_set 19 = .ok (.iastore, 1) := by decide +kernel
theorem dX3_set_20 : decode cX3_set 20 = .ok (.return_, 1) := by decide +kernel
theorem dX3_add_0 : decode cX3_add 0 = .ok (.iload_n 1, 1) := by decide +kernel
theorem dX3_add_1 : decode cX3_add 1 = .ok (.ifCond .lt 22, 3) := by decide +kernel
theorem dX3_add_4 : decode cX3_add 4 = .ok (.iload_n 1, 1) := by decide +kernel
theorem dX3_add_5 : decode cX3_add 5 = .ok (.aload_n 0, 1) := by decide +kernel
theorem dX3_add_6 : decode cX3_add 6 = .ok (.getfield 9, 3) := by decide +kernel
theorem dX3_add_9 : decode cX3_add 9 = .ok (.arraylength, 1) := by decide +kernel
theorem dX3_add_10 : decode cX3_add 10 = .ok (.if_icmp .ge 13, 3) := by decide +kernel
theorem dX3_add_13 : decode cX3_add 13 = .ok (.aload_n 0, 1) := by decide +kernel
theorem dX3_add_14 : decode cX3_add 14 = .ok (.getfield 9, 3) := by decide +kernel
theorem dX3_add_17 : decode cX3_add 17 = .ok (.iload_n 1, 1) := by decide +kernel
theorem dX3_add_18 : decode cX3_add 18 = .ok (.dup2, 1) := by decide +kernel
theorem dX3_add_19 : decode cX3_add 19 = .ok (.iaload, 1) := by decide +kernel
theorem dX3_add_20 : decode cX3_add 20 = .ok (.iload_n 2, 1) := by decide +kernel
theorem dX3_add_21 : decode cX3_add 21 = .ok (.iadd, 1) := by decide +kernel
theorem dX3_add_22 : decode cX3_add 22 = .ok (.iastore, 1) := by decide +kernel
theorem dX3_add_23 : decode cX3_add 23 = .ok (.return_, 1) := by decide +kernel
theorem dX3_clear_0 : decode cX3_clear 0 = .ok (.iconst 0, 1) := by decide +kernel
theorem dX3_clear_1 : decode cX3_clear 1 = .ok (.istore_n 1, 1) := by decide +kernel
theorem dX3_clear_2 : decode cX3_clear 2 = .ok (.iload_n 1, 1) := by decide +kernel
theorem dX3_clear_3 : decode cX3_clear 3 = .ok (.aload_n 0, 1) := by decide +kernel
theorem dX3_clear_4 : decode cX3_clear 4 = .ok (.getfield 9, 3) := by decide +kernel
theorem dX3_clear_7 : decode cX3_clear 7 = .ok (.arraylength, 1) := by decide +kernel
theorem dX3_clear_8 : decode cX3_clear 8 = .ok (.if_icmp .ge 16, 3) := by decide +kernel
theorem dX3_clear_11 : decode cX3_clear 11 = .ok (.aload_n 0, 1) := by decide +kernel
theorem dX3_clear_12 : decode cX3_clear 12 = .ok (.getfield 9, 3) := by decide +kernel
theorem dX3_clear_15 : decode cX3_clear 15 = .ok (.iload_n 1, 1) := by decide +kernel
theorem dX3_clear_16 : decode cX3_clear 16 = .ok (.iconst 0, 1) := by decide +kernel
theorem dX3_clear_17 : decode cX3_clear 17 = .ok (.iastore, 1) := by decide +kernel
theorem dX3_clear_18 : decode cX3_clear 18 = .ok (.iinc 1 1, 3) := by decide +kernel
theorem dX3_clear_21 : decode cX3_clear 21 = .ok (.goto (-19), 3) := by decide +kernel
theorem dX3_clear_24 : decode cX3_clear 24 = .ok (.return_, 1) := by decide +kernel
theorem dX3_copy_0 : decode cX3_copy 0 = .ok (.iconst 0, 1) := by decide +kernel
theorem dX3_copy_1 : decode cX3_copy 1 = .ok (.istore_n 2, 1) := by decide +kernel
theorem dX3_copy_2 : decode cX3_copy 2 = .ok (.iload_n 2, 1) := by decide +kernel
theorem dX3_copy_3 : decode cX3_copy 3 = .ok (.aload_n 0, 1) := by decide +kernel
theorem dX3_copy_4 : decode cX3_copy 4 = .ok (.getfield 9, 3) := by decide +kernel
theorem dX3_copy_7 : decode cX3_copy 7 = .ok (.arraylength, 1) := by decide +kernel
theorem dX3_copy_8 : decode cX3_copy 8 = .ok (.if_icmp .ge 20, 3) := by decide +kernel
theorem dX3_copy_11 : decode cX3_copy 11 = .ok (.aload_n 0, 1) := by decide +kernel
theorem dX3_copy_12 : decode cX3_copy 12 = .ok (.getfield 9, 3) := by decide +kernel
theorem dX3_copy_15 : decode cX3_copy 15 = .ok (.iload_n 2, 1) := by decide +kernel
theorem dX3_copy_16 : decode cX3_copy 16 = .ok (.aload_n 1, 1) := by decide +kernel
theorem dX3_copy_17 : decode cX3_copy 17 = .ok (.iload_n 2, 1) := by decide +kernel
theorem dX3_copy_18 : decode cX3_copy 18 = .ok (.invokevirtual 15, 3) := by decide +kernel
theorem dX3_copy_21 : decode cX3_copy 21 = .ok (.iastore, 1) := by decide +kernel
theorem dX3_copy_22 : decode cX3_copy 22 = .ok (.iinc 2 1, 3) := by decide +kernel
theorem dX3_copy_25 : decode cX3_copy 25 = .ok (.goto (-23), 3) := by decide +kernel
theorem dX3_copy_28 : decode cX3_copy 28 = .ok (.return_, 1) := by decide +kernel
theorem dX3_read_0 : decode cX3_read 0 = .ok (.iload_n 1, 1) := by decide +kernel
theorem dX3_read_1 : decode cX3_read 1 = .ok (.istore_n 2, 1) := by decide +kernel
theorem dX3_read_2 : decode cX3_read 2 = .ok (.iconst 0, 1) := by decide +kernel
theorem dX3_read_3 : decode cX3_read 3 = .ok (.istore_n 3, 1) := by decide +kernel
theorem dX3_read_4 : decode cX3_read 4 = .ok (.iload_n 3, 1) := by decide +kernel
theorem dX3_read_5 : decode cX3_read 5 = .ok (.aload_n 0, 1) := by decide +kernel
theorem dX3_read_6 : decode cX3_read 6 = .ok (.getfield 9, 3) := by decide +kernel
theorem dX3_read_9 : decode cX3_read 9 = .ok (.arraylength, 1) := by decide +kernel
theorem dX3_read_10 : decode cX3_read 10 = .ok (.if_icmp .ge 24, 3) := by decide +kernel
theorem dX3_read_13 : decode cX3_read 13 = .ok (.aload_n 0, 1) := by decide +kernel
theorem dX3_read_14 : decode cX3_read 14 = .ok (.getfield 9, 3) := by decide +kernel
theorem dX3_read_17 : decode cX3_read 17 = .ok (.iload_n 3, 1) := by decide +kernel
theorem dX3_read_18 : decode cX3_read 18 = .ok (.iload_n 2, 1) := by decide +kernel
theorem dX3_read_19 : decode cX3_read 19 = .ok (.bipush 10, 2) := by decide +kernel
theorem dX3_read_21 : decode cX3_read 21 = .ok (.irem, 1) := by decide +kernel
theorem dX3_read_22 : decode cX3_read 22 = .ok (.iastore, 1) := by decide +kernel
theorem dX3_read_23 : decode cX3_read 23 = .ok (.iload_n 2, 1) := by decide +kernel
theorem dX3_read_24 : decode cX3_read 24 = .ok (.bipush 10, 2) := by decide +kernel
theorem dX3_read_26 : decode cX3_read 26 = .ok (.idiv, 1) := by decide +kernel
theorem dX3_read_27 : decode cX3_read 27 = .ok (.istore_n 2, 1) := by decide +kernel
theorem dX3_read_28 : decode cX3_read 28 = .ok (.iinc 3 1, 3) := by decide +kernel
theorem dX3_read_31 : decode cX3_read 31 = .ok (.goto (-27), 3) := by decide +kernel
theorem dX3_read_34 : decode cX3_read 34 = .ok (.return_, 1) := by decide +kernel
theorem dX3_sum_0 : decode cX3_sum 0 = .ok (.iconst 0, 1) := by decide +kernel
theorem dX3_sum_1 : decode cX3_sum 1 = .ok (.istore_n 1, 1) := by decide +kernel
theorem dX3_sum_2 : decode cX3_sum 2 = .ok (.iconst 0, 1) := by decide +kernel
theorem dX3_sum_3 : decode cX3_sum 3 = .ok (.istore_n 2, 1) := by decide +kernel
theorem dX3_sum_4 : decode cX3_sum 4 = .ok (.iload_n 2, 1) := by decide +kernel
theorem dX3_sum_5 : decode cX3_sum 5 = .ok (.aload_n 0, 1) := by decide +kernel
theorem dX3_sum_6 : decode cX3_sum 6 = .ok (.getfield 9, 3) := by decide +kernel
theorem dX3_sum_9 : decode cX3_sum 9 = .ok (.arraylength, 1) := by decide +kernel
theorem dX3_sum_10 : decode cX3_sum 10 = .ok (.if_icmp .ge 18, 3) := by decide +kernel
theorem dX3_sum_13 : decode cX3_sum 13 = .ok (.iload_n 1, 1) := by decide +kernel
theorem dX3_sum_14 : decode cX3_sum 14 = .ok (.aload_n 0, 1) := by decide +kernel
theorem dX3_sum_15 : decode cX3_sum 15 = .ok (.getfield 9, 3) := by decide +kernel
theorem dX3_sum_18 : decode cX3_sum 18 = .ok (.iload_n 2, 1) := by decide +kernel
theorem dX3_sum_19 : decode cX3_sum 19 = .ok (.iaload, 1) := by decide +kernel
theorem dX3_sum_20 : decode cX3_sum 20 = .ok (.iadd, 1) := by decide +kernel
theorem dX3_sum_21 : decode cX3_sum 21 = .ok (.istore_n 1, 1) := by decide +kernel
theorem dX3_sum_22 : decode cX3_sum 22 = .ok (.iinc 2 1, 3) := by decide +kernel
theorem dX3_sum_25 : decode cX3_sum 25 = .ok (.goto (-21), 3) := by decide +kernel
theorem dX3_sum_28 : decode cX3_sum 28 = .ok (.iload_n 1, 1) := by decide +kernel
theorem dX3_sum_29 : decode cX3_sum 29 = .ok (.ireturn, 1) := by decide +kernel
theorem dX3_isAtLeast_0 : decode cX3_isAtLeast 0 = .ok (.iconst 0, 1) := by decide +kernel
theorem dX3_isAtLeast_1 : decode cX3_isAtLeast 1 = .ok (.istore_n 2, 1) := by decide +kernel
theorem dX3_isAtLeast_2 : decode cX3_isAtLeast 2 = .ok (.iload_n 2, 1) := by decide +kernel
theorem dX3_isAtLeast_3 : decode cX3_isAtLeast 3 = .ok (.aload_n 0, 1) := by decide +kernel
theorem dX3_isAtLeast_4 : decode cX3_isAtLeast 4 = .ok (.getfield 9, 3) := by decide +kernel
theorem dX3_isAtLeast_7 : decode cX3_isAtLeast 7 = .ok (.arraylength, 1) := by decide +kernel
theorem dX3_isAtLeast_8 : decode cX3_isAtLeast 8 = .ok (.if_icmp .ge 25, 3) := by decide +kernel
theorem dX3_isAtLeast_11 : decode cX3_isAtLeast 11 = .ok (.aload_n 0, 1) := by decide +kernel
theorem dX3_isAtLeast_12 : decode cX3_isAtLeast 12 = .ok (.getfield 9, 3) := by decide +kernel
theorem dX3_isAtLeast_15 : decode cX3_isAtLeast 15 = .ok (.iload_n 2, 1) := by decide +kernel
theorem dX3_isAtLeast_16 : decode cX3_isAtLeast 16 = .ok (.iaload, 1) := by decide +kernel
theorem dX3_isAtLeast_17 : decode cX3_isAtLeast 17 = .ok (.aload_n 1, 1) := by decide +kernel
theorem dX3_isAtLeast_18 : decode cX3_isAtLeast 18 = .ok (.iload_n 2, 1) := by decide +kernel
theorem dX3_isAtLeast_19 : decode cX3_isAtLeast 19 = .ok (.invokevirtual 15, 3) := by decide +kernel
theorem dX3_isAtLeast_22 : decode cX3_isAtLeast 22 = .ok (.if_icmp .ge 5, 3) := by decide +kernel
theorem dX3_isAtLeast_25 : decode cX3_isAtLeast 25 = .ok (.iconst 0, 1) := by decide +kernel
theorem dX3_isAtLeast_26 : decode cX3_isAtLeast 26 = .ok (.ireturn, 1) := by decide +kernel
theorem dX3_isAtLeast_27 : decode cX3_isAtLeast 27 = .ok (.iinc 2 1, 3) := by decide +kernel
theorem dX3_isAtLeast_30 : decode cX3_isAtLeast 30 = .ok (.goto (-28), 3) := by decide +kernel
theorem dX3_isAtLeast_33 : decode cX3_isAtLeast 33 = .ok (.iconst 1, 1) := by decide +kernel
theorem dX3_isAtLeast_34 : decode cX3_isAtLeast 34 = .ok (.ireturn, 1) := by decide +kernel
theorem dX3_comesBefore_0 : decode cX3_comesBefore 0 = .ok (.iconst 0, 1) := by decide +kernel
theorem dX3_comesBefore_1 : decode cX3_comesBefore 1 = .ok (.istore_n 2, 1) := by decide +kernel
theorem dX3_comesBefore_2 : decode cX3_comesBefore 2 = .ok (.iconst 0, 1) := by decide +kernel
theorem dX3_comesBefore_3 : decode cX3_comesBefore 3 = .ok (.istore_n 3, 1) := by decide +kernel
theorem dX3_comesBefore_4 : decode cX3_comesBefore 4 = .ok (.iconst 0, 1) := by decide +kernel
theorem dX3_comesBefore_5 : decode cX3_comesBefore 5 = .ok (.istore 4, 2) := by decide +kernel
theorem dX3_comesBefore_7 : decode cX3_comesBefore 7 = .ok (.iload 4, 2) := by decide +kernel
theorem dX3_comesBefore_9 : decode cX3_comesBefore 9 = .ok (.aload_n 0, 1) := by decide +kernel
theorem dX3_comesBefore_10 : decode cX3_comesBefore 10 = .ok (.getfield 9, 3) := by decide +kernel
theorem dX3_comesBefore_13 : decode cX3_comesBefore 13 = .ok (.arraylength, 1) := by decide +kernel
theorem dX3_comesBefore_14 : decode cX3_comesBefore 14 = .ok (.if_icmp .ge 41, 3) := by decide +kernel
theorem dX3_comesBefore_17 : decode cX3_comesBefore 17 = .ok (.aload_n 0, 1) := by decide +kernel
theorem dX3_comesBefore_18 : decode cX3_comesBefore 18 = .ok (.getfield 9, 3) := by decide +kernel
theorem dX3_comesBefore_21 : decode cX3_comesBefore 21 = .ok (.iload 4, 2) := by decide +kernel
theorem dX3_comesBefore_23 : decode cX3_comesBefore 23 = .ok (.iaload, 1) := by decide +kernel
theorem dX3_comesBefore_24 : decode cX3_comesBefore 24 = .ok (.aload_n 1, 1) := by decide +kernel
theorem dX3_comesBefore_25 : decode cX3_comesBefore 25 = .ok (.iload 4, 2) := by decide +kernel
theorem dX3_comesBefore_27 : decode cX3_comesBefore 27 = .ok (.invokevirtual 15, 3) := by decide +kernel
theorem dX3_comesBefore_30 : decode cX3_comesBefore 30 = .ok (.isub, 1) := by decide +kernel
theorem dX3_comesBefore_31 : decode cX3_comesBefore 31 = .ok (.istore 5, 2) := by decide +kernel
theorem dX3_comesBefore_33 : decode cX3_comesBefore 33 = .ok (.iload_n 2, 1) := by decide +kernel
theorem dX3_comesBefore_34 : decode cX3_comesBefore 34 = .ok (.iload 5, 2) := by decide +kernel
theorem dX3_comesBefore_36 : decode cX3_comesBefore 36 = .ok (.iadd, 1) := by decide +kernel
theorem dX3_comesBefore_37 : decode cX3_comesBefore 37 = .ok (.istore_n 2, 1) := by decide +kernel
theorem dX3_comesBefore_38 : decode cX3_comesBefore 38 = .ok (.iload_n 3, 1) := by decide +kernel
theorem dX3_comesBefore_39 : decode cX3_comesBefore 39 = .ok (.ifCond .ne 8, 3) := by decide +kernel
theorem dX3_comesBefore_42 : decode cX3_comesBefore 42 = .ok (.iload 5, 2) := by decide +kernel
theorem dX3_comesBefore_44 : decode cX3_comesBefore 44 = .ok (.goto 4, 3) := by decide +kernel
theorem dX3_comesBefore_47 : decode cX3_comesBefore 47 = .ok (.iload_n 3, 1) := by decide +kernel
theorem dX3_comesBefore_48 : decode cX3_comesBefore 48 = .ok (.istore_n 3, 1) := by decide +kernel
theorem dX3_comesBefore_49 : decode cX3_comesBefore 49 = .ok (.iinc 4 1, 3) := by decide +kernel
theorem dX3_comesBefore_52 : decode cX3_comesBefore 52 = .ok (.goto (-45), 3) := by decide +kernel
theorem dX3_comesBefore_55 : decode cX3_comesBefore 55 = .ok (.iload_n 2, 1) := by decide +kernel
theorem dX3_comesBefore_56 : decode cX3_comesBefore 56 = .ok (.ifCond .lt 11, 3) := by decide +kernel
theorem dX3_comesBefore_59 : decode cX3_comesBefore 59 = .ok (.iload_n 2, 1) := by decide +kernel
theorem dX3_comesBefore_60 : decode cX3_comesBefore 60 = .ok (.ifCond .ne 11, 3) := by decide +kernel
theorem dX3_comesBefore_63 : decode cX3_comesBefore 63 = .ok (.iload_n 3, 1) := by decide +kernel
theorem dX3_comesBefore_64 : decode cX3_comesBefore 64 = .ok (.ifCond .ge 7, 3) := by decide +kernel
theorem dX3_comesBefore_67 : decode cX3_comesBefore 67 = .ok (.iconst 1, 1) := by decide +kernel
theorem dX3_comesBefore_68 : decode cX3_comesBefore 68 = .ok (.goto 4, 3) := by decide +kernel
theorem dX3_comesBefore_71 : decode cX3_comesBefore 71 = .ok (.iconst 0, 1) := by decide +kernel
theorem dX3_comesBefore_72 : decode cX3_comesBefore 72 = .ok (.ireturn, 1) := by decide +kernel
theorem hl_yX3_of : (yX3_of.cls ≠ "java/lang/invoke/MethodHandle" ∧ yX3_of.cls ≠ "java/lang/invoke/VarHandle") ∧ (parseMethodDescriptor yX3_of.desc).map (fun d => d.parameters.length) = some 1 := by decide +kernel
theorem hl_yX3_set : (yX3_set.cls ≠ "java/lang/invoke/MethodHandle" ∧ yX3_set.cls ≠ "java/lang/invoke/VarHandle") ∧ (parseMethodDescriptor yX3_set.desc).map (fun d => d.parameters.length) = some 2 := by decide +kernel
theorem hl_yX3_add : (yX3_add.cls ≠ "java/lang/invoke/MethodHandle" ∧ yX3_add.cls ≠ "java/lang/invoke/VarHandle") ∧ (parseMethodDescriptor yX3_add.desc).map (fun d => d.parameters.length) = some 2 := by decide +kernel
theorem hl_yX3_clear : (yX3_clear.cls ≠ "java/lang/invoke/MethodHandle" ∧ yX3_clear.cls ≠ "java/lang/invoke/VarHandle") ∧ (parseMethodDescriptor yX3_clear.desc).map (fun d => d.parameters.length) = some 0 := by decide +kernel
theorem hl_yX3_copy : (yX3_copy.cls ≠ "java/lang/invoke/MethodHandle" ∧ yX3_copy.cls ≠ "java/lang/invoke/VarHandle") ∧ (parseMethodDescriptor yX3_copy.desc).map (fun d => d.parameters.length) = some 1 := by decide +kernel
theorem hl_yX3_read : (yX3_read.cls ≠ "java/lang/invoke/MethodHandle" ∧ yX3_read.cls ≠ "java/lang/invoke/VarHandle") ∧ (parseMethodDescriptor yX3_read.desc).map (fun d => d.parameters.length) = some 1 := by decide +kernel
theorem hl_yX3_sum : (yX3_sum.cls ≠ "java/lang/invoke/MethodHandle" ∧ yX3_sum.cls ≠ "java/lang/invoke/VarHandle") ∧ (parseMethodDescriptor yX3_sum.desc).map (fun d => d.parameters.length) = some 0 := by decide +kernel
theorem hl_yX3_isAtLeast : (yX3_isAtLeast.cls ≠ "java/lang/invoke/MethodHandle" ∧ yX3_isAtLeast.cls ≠ "java/lang/invoke/VarHandle") ∧ (parseMethodDescriptor yX3_isAtLeast.desc).map (fun d => d.parameters.length) = some 1 := by decide +kernel
theorem hl_yX3_comesBefore : (yX3_comesBefore.cls ≠ "java/lang/invoke/MethodHandle" ∧ yX3_comesBefore.cls ≠ "java/lang/invoke/VarHandle") ∧ (parseMethodDescriptor yX3_comesBefore.desc).map (fun d => d.parameters.length) = some 1 := by decide +kernel
set_option maxRecDepth 20000 in
set_option maxHeartbeats 4000000 in
theorem c_X3_of {l : Launch} {G : Gt} {n0 : Nat} {mi : Nat → Nat → Int} {mr : Nat → Nat → Nat} {c : Nat} (hc : isCr c) {z : Int} (hz : rg z) : Ci l yX3_of cX3_of 2 .int 1 G n0 [.ref (n0 + c), .int (jI z)] mi mr (fun r9 mi9 mr9 => mi = mi9 ∧ mr = mr9 ∧ r9 = if 0 ≤ z ∧ z < 5 then mi (c + 1) z.toNat else 0) := by
  refine Ct_of (by decide +kernel) (by intro v hv; simp at hv; rcases hv with rfl | rfl <;> rfl) (Nat.le_of_ble_eq_true rfl) ?_
  intro p e s m args below meth c9 X hr hname
  show WW _ _ _ _ _ _ _ _ _ _ _ _ _ _ _ _ _ _ _ [some (.ref (n0 + c)), some (.int (jI z))] _
  refine w_iload_n X dX3_of_0 rfl ?_
  refine w_if_lt X 22 dX3_of_1 (by decide) (fun c1_1 => ?_) (fun c1_1 => ?_)
  ·
    refine w_iconst X dX3_of_22 ?_
    refine s_iret X hr dX3_of_23 ?_
    first | exact ⟨rfl, rfl, by rw [if_pos ⟨by omega, by omega⟩]⟩ | exact ⟨rfl, rfl, by rw [if_neg (by omega)]⟩
  ·
    refine w_iload_n X dX3_of_4 rfl ?_
    refine w_aload_n X dX3_of_5 rfl ?_
    refine w_get X (isCr_k hc) (σ_cr G n0 _ _ hc) rfl gW_X3 0 (by decide) gF_X3_9 rfl dX3_of_6 ?_
    refine w_alen X (t := 0) (isCr_k1 hc) (σ_in G n0 _ _ hc) rfl dX3_of_9 ?_
    refine s_alen (b := 5) rfl ?_
    refine w_icmp_ge X 22 dX3_of_10 (by decide) (fun c10_2 => ?_) (fun c10_2 => ?_)
    ·
      refine w_iconst X dX3_of_22 ?_
      refine s_iret X hr dX3_of_23 ?_
      first | exact ⟨rfl, rfl, by rw [if_pos ⟨by omega, by omega⟩]⟩ | exact ⟨rfl, rfl, by rw [if_neg (by omega)]⟩
    ·
      refine w_aload_n X dX3_of_13 rfl ?_
      refine w_get X (isCr_k hc) (σ_cr G n0 _ _ hc) rfl gW_X3 0 (by decide) gF_X3_9 rfl dX3_of_14 ?_
      refine w_iload_n X dX3_of_17 rfl ?_
      refine s_iald X _ (isCr_k1 hc) (fun _ => σ_in G n0 _ _ hc) dX3_of_18 ?_ (hj := rfl)
      refine w_goto X 23 dX3_of_19 (by decide) ?_
      refine s_iret X hr dX3_of_23 ?_
      first | exact ⟨rfl, rfl, by rw [if_pos ⟨by omega, by omega⟩]⟩ | exact ⟨rfl, rfl, by rw [if_neg (by omega)]⟩
set_option maxRecDepth 20000 in
set_option maxHeartbeats 4000000 in
theorem c_X3_set {l : Launch} {G : Gt} {n0 : Nat} {mi : Nat → Nat → Int} {mr : Nat → Nat → Nat} {c : Nat} (hc : isCr c) {z x : Int} (hz : rg z) : Cv l yX3_set cX3_set 3 1 G n0 [.ref (n0 + c), .int (jI z), .int (jI x)] mi mr (fun mi9 mr9 => (if 0 ≤ z ∧ z < 5 then up2 mi (c + 1) z.toNat x else mi) = mi9 ∧ mr = mr9) := by
  refine Ct_of (by decide +kernel) (by intro v hv; simp at hv; rcases hv with rfl | rfl | rfl <;> rfl) (Nat.le_of_ble_eq_true rfl) ?_
  intro p e s m args below meth c9 X hr hname
  show WW _ _ _ _ _ _ _ _ _ _ _ _ _ _ _ _ _ _ _ [some (.ref (n0 + c)), some (.int (jI z)), some (.int (jI x))] _
  refine w_iload_n X dX3_set_0 rfl ?_
  refine w_if_lt X 20 dX3_set_1 (by decide) (fun c1_1 => ?_) (fun c1_1 => ?_)
  ·
    refine s_vret X hr dX3_set_20 ?_
    first | exact ⟨by rw [if_pos ⟨by omega, by omega⟩], rfl⟩ | exact ⟨by rw [if_neg (by omega)], rfl⟩
  ·
    refine w_iload_n X dX3_set_4 rfl ?_
    refine w_aload_n X dX3_set_5 rfl ?_
    refine w_get X (isCr_k hc) (σ_cr G n0 _ _ hc) rfl gW_X3 0 (by decide) gF_X3_9 rfl dX3_set_6 ?_
    refine w_alen X (t := 0) (isCr_k1 hc) (σ_in G n0 _ _ hc) rfl dX3_set_9 ?_
    refine s_alen (b := 5) rfl ?_
    refine w_icmp_ge X 20 dX3_set_10 (by decide) (fun c10_2 => ?_) (fun c10_2 => ?_)
    ·
      refine s_vret X hr dX3_set_20 ?_
      first | exact ⟨by rw [if_pos ⟨by omega, by omega⟩], rfl⟩ | exact ⟨by rw [if_neg (by omega)], rfl⟩
    ·
      refine w_aload_n X dX3_set_13 rfl ?_
      refine w_get X (isCr_k hc) (σ_cr G n0 _ _ hc) rfl gW_X3 0 (by decide) gF_X3_9 rfl dX3_set_14 ?_
      refine w_iload_n X dX3_set_17 rfl ?_
      refine w_iload_n X dX3_set_18 rfl ?_
      refine s_iast X _ (isCr_k1 hc) (fun _ => σ_in G n0 _ _ hc) dX3_set_19 ?_ (hj := rfl)
      refine s_vret X hr dX3_set_20 ?_
      first | exact ⟨by rw [if_pos ⟨by omega, by omega⟩], rfl⟩ | exact ⟨by rw [if_neg (by omega)], rfl⟩
set_option maxRecDepth 20000 in
set_option maxHeartbeats 4000000 in
theorem c_X3_add {l : Launch} {G : Gt} {n0 : Nat} {mi : Nat → Nat → Int} {mr : Nat → Nat → Nat} {c : Nat} (hc : isCr c) {z x : Int} (hz : rg z) : Cv l yX3_add cX3_add 3 1 G n0 [.ref (n0 + c), .int (jI z), .int (jI x)] mi mr (fun mi9 mr9 => (if 0 ≤ z ∧ z < 5 then up2 mi (c + 1) z.toNat (mi (c + 1) z.toNat + x) else mi) = mi9 ∧ mr = mr9) := by
  refine Ct_of (by decide +kernel) (by intro v hv; simp at hv; rcases hv with rfl | rfl | rfl <;> rfl) (Nat.le_of_ble_eq_true rfl) ?_
  intro p e s m args below meth c9 X hr hname
  show WW _ _ _ _ _ _ _ _ _ _ _ _ _ _ _ _ _ _ _ [some (.ref (n0 + c)), some (.int (jI z)), some (.int (jI x))] _
  refine w_iload_n X dX3_add_0 rfl ?_
  refine w_if_lt X 23 dX3_add_1 (by decide) (fun c1_1 => ?_) (fun c1_1 => ?_)
  ·
    refine s_vret X hr dX3_add_23 ?_
    first | exact ⟨by rw [if_pos ⟨by omega, by omega⟩], rfl⟩ | exact ⟨by rw [if_neg (by omega)], rfl⟩
  ·
    refine w_iload_n X dX3_add_4 rfl ?_
    refine w_aload_n X dX3_add_5 rfl ?_
    refine w_get X (isCr_k hc) (σ_cr G n0 _ _ hc) rfl gW_X3 0 (by decide) gF_X3_9 rfl dX3_add_6 ?_
    refine w_alen X (t := 0) (isCr_k1 hc) (σ_in G n0 _ _ hc) rfl dX3_add_9 ?_
    refine s_alen (b := 5) rfl ?_
    refine w_icmp_ge X 23 dX3_add_10 (by decide) (fun c10_2 => ?_) (fun c10_2 => ?_)
    ·
      refine s_vret X hr dX3_add_23 ?_
      first | exact ⟨by rw [if_pos ⟨by omega, by omega⟩], rfl⟩ | exact ⟨by rw [if_neg (by omega)], rfl⟩
    ·
      refine w_aload_n X dX3_add_13 rfl ?_
      refine w_get X (isCr_k hc) (σ_cr G n0 _ _ hc) rfl gW_X3 0 (by decide) gF_X3_9 rfl dX3_add_14 ?_
      refine w_iload_n X dX3_add_17 rfl ?_
      refine w_dup2 X dX3_add_18 rfl rfl ?_
      refine s_iald X _ (isCr_k1 hc) (fun _ => σ_in G n0 _ _ hc) dX3_add_19 ?_ (hj := rfl)
      refine w_iload_n X dX3_add_20 rfl ?_
      refine w_iadd X dX3_add_21 ?_
      refine s_iast X _ (isCr_k1 hc) (fun _ => σ_in G n0 _ _ hc) dX3_add_22 ?_ (hj := rfl)
      refine s_vret X hr dX3_add_23 ?_
      first | exact ⟨by rw [if_pos ⟨by omega, by omega⟩], rfl⟩ | exact ⟨by rw [if_neg (by omega)], rfl⟩
set_option maxRecDepth 20000 in
set_option maxHeartbeats 4000000 in
theorem c_X3_clear {l : Launch} {G : Gt} {n0 : Nat} {mi : Nat → Nat → Int} {mr : Nat → Nat → Nat} {c : Nat} (hc : isCr c)  : Cv l yX3_clear cX3_clear 2 1 G n0 [.ref (n0 + c)] mi mr (fun mi9 mr9 => row5 mi (c + 1) (fun _ => 0) = mi9 ∧ mr = mr9) := by
  refine Ct_of (by decide +kernel) (by intro v hv; simp at hv; rcases hv with rfl <;> rfl) (Nat.le_of_ble_eq_true rfl) ?_
  intro p e s m args below meth c9 X hr hname
  show WW _ _ _ _ _ _ _ _ _ _ _ _ _ _ _ _ _ _ _ [some (.ref (n0 + c)), none] _
  refine w_iconst X dX3_clear_0 ?_
  refine w_ist2_1 X dX3_clear_1 ?_
  refine w_iload_n X dX3_clear_2 rfl ?_
  refine w_aload_n X dX3_clear_3 rfl ?_
  refine w_get X (isCr_k hc) (σ_cr G n0 _ _ hc) rfl gW_X3 0 (by decide) gF_X3_9 rfl dX3_clear_4 ?_
  refine w_alen X (t := 0) (isCr_k1 hc) (σ_in G n0 _ _ hc) rfl dX3_clear_7 ?_
  refine s_alen (b := 5) rfl ?_
  refine w_icmp_ge X 24 dX3_clear_8 (by decide) (fun h9 => absurd h9 (by decide)) (fun _ => ?_)
  refine w_aload_n X dX3_clear_11 rfl ?_
  refine w_get X (isCr_k hc) (σ_cr G n0 _ _ hc) rfl gW_X3 0 (by decide) gF_X3_9 rfl dX3_clear_12 ?_
  refine w_iload_n X dX3_clear_15 rfl ?_
  refine w_iconst X dX3_clear_16 ?_
  refine s_iast X (0) (isCr_k1 hc) (fun _ => σ_in G n0 _ _ hc) dX3_clear_17 ?_
  refine w_iinc2_1 X dX3_clear_18 ?_
  refine w_goto X 2 dX3_clear_21 (by decide) ?_
  refine w_iload_n X dX3_clear_2 rfl ?_
  refine w_aload_n X dX3_clear_3 rfl ?_
  refine w_get X (isCr_k hc) (σ_cr G n0 _ _ hc) rfl gW_X3 0 (by decide) gF_X3_9 rfl dX3_clear_4 ?_
  refine w_alen X (t := 0) (isCr_k1 hc) (σ_in G n0 _ _ hc) rfl dX3_clear_7 ?_
  refine s_alen (b := 5) rfl ?_
  refine w_icmp_ge X 24 dX3_clear_8 (by decide) (fun h9 => absurd h9 (by decide)) (fun _ => ?_)
  refine w_aload_n X dX3_clear_11 rfl ?_
  refine w_get X (isCr_k hc) (σ_cr G n0 _ _ hc) rfl gW_X3 0 (by decide) gF_X3_9 rfl dX3_clear_12 ?_
  refine w_iload_n X dX3_clear_15 rfl ?_
  refine w_iconst X dX3_clear_16 ?_
  refine s_iast X (1) (isCr_k1 hc) (fun _ => σ_in G n0 _ _ hc) dX3_clear_17 ?_
  refine w_iinc2_1 X dX3_clear_18 ?_
  refine w_goto X 2 dX3_clear_21 (by decide) ?_
  refine w_iload_n X dX3_clear_2 rfl ?_
  refine w_aload_n X dX3_clear_3 rfl ?_
  refine w_get X (isCr_k hc) (σ_cr G n0 _ _ hc) rfl gW_X3 0 (by decide) gF_X3_9 rfl dX3_clear_4 ?_
  refine w_alen X (t := 0) (isCr_k1 hc) (σ_in G n0 _ _ hc) rfl dX3_clear_7 ?_
  refine s_alen (b := 5) rfl ?_
  refine w_icmp_ge X 24 dX3_clear_8 (by decide) (fun h9 => absurd h9 (by decide)) (fun _ => ?_)
  refine w_aload_n X dX3_clear_11 rfl ?_
  refine w_get X (isCr_k hc) (σ_cr G n0 _ _ hc) rfl gW_X3 0 (by decide) gF_X3_9 rfl dX3_clear_12 ?_
  refine w_iload_n X dX3_clear_15 rfl ?_
  refine w_iconst X dX3_clear_16 ?_
  refine s_iast X (2) (isCr_k1 hc) (fun _ => σ_in G n0 _ _ hc) dX3_clear_17 ?_
  refine w_iinc2_1 X dX3_clear_18 ?_
  refine w_goto X 2 dX3_clear_21 (by decide) ?_
  refine w_iload_n X dX3_clear_2 rfl ?_
  refine w_aload_n X dX3_clear_3 rfl ?_
  refine w_get X (isCr_k hc) (σ_cr G n0 _ _ hc) rfl gW_X3 0 (by decide) gF_X3_9 rfl dX3_clear_4 ?_
  refine w_alen X (t := 0) (isCr_k1 hc) (σ_in G n0 _ _ hc) rfl dX3_clear_7 ?_
  refine s_alen (b := 5) rfl ?_
  refine w_icmp_ge X 24 dX3_clear_8 (by decide) (fun h9 => absurd h9 (by decide)) (fun _ => ?_)
  refine w_aload_n X dX3_clear_11 rfl ?_
  refine w_get X (isCr_k hc) (σ_cr G n0 _ _ hc) rfl gW_X3 0 (by decide) gF_X3_9 rfl dX3_clear_12 ?_
  refine w_iload_n X dX3_clear_15 rfl ?_
  refine w_iconst X dX3_clear_16 ?_
  refine s_iast X (3) (isCr_k1 hc) (fun _ => σ_in G n0 _ _ hc) dX3_clear_17 ?_
  refine w_iinc2_1 X dX3_clear_18 ?_
  refine w_goto X 2 dX3_clear_21 (by decide) ?_
  refine w_iload_n X dX3_clear_2 rfl ?_
  refine w_aload_n X dX3_clear_3 rfl ?_
  refine w_get X (isCr_k hc) (σ_cr G n0 _ _ hc) rfl gW_X3 0 (by decide) gF_X3_9 rfl dX3_clear_4 ?_
  refine w_alen X (t := 0) (isCr_k1 hc) (σ_in G n0 _ _ hc) rfl dX3_clear_7 ?_
  refine s_alen (b := 5) rfl ?_
  refine w_icmp_ge X 24 dX3_clear_8 (by decide) (fun h9 => absurd h9 (by decide)) (fun _ => ?_)
  refine w_aload_n X dX3_clear_11 rfl ?_
  refine w_get X (isCr_k hc) (σ_cr G n0 _ _ hc) rfl gW_X3 0 (by decide) gF_X3_9 rfl dX3_clear_12 ?_
  refine w_iload_n X dX3_clear_15 rfl ?_
  refine w_iconst X dX3_clear_16 ?_
  refine s_iast X (4) (isCr_k1 hc) (fun _ => σ_in G n0 _ _ hc) dX3_clear_17 ?_
  refine w_iinc2_1 X dX3_clear_18 ?_
  refine w_goto X 2 dX3_clear_21 (by decide) ?_
  refine w_iload_n X dX3_clear_2 rfl ?_
  refine w_aload_n X dX3_clear_3 rfl ?_
  refine w_get X (isCr_k hc) (σ_cr G n0 _ _ hc) rfl gW_X3 0 (by decide) gF_X3_9 rfl dX3_clear_4 ?_
  refine w_alen X (t := 0) (isCr_k1 hc) (σ_in G n0 _ _ hc) rfl dX3_clear_7 ?_
  refine s_alen (b := 5) rfl ?_
  refine w_icmp_ge X 24 dX3_clear_8 (by decide) (fun _ => ?_) (fun h9 => absurd (by decide) h9)
  refine s_vret X hr dX3_clear_24 ?_
  exact ⟨(row5_up mi (c + 1) (fun _ => 0)).symm, rfl⟩
set_option maxRecDepth 20000 in
set_option maxHeartbeats 4000000 in
theorem c_X3_sum {l : Launch} {G : Gt} {n0 : Nat} {mi : Nat → Nat → Int} {mr : Nat → Nat → Nat} {c : Nat} (hc : isCr c)  : Ci l yX3_sum cX3_sum 3 .int 1 G n0 [.ref (n0 + c)] mi mr (fun r9 mi9 mr9 => mi = mi9 ∧ mr = mr9 ∧ r9 = sum5 (mi (c + 1))) := by
  refine Ct_of (by decide +kernel) (by intro v hv; simp at hv; rcases hv with rfl <;> rfl) (Nat.le_of_ble_eq_true rfl) ?_
  intro p e s m args below meth c9 X hr hname
  show WW _ _ _ _ _ _ _ _ _ _ _ _ _ _ _ _ _ _ _ [some (.ref (n0 + c)), none, none] _
  refine w_iconst X dX3_sum_0 ?_
  refine w_ist3_1 X dX3_sum_1 ?_
  refine w_iconst X dX3_sum_2 ?_
  refine w_ist3_2 X dX3_sum_3 ?_
  refine w_iload_n X dX3_sum_4 rfl ?_
  refine w_aload_n X dX3_sum_5 rfl ?_
  refine w_get X (isCr_k hc) (σ_cr G n0 _ _ hc) rfl gW_X3 0 (by decide) gF_X3_9 rfl dX3_sum_6 ?_
  refine w_alen X (t := 0) (isCr_k1 hc) (σ_in G n0 _ _ hc) rfl dX3_sum_9 ?_
  refine s_alen (b := 5) rfl ?_
  refine w_icmp_ge X 28 dX3_sum_10 (by decide) (fun h9 => absurd h9 (by decide)) (fun _ => ?_)
  refine w_iload_n X dX3_sum_13 rfl ?_
  refine w_aload_n X dX3_sum_14 rfl ?_
  refine w_get X (isCr_k hc) (σ_cr G n0 _ _ hc) rfl gW_X3 0 (by decide) gF_X3_9 rfl dX3_sum_15 ?_
  refine w_iload_n X dX3_sum_18 rfl ?_
  refine s_iald X (0) (isCr_k1 hc) (fun _ => σ_in G n0 _ _ hc) dX3_sum_19 ?_
  refine w_iadd X dX3_sum_20 ?_
  refine w_ist3_1 X dX3_sum_21 ?_
  refine w_iinc3_2 X dX3_sum_22 ?_
  refine w_goto X 4 dX3_sum_25 (by decide) ?_
  refine w_iload_n X dX3_sum_4 rfl ?_
  refine w_aload_n X dX3_sum_5 rfl ?_
  refine w_get X (isCr_k hc) (σ_cr G n0 _ _ hc) rfl gW_X3 0 (by decide) gF_X3_9 rfl dX3_sum_6 ?_
  refine w_alen X (t := 0) (isCr_k1 hc) (σ_in G n0 _ _ hc) rfl dX3_sum_9 ?_
  refine s_alen (b := 5) rfl ?_
  refine w_icmp_ge X 28 dX3_sum_10 (by decide) (fun h9 => absurd h9 (by decide)) (fun _ => ?_)
  refine w_iload_n X dX3_sum_13 rfl ?_
  refine w_aload_n X dX3_sum_14 rfl ?_
  refine w_get X (isCr_k hc) (σ_cr G n0 _ _ hc) rfl gW_X3 0 (by decide) gF_X3_9 rfl dX3_sum_15 ?_
  refine w_iload_n X dX3_sum_18 rfl ?_
  refine s_iald X (1) (isCr_k1 hc) (fun _ => σ_in G n0 _ _ hc) dX3_sum_19 ?_
  refine w_iadd X dX3_sum_20 ?_
  refine w_ist3_1 X dX3_sum_21 ?_
  refine w_iinc3_2 X dX3_sum_22 ?_
  refine w_goto X 4 dX3_sum_25 (by decide) ?_
  refine w_iload_n X dX3_sum_4 rfl ?_
  refine w_aload_n X dX3_sum_5 rfl ?_
  refine w_get X (isCr_k hc) (σ_cr G n0 _ _ hc) rfl gW_X3 0 (by decide) gF_X3_9 rfl dX3_sum_6 ?_
  refine w_alen X (t := 0) (isCr_k1 hc) (σ_in G n0 _ _ hc) rfl dX3_sum_9 ?_
  refine s_alen (b := 5) rfl ?_
  refine w_icmp_ge X 28 dX3_sum_10 (by decide) (fun h9 => absurd h9 (by decide)) (fun _ => ?_)
  refine w_iload_n X dX3_sum_13 rfl ?_
  refine w_aload_n X dX3_sum_14 rfl ?_
  refine w_get X (isCr_k hc) (σ_cr G n0 _ _ hc) rfl gW_X3 0 (by decide) gF_X3_9 rfl dX3_sum_15 ?_
  refine w_iload_n X dX3_sum_18 rfl ?_
  refine s_iald X (2) (isCr_k1 hc) (fun _ => σ_in G n0 _ _ hc) dX3_sum_19 ?_
  refine w_iadd X dX3_sum_20 ?_
  refine w_ist3_1 X dX3_sum_21 ?_
  refine w_iinc3_2 X dX3_sum_22 ?_
  refine w_goto X 4 dX3_sum_25 (by decide) ?_
  refine w_iload_n X dX3_sum_4 rfl ?_
  refine w_aload_n X dX3_sum_5 rfl ?_
  refine w_get X (isCr_k hc) (σ_cr G n0 _ _ hc) rfl gW_X3 0 (by decide) gF_X3_9 rfl dX3_sum_6 ?_
  refine w_alen X (t := 0) (isCr_k1 hc) (σ_in G n0 _ _ hc) rfl dX3_sum_9 ?_
  refine s_alen (b := 5) rfl ?_
  refine w_icmp_ge X 28 dX3_sum_10 (by decide) (fun h9 => absurd h9 (by decide)) (fun _ => ?_)
  refine w_iload_n X dX3_sum_13 rfl ?_
  refine w_aload_n X dX3_sum_14 rfl ?_
  refine w_get X (isCr_k hc) (σ_cr G n0 _ _ hc) rfl gW_X3 0 (by decide) gF_X3_9 rfl dX3_sum_15 ?_
  refine w_iload_n X dX3_sum_18 rfl ?_
  refine s_iald X (3) (isCr_k1 hc) (fun _ => σ_in G n0 _ _ hc) dX3_sum_19 ?_
  refine w_iadd X dX3_sum_20 ?_
  refine w_ist3_1 X dX3_sum_21 ?_
  refine w_iinc3_2 X dX3_sum_22 ?_
  refine w_goto X 4 dX3_sum_25 (by decide) ?_
  refine w_iload_n X dX3_sum_4 rfl ?_
  refine w_aload_n X dX3_sum_5 rfl ?_
  refine w_get X (isCr_k hc) (σ_cr G n0 _ _ hc) rfl gW_X3 0 (by decide) gF_X3_9 rfl dX3_sum_6 ?_
  refine w_alen X (t := 0) (isCr_k1 hc) (σ_in G n0 _ _ hc) rfl dX3_sum_9 ?_
  refine s_alen (b := 5) rfl ?_
  refine w_icmp_ge X 28 dX3_sum_10 (by decide) (fun h9 => absurd h9 (by decide)) (fun _ => ?_)
  refine w_iload_n X dX3_sum_13 rfl ?_
  refine w_aload_n X dX3_sum_14 rfl ?_
  refine w_get X (isCr_k hc) (σ_cr G n0 _ _ hc) rfl gW_X3 0 (by decide) gF_X3_9 rfl dX3_sum_15 ?_
  refine w_iload_n X dX3_sum_18 rfl ?_
  refine s_iald X (4) (isCr_k1 hc) (fun _ => σ_in G n0 _ _ hc) dX3_sum_19 ?_
  refine w_iadd X dX3_sum_20 ?_
  refine w_ist3_1 X dX3_sum_21 ?_
  refine w_iinc3_2 X dX3_sum_22 ?_
  refine w_goto X 4 dX3_sum_25 (by decide) ?_
  refine w_iload_n X dX3_sum_4 rfl ?_
  refine w_aload_n X dX3_sum_5 rfl ?_
  refine w_get X (isCr_k hc) (σ_cr G n0 _ _ hc) rfl gW_X3 0 (by decide) gF_X3_9 rfl dX3_sum_6 ?_
  refine w_alen X (t := 0) (isCr_k1 hc) (σ_in G n0 _ _ hc) rfl dX3_sum_9 ?_
  refine s_alen (b := 5) rfl ?_
  refine w_icmp_ge X 28 dX3_sum_10 (by decide) (fun _ => ?_) (fun h9 => absurd (by decide) h9)
  refine w_iload_n X dX3_sum_28 rfl ?_
  refine s_iret X hr dX3_sum_29 ?_
  exact ⟨rfl, rfl, by unfold sum5; omega⟩
set_option maxRecDepth 20000 in
set_option maxHeartbeats 4000000 in
theorem c_X3_copy {l : Launch} {G : Gt} {n0 : Nat} {mi : Nat → Nat → Int} {mr : Nat → Nat → Nat} {c : Nat} (hc : isCr c) {d : Nat} (hd : isCr d) : Cv l yX3_copy cX3_copy 3 2 G n0 [.ref (n0 + c), .ref (n0 + d)] mi mr (fun mi9 mr9 => row5 mi (c + 1) (mi (d + 1)) = mi9 ∧ mr = mr9) := by
  refine Ct_of (by decide +kernel) (by intro v hv; simp at hv; rcases hv with rfl | rfl <;> rfl) (Nat.le_of_ble_eq_true rfl) ?_
  intro p e s m args below meth c9 X hr hname
  show WW _ _ _ _ _ _ _ _ _ _ _ _ _ _ _ _ _ _ _ [some (.ref (n0 + c)), some (.ref (n0 + d)), none] _
  refine w_iconst X dX3_copy_0 ?_
  refine w_ist3_2 X dX3_copy_1 ?_
  refine w_iload_n X dX3_copy_2 rfl ?_
  refine w_aload_n X dX3_copy_3 rfl ?_
  refine w_get X (isCr_k hc) (σ_cr G n0 _ _ hc) rfl gW_X3 0 (by decide) gF_X3_9 rfl dX3_copy_4 ?_
  refine w_alen X (t := 0) (isCr_k1 hc) (σ_in G n0 _ _ hc) rfl dX3_copy_7 ?_
  refine s_alen (b := 5) rfl ?_
  refine w_icmp_ge X 28 dX3_copy_8 (by decide) (fun h9 => absurd h9 (by decide)) (fun _ => ?_)
  refine w_aload_n X dX3_copy_11 rfl ?_
  refine w_get X (isCr_k hc) (σ_cr G n0 _ _ hc) rfl gW_X3 0 (by decide) gF_X3_9 rfl dX3_copy_12 ?_
  refine w_iload_n X dX3_copy_15 rfl ?_
  refine w_aload_n X dX3_copy_16 rfl ?_
  refine w_iload_n X dX3_copy_17 rfl ?_
  refine s_callVi X _ (c_X3_of (l := l) (G := G) (n0 := n0) hd (by first | assumption | (refine ⟨?_, ?_⟩ <;> omega))) gM_X3_15 gI_yX3_of gS_yX3_of gN_X3 gC_yX3_of (isCr_k hd) (σ_cr G n0 _ _ hd) rfl dX3_copy_18 hl_yX3_of ⟨Nat.le_of_ble_eq_true rfl, Nat.le_of_ble_eq_true rfl⟩ (Nat.le_of_ble_eq_true rfl) rfl (fun r1 mi1 mr1 h1 => ?_)
  obtain ⟨rfl, rfl, h1⟩ := h1
  simp [up2] at h1
  refine s_iast X (0) (isCr_k1 hc) (fun _ => σ_in G n0 _ _ hc) dX3_copy_21 ?_
  refine w_iinc3_2 X dX3_copy_22 ?_
  refine w_goto X 2 dX3_copy_25 (by decide) ?_
  refine w_iload_n X dX3_copy_2 rfl ?_
  refine w_aload_n X dX3_copy_3 rfl ?_
  refine w_get X (isCr_k hc) (σ_cr G n0 _ _ hc) rfl gW_X3 0 (by decide) gF_X3_9 rfl dX3_copy_4 ?_
  refine w_alen X (t := 0) (isCr_k1 hc) (σ_in G n0 _ _ hc) rfl dX3_copy_7 ?_
  refine s_alen (b := 5) rfl ?_
  refine w_icmp_ge X 28 dX3_copy_8 (by decide) (fun h9 => absurd h9 (by decide)) (fun _ => ?_)
  refine w_aload_n X dX3_copy_11 rfl ?_
  refine w_get X (isCr_k hc) (σ_cr G n0 _ _ hc) rfl gW_X3 0 (by decide) gF_X3_9 rfl dX3_copy_12 ?_
  refine w_iload_n X dX3_copy_15 rfl ?_
  refine w_aload_n X dX3_copy_16 rfl ?_
  refine w_iload_n X dX3_copy_17 rfl ?_
  refine s_callVi X _ (c_X3_of (l := l) (G := G) (n0 := n0) hd (by first | assumption | (refine ⟨?_, ?_⟩ <;> omega))) gM_X3_15 gI_yX3_of gS_yX3_of gN_X3 gC_yX3_of (isCr_k hd) (σ_cr G n0 _ _ hd) rfl dX3_copy_18 hl_yX3_of ⟨Nat.le_of_ble_eq_true rfl, Nat.le_of_ble_eq_true rfl⟩ (Nat.le_of_ble_eq_true rfl) rfl (fun r2 mi2 mr2 h2 => ?_)
  obtain ⟨rfl, rfl, h2⟩ := h2
  simp [up2] at h2
  refine s_iast X (1) (isCr_k1 hc) (fun _ => σ_in G n0 _ _ hc) dX3_copy_21 ?_
  refine w_iinc3_2 X dX3_copy_22 ?_
  refine w_goto X 2 dX3_copy_25 (by decide) ?_
  refine w_iload_n X dX3_copy_2 rfl ?_
  refine w_aload_n X dX3_copy_3 rfl ?_
  refine w_get X (isCr_k hc) (σ_cr G n0 _ _ hc) rfl gW_X3 0 (by decide) gF_X3_9 rfl dX3_copy_4 ?_
  refine w_alen X (t := 0) (isCr_k1 hc) (σ_in G n0 _ _ hc) rfl dX3_copy_7 ?_
  refine s_alen (b := 5) rfl ?_
  refine w_icmp_ge X 28 dX3_copy_8 (by decide) (fun h9 => absurd h9 (by decide)) (fun _ => ?_)
  refine w_aload_n X dX3_copy_11 rfl ?_
  refine w_get X (isCr_k hc) (σ_cr G n0 _ _ hc) rfl gW_X3 0 (by decide) gF_X3_9 rfl dX3_copy_12 ?_
  refine w_iload_n X dX3_copy_15 rfl ?_
  refine w_aload_n X dX3_copy_16 rfl ?_
  refine w_iload_n X dX3_copy_17 rfl ?_
  refine s_callVi X _ (c_X3_of (l := l) (G := G) (n0 := n0) hd (by first | assumption | (refine ⟨?_, ?_⟩ <;> omega))) gM_X3_15 gI_yX3_of gS_yX3_of gN_X3 gC_yX3_of (isCr_k hd) (σ_cr G n0 _ _ hd) rfl dX3_copy_18 hl_yX3_of ⟨Nat.le_of_ble_eq_true rfl, Nat.le_of_ble_eq_true rfl⟩ (Nat.le_of_ble_eq_true rfl) rfl (fun r3 mi3 mr3 h3 => ?_)
  obtain ⟨rfl, rfl, h3⟩ := h3
  simp [up2] at h3
  refine s_iast X (2) (isCr_k1 hc) (fun _ => σ_in G n0 _ _ hc) dX3_copy_21 ?_
  refine w_iinc3_2 X dX3_copy_22 ?_
  refine w_goto X 2 dX3_copy_25 (by decide) ?_
  refine w_iload_n X dX3_copy_2 rfl ?_
  refine w_aload_n X dX3_copy_3 rfl ?_
  refine w_get X (isCr_k hc) (σ_cr G n0 _ _ hc) rfl gW_X3 0 (by decide) gF_X3_9 rfl dX3_copy_4 ?_
  refine w_alen X (t := 0) (isCr_k1 hc) (σ_in G n0 _ _ hc) rfl dX3_copy_7 ?_
  refine s_alen (b := 5) rfl ?_
  refine w_icmp_ge X 28 dX3_copy_8 (by decide) (fun h9 => absurd h9 (by decide)) (fun _ => ?_)
  refine w_aload_n X dX3_copy_11 rfl ?_
  refine w_get X (isCr_k hc) (σ_cr G n0 _ _ hc) rfl gW_X3 0 (by decide) gF_X3_9 rfl dX3_copy_12 ?_
  refine w_iload_n X dX3_copy_15 rfl ?_
  refine w_aload_n X dX3_copy_16 rfl ?_
  refine w_iload_n X dX3_copy_17 rfl ?_
  refine s_callVi X _ (c_X3_of (l := l) (G := G) (n0 := n0) hd (by first | assumption | (refine ⟨?_, ?_⟩ <;> omega))) gM_X3_15 gI_yX3_of gS_yX3_of gN_X3 gC_yX3_of (isCr_k hd) (σ_cr G n0 _ _ hd) rfl dX3_copy_18 hl_yX3_of ⟨Nat.le_of_ble_eq_true rfl, Nat.le_of_ble_eq_true rfl⟩ (Nat.le_of_ble_eq_true rfl) rfl (fun r4 mi4 mr4 h4 => ?_)
  obtain ⟨rfl, rfl, h4⟩ := h4
  simp [up2] at h4
  refine s_iast X (3) (isCr_k1 hc) (fun _ => σ_in G n0 _ _ hc) dX3_copy_21 ?_
  refine w_iinc3_2 X dX3_copy_22 ?_
  refine w_goto X 2 dX3_copy_25 (by decide) ?_
  refine w_iload_n X dX3_copy_2 rfl ?_
  refine w_aload_n X dX3_copy_3 rfl ?_
  refine w_get X (isCr_k hc) (σ_cr G n0 _ _ hc) rfl gW_X3 0 (by decide) gF_X3_9 rfl dX3_copy_4 ?_
  refine w_alen X (t := 0) (isCr_k1 hc) (σ_in G n0 _ _ hc) rfl dX3_copy_7 ?_
  refine s_alen (b := 5) rfl ?_
  refine w_icmp_ge X 28 dX3_copy_8 (by decide) (fun h9 => absurd h9 (by decide)) (fun _ => ?_)
  refine w_aload_n X dX3_copy_11 rfl ?_
  refine w_get X (isCr_k hc) (σ_cr G n0 _ _ hc) rfl gW_X3 0 (by decide) gF_X3_9 rfl dX3_copy_12 ?_
  refine w_iload_n X dX3_copy_15 rfl ?_
  refine w_aload_n X dX3_copy_16 rfl ?_
  refine w_iload_n X dX3_copy_17 rfl ?_
  refine s_callVi X _ (c_X3_of (l := l) (G := G) (n0 := n0) hd (by first | assumption | (refine ⟨?_, ?_⟩ <;> omega))) gM_X3_15 gI_yX3_of gS_yX3_of gN_X3 gC_yX3_of (isCr_k hd) (σ_cr G n0 _ _ hd) rfl dX3_copy_18 hl_yX3_of ⟨Nat.le_of_ble_eq_true rfl, Nat.le_of_ble_eq_true rfl⟩ (Nat.le_of_ble_eq_true rfl) rfl (fun r5 mi5 mr5 h5 => ?_)
  obtain ⟨rfl, rfl, h5⟩ := h5
  simp [up2] at h5
  refine s_iast X (4) (isCr_k1 hc) (fun _ => σ_in G n0 _ _ hc) dX3_copy_21 ?_
  refine w_iinc3_2 X dX3_copy_22 ?_
  refine w_goto X 2 dX3_copy_25 (by decide) ?_
  refine w_iload_n X dX3_copy_2 rfl ?_
  refine w_aload_n X dX3_copy_3 rfl ?_
  refine w_get X (isCr_k hc) (σ_cr G n0 _ _ hc) rfl gW_X3 0 (by decide) gF_X3_9 rfl dX3_copy_4 ?_
  refine w_alen X (t := 0) (isCr_k1 hc) (σ_in G n0 _ _ hc) rfl dX3_copy_7 ?_
  refine s_alen (b := 5) rfl ?_
  refine w_icmp_ge X 28 dX3_copy_8 (by decide) (fun _ => ?_) (fun h9 => absurd (by decide) h9)
  refine s_vret X hr dX3_copy_28 ?_
  subst h1 h2 h3 h4 h5
  exact ⟨(row5_up mi (c + 1) (mi (d + 1))).symm, rfl⟩
set_option maxRecDepth 20000 in
set_option maxHeartbeats 4000000 in
theorem c_X3_isAtLeast {l : Launch} {G : Gt} {n0 : Nat} {mi : Nat → Nat → Int} {mr : Nat → Nat → Nat} {c : Nat} (hc : isCr c) {d : Nat} (hd : isCr d) (hb : CB mi c) (hbd : CB mi d) : Ci l yX3_isAtLeast cX3_isAtLeast 3 .boolean 2 G n0 [.ref (n0 + c), .ref (n0 + d)] mi mr (fun r9 mi9 mr9 => mi = mi9 ∧ mr = mr9 ∧ (r9 = 1 ∧ ge5 (mi (c + 1)) (mi (d + 1)) ∨ r9 = 0 ∧ ¬ ge5 (mi (c + 1)) (mi (d + 1)))) := by
  refine Ct_of (by decide +kernel) (by intro v hv; simp at hv; rcases hv with rfl | rfl <;> rfl) (Nat.le_of_ble_eq_true rfl) ?_
  intro p e s m args below meth c9 X hr hname
  show WW _ _ _ _ _ _ _ _ _ _ _ _ _ _ _ _ _ _ _ [some (.ref (n0 + c)), some (.ref (n0 + d)), none] _
  have hb0 := hb
  have hb1 := hbd
  unfold CB at hb0 hb1
  refine w_iconst X dX3_isAtLeast_0 ?_
  refine w_ist3_2 X dX3_isAtLeast_1 ?_
  refine w_iload_n X dX3_isAtLeast_2 rfl ?_
  refine w_aload_n X dX3_isAtLeast_3 rfl ?_
  refine w_get X (isCr_k hc) (σ_cr G n0 _ _ hc) rfl gW_X3 0 (by decide) gF_X3_9 rfl dX3_isAtLeast_4 ?_
  refine w_alen X (t := 0) (isCr_k1 hc) (σ_in G n0 _ _ hc) rfl dX3_isAtLeast_7 ?_
  refine s_alen (b := 5) rfl ?_
  refine w_icmp_ge X 33 dX3_isAtLeast_8 (by decide) (fun h9 => absurd h9 (by decide)) (fun _ => ?_)
  refine w_aload_n X dX3_isAtLeast_11 rfl ?_
  refine w_get X (isCr_k hc) (σ_cr G n0 _ _ hc) rfl gW_X3 0 (by decide) gF_X3_9 rfl dX3_isAtLeast_12 ?_
  refine w_iload_n X dX3_isAtLeast_15 rfl ?_
  refine s_iald X (0) (isCr_k1 hc) (fun _ => σ_in G n0 _ _ hc) dX3_isAtLeast_16 ?_
  refine w_aload_n X dX3_isAtLeast_17 rfl ?_
  refine w_iload_n X dX3_isAtLeast_18 rfl ?_
  refine s_callVi X _ (c_X3_of (l := l) (G := G) (n0 := n0) hd (by first | assumption | (refine ⟨?_, ?_⟩ <;> omega))) gM_X3_15 gI_yX3_of gS_yX3_of gN_X3 gC_yX3_of (isCr_k hd) (σ_cr G n0 _ _ hd) rfl dX3_isAtLeast_19 hl_yX3_of ⟨Nat.le_of_ble_eq_true rfl, Nat.le_of_ble_eq_true rfl⟩ (Nat.le_of_ble_eq_true rfl) rfl (fun r1 mi1 mr1 h1 => ?_)
  obtain ⟨rfl, rfl, h1⟩ := h1
  simp [up2] at h1
  refine w_icmp_ge X 27 dX3_isAtLeast_22 (by decide) (fun c22_1 => ?_) (fun c22_1 => ?_)
  ·
    refine w_iinc3_2 X dX3_isAtLeast_27 ?_
    refine w_goto X 2 dX3_isAtLeast_30 (by decide) ?_
    refine w_iload_n X dX3_isAtLeast_2 rfl ?_
    refine w_aload_n X dX3_isAtLeast_3 rfl ?_
    refine w_get X (isCr_k hc) (σ_cr G n0 _ _ hc) rfl gW_X3 0 (by decide) gF_X3_9 rfl dX3_isAtLeast_4 ?_
    refine w_alen X (t := 0) (isCr_k1 hc) (σ_in G n0 _ _ hc) rfl dX3_isAtLeast_7 ?_
    refine s_alen (b := 5) rfl ?_
    refine w_icmp_ge X 33 dX3_isAtLeast_8 (by decide) (fun h9 => absurd h9 (by decide)) (fun _ => ?_)
    refine w_aload_n X dX3_isAtLeast_11 rfl ?_
    refine w_get X (isCr_k hc) (σ_cr G n0 _ _ hc) rfl gW_X3 0 (by decide) gF_X3_9 rfl dX3_isAtLeast_12 ?_
    refine w_iload_n X dX3_isAtLeast_15 rfl ?_
    refine s_iald X (1) (isCr_k1 hc) (fun _ => σ_in G n0 _ _ hc) dX3_isAtLeast_16 ?_
    refine w_aload_n X dX3_isAtLeast_17 rfl ?_
    refine w_iload_n X dX3_isAtLeast_18 rfl ?_
    refine s_callVi X _ (c_X3_of (l := l) (G := G) (n0 := n0) hd (by first | assumption | (refine ⟨?_, ?_⟩ <;> omega))) gM_X3_15 gI_yX3_of gS_yX3_of gN_X3 gC_yX3_of (isCr_k hd) (σ_cr G n0 _ _ hd) rfl dX3_isAtLeast_19 hl_yX3_of ⟨Nat.le_of_ble_eq_true rfl, Nat.le_of_ble_eq_true rfl⟩ (Nat.le_of_ble_eq_true rfl) rfl (fun r2 mi2 mr2 h2 => ?_)
    obtain ⟨rfl, rfl, h2⟩ := h2
    simp [up2] at h2
    refine w_icmp_ge X 27 dX3_isAtLeast_22 (by decide) (fun c22_2 => ?_) (fun c22_2 => ?_)
    ·
      refine w_iinc3_2 X dX3_isAtLeast_27 ?_
      refine w_goto X 2 dX3_isAtLeast_30 (by decide) ?_
      refine w_iload_n X dX3_isAtLeast_2 rfl ?_
      refine w_aload_n X dX3_isAtLeast_3 rfl ?_
      refine w_get X (isCr_k hc) (σ_cr G n0 _ _ hc) rfl gW_X3 0 (by decide) gF_X3_9 rfl dX3_isAtLeast_4 ?_
      refine w_alen X (t := 0) (isCr_k1 hc) (σ_in G n0 _ _ hc) rfl dX3_isAtLeast_7 ?_
      refine s_alen (b := 5) rfl ?_
      refine w_icmp_ge X 33 dX3_isAtLeast_8 (by decide) (fun h9 => absurd h9 (by decide)) (fun _ => ?_)
      refine w_aload_n X dX3_isAtLeast_11 rfl ?_
      refine w_get X (isCr_k hc) (σ_cr G n0 _ _ hc) rfl gW_X3 0 (by decide) gF_X3_9 rfl dX3_isAtLeast_12 ?_
      refine w_iload_n X dX3_isAtLeast_15 rfl ?_
      refine s_iald X (2) (isCr_k1 hc) (fun _ => σ_in G n0 _ _ hc) dX3_isAtLeast_16 ?_
      refine w_aload_n X dX3_isAtLeast_17 rfl ?_
      refine w_iload_n X dX3_isAtLeast_18 rfl ?_
      refine s_callVi X _ (c_X3_of (l := l) (G := G) (n0 := n0) hd (by first | assumption | (refine ⟨?_, ?_⟩ <;> omega))) gM_X3_15 gI_yX3_of gS_yX3_of gN_X3 gC_yX3_of (isCr_k hd) (σ_cr G n0 _ _ hd) rfl dX3_isAtLeast_19 hl_yX3_of ⟨Nat.le_of_ble_eq_true rfl, Nat.le_of_ble_eq_true rfl⟩ (Nat.le_of_ble_eq_true rfl) rfl (fun r3 mi3 mr3 h3 => ?_)
      obtain ⟨rfl, rfl, h3⟩ := h3
      simp [up2] at h3
      refine w_icmp_ge X 27 dX3_isAtLeast_22 (by decide) (fun c22_3 => ?_) (fun c22_3 => ?_)
      ·
        refine w_iinc3_2 X dX3_isAtLeast_27 ?_
        refine w_goto X 2 dX3_isAtLeast_30 (by decide) ?_
        refine w_iload_n X dX3_isAtLeast_2 rfl ?_
        refine w_aload_n X dX3_isAtLeast_3 rfl ?_
        refine w_get X (isCr_k hc) (σ_cr G n0 _ _ hc) rfl gW_X3 0 (by decide) gF_X3_9 rfl dX3_isAtLeast_4 ?_
        refine w_alen X (t := 0) (isCr_k1 hc) (σ_in G n0 _ _ hc) rfl dX3_isAtLeast_7 ?_
        refine s_alen (b := 5) rfl ?_
        refine w_icmp_ge X 33 dX3_isAtLeast_8 (by decide) (fun h9 => absurd h9 (by decide)) (fun _ => ?_)
        refine w_aload_n X dX3_isAtLeast_11 rfl ?_
        refine w_get X (isCr_k hc) (σ_cr G n0 _ _ hc) rfl gW_X3 0 (by decide) gF_X3_9 rfl dX3_isAtLeast_12 ?_
        refine w_iload_n X dX3_isAtLeast_15 rfl ?_
        refine s_iald X (3) (isCr_k1 hc) (fun _ => σ_in G n0 _ _ hc) dX3_isAtLeast_16 ?_
        refine w_aload_n X dX3_isAtLeast_17 rfl ?_
        refine w_iload_n X dX3_isAtLeast_18 rfl ?_
        refine s_callVi X _ (c_X3_of (l := l) (G := G) (n0 := n0) hd (by first | assumption | (refine ⟨?_, ?_⟩ <;> omega))) gM_X3_15 gI_yX3_of gS_yX3_of gN_X3 gC_yX3_of (isCr_k hd) (σ_cr G n0 _ _ hd) rfl dX3_isAtLeast_19 hl_yX3_of ⟨Nat.le_of_ble_eq_true rfl, Nat.le_of_ble_eq_true rfl⟩ (Nat.le_of_ble_eq_true rfl) rfl (fun r4 mi4 mr4 h4 => ?_)
        obtain ⟨rfl, rfl, h4⟩ := h4
        simp [up2] at h4
        refine w_icmp_ge X 27 dX3_isAtLeast_22 (by decide) (fun c22_4 => ?_) (fun c22_4 => ?_)
        ·
          refine w_iinc3_2 X dX3_isAtLeast_27 ?_
          refine w_goto X 2 dX3_isAtLeast_30 (by decide) ?_
          refine w_iload_n X dX3_isAtLeast_2 rfl ?_
          refine w_aload_n X dX3_isAtLeast_3 rfl ?_
          refine w_get X (isCr_k hc) (σ_cr G n0 _ _ hc) rfl gW_X3 0 (by decide) gF_X3_9 rfl dX3_isAtLeast_4 ?_
          refine w_alen X (t := 0) (isCr_k1 hc) (σ_in G n0 _ _ hc) rfl dX3_isAtLeast_7 ?_
          refine s_alen (b := 5) rfl ?_
          refine w_icmp_ge X 33 dX3_isAtLeast_8 (by decide) (fun h9 => absurd h9 (by decide)) (fun _ => ?_)
          refine w_aload_n X dX3_isAtLeast_11 rfl ?_
          refine w_get X (isCr_k hc) (σ_cr G n0 _ _ hc) rfl gW_X3 0 (by decide) gF_X3_9 rfl dX3_isAtLeast_12 ?_
          refine w_iload_n X dX3_isAtLeast_15 rfl ?_
          refine s_iald X (4) (isCr_k1 hc) (fun _ => σ_in G n0 _ _ hc) dX3_isAtLeast_16 ?_
          refine w_aload_n X dX3_isAtLeast_17 rfl ?_
          refine w_iload_n X dX3_isAtLeast_18 rfl ?_
          refine s_callVi X _ (c_X3_of (l := l) (G := G) (n0 := n0) hd (by first | assumption | (refine ⟨?_, ?_⟩ <;> omega))) gM_X3_15 gI_yX3_of gS_yX3_of gN_X3 gC_yX3_of (isCr_k hd) (σ_cr G n0 _ _ hd) rfl dX3_isAtLeast_19 hl_yX3_of ⟨Nat.le_of_ble_eq_true rfl, Nat.le_of_ble_eq_true rfl⟩ (Nat.le_of_ble_eq_true rfl) rfl (fun r5 mi5 mr5 h5 => ?_)
          obtain ⟨rfl, rfl, h5⟩ := h5
          simp [up2] at h5
          refine w_icmp_ge X 27 dX3_isAtLeast_22 (by decide) (fun c22_5 => ?_) (fun c22_5 => ?_)
          ·
            refine w_iinc3_2 X dX3_isAtLeast_27 ?_
            refine w_goto X 2 dX3_isAtLeast_30 (by decide) ?_
            refine w_iload_n X dX3_isAtLeast_2 rfl ?_
            refine w_aload_n X dX3_isAtLeast_3 rfl ?_
            refine w_get X (isCr_k hc) (σ_cr G n0 _ _ hc) rfl gW_X3 0 (by decide) gF_X3_9 rfl dX3_isAtLeast_4 ?_
            refine w_alen X (t := 0) (isCr_k1 hc) (σ_in G n0 _ _ hc) rfl dX3_isAtLeast_7 ?_
            refine s_alen (b := 5) rfl ?_
            refine w_icmp_ge X 33 dX3_isAtLeast_8 (by decide) (fun _ => ?_) (fun h9 => absurd (by decide) h9)
            refine w_iconst X dX3_isAtLeast_33 ?_
            refine s_zret X hr dX3_isAtLeast_34 (by omega) ?_
            refine ⟨rfl, rfl, ?_⟩
            unfold ge5
            omega
          ·
            refine w_iconst X dX3_isAtLeast_25 ?_
            refine s_zret X hr dX3_isAtLeast_26 (by omega) ?_
            refine ⟨rfl, rfl, ?_⟩
            unfold ge5
            omega
        ·
          refine w_iconst X dX3_isAtLeast_25 ?_
          refine s_zret X hr dX3_isAtLeast_26 (by omega) ?_
          refine ⟨rfl, rfl, ?_⟩
          unfold ge5
          omega
      ·
        refine w_iconst X dX3_isAtLeast_25 ?_
        refine s_zret X hr dX3_isAtLeast_26 (by omega) ?_
        refine ⟨rfl, rfl, ?_⟩
        unfold ge5
        omega
    ·
      refine w_iconst X dX3_isAtLeast_25 ?_
      refine s_zret X hr dX3_isAtLeast_26 (by omega) ?_
      refine ⟨rfl, rfl, ?_⟩
      unfold ge5
      omega
  ·
    refine w_iconst X dX3_isAtLeast_25 ?_
    refine s_zret X hr dX3_isAtLeast_26 (by omega) ?_
    refine ⟨rfl, rfl, ?_⟩
    unfold ge5
    omega
set_option maxRecDepth 20000 in
set_option maxHeartbeats 4000000 in
theorem c_X3_comesBefore {l : Launch} {G : Gt} {n0 : Nat} {mi : Nat → Nat → Int} {mr : Nat → Nat → Nat} {c : Nat} (hc : isCr c) {d : Nat} (hd : isCr d) (hb : CB mi c) (hbd : CB mi d) : Ci l yX3_comesBefore cX3_comesBefore 6 .boolean 2 G n0 [.ref (n0 + c), .ref (n0 + d)] mi mr (fun r9 mi9 mr9 => mi = mi9 ∧ mr = mr9 ∧ (r9 = 1 ∧ be5 (mi (c + 1)) (mi (d + 1)) ∨ r9 = 0 ∧ ¬ be5 (mi (c + 1)) (mi (d + 1)))) := by
  refine Ct_of (by decide +kernel) (by intro v hv; simp at hv; rcases hv with rfl | rfl <;> rfl) (Nat.le_of_ble_eq_true rfl) ?_
  intro p e s m args below meth c9 X hr hname
  show WW _ _ _ _ _ _ _ _ _ _ _ _ _ _ _ _ _ _ _ [some (.ref (n0 + c)), some (.ref (n0 + d)), none, none, none, none] _
  have hb0 := hb
  have hb1 := hbd
  unfold CB at hb0 hb1
  refine w_iconst X dX3_comesBefore_0 ?_
  refine w_ist6_2 X dX3_comesBefore_1 ?_
  refine w_iconst X dX3_comesBefore_2 ?_
  refine w_ist6_3 X dX3_comesBefore_3 ?_
  refine w_iconst X dX3_comesBefore_4 ?_
  refine w_ist6_4 X dX3_comesBefore_5 ?_
  refine w_iload X dX3_comesBefore_7 rfl ?_
  refine w_aload_n X dX3_comesBefore_9 rfl ?_
  refine w_get X (isCr_k hc) (σ_cr G n0 _ _ hc) rfl gW_X3 0 (by decide) gF_X3_9 rfl dX3_comesBefore_10 ?_
  refine w_alen X (t := 0) (isCr_k1 hc) (σ_in G n0 _ _ hc) rfl dX3_comesBefore_13 ?_
  refine s_alen (b := 5) rfl ?_
  refine w_icmp_ge X 55 dX3_comesBefore_14 (by decide) (fun h9 => absurd h9 (by decide)) (fun _ => ?_)
  refine w_aload_n X dX3_comesBefore_17 rfl ?_
  refine w_get X (isCr_k hc) (σ_cr G n0 _ _ hc) rfl gW_X3 0 (by decide) gF_X3_9 rfl dX3_comesBefore_18 ?_
  refine w_iload X dX3_comesBefore_21 rfl ?_
  refine s_iald X (0) (isCr_k1 hc) (fun _ => σ_in G n0 _ _ hc) dX3_comesBefore_23 ?_
  refine w_aload_n X dX3_comesBefore_24 rfl ?_
  refine w_iload X dX3_comesBefore_25 rfl ?_
  refine s_callVi X _ (c_X3_of (l := l) (G := G) (n0 := n0) hd (by first | assumption | (refine ⟨?_, ?_⟩ <;> omega))) gM_X3_15 gI_yX3_of gS_yX3_of gN_X3 gC_yX3_of (isCr_k hd) (σ_cr G n0 _ _ hd) rfl dX3_comesBefore_27 hl_yX3_of ⟨Nat.le_of_ble_eq_true rfl, Nat.le_of_ble_eq_true rfl⟩ (Nat.le_of_ble_eq_true rfl) rfl (fun r1 mi1 mr1 h1 => ?_)
  obtain ⟨rfl, rfl, h1⟩ := h1
  simp [up2] at h1
  refine w_isub X dX3_comesBefore_30 ?_
  refine w_ist6_5 X dX3_comesBefore_31 ?_
  refine w_iload_n X dX3_comesBefore_33 rfl ?_
  refine w_iload X dX3_comesBefore_34 rfl ?_
  refine w_iadd X dX3_comesBefore_36 ?_
  refine w_ist6_2 X dX3_comesBefore_37 ?_
  refine w_iload_n X dX3_comesBefore_38 rfl ?_
  refine w_if_ne X 47 dX3_comesBefore_39 (by decide) (fun h9 => absurd (by decide) h9) (fun _ => ?_)
  refine w_iload X dX3_comesBefore_42 rfl ?_
  refine w_goto X 48 dX3_comesBefore_44 (by decide) ?_
  refine w_ist6_3 X dX3_comesBefore_48 ?_
  refine w_iinc6_4 X dX3_comesBefore_49 ?_
  refine w_goto X 7 dX3_comesBefore_52 (by decide) ?_
  refine w_iload X dX3_comesBefore_7 rfl ?_
  refine w_aload_n X dX3_comesBefore_9 rfl ?_
  refine w_get X (isCr_k hc) (σ_cr G n0 _ _ hc) rfl gW_X3 0 (by decide) gF_X3_9 rfl dX3_comesBefore_10 ?_
  refine w_alen X (t := 0) (isCr_k1 hc) (σ_in G n0 _ _ hc) rfl dX3_comesBefore_13 ?_
  refine s_alen (b := 5) rfl ?_
  refine w_icmp_ge X 55 dX3_comesBefore_14 (by decide) (fun h9 => absurd h9 (by decide)) (fun _ => ?_)
  refine w_aload_n X dX3_comesBefore_17 rfl ?_
  refine w_get X (isCr_k hc) (σ_cr G n0 _ _ hc) rfl gW_X3 0 (by decide) gF_X3_9 rfl dX3_comesBefore_18 ?_
  refine w_iload X dX3_comesBefore_21 rfl ?_
  refine s_iald X (1) (isCr_k1 hc) (fun _ => σ_in G n0 _ _ hc) dX3_comesBefore_23 ?_
  refine w_aload_n X dX3_comesBefore_24 rfl ?_
  refine w_iload X dX3_comesBefore_25 rfl ?_
  refine s_callVi X _ (c_X3_of (l := l) (G := G) (n0 := n0) hd (by first | assumption | (refine ⟨?_, ?_⟩ <;> omega))) gM_X3_15 gI_yX3_of gS_yX3_of gN_X3 gC_yX3_of (isCr_k hd) (σ_cr G n0 _ _ hd) rfl dX3_comesBefore_27 hl_yX3_of ⟨Nat.le_of_ble_eq_true rfl, Nat.le_of_ble_eq_true rfl⟩ (Nat.le_of_ble_eq_true rfl) rfl (fun r2 mi2 mr2 h2 => ?_)
  obtain ⟨rfl, rfl, h2⟩ := h2
  simp [up2] at h2
  refine w_isub X dX3_comesBefore_30 ?_
  refine w_ist6_5 X dX3_comesBefore_31 ?_
  refine w_iload_n X dX3_comesBefore_33 rfl ?_
  refine w_iload X dX3_comesBefore_34 rfl ?_
  refine w_iadd X dX3_comesBefore_36 ?_
  refine w_ist6_2 X dX3_comesBefore_37 ?_
  refine w_iload_n X dX3_comesBefore_38 rfl ?_
  refine w_if_ne X 47 dX3_comesBefore_39 (by decide) (fun c39_1 => ?_) (fun c39_1 => ?_)
  ·
    refine w_iload_n X dX3_comesBefore_47 rfl ?_
    refine w_ist6_3 X dX3_comesBefore_48 ?_
    refine w_iinc6_4 X dX3_comesBefore_49 ?_
    refine w_goto X 7 dX3_comesBefore_52 (by decide) ?_
    refine w_iload X dX3_comesBefore_7 rfl ?_
    refine w_aload_n X dX3_comesBefore_9 rfl ?_
    refine w_get X (isCr_k hc) (σ_cr G n0 _ _ hc) rfl gW_X3 0 (by decide) gF_X3_9 rfl dX3_comesBefore_10 ?_
    refine w_alen X (t := 0) (isCr_k1 hc) (σ_in G n0 _ _ hc) rfl dX3_comesBefore_13 ?_
    refine s_alen (b := 5) rfl ?_
    refine w_icmp_ge X 55 dX3_comesBefore_14 (by decide) (fun h9 => absurd h9 (by decide)) (fun _ => ?_)
    refine w_aload_n X dX3_comesBefore_17 rfl ?_
    refine w_get X (isCr_k hc) (σ_cr G n0 _ _ hc) rfl gW_X3 0 (by decide) gF_X3_9 rfl dX3_comesBefore_18 ?_
    refine w_iload X dX3_comesBefore_21 rfl ?_
    refine s_iald X (2) (isCr_k1 hc) (fun _ => σ_in G n0 _ _ hc) dX3_comesBefore_23 ?_
    refine w_aload_n X dX3_comesBefore_24 rfl ?_
    refine w_iload X dX3_comesBefore_25 rfl ?_
    refine s_callVi X _ (c_X3_of (l := l) (G := G) (n0 := n0) hd (by first | assumption | (refine ⟨?_, ?_⟩ <;> omega))) gM_X3_15 gI_yX3_of gS_yX3_of gN_X3 gC_yX3_of (isCr_k hd) (σ_cr G n0 _ _ hd) rfl dX3_comesBefore_27 hl_yX3_of ⟨Nat.le_of_ble_eq_true rfl, Nat.le_of_ble_eq_true rfl⟩ (Nat.le_of_ble_eq_true rfl) rfl (fun r3 mi3 mr3 h3 => ?_)
    obtain ⟨rfl, rfl, h3⟩ := h3
    simp [up2] at h3
    refine w_isub X dX3_comesBefore_30 ?_
    refine w_ist6_5 X dX3_comesBefore_31 ?_
    refine w_iload_n X dX3_comesBefore_33 rfl ?_
    refine w_iload X dX3_comesBefore_34 rfl ?_
    refine w_iadd X dX3_comesBefore_36 ?_
    refine w_ist6_2 X dX3_comesBefore_37 ?_
    refine w_iload_n X dX3_comesBefore_38 rfl ?_
    refine w_if_ne X 47 dX3_comesBefore_39 (by decide) (fun _ => ?_) (fun h9 => absurd h9 (by first | exact c39_1 | exact fun q9 => absurd c39_1 q9))
    refine w_iload_n X dX3_comesBefore_47 rfl ?_
    refine w_ist6_3 X dX3_comesBefore_48 ?_
    refine w_iinc6_4 X dX3_comesBefore_49 ?_
    refine w_goto X 7 dX3_comesBefore_52 (by decide) ?_
    refine w_iload X dX3_comesBefore_7 rfl ?_
    refine w_aload_n X dX3_comesBefore_9 rfl ?_
    refine w_get X (isCr_k hc) (σ_cr G n0 _ _ hc) rfl gW_X3 0 (by decide) gF_X3_9 rfl dX3_comesBefore_10 ?_
    refine w_alen X (t := 0) (isCr_k1 hc) (σ_in G n0 _ _ hc) rfl dX3_comesBefore_13 ?_
    refine s_alen (b := 5) rfl ?_
    refine w_icmp_ge X 55 dX3_comesBefore_14 (by decide) (fun h9 => absurd h9 (by decide)) (fun _ => ?_)
    refine w_aload_n X dX3_comesBefore_17 rfl ?_
    refine w_get X (isCr_k hc) (σ_cr G n0 _ _ hc) rfl gW_X3 0 (by decide) gF_X3_9 rfl dX3_comesBefore_18 ?_
    refine w_iload X dX3_comesBefore_21 rfl ?_
    refine s_iald X (3) (isCr_k1 hc) (fun _ => σ_in G n0 _ _ hc) dX3_comesBefore_23 ?_
    refine w_aload_n X dX3_comesBefore_24 rfl ?_
    refine w_iload X dX3_comesBefore_25 rfl ?_
    refine s_callVi X _ (c_X3_of (l := l) (G := G) (n0 := n0) hd (by first | assumption | (refine ⟨?_, ?_⟩ <;> omega))) gM_X3_15 gI_yX3_of gS_yX3_of gN_X3 gC_yX3_of (isCr_k hd) (σ_cr G n0 _ _ hd) rfl dX3_comesBefore_27 hl_yX3_of ⟨Nat.le_of_ble_eq_true rfl, Nat.le_of_ble_eq_true rfl⟩ (Nat.le_of_ble_eq_true rfl) rfl (fun r4 mi4 mr4 h4 => ?_)
    obtain ⟨rfl, rfl, h4⟩ := h4
    simp [up2] at h4
    refine w_isub X dX3_comesBefore_30 ?_
    refine w_ist6_5 X dX3_comesBefore_31 ?_
    refine w_iload_n X dX3_comesBefore_33 rfl ?_
    refine w_iload X dX3_comesBefore_34 rfl ?_
    refine w_iadd X dX3_comesBefore_36 ?_
    refine w_ist6_2 X dX3_comesBefore_37 ?_
    refine w_iload_n X dX3_comesBefore_38 rfl ?_
    refine w_if_ne X 47 dX3_comesBefore_39 (by decide) (fun _ => ?_) (fun h9 => absurd h9 (by first | exact c39_1 | exact fun q9 => absurd c39_1 q9))
    refine w_iload_n X dX3_comesBefore_47 rfl ?_
    refine w_ist6_3 X dX3_comesBefore_48 ?_
    refine w_iinc6_4 X dX3_comesBefore_49 ?_
    refine w_goto X 7 dX3_comesBefore_52 (by decide) ?_
    refine w_iload X dX3_comesBefore_7 rfl ?_
    refine w_aload_n X dX3_comesBefore_9 rfl ?_
    refine w_get X (isCr_k hc) (σ_cr G n0 _ _ hc) rfl gW_X3 0 (by decide) gF_X3_9 rfl dX3_comesBefore_10 ?_
    refine w_alen X (t := 0) (isCr_k1 hc) (σ_in G n0 _ _ hc) rfl dX3_comesBefore_13 ?_
    refine s_alen (b := 5) rfl ?_
    refine w_icmp_ge X 55 dX3_comesBefore_14 (by decide) (fun h9 => absurd h9 (by decide)) (fun _ => ?_)
    refine w_aload_n X dX3_comesBefore_17 rfl ?_
    refine w_get X (isCr_k hc) (σ_cr G n0 _ _ hc) rfl gW_X3 0 (by decide) gF_X3_9 rfl dX3_comesBefore_18 ?_
    refine w_iload X dX3_comesBefore_21 rfl ?_
    refine s_iald X (4) (isCr_k1 hc) (fun _ => σ_in G n0 _ _ hc) dX3_comesBefore_23 ?_
    refine w_aload_n X dX3_comesBefore_24 rfl ?_
    refine w_iload X dX3_comesBefore_25 rfl ?_
    refine s_callVi X _ (c_X3_of (l := l) (G := G) (n0 := n0) hd (by first | assumption | (refine ⟨?_, ?_⟩ <;> omega))) gM_X3_15 gI_yX3_of gS_yX3_of gN_X3 gC_yX3_of (isCr_k hd) (σ_cr G n0 _ _ hd) rfl dX3_comesBefore_27 hl_yX3_of ⟨Nat.le_of_ble_eq_true rfl, Nat.le_of_ble_eq_true rfl⟩ (Nat.le_of_ble_eq_true rfl) rfl (fun r5 mi5 mr5 h5 => ?_)
    obtain ⟨rfl, rfl, h5⟩ := h5
    simp [up2] at h5
    refine w_isub X dX3_comesBefore_30 ?_
    refine w_ist6_5 X dX3_comesBefore_31 ?_
    refine w_iload_n X dX3_comesBefore_33 rfl ?_
    refine w_iload X dX3_comesBefore_34 rfl ?_
    refine w_iadd X dX3_comesBefore_36 ?_
    refine w_ist6_2 X dX3_comesBefore_37 ?_
    refine w_iload_n X dX3_comesBefore_38 rfl ?_
    refine w_if_ne X 47 dX3_comesBefore_39 (by decide) (fun _ => ?_) (fun h9 => absurd h9 (by first | exact c39_1 | exact fun q9 => absurd c39_1 q9))
    refine w_iload_n X dX3_comesBefore_47 rfl ?_
    refine w_ist6_3 X dX3_comesBefore_48 ?_
    refine w_iinc6_4 X dX3_comesBefore_49 ?_
    refine w_goto X 7 dX3_comesBefore_52 (by decide) ?_
    refine w_iload X dX3_comesBefore_7 rfl ?_
    refine w_aload_n X dX3_comesBefore_9 rfl ?_
    refine w_get X (isCr_k hc) (σ_cr G n0 _ _ hc) rfl gW_X3 0 (by decide) gF_X3_9 rfl dX3_comesBefore_10 ?_
    refine w_alen X (t := 0) (isCr_k1 hc) (σ_in G n0 _ _ hc) rfl dX3_comesBefore_13 ?_
    refine s_alen (b := 5) rfl ?_
    refine w_icmp_ge X 55 dX3_comesBefore_14 (by decide) (fun _ => ?_) (fun h9 => absurd (by decide) h9)
    refine w_iload_n X dX3_comesBefore_55 rfl ?_
    refine w_if_lt X 67 dX3_comesBefore_56 (by decide) (fun c56_2 => ?_) (fun c56_2 => ?_)
    ·
      refine w_iconst X dX3_comesBefore_67 ?_
      refine w_goto X 72 dX3_comesBefore_68 (by decide) ?_
      refine s_zret X hr dX3_comesBefore_72 (by omega) ?_
      refine ⟨rfl, rfl, ?_⟩
      unfold be5 sum5
      omega
    ·
      refine w_iload_n X dX3_comesBefore_59 rfl ?_
      refine w_if_ne X 71 dX3_comesBefore_60 (by decide) (fun c60_3 => ?_) (fun c60_3 => ?_)
      ·
        refine w_iconst X dX3_comesBefore_71 ?_
        refine s_zret X hr dX3_comesBefore_72 (by omega) ?_
        refine ⟨rfl, rfl, ?_⟩
        unfold be5 sum5
        omega
      ·
        refine w_iload_n X dX3_comesBefore_63 rfl ?_
        refine w_if_ge X 71 dX3_comesBefore_64 (by decide) (fun c64_4 => ?_) (fun c64_4 => ?_)
        ·
          refine w_iconst X dX3_comesBefore_71 ?_
          refine s_zret X hr dX3_comesBefore_72 (by omega) ?_
          refine ⟨rfl, rfl, ?_⟩
          unfold be5 sum5
          omega
        ·
          refine w_iconst X dX3_comesBefore_67 ?_
          refine w_goto X 72 dX3_comesBefore_68 (by decide) ?_
          refine s_zret X hr dX3_comesBefore_72 (by omega) ?_
          refine ⟨rfl, rfl, ?_⟩
          unfold be5 sum5
          omega
  ·
    refine w_iload X dX3_comesBefore_42 rfl ?_
    refine w_goto X 48 dX3_comesBefore_44 (by decide) ?_
    refine w_ist6_3 X dX3_comesBefore_48 ?_
    refine w_iinc6_4 X dX3_comesBefore_49 ?_
    refine w_goto X 7 dX3_comesBefore_52 (by decide) ?_
    refine w_iload X dX3_comesBefore_7 rfl ?_
    refine w_aload_n X dX3_comesBefore_9 rfl ?_
    refine w_get X (isCr_k hc) (σ_cr G n0 _ _ hc) rfl gW_X3 0 (by decide) gF_X3_9 rfl dX3_comesBefore_10 ?_
    refine w_alen X (t := 0) (isCr_k1 hc) (σ_in G n0 _ _ hc) rfl dX3_comesBefore_13 ?_
    refine s_alen (b := 5) rfl ?_
    refine w_icmp_ge X 55 dX3_comesBefore_14 (by decide) (fun h9 => absurd h9 (by decide)) (fun _ => ?_)
    refine w_aload_n X dX3_comesBefore_17 rfl ?_
    refine w_get X (isCr_k hc) (σ_cr G n0 _ _ hc) rfl gW_X3 0 (by decide) gF_X3_9 rfl dX3_comesBefore_18 ?_
    refine w_iload X dX3_comesBefore_21 rfl ?_
    refine s_iald X (2) (isCr_k1 hc) (fun _ => σ_in G n0 _ _ hc) dX3_comesBefore_23 ?_
    refine w_aload_n X dX3_comesBefore_24 rfl ?_
    refine w_iload X dX3_comesBefore_25 rfl ?_
    refine s_callVi X _ (c_X3_of (l := l) (G := G) (n0 := n0) hd (by first | assumption | (refine ⟨?_, ?_⟩ <;> omega))) gM_X3_15 gI_yX3_of gS_yX3_of gN_X3 gC_yX3_of (isCr_k hd) (σ_cr G n0 _ _ hd) rfl dX3_comesBefore_27 hl_yX3_of ⟨Nat.le_of_ble_eq_true rfl, Nat.le_of_ble_eq_true rfl⟩ (Nat.le_of_ble_eq_true rfl) rfl (fun r3 mi3 mr3 h3 => ?_)
    obtain ⟨rfl, rfl, h3⟩ := h3
    simp [up2] at h3
    refine w_isub X dX3_comesBefore_30 ?_
    refine w_ist6_5 X dX3_comesBefore_31 ?_
    refine w_iload_n X dX3_comesBefore_33 rfl ?_
    refine w_iload X dX3_comesBefore_34 rfl ?_
    refine w_iadd X dX3_comesBefore_36 ?_
    refine w_ist6_2 X dX3_comesBefore_37 ?_
    refine w_iload_n X dX3_comesBefore_38 rfl ?_
    refine w_if_ne X 47 dX3_comesBefore_39 (by decide) (fun c39_5 => ?_) (fun c39_5 => ?_)
    ·
      refine w_iload_n X dX3_comesBefore_47 rfl ?_
      refine w_ist6_3 X dX3_comesBefore_48 ?_
      refine w_iinc6_4 X dX3_comesBefore_49 ?_
      refine w_goto X 7 dX3_comesBefore_52 (by decide) ?_
      refine w_iload X dX3_comesBefore_7 rfl ?_
      refine w_aload_n X dX3_comesBefore_9 rfl ?_
      refine w_get X (isCr_k hc) (σ_cr G n0 _ _ hc) rfl gW_X3 0 (by decide) gF_X3_9 rfl dX3_comesBefore_10 ?_
      refine w_alen X (t := 0) (isCr_k1 hc) (σ_in G n0 _ _ hc) rfl dX3_comesBefore_13 ?_
      refine s_alen (b := 5) rfl ?_
      refine w_icmp_ge X 55 dX3_comesBefore_14 (by decide) (fun h9 => absurd h9 (by decide)) (fun _ => ?_)
      refine w_aload_n X dX3_comesBefore_17 rfl ?_
      refine w_get X (isCr_k hc) (σ_cr G n0 _ _ hc) rfl gW_X3 0 (by decide) gF_X3_9 rfl dX3_comesBefore_18 ?_
      refine w_iload X dX3_comesBefore_21 rfl ?_
      refine s_iald X (3) (isCr_k1 hc) (fun _ => σ_in G n0 _ _ hc) dX3_comesBefore_23 ?_
      refine w_aload_n X dX3_comesBefore_24 rfl ?_
      refine w_iload X dX3_comesBefore_25 rfl ?_
      refine s_callVi X _ (c_X3_of (l := l) (G := G) (n0 := n0) hd (by first | assumption | (refine ⟨?_, ?_⟩ <;> omega))) gM_X3_15 gI_yX3_of gS_yX3_of gN_X3 gC_yX3_of (isCr_k hd) (σ_cr G n0 _ _ hd) rfl dX3_comesBefore_27 hl_yX3_of ⟨Nat.le_of_ble_eq_true rfl, Nat.le_of_ble_eq_true rfl⟩ (Nat.le_of_ble_eq_true rfl) rfl (fun r4 mi4 mr4 h4 => ?_)
      obtain ⟨rfl, rfl, h4⟩ := h4
      simp [up2] at h4
      refine w_isub X dX3_comesBefore_30 ?_
      refine w_ist6_5 X dX3_comesBefore_31 ?_
      refine w_iload_n X dX3_comesBefore_33 rfl ?_
      refine w_iload X dX3_comesBefore_34 rfl ?_
      refine w_iadd X dX3_comesBefore_36 ?_
      refine w_ist6_2 X dX3_comesBefore_37 ?_
      refine w_iload_n X dX3_comesBefore_38 rfl ?_
      refine w_if_ne X 47 dX3_comesBefore_39 (by decide) (fun _ => ?_) (fun h9 => absurd h9 (by first | exact c39_5 | exact fun q9 => absurd c39_5 q9))
      refine w_iload_n X dX3_comesBefore_47 rfl ?_
      refine w_ist6_3 X dX3_comesBefore_48 ?_
      refine w_iinc6_4 X dX3_comesBefore_49 ?_
      refine w_goto X 7 dX3_comesBefore_52 (by decide) ?_
      refine w_iload X dX3_comesBefore_7 rfl ?_
      refine w_aload_n X dX3_comesBefore_9 rfl ?_
      refine w_get X (isCr_k hc) (σ_cr G n0 _ _ hc) rfl gW_X3 0 (by decide) gF_X3_9 rfl dX3_comesBefore_10 ?_
      refine w_alen X (t := 0) (isCr_k1 hc) (σ_in G n0 _ _ hc) rfl dX3_comesBefore_13 ?_
      refine s_alen (b := 5) rfl ?_
      refine w_icmp_ge X 55 dX3_comesBefore_14 (by decide) (fun h9 => absurd h9 (by decide)) (fun _ => ?_)
      refine w_aload_n X dX3_comesBefore_17 rfl ?_
      refine w_get X (isCr_k hc) (σ_cr G n0 _ _ hc) rfl gW_X3 0 (by decide) gF_X3_9 rfl dX3_comesBefore_18 ?_
      refine w_iload X dX3_comesBefore_21 rfl ?_
      refine s_iald X (4) (isCr_k1 hc) (fun _ => σ_in G n0 _ _ hc) dX3_comesBefore_23 ?_
      refine w_aload_n X dX3_comesBefore_24 rfl ?_
      refine w_iload X dX3_comesBefore_25 rfl ?_
      refine s_callVi X _ (c_X3_of (l := l) (G := G) (n0 := n0) hd (by first | assumption | (refine ⟨?_, ?_⟩ <;> omega))) gM_X3_15 gI_yX3_of gS_yX3_of gN_X3 gC_yX3_of (isCr_k hd) (σ_cr G n0 _ _ hd) rfl dX3_comesBefore_27 hl_yX3_of ⟨Nat.le_of_ble_eq_true rfl, Nat.le_of_ble_eq_true rfl⟩ (Nat.le_of_ble_eq_true rfl) rfl (fun r5 mi5 mr5 h5 => ?_)
      obtain ⟨rfl, rfl, h5⟩ := h5
      simp [up2] at h5
      refine w_isub X dX3_comesBefore_30 ?_
      refine w_ist6_5 X dX3_comesBefore_31 ?_
      refine w_iload_n X dX3_comesBefore_33 rfl ?_
      refine w_iload X dX3_comesBefore_34 rfl ?_
      refine w_iadd X dX3_comesBefore_36 ?_
      refine w_ist6_2 X dX3_comesBefore_37 ?_
      refine w_iload_n X dX3_comesBefore_38 rfl ?_
      refine w_if_ne X 47 dX3_comesBefore_39 (by decide) (fun _ => ?_) (fun h9 => absurd h9 (by first | exact c39_5 | exact fun q9 => absurd c39_5 q9))
      refine w_iload_n X dX3_comesBefore_47 rfl ?_
      refine w_ist6_3 X dX3_comesBefore_48 ?_
      refine w_iinc6_4 X dX3_comesBefore_49 ?_
      refine w_goto X 7 dX3_comesBefore_52 (by decide) ?_
      refine w_iload X dX3_comesBefore_7 rfl ?_
      refine w_aload_n X dX3_comesBefore_9 rfl ?_
      refine w_get X (isCr_k hc) (σ_cr G n0 _ _ hc) rfl gW_X3 0 (by decide) gF_X3_9 rfl dX3_comesBefore_10 ?_
      refine w_alen X (t := 0) (isCr_k1 hc) (σ_in G n0 _ _ hc) rfl dX3_comesBefore_13 ?_
      refine s_alen (b := 5) rfl ?_
      refine w_icmp_ge X 55 dX3_comesBefore_14 (by decide) (fun _ => ?_) (fun h9 => absurd (by decide) h9)
      refine w_iload_n X dX3_comesBefore_55 rfl ?_
      refine w_if_lt X 67 dX3_comesBefore_56 (by decide) (fun c56_6 => ?_) (fun c56_6 => ?_)
      ·
        refine w_iconst X dX3_comesBefore_67 ?_
        refine w_goto X 72 dX3_comesBefore_68 (by decide) ?_
        refine s_zret X hr dX3_comesBefore_72 (by omega) ?_
        refine ⟨rfl, rfl, ?_⟩
        unfold be5 sum5
        omega
      ·
        refine w_iload_n X dX3_comesBefore_59 rfl ?_
        refine w_if_ne X 71 dX3_comesBefore_60 (by decide) (fun c60_7 => ?_) (fun c60_7 => ?_)
        ·
          refine w_iconst X dX3_comesBefore_71 ?_
          refine s_zret X hr dX3_comesBefore_72 (by omega) ?_
          refine ⟨rfl, rfl, ?_⟩
          unfold be5 sum5
          omega
        ·
          refine w_iload_n X dX3_comesBefore_63 rfl ?_
          refine w_if_ge X 71 dX3_comesBefore_64 (by decide) (fun c64_8 => ?_) (fun c64_8 => ?_)
          ·
            refine w_iconst X dX3_comesBefore_71 ?_
            refine s_zret X hr dX3_comesBefore_72 (by omega) ?_
            refine ⟨rfl, rfl, ?_⟩
            unfold be5 sum5
            omega
          ·
            refine w_iconst X dX3_comesBefore_67 ?_
            refine w_goto X 72 dX3_comesBefore_68 (by decide) ?_
            refine s_zret X hr dX3_comesBefore_72 (by omega) ?_
            refine ⟨rfl, rfl, ?_⟩
            unfold be5 sum5
            omega
    ·
      refine w_iload X dX3_comesBefore_42 rfl ?_
      refine w_goto X 48 dX3_comesBefore_44 (by decide) ?_
      refine w_ist6_3 X dX3_comesBefore_48 ?_
      refine w_iinc6_4 X dX3_comesBefore_49 ?_
      refine w_goto X 7 dX3_comesBefore_52 (by decide) ?_
      refine w_iload X dX3_comesBefore_7 rfl ?_
      refine w_aload_n X dX3_comesBefore_9 rfl ?_
      refine w_get X (isCr_k hc) (σ_cr G n0 _ _ hc) rfl gW_X3 0 (by decide) gF_X3_9 rfl dX3_comesBefore_10 ?_
      refine w_alen X (t := 0) (isCr_k1 hc) (σ_in G n0 _ _ hc) rfl dX3_comesBefore_13 ?_
      refine s_alen (b := 5) rfl ?_
      refine w_icmp_ge X 55 dX3_comesBefore_14 (by decide) (fun h9 => absurd h9 (by decide)) (fun _ => ?_)
      refine w_aload_n X dX3_comesBefore_17 rfl ?_
      refine w_get X (isCr_k hc) (σ_cr G n0 _ _ hc) rfl gW_X3 0 (by decide) gF_X3_9 rfl dX3_comesBefore_18 ?_
      refine w_iload X dX3_comesBefore_21 rfl ?_
      refine s_iald X (3) (isCr_k1 hc) (fun _ => σ_in G n0 _ _ hc) dX3_comesBefore_23 ?_
      refine w_aload_n X dX3_comesBefore_24 rfl ?_
      refine w_iload X dX3_comesBefore_25 rfl ?_
      refine s_callVi X _ (c_X3_of (l := l) (G := G) (n0 := n0) hd (by first | assumption | (refine ⟨?_, ?_⟩ <;> omega))) gM_X3_15 gI_yX3_of gS_yX3_of gN_X3 gC_yX3_of (isCr_k hd) (σ_cr G n0 _ _ hd) rfl dX3_comesBefore_27 hl_yX3_of ⟨Nat.le_of_ble_eq_true rfl, Nat.le_of_ble_eq_true rfl⟩ (Nat.le_of_ble_eq_true rfl) rfl (fun r4 mi4 mr4 h4 => ?_)
      obtain ⟨rfl, rfl, h4⟩ := h4
      simp [up2] at h4
      refine w_isub X dX3_comesBefore_30 ?_
      refine w_ist6_5 X dX3_comesBefore_31 ?_
      refine w_iload_n X dX3_comesBefore_33 rfl ?_
      refine w_iload X dX3_comesBefore_34 rfl ?_
      refine w_iadd X dX3_comesBefore_36 ?_
      refine w_ist6_2 X dX3_comesBefore_37 ?_
      refine w_iload_n X dX3_comesBefore_38 rfl ?_
      refine w_if_ne X 47 dX3_comesBefore_39 (by decide) (fun c39_9 => ?_) (fun c39_9 => ?_)
      ·
        refine w_iload_n X dX3_comesBefore_47 rfl ?_
        refine w_ist6_3 X dX3_comesBefore_48 ?_
        refine w_iinc6_4 X dX3_comesBefore_49 ?_
        refine w_goto X 7 dX3_comesBefore_52 (by decide) ?_
        refine w_iload X dX3_comesBefore_7 rfl ?_
        refine w_aload_n X dX3_comesBefore_9 rfl ?_
        refine w_get X (isCr_k hc) (σ_cr G n0 _ _ hc) rfl gW_X3 0 (by decide) gF_X3_9 rfl dX3_comesBefore_10 ?_
        refine w_alen X (t := 0) (isCr_k1 hc) (σ_in G n0 _ _ hc) rfl dX3_comesBefore_13 ?_
        refine s_alen (b := 5) rfl ?_
        refine w_icmp_ge X 55 dX3_comesBefore_14 (by decide) (fun h9 => absurd h9 (by decide)) (fun _ => ?_)
        refine w_aload_n X dX3_comesBefore_17 rfl ?_
        refine w_get X (isCr_k hc) (σ_cr G n0 _ _ hc) rfl gW_X3 0 (by decide) gF_X3_9 rfl dX3_comesBefore_18 ?_
        refine w_iload X dX3_comesBefore_21 rfl ?_
        refine s_iald X (4) (isCr_k1 hc) (fun _ => σ_in G n0 _ _ hc) dX3_comesBefore_23 ?_
        refine w_aload_n X dX3_comesBefore_24 rfl ?_
        refine w_iload X dX3_comesBefore_25 rfl ?_
        refine s_callVi X _ (c_X3_of (l := l) (G := G) (n0 := n0) hd (by first | assumption | (refine ⟨?_, ?_⟩ <;> omega))) gM_X3_15 gI_yX3_of gS_yX3_of gN_X3 gC_yX3_of (isCr_k hd) (σ_cr G n0 _ _ hd) rfl dX3_comesBefore_27 hl_yX3_of ⟨Nat.le_of_ble_eq_true rfl, Nat.le_of_ble_eq_true rfl⟩ (Nat.le_of_ble_eq_true rfl) rfl (fun r5 mi5 mr5 h5 => ?_)
        obtain ⟨rfl, rfl, h5⟩ := h5
        simp [up2] at h5
        refine w_isub X dX3_comesBefore_30 ?_
        refine w_ist6_5 X dX3_comesBefore_31 ?_
        refine w_iload_n X dX3_comesBefore_33 rfl ?_
        refine w_iload X dX3_comesBefore_34 rfl ?_
        refine w_iadd X dX3_comesBefore_36 ?_
        refine w_ist6_2 X dX3_comesBefore_37 ?_
        refine w_iload_n X dX3_comesBefore_38 rfl ?_
        refine w_if_ne X 47 dX3_comesBefore_39 (by decide) (fun _ => ?_) (fun h9 => absurd h9 (by first | exact c39_9 | exact fun q9 => absurd c39_9 q9))
        refine w_iload_n X dX3_comesBefore_47 rfl ?_
        refine w_ist6_3 X dX3_comesBefore_48 ?_
        refine w_iinc6_4 X dX3_comesBefore_49 ?_
        refine w_goto X 7 dX3_comesBefore_52 (by decide) ?_
        refine w_iload X dX3_comesBefore_7 rfl ?_
        refine w_aload_n X dX3_comesBefore_9 rfl ?_
        refine w_get X (isCr_k hc) (σ_cr G n0 _ _ hc) rfl gW_X3 0 (by decide) gF_X3_9 rfl dX3_comesBefore_10 ?_
        refine w_alen X (t := 0) (isCr_k1 hc) (σ_in G n0 _ _ hc) rfl dX3_comesBefore_13 ?_
        refine s_alen (b := 5) rfl ?_
        refine w_icmp_ge X 55 dX3_comesBefore_14 (by decide) (fun _ => ?_) (fun h9 => absurd (by decide) h9)
        refine w_iload_n X dX3_comesBefore_55 rfl ?_
        refine w_if_lt X 67 dX3_comesBefore_56 (by decide) (fun c56_10 => ?_) (fun c56_10 => ?_)
        ·
          refine w_iconst X dX3_comesBefore_67 ?_
          refine w_goto X 72 dX3_comesBefore_68 (by decide) ?_
          refine s_zret X hr dX3_comesBefore_72 (by omega) ?_
          refine ⟨rfl, rfl, ?_⟩
          unfold be5 sum5
          omega
        ·
          refine w_iload_n X dX3_comesBefore_59 rfl ?_
          refine w_if_ne X 71 dX3_comesBefore_60 (by decide) (fun c60_11 => ?_) (fun c60_11 => ?_)
          ·
            refine w_iconst X dX3_comesBefore_71 ?_
            refine s_zret X hr dX3_comesBefore_72 (by omega) ?_
            refine ⟨rfl, rfl, ?_⟩
            unfold be5 sum5
            omega
          ·
            refine w_iload_n X dX3_comesBefore_63 rfl ?_
            refine w_if_ge X 71 dX3_comesBefore_64 (by decide) (fun c64_12 => ?_) (fun c64_12 => ?_)
            ·
              refine w_iconst X dX3_comesBefore_71 ?_
              refine s_zret X hr dX3_comesBefore_72 (by omega) ?_
              refine ⟨rfl, rfl, ?_⟩
              unfold be5 sum5
              omega
            ·
              refine w_iconst X dX3_comesBefore_67 ?_
              refine w_goto X 72 dX3_comesBefore_68 (by decide) ?_
              refine s_zret X hr dX3_comesBefore_72 (by omega) ?_
              refine ⟨rfl, rfl, ?_⟩
              unfold be5 sum5
              omega
      ·
        refine w_iload X dX3_comesBefore_42 rfl ?_
        refine w_goto X 48 dX3_comesBefore_44 (by decide) ?_
        refine w_ist6_3 X dX3_comesBefore_48 ?_
        refine w_iinc6_4 X dX3_comesBefore_49 ?_
        refine w_goto X 7 dX3_comesBefore_52 (by decide) ?_
        refine w_iload X dX3_comesBefore_7 rfl ?_
        refine w_aload_n X dX3_comesBefore_9 rfl ?_
        refine w_get X (isCr_k hc) (σ_cr G n0 _ _ hc) rfl gW_X3 0 (by decide) gF_X3_9 rfl dX3_comesBefore_10 ?_
        refine w_alen X (t := 0) (isCr_k1 hc) (σ_in G n0 _ _ hc) rfl dX3_comesBefore_13 ?_
        refine s_alen (b := 5) rfl ?_
        refine w_icmp_ge X 55 dX3_comesBefore_14 (by decide) (fun h9 => absurd h9 (by decide)) (fun _ => ?_)
        refine w_aload_n X dX3_comesBefore_17 rfl ?_
        refine w_get X (isCr_k hc) (σ_cr G n0 _ _ hc) rfl gW_X3 0 (by decide) gF_X3_9 rfl dX3_comesBefore_18 ?_
        refine w_iload X dX3_comesBefore_21 rfl ?_
        refine s_iald X (4) (isCr_k1 hc) (fun _ => σ_in G n0 _ _ hc) dX3_comesBefore_23 ?_
        refine w_aload_n X dX3_comesBefore_24 rfl ?_
        refine w_iload X dX3_comesBefore_25 rfl ?_
        refine s_callVi X _ (c_X3_of (l := l) (G := G) (n0 := n0) hd (by first | assumption | (refine ⟨?_, ?_⟩ <;> omega))) gM_X3_15 gI_yX3_of gS_yX3_of gN_X3 gC_yX3_of (isCr_k hd) (σ_cr G n0 _ _ hd) rfl dX3_comesBefore_27 hl_yX3_of ⟨Nat.le_of_ble_eq_true rfl, Nat.le_of_ble_eq_true rfl⟩ (Nat.le_of_ble_eq_true rfl) rfl (fun r5 mi5 mr5 h5 => ?_)
        obtain ⟨rfl, rfl, h5⟩ := h5
        simp [up2] at h5
        refine w_isub X dX3_comesBefore_30 ?_
        refine w_ist6_5 X dX3_comesBefore_31 ?_
        refine w_iload_n X dX3_comesBefore_33 rfl ?_
        refine w_iload X dX3_comesBefore_34 rfl ?_
        refine w_iadd X dX3_comesBefore_36 ?_
        refine w_ist6_2 X dX3_comesBefore_37 ?_
        refine w_iload_n X dX3_comesBefore_38 rfl ?_
        refine w_if_ne X 47 dX3_comesBefore_39 (by decide) (fun c39_13 => ?_) (fun c39_13 => ?_)
        ·
          refine w_iload_n X dX3_comesBefore_47 rfl ?_
          refine w_ist6_3 X dX3_comesBefore_48 ?_
          refine w_iinc6_4 X dX3_comesBefore_49 ?_
          refine w_goto X 7 dX3_comesBefore_52 (by decide) ?_
          refine w_iload X dX3_comesBefore_7 rfl ?_
          refine w_aload_n X dX3_comesBefore_9 rfl ?_
          refine w_get X (isCr_k hc) (σ_cr G n0 _ _ hc) rfl gW_X3 0 (by decide) gF_X3_9 rfl dX3_comesBefore_10 ?_
          refine w_alen X (t := 0) (isCr_k1 hc) (σ_in G n0 _ _ hc) rfl dX3_comesBefore_13 ?_
          refine s_alen (b := 5) rfl ?_
          refine w_icmp_ge X 55 dX3_comesBefore_14 (by decide) (fun _ => ?_) (fun h9 => absurd (by decide) h9)
          refine w_iload_n X dX3_comesBefore_55 rfl ?_
          refine w_if_lt X 67 dX3_comesBefore_56 (by decide) (fun c56_14 => ?_) (fun c56_14 => ?_)
          ·
            refine w_iconst X dX3_comesBefore_67 ?_
            refine w_goto X 72 dX3_comesBefore_68 (by decide) ?_
            refine s_zret X hr dX3_comesBefore_72 (by omega) ?_
            refine ⟨rfl, rfl, ?_⟩
            unfold be5 sum5
            omega
          ·
            refine w_iload_n X dX3_comesBefore_59 rfl ?_
            refine w_if_ne X 71 dX3_comesBefore_60 (by decide) (fun c60_15 => ?_) (fun c60_15 => ?_)
            ·
              refine w_iconst X dX3_comesBefore_71 ?_
              refine s_zret X hr dX3_comesBefore_72 (by omega) ?_
              refine ⟨rfl, rfl, ?_⟩
              unfold be5 sum5
              omega
            ·
              refine w_iload_n X dX3_comesBefore_63 rfl ?_
              refine w_if_ge X 71 dX3_comesBefore_64 (by decide) (fun c64_16 => ?_) (fun c64_16 => ?_)
              ·
                refine w_iconst X dX3_comesBefore_71 ?_
                refine s_zret X hr dX3_comesBefore_72 (by omega) ?_
                refine ⟨rfl, rfl, ?_⟩
                unfold be5 sum5
                omega
              ·
                refine w_iconst X dX3_comesBefore_67 ?_
                refine w_goto X 72 dX3_comesBefore_68 (by decide) ?_
                refine s_zret X hr dX3_comesBefore_72 (by omega) ?_
                refine ⟨rfl, rfl, ?_⟩
                unfold be5 sum5
                omega
        ·
          refine w_iload X dX3_comesBefore_42 rfl ?_
          refine w_goto X 48 dX3_comesBefore_44 (by decide) ?_
          refine w_ist6_3 X dX3_comesBefore_48 ?_
          refine w_iinc6_4 X dX3_comesBefore_49 ?_
          refine w_goto X 7 dX3_comesBefore_52 (by decide) ?_
          refine w_iload X dX3_comesBefore_7 rfl ?_
          refine w_aload_n X dX3_comesBefore_9 rfl ?_
          refine w_get X (isCr_k hc) (σ_cr G n0 _ _ hc) rfl gW_X3 0 (by decide) gF_X3_9 rfl dX3_comesBefore_10 ?_
          refine w_alen X (t := 0) (isCr_k1 hc) (σ_in G n0 _ _ hc) rfl dX3_comesBefore_13 ?_
          refine s_alen (b := 5) rfl ?_
          refine w_icmp_ge X 55 dX3_comesBefore_14 (by decide) (fun _ => ?_) (fun h9 => absurd (by decide) h9)
          refine w_iload_n X dX3_comesBefore_55 rfl ?_
          refine w_if_lt X 67 dX3_comesBefore_56 (by decide) (fun c56_17 => ?_) (fun c56_17 => ?_)
          ·
            refine w_iconst X dX3_comesBefore_67 ?_
            refine w_goto X 72 dX3_comesBefore_68 (by decide) ?_
            refine s_zret X hr dX3_comesBefore_72 (by omega) ?_
            refine ⟨rfl, rfl, ?_⟩
            unfold be5 sum5
            omega
          ·
            refine w_iload_n X dX3_comesBefore_59 rfl ?_
            refine w_if_ne X 71 dX3_comesBefore_60 (by decide) (fun c60_18 => ?_) (fun c60_18 => ?_)
            ·
              refine w_iconst X dX3_comesBefore_71 ?_
              refine s_zret X hr dX3_comesBefore_72 (by omega) ?_
              refine ⟨rfl, rfl, ?_⟩
              unfold be5 sum5
              omega
            ·
              refine w_iload_n X dX3_comesBefore_63 rfl ?_
              refine w_if_ge X 71 dX3_comesBefore_64 (by decide) (fun c64_19 => ?_) (fun c64_19 => ?_)
              ·
                refine w_iconst X dX3_comesBefore_71 ?_
                refine s_zret X hr dX3_comesBefore_72 (by omega) ?_
                refine ⟨rfl, rfl, ?_⟩
                unfold be5 sum5
                omega
              ·
                refine w_iconst X dX3_comesBefore_67 ?_
                refine w_goto X 72 dX3_comesBefore_68 (by decide) ?_
                refine s_zret X hr dX3_comesBefore_72 (by omega) ?_
                refine ⟨rfl, rfl, ?_⟩
                unfold be5 sum5
                omega
set_option maxRecDepth 20000 in
set_option maxHeartbeats 4000000 in
theorem c_X3_read {l : Launch} {G : Gt} {n0 : Nat} {mi : Nat → Nat → Int} {mr : Nat → Nat → Nat} {c : Nat} (hc : isCr c) {z : Int} (hz : 0 ≤ z ∧ z < 2147483648) : Cv l yX3_read cX3_read 4 1 G n0 [.ref (n0 + c), .int (jI z)] mi mr (fun mi9 mr9 => row5 mi (c + 1) (fun j => z / 10 ^ j % 10) = mi9 ∧ mr = mr9) := by
  refine Ct_of (by decide +kernel) (by intro v hv; simp at hv; rcases hv with rfl | rfl <;> rfl) (Nat.le_of_ble_eq_true rfl) ?_
  intro p e s m args below meth c9 X hr hname
  show WW _ _ _ _ _ _ _ _ _ _ _ _ _ _ _ _ _ _ _ [some (.ref (n0 + c)), some (.int (jI z)), none, none] _
  refine w_iload_n X dX3_read_0 rfl ?_
  refine w_ist4_2 X dX3_read_1 ?_
  refine w_iconst X dX3_read_2 ?_
  refine w_ist4_3 X dX3_read_3 ?_
  refine w_iload_n X dX3_read_4 rfl ?_
  refine w_aload_n X dX3_read_5 rfl ?_
  refine w_get X (isCr_k hc) (σ_cr G n0 _ _ hc) rfl gW_X3 0 (by decide) gF_X3_9 rfl dX3_read_6 ?_
  refine w_alen X (t := 0) (isCr_k1 hc) (σ_in G n0 _ _ hc) rfl dX3_read_9 ?_
  refine s_alen (b := 5) rfl ?_
  refine w_icmp_ge X 34 dX3_read_10 (by decide) (fun h9 => absurd h9 (by decide)) (fun _ => ?_)
  refine w_aload_n X dX3_read_13 rfl ?_
  refine w_get X (isCr_k hc) (σ_cr G n0 _ _ hc) rfl gW_X3 0 (by decide) gF_X3_9 rfl dX3_read_14 ?_
  refine w_iload_n X dX3_read_17 rfl ?_
  refine w_iload_n X dX3_read_18 rfl ?_
  refine w_bipush X dX3_read_19 rfl ?_
  refine w_irem X dX3_read_21 ?_
  refine s_iast X (0) (isCr_k1 hc) (fun _ => σ_in G n0 _ _ hc) dX3_read_22 ?_
  refine w_iload_n X dX3_read_23 rfl ?_
  refine w_bipush X dX3_read_24 rfl ?_
  refine w_idiv X dX3_read_26 ?_
  refine w_ist4_2 X dX3_read_27 ?_
  refine w_iinc4_3 X dX3_read_28 ?_
  refine w_goto X 4 dX3_read_31 (by decide) ?_
  refine w_iload_n X dX3_read_4 rfl ?_
  refine w_aload_n X dX3_read_5 rfl ?_
  refine w_get X (isCr_k hc) (σ_cr G n0 _ _ hc) rfl gW_X3 0 (by decide) gF_X3_9 rfl dX3_read_6 ?_
  refine w_alen X (t := 0) (isCr_k1 hc) (σ_in G n0 _ _ hc) rfl dX3_read_9 ?_
  refine s_alen (b := 5) rfl ?_
  refine w_icmp_ge X 34 dX3_read_10 (by decide) (fun h9 => absurd h9 (by decide)) (fun _ => ?_)
  refine w_aload_n X dX3_read_13 rfl ?_
  refine w_get X (isCr_k hc) (σ_cr G n0 _ _ hc) rfl gW_X3 0 (by decide) gF_X3_9 rfl dX3_read_14 ?_
  refine w_iload_n X dX3_read_17 rfl ?_
  refine w_iload_n X dX3_read_18 rfl ?_
  refine w_bipush X dX3_read_19 rfl ?_
  refine w_irem X dX3_read_21 ?_
  refine s_iast X (1) (isCr_k1 hc) (fun _ => σ_in G n0 _ _ hc) dX3_read_22 ?_
  refine w_iload_n X dX3_read_23 rfl ?_
  refine w_bipush X dX3_read_24 rfl ?_
  refine w_idiv X dX3_read_26 ?_
  refine w_ist4_2 X dX3_read_27 ?_
  refine w_iinc4_3 X dX3_read_28 ?_
  refine w_goto X 4 dX3_read_31 (by decide) ?_
  refine w_iload_n X dX3_read_4 rfl ?_
  refine w_aload_n X dX3_read_5 rfl ?_
  refine w_get X (isCr_k hc) (σ_cr G n0 _ _ hc) rfl gW_X3 0 (by decide) gF_X3_9 rfl dX3_read_6 ?_
  refine w_alen X (t := 0) (isCr_k1 hc) (σ_in G n0 _ _ hc) rfl dX3_read_9 ?_
  refine s_alen (b := 5) rfl ?_
  refine w_icmp_ge X 34 dX3_read_10 (by decide) (fun h9 => absurd h9 (by decide)) (fun _ => ?_)
  refine w_aload_n X dX3_read_13 rfl ?_
  refine w_get X (isCr_k hc) (σ_cr G n0 _ _ hc) rfl gW_X3 0 (by decide) gF_X3_9 rfl dX3_read_14 ?_
  refine w_iload_n X dX3_read_17 rfl ?_
  refine w_iload_n X dX3_read_18 rfl ?_
  refine w_bipush X dX3_read_19 rfl ?_
  refine w_irem X dX3_read_21 ?_
  refine s_iast X (2) (isCr_k1 hc) (fun _ => σ_in G n0 _ _ hc) dX3_read_22 ?_
  refine w_iload_n X dX3_read_23 rfl ?_
  refine w_bipush X dX3_read_24 rfl ?_
  refine w_idiv X dX3_read_26 ?_
  refine w_ist4_2 X dX3_read_27 ?_
  refine w_iinc4_3 X dX3_read_28 ?_
  refine w_goto X 4 dX3_read_31 (by decide) ?_
  refine w_iload_n X dX3_read_4 rfl ?_
  refine w_aload_n X dX3_read_5 rfl ?_
  refine w_get X (isCr_k hc) (σ_cr G n0 _ _ hc) rfl gW_X3 0 (by decide) gF_X3_9 rfl dX3_read_6 ?_
  refine w_alen X (t := 0) (isCr_k1 hc) (σ_in G n0 _ _ hc) rfl dX3_read_9 ?_
  refine s_alen (b := 5) rfl ?_
  refine w_icmp_ge X 34 dX3_read_10 (by decide) (fun h9 => absurd h9 (by decide)) (fun _ => ?_)
  refine w_aload_n X dX3_read_13 rfl ?_
  refine w_get X (isCr_k hc) (σ_cr G n0 _ _ hc) rfl gW_X3 0 (by decide) gF_X3_9 rfl dX3_read_14 ?_
  refine w_iload_n X dX3_read_17 rfl ?_
  refine w_iload_n X dX3_read_18 rfl ?_
  refine w_bipush X dX3_read_19 rfl ?_
  refine w_irem X dX3_read_21 ?_
  refine s_iast X (3) (isCr_k1 hc) (fun _ => σ_in G n0 _ _ hc) dX3_read_22 ?_
  refine w_iload_n X dX3_read_23 rfl ?_
  refine w_bipush X dX3_read_24 rfl ?_
  refine w_idiv X dX3_read_26 ?_
  refine w_ist4_2 X dX3_read_27 ?_
  refine w_iinc4_3 X dX3_read_28 ?_
  refine w_goto X 4 dX3_read_31 (by decide) ?_
  refine w_iload_n X dX3_read_4 rfl ?_
  refine w_aload_n X dX3_read_5 rfl ?_
  refine w_get X (isCr_k hc) (σ_cr G n0 _ _ hc) rfl gW_X3 0 (by decide) gF_X3_9 rfl dX3_read_6 ?_
  refine w_alen X (t := 0) (isCr_k1 hc) (σ_in G n0 _ _ hc) rfl dX3_read_9 ?_
  refine s_alen (b := 5) rfl ?_
  refine w_icmp_ge X 34 dX3_read_10 (by decide) (fun h9 => absurd h9 (by decide)) (fun _ => ?_)
  refine w_aload_n X dX3_read_13 rfl ?_
  refine w_get X (isCr_k hc) (σ_cr G n0 _ _ hc) rfl gW_X3 0 (by decide) gF_X3_9 rfl dX3_read_14 ?_
  refine w_iload_n X dX3_read_17 rfl ?_
  refine w_iload_n X dX3_read_18 rfl ?_
  refine w_bipush X dX3_read_19 rfl ?_
  refine w_irem X dX3_read_21 ?_
  refine s_iast X (4) (isCr_k1 hc) (fun _ => σ_in G n0 _ _ hc) dX3_read_22 ?_
  refine w_iload_n X dX3_read_23 rfl ?_
  refine w_bipush X dX3_read_24 rfl ?_
  refine w_idiv X dX3_read_26 ?_
  refine w_ist4_2 X dX3_read_27 ?_
  refine w_iinc4_3 X dX3_read_28 ?_
  refine w_goto X 4 dX3_read_31 (by decide) ?_
  refine w_iload_n X dX3_read_4 rfl ?_
  refine w_aload_n X dX3_read_5 rfl ?_
  refine w_get X (isCr_k hc) (σ_cr G n0 _ _ hc) rfl gW_X3 0 (by decide) gF_X3_9 rfl dX3_read_6 ?_
  refine w_alen X (t := 0) (isCr_k1 hc) (σ_in G n0 _ _ hc) rfl dX3_read_9 ?_
  refine s_alen (b := 5) rfl ?_
  refine w_icmp_ge X 34 dX3_read_10 (by decide) (fun _ => ?_) (fun h9 => absurd (by decide) h9)
  refine s_vret X hr dX3_read_34 ?_
  refine ⟨(row5_up mi (c + 1) (fun j => z / 10 ^ j % 10)).symm.trans ?_, rfl⟩
  have e0 : z / 10 ^ 0 = z := by simp
  have e1 : z / 10 ^ 1 = z / 10 := by simp
  have e2 : z / 10 ^ 2 = z / 10 / 10 := by show z / 100 = _; omega
  have e3 : z / 10 ^ 3 = z / 10 / 10 / 10 := by show z / 1000 = _; omega
  have e4 : z / 10 ^ 4 = z / 10 / 10 / 10 / 10 := by show z / 10000 = _; omega
  rw [e0, e1, e2, e3, e4]
