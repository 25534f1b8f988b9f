def MRP (L : Lws) (set : Int) (H : V5) (o z1 z2 z3 z4 z5 z6 r9 : Int) (mi9 : Nat → Nat → Int) : Prop := (12 ≤ L.2.1 ∧ r9 = -4 ∧ MV L set H o mi9) ∨ (L.2.1 < 12 ∧ r9 = L.2.1 ∧ ∀ ρ : Nat → Int, (ρ 1 = z1 ∧ ρ 2 = z2 ∧ ρ 3 = z3 ∧ ρ 4 = z4 ∧ ρ 5 = z5 ∧ ρ 6 = z6 ∧ ρ 7 = -9) → MV (L.1, L.2.1 + 1, L.2.2.1, fun j => if (j : Int) = L.2.1 then ρ else L.2.2.2.1 j, L.2.2.2.2) set H (-3) mi9)
theorem dX8_states_0 : decode cX8_states 0 = .ok (.aload_n 0, 1) := by decide +kernel
theorem dX8_states_1 : decode cX8_states 1 = .ok (.iconst 0, 1) := by decide +kernel
theorem dX8_states_2 : decode cX8_states 2 = .ok (.putfield 73, 3) := by decide +kernel
theorem dX8_states_5 : decode cX8_states 5 = .ok (.iload_n 1, 1) := by decide +kernel
theorem dX8_states_6 : decode cX8_states 6 = .ok (.i2l, 1) := by decide +kernel
theorem dX8_states_7 : decode cX8_states 7 = .ok (.lconst 1, 1) := by decide +kernel
theorem dX8_states_8 : decode cX8_states 8 = .ok (.ldc2_w 83, 3) := by decide +kernel
theorem dX8_states_11 : decode cX8_states 11 = .ok (.invokestatic 76, 3) := by decide +kernel
theorem dX8_states_14 : decode cX8_states 14 = .ok (.ifCond .ne 6, 3) := by decide +kernel
theorem dX8_states_17 : decode cX8_states 17 = .ok (.bipush (-2), 2) := by decide +kernel
theorem dX8_states_19 : decode cX8_states 19 = .ok (.ireturn, 1) := by decide +kernel
theorem dX8_states_20 : decode cX8_states 20 = .ok (.aload_n 0, 1) := by decide +kernel
theorem dX8_states_21 : decode cX8_states 21 = .ok (.getfield 7, 3) := by decide +kernel
theorem dX8_states_24 : decode cX8_states 24 = .ok (.istore_n 2, 1) := by decide +kernel
theorem dX8_states_25 : decode cX8_states 25 = .ok (.aload_n 0, 1) := by decide +kernel
theorem dX8_states_26 : decode cX8_states 26 = .ok (.iload_n 1, 1) := by decide +kernel
theorem dX8_states_27 : decode cX8_states 27 = .ok (.putfield 7, 3) := by decide +kernel
theorem dX8_states_30 : decode cX8_states 30 = .ok (.aload_n 0, 1) := by decide +kernel
theorem dX8_states_31 : decode cX8_states 31 = .ok (.iconst 1, 1) := by decide +kernel
theorem dX8_states_32 : decode cX8_states 32 = .ok (.putfield 13, 3) := by decide +kernel
theorem dX8_states_35 : decode cX8_states 35 = .ok (.aload_n 0, 1) := by decide +kernel
theorem dX8_states_36 : decode cX8_states 36 = .ok (.iconst 0, 1) := by decide +kernel
theorem dX8_states_37 : decode cX8_states 37 = .ok (.putfield 80, 3) := by decide +kernel
theorem dX8_states_40 : decode cX8_states 40 = .ok (.aload_n 0, 1) := by decide +kernel
theorem dX8_states_41 : decode cX8_states 41 = .ok (.iconst 0, 1) := by decide +kernel
theorem dX8_states_42 : decode cX8_states 42 = .ok (.putfield 85, 3) := by decide +kernel
theorem dX8_states_45 : decode cX8_states 45 = .ok (.aload_n 0, 1) := by decide +kernel
theorem dX8_states_46 : decode cX8_states 46 = .ok (.iconst 0, 1) := by decide +kernel
theorem dX8_states_47 : decode cX8_states 47 = .ok (.putfield 88, 3) := by decide +kernel
theorem dX8_states_50 : decode cX8_states 50 = .ok (.iconst 0, 1) := by decide +kernel
theorem dX8_states_51 : decode cX8_states 51 = .ok (.istore_n 3, 1) := by decide +kernel
theorem dX8_states_52 : decode cX8_states 52 = .ok (.iload_n 3, 1) := by decide +kernel
theorem dX8_states_53 : decode cX8_states 53 = .ok (.iconst 5, 1) := by decide +kernel
theorem dX8_states_54 : decode cX8_states 54 = .ok (.if_icmp .ge 16, 3) := by decide +kernel
theorem dX8_states_57 : decode cX8_states 57 = .ok (.aload_n 0, 1) := by decide +kernel
theorem dX8_states_58 : decode cX8_states 58 = .ok (.getfield 41, 3) := by decide +kernel
theorem dX8_states_61 : decode cX8_states 61 = .ok (.iload_n 3, 1) := by decide +kernel
theorem dX8_states_62 : decode cX8_states 62 = .ok (.iconst 0, 1) := by decide +kernel
theorem dX8_states_63 : decode cX8_states 63 = .ok (.iastore, 1) := by decide +kernel
theorem dX8_states_64 : decode cX8_states 64 = .ok (.iinc 3 1, 3) := by decide +kernel
theorem dX8_states_67 : decode cX8_states 67 = .ok (.goto (-15), 3) := by decide +kernel
theorem dX8_states_70 : decode cX8_states 70 = .ok (.iload_n 2, 1) := by decide +kernel
theorem dX8_states_71 : decode cX8_states 71 = .ok (.ireturn, 1) := by decide +kernel
theorem hl_yX8_states : (yX8_states.cls ≠ "java/lang/invoke/MethodHandle" ∧ yX8_states.cls ≠ "java/lang/invoke/VarHandle") ∧ (parseMethodDescriptor yX8_states.desc).map (fun d => d.parameters.length) = some 1 := by decide +kernel
set_option maxRecDepth 20000 in
set_option maxHeartbeats 4000000 in
theorem c_X8_states {l : Launch} {G : Gt} {n0 : Nat} {mi : Nat → Nat → Int} {mr : Nat → Nat → Nat} {L : Lws} {set : Int} {H : V5} {o : Int} (hA : AV L set H) (hV : MV L set H o mi) {z : Int} (hz : rg z) : Ci l yX8_states cX8_states 4 .int 2 G n0 [.ref (n0 + 473), .int (jI z)] mi mr (fun r9 mi9 mr9 => ((¬ (1 ≤ z ∧ z ≤ 5) ∧ r9 = -2 ∧ MV L set H o mi9) ∨ ((1 ≤ z ∧ z ≤ 5) ∧ r9 = L.1 ∧ ∀ (R : Nat → Nat → Int) (B : Nat → V5), MV (z, 0, 0, R, B) 1 (0, 0, 0, 0, 0) (-3) mi9)) ∧ (∀ a, a < 473 → mi9 a = mi a) ∧ mr = mr9) := by
  refine Ct_of (by decide +kernel) (by intro v hv; simp at hv; rcases hv with rfl | rfl <;> rfl) (Nat.le_of_ble_eq_true rfl) ?_
  intro p e s m args below meth c9 X hr hname
  show WW _ _ _ _ _ _ _ _ _ _ _ _ _ _ _ _ _ _ _ [some (.ref (n0 + 473)), some (.int (jI z)), none, none] _
  refine w_aload_n X dX8_states_0 rfl ?_
  refine w_iconst X dX8_states_1 ?_
  refine w_put X (by decide) (σ_473 G n0 _ _) rfl gW_X8 tyX8 tyX8_ok nmX8 0 (by decide) gF_X8_73 rfl rfl rfl (Nat.le_of_ble_eq_true rfl) dX8_states_2 (WW.eqf (sp_473_0 _) ?_)
  have hV1 := MV_t hV
  have hfr0 : ∀ a, a < 473 → up2 mi 473 0 0 a = mi a := fun a ha => up2_k _ _ _ _ (by omega)
  generalize up2 mi 473 0 0 = m0 at *
  obtain ⟨hM, hset, hH, hS⟩ := id hV1
  have hM1 := hM.1
  have hM2 := hM.2.1
  have hM3 := hM.2.2.1
  have hsc : 1 ≤ m0 473 1 ∧ m0 473 1 ≤ 5 := by rw [hM1]; exact hA.1.1.1
  have hrc : 0 ≤ m0 473 3 ∧ m0 473 3 ≤ 12 := by rw [hM2]; exact hA.1.2.1
  have hset2 := hA.2.1
  refine w_iload_n X dX8_states_5 rfl ?_
  refine w_i2l X dX8_states_6 ?_
  refine w_lconst X dX8_states_7 1 rfl ?_
  refine w_ldc2 X (z := 5) gK_X8_83 rfl dX8_states_8 ?_
  refine s_callSi X _ (c_X8_in (l := l) (G := G) (n0 := n0) (by first | assumption | (refine ⟨?_, ?_⟩ <;> omega)) (by first | assumption | (refine ⟨?_, ?_⟩ <;> omega)) (by first | assumption | (refine ⟨?_, ?_⟩ <;> omega))) gM_X8_76 gT_yX8_in gN_X8 gC_yX8_in dX8_states_11 hl_yX8_in ⟨Nat.le_of_ble_eq_true rfl, Nat.le_of_ble_eq_true rfl⟩ (Nat.le_of_ble_eq_true rfl) rfl (fun r1 mi1 mr1 h1 => ?_)
  obtain ⟨rfl, rfl, h1⟩ := h1
  refine w_if_ne X 20 dX8_states_14 (by decide) (fun c14_1 => ?_) (fun c14_1 => ?_)
  ·
    refine w_aload_n X dX8_states_20 rfl ?_
    refine w_get X (by decide) (σ_473 G n0 _ _) rfl gW_X8 1 (by decide) gF_X8_7 rfl dX8_states_21 ?_
    refine w_ist4_2 X dX8_states_24 ?_
    refine w_aload_n X dX8_states_25 rfl ?_
    refine w_iload_n X dX8_states_26 rfl ?_
    refine w_put X (by decide) (σ_473 G n0 _ _) rfl gW_X8 tyX8 tyX8_ok nmX8 1 (by decide) gF_X8_7 rfl rfl rfl (Nat.le_of_ble_eq_true rfl) dX8_states_27 (WW.eqf (sp_473_1 _) ?_)
    refine w_aload_n X dX8_states_30 rfl ?_
    refine w_iconst X dX8_states_31 ?_
    refine w_put X (by decide) (σ_473 G n0 _ _) rfl gW_X8 tyX8 tyX8_ok nmX8 2 (by decide) gF_X8_13 rfl rfl rfl (Nat.le_of_ble_eq_true rfl) dX8_states_32 (WW.eqf (sp_473_2 _) ?_)
    refine w_aload_n X dX8_states_35 rfl ?_
    refine w_iconst X dX8_states_36 ?_
    refine w_put X (by decide) (σ_473 G n0 _ _) rfl gW_X8 tyX8 tyX8_ok nmX8 3 (by decide) gF_X8_80 rfl rfl rfl (Nat.le_of_ble_eq_true rfl) dX8_states_37 (WW.eqf (sp_473_3 _) ?_)
    refine w_aload_n X dX8_states_40 rfl ?_
    refine w_iconst X dX8_states_41 ?_
    refine w_put X (by decide) (σ_473 G n0 _ _) rfl gW_X8 tyX8 tyX8_ok nmX8 11 (by decide) gF_X8_85 rfl rfl rfl (Nat.le_of_ble_eq_true rfl) dX8_states_42 (WW.eqf (sp_473_11 _) ?_)
    refine w_aload_n X dX8_states_45 rfl ?_
    refine w_iconst X dX8_states_46 ?_
    refine w_put X (by decide) (σ_473 G n0 _ _) rfl gW_X8 tyX8 tyX8_ok nmX8 14 (by decide) gF_X8_88 rfl rfl rfl (Nat.le_of_ble_eq_true rfl) dX8_states_47 (WW.eqf (sp_473_14 _) ?_)
    refine w_iconst X dX8_states_50 ?_
    refine w_ist4_3 X dX8_states_51 ?_
    refine w_iload_n X dX8_states_52 rfl ?_
    refine w_iconst X dX8_states_53 ?_
    refine w_icmp_ge X 70 dX8_states_54 (by decide) (fun h9 => absurd h9 (by decide)) (fun _ => ?_)
    refine w_aload_n X dX8_states_57 rfl ?_
    refine w_get X (by decide) (σ_473 G n0 _ _) rfl gW_X8 13 (by decide) gF_X8_41 rfl dX8_states_58 ?_
    refine w_iload_n X dX8_states_61 rfl ?_
    refine w_iconst X dX8_states_62 ?_
    refine s_iast X (0) (by decide) (fun _ => σ_m5 G n0 _ _ (by decide)) dX8_states_63 ?_
    refine w_iinc4_3 X dX8_states_64 ?_
    refine w_goto X 52 dX8_states_67 (by decide) ?_
    refine w_iload_n X dX8_states_52 rfl ?_
    refine w_iconst X dX8_states_53 ?_
    refine w_icmp_ge X 70 dX8_states_54 (by decide) (fun h9 => absurd h9 (by decide)) (fun _ => ?_)
    refine w_aload_n X dX8_states_57 rfl ?_
    refine w_get X (by decide) (σ_473 G n0 _ _) rfl gW_X8 13 (by decide) gF_X8_41 rfl dX8_states_58 ?_
    refine w_iload_n X dX8_states_61 rfl ?_
    refine w_iconst X dX8_states_62 ?_
    refine s_iast X (1) (by decide) (fun _ => σ_m5 G n0 _ _ (by decide)) dX8_states_63 ?_
    refine w_iinc4_3 X dX8_states_64 ?_
    refine w_goto X 52 dX8_states_67 (by decide) ?_
    refine w_iload_n X dX8_states_52 rfl ?_
    refine w_iconst X dX8_states_53 ?_
    refine w_icmp_ge X 70 dX8_states_54 (by decide) (fun h9 => absurd h9 (by decide)) (fun _ => ?_)
    refine w_aload_n X dX8_states_57 rfl ?_
    refine w_get X (by decide) (σ_473 G n0 _ _) rfl gW_X8 13 (by decide) gF_X8_41 rfl dX8_states_58 ?_
    refine w_iload_n X dX8_states_61 rfl ?_
    refine w_iconst X dX8_states_62 ?_
    refine s_iast X (2) (by decide) (fun _ => σ_m5 G n0 _ _ (by decide)) dX8_states_63 ?_
    refine w_iinc4_3 X dX8_states_64 ?_
    refine w_goto X 52 dX8_states_67 (by decide) ?_
    refine w_iload_n X dX8_states_52 rfl ?_
    refine w_iconst X dX8_states_53 ?_
    refine w_icmp_ge X 70 dX8_states_54 (by decide) (fun h9 => absurd h9 (by decide)) (fun _ => ?_)
    refine w_aload_n X dX8_states_57 rfl ?_
    refine w_get X (by decide) (σ_473 G n0 _ _) rfl gW_X8 13 (by decide) gF_X8_41 rfl dX8_states_58 ?_
    refine w_iload_n X dX8_states_61 rfl ?_
    refine w_iconst X dX8_states_62 ?_
    refine s_iast X (3) (by decide) (fun _ => σ_m5 G n0 _ _ (by decide)) dX8_states_63 ?_
    refine w_iinc4_3 X dX8_states_64 ?_
    refine w_goto X 52 dX8_states_67 (by decide) ?_
    refine w_iload_n X dX8_states_52 rfl ?_
    refine w_iconst X dX8_states_53 ?_
    refine w_icmp_ge X 70 dX8_states_54 (by decide) (fun h9 => absurd h9 (by decide)) (fun _ => ?_)
    refine w_aload_n X dX8_states_57 rfl ?_
    refine w_get X (by decide) (σ_473 G n0 _ _) rfl gW_X8 13 (by decide) gF_X8_41 rfl dX8_states_58 ?_
    refine w_iload_n X dX8_states_61 rfl ?_
    refine w_iconst X dX8_states_62 ?_
    refine s_iast X (4) (by decide) (fun _ => σ_m5 G n0 _ _ (by decide)) dX8_states_63 ?_
    refine w_iinc4_3 X dX8_states_64 ?_
    refine w_goto X 52 dX8_states_67 (by decide) ?_
    refine w_iload_n X dX8_states_52 rfl ?_
    refine w_iconst X dX8_states_53 ?_
    refine w_icmp_ge X 70 dX8_states_54 (by decide) (fun _ => ?_) (fun h9 => absurd (by decide) h9)
    refine w_iload_n X dX8_states_70 rfl ?_
    refine s_iret X hr dX8_states_71 ?_
    refine ⟨Or.inr ⟨by omega, hM1, fun R B => ⟨⟨by simp [up2], by simp [up2], by simp [up2], fun k hk => absurd hk (by show ¬ (k : Int) < 0; omega), fun b hb => absurd hb (by show ¬ (b : Int) < 0; omega)⟩, by simp [up2], fun j hj => ?_, Or.inl ⟨rfl, by simp [up2]⟩⟩⟩, fun a ha => ?_, rfl⟩
    · rw [show F5 ((0 : Int), (0 : Int), (0 : Int), (0 : Int), (0 : Int)) j = 0 from F5_T5 (fun _ => 0) hj]
      rcases (show j = 0 ∨ j = 1 ∨ j = 2 ∨ j = 3 ∨ j = 4 by omega) with rfl | rfl | rfl | rfl | rfl <;> simp [up2]
    · rw [up2_k _ _ _ _ (by omega), up2_k _ _ _ _ (by omega), up2_k _ _ _ _ (by omega), up2_k _ _ _ _ (by omega), up2_k _ _ _ _ (by omega), up2_k _ _ _ _ (by omega), up2_k _ _ _ _ (by omega), up2_k _ _ _ _ (by omega), up2_k _ _ _ _ (by omega), up2_k _ _ _ _ (by omega)]
      exact hfr0 a ha
  ·
    refine w_bipush X dX8_states_17 rfl ?_
    refine s_iret X hr dX8_states_19 ?_
    exact ⟨Or.inl ⟨by omega, rfl, hV1⟩, hfr0, rfl⟩
theorem dX8_start_0 : decode cX8_start 0 = .ok (.aload_n 0, 1) := by decide +kernel
theorem dX8_start_1 : decode cX8_start 1 = .ok (.iconst 0, 1) := by decide +kernel
theorem dX8_start_2 : decode cX8_start 2 = .ok (.putfield 73, 3) := by decide +kernel
theorem dX8_start_5 : decode cX8_start 5 = .ok (.iload_n 1, 1) := by decide +kernel
theorem dX8_start_6 : decode cX8_start 6 = .ok (.i2l, 1) := by decide +kernel
theorem dX8_start_7 : decode cX8_start 7 = .ok (.lconst 1, 1) := by decide +kernel
theorem dX8_start_8 : decode cX8_start 8 = .ok (.iconst 1, 1) := by decide +kernel
theorem dX8_start_9 : decode cX8_start 9 = .ok (.aload_n 0, 1) := by decide +kernel
theorem dX8_start_10 : decode cX8_start 10 = .ok (.getfield 7, 3) := by decide +kernel
theorem dX8_start_13 : decode cX8_start 13 = .ok (.ishl, 1) := by decide +kernel
theorem dX8_start_14 : decode cX8_start 14 = .ok (.iconst 1, 1) := by decide +kernel
theorem dX8_start_15 : decode cX8_start 15 = .ok (.isub, 1) := by decide +kernel
theorem dX8_start_16 : decode cX8_start 16 = .ok (.i2l, 1) := by decide +kernel
theorem dX8_start_17 : decode cX8_start 17 = .ok (.invokestatic 76, 3) := by decide +kernel
theorem dX8_start_20 : decode cX8_start 20 = .ok (.ifCond .ne 6, 3) := by decide +kernel
theorem dX8_start_23 : decode cX8_start 23 = .ok (.bipush (-2), 2) := by decide +kernel
theorem dX8_start_25 : decode cX8_start 25 = .ok (.ireturn, 1) := by decide +kernel
theorem dX8_start_26 : decode cX8_start 26 = .ok (.aload_n 0, 1) := by decide +kernel
theorem dX8_start_27 : decode cX8_start 27 = .ok (.getfield 13, 3) := by decide +kernel
theorem dX8_start_30 : decode cX8_start 30 = .ok (.istore_n 2, 1) := by decide +kernel
theorem dX8_start_31 : decode cX8_start 31 = .ok (.aload_n 0, 1) := by decide +kernel
theorem dX8_start_32 : decode cX8_start 32 = .ok (.iload_n 1, 1) := by decide +kernel
theorem dX8_start_33 : decode cX8_start 33 = .ok (.putfield 13, 3) := by decide +kernel
theorem dX8_start_36 : decode cX8_start 36 = .ok (.iload_n 2, 1) := by decide +kernel
theorem dX8_start_37 : decode cX8_start 37 = .ok (.ireturn, 1) := by decide +kernel
theorem hl_yX8_start : (yX8_start.cls ≠ "java/lang/invoke/MethodHandle" ∧ yX8_start.cls ≠ "java/lang/invoke/VarHandle") ∧ (parseMethodDescriptor yX8_start.desc).map (fun d => d.parameters.length) = some 1 := by decide +kernel
set_option maxRecDepth 20000 in
set_option maxHeartbeats 4000000 in
theorem c_X8_start {l : Launch} {G : Gt} {n0 : Nat} {mi : Nat → Nat → Int} {mr : Nat → Nat → Nat} {L : Lws} {set : Int} {H : V5} {o : Int} (hA : AV L set H) (hV : MV L set H o mi) {z : Int} (hz : rg z) : Ci l yX8_start cX8_start 3 .int 2 G n0 [.ref (n0 + 473), .int (jI z)] mi mr (fun r9 mi9 mr9 => ((¬ (1 ≤ z ∧ z < 2 ^ L.1.toNat) ∧ r9 = -2 ∧ MV L set H o mi9) ∨ ((1 ≤ z ∧ z < 2 ^ L.1.toNat) ∧ r9 = set ∧ MV L z H o mi9)) ∧ (∀ a, a < 473 → mi9 a = mi a) ∧ mr = mr9) := by
  refine Ct_of (by decide +kernel) (by intro v hv; simp at hv; rcases hv with rfl | rfl <;> rfl) (Nat.le_of_ble_eq_true rfl) ?_
  intro p e s m args below meth c9 X hr hname
  show WW _ _ _ _ _ _ _ _ _ _ _ _ _ _ _ _ _ _ _ [some (.ref (n0 + 473)), some (.int (jI z)), none] _
  refine w_aload_n X dX8_start_0 rfl ?_
  refine w_iconst X dX8_start_1 ?_
  refine w_put X (by decide) (σ_473 G n0 _ _) rfl gW_X8 tyX8 tyX8_ok nmX8 0 (by decide) gF_X8_73 rfl rfl rfl (Nat.le_of_ble_eq_true rfl) dX8_start_2 (WW.eqf (sp_473_0 _) ?_)
  have hV1 := MV_t hV
  have hfr0 : ∀ a, a < 473 → up2 mi 473 0 0 a = mi a := fun a ha => up2_k _ _ _ _ (by omega)
  generalize up2 mi 473 0 0 = m0 at *
  obtain ⟨hM, hset, hH, hS⟩ := id hV1
  have hM1 := hM.1
  have hM2 := hM.2.1
  have hM3 := hM.2.2.1
  have hsc : 1 ≤ m0 473 1 ∧ m0 473 1 ≤ 5 := by rw [hM1]; exact hA.1.1.1
  have hrc : 0 ≤ m0 473 3 ∧ m0 473 3 ≤ 12 := by rw [hM2]; exact hA.1.2.1
  have hset2 := hA.2.1
  have hpw : (2 : Int) ^ (m0 473 1).toNat ≤ 32 ∧ 2 ≤ (2 : Int) ^ (m0 473 1).toNat := by
    rcases (show m0 473 1 = 1 ∨ m0 473 1 = 2 ∨ m0 473 1 = 3 ∨ m0 473 1 = 4 ∨ m0 473 1 = 5 by omega) with q | q | q | q | q <;> rw [q] <;> decide
  refine w_iload_n X dX8_start_5 rfl ?_
  refine w_i2l X dX8_start_6 ?_
  refine w_lconst X dX8_start_7 1 rfl ?_
  refine w_iconst X dX8_start_8 ?_
  refine w_aload_n X dX8_start_9 rfl ?_
  refine w_get X (by decide) (σ_473 G n0 _ _) rfl gW_X8 1 (by decide) gF_X8_7 rfl dX8_start_10 ?_
  refine w_ishl X dX8_start_13 ?_
  refine w_iconst X dX8_start_14 ?_
  refine w_isub X dX8_start_15 ?_
  refine w_i2l X dX8_start_16 ?_
  refine s_callSi X _ (c_X8_in (l := l) (G := G) (n0 := n0) (by first | assumption | (refine ⟨?_, ?_⟩ <;> omega)) (by first | assumption | (refine ⟨?_, ?_⟩ <;> omega)) (by first | assumption | (refine ⟨?_, ?_⟩ <;> omega))) gM_X8_76 gT_yX8_in gN_X8 gC_yX8_in dX8_start_17 hl_yX8_in ⟨Nat.le_of_ble_eq_true rfl, Nat.le_of_ble_eq_true rfl⟩ (Nat.le_of_ble_eq_true rfl) rfl (fun r1 mi1 mr1 h1 => ?_)
  obtain ⟨rfl, rfl, h1⟩ := h1
  refine w_if_ne X 26 dX8_start_20 (by decide) (fun c20_1 => ?_) (fun c20_1 => ?_)
  ·
    refine w_aload_n X dX8_start_26 rfl ?_
    refine w_get X (by decide) (σ_473 G n0 _ _) rfl gW_X8 2 (by decide) gF_X8_13 rfl dX8_start_27 ?_
    refine w_ist3_2 X dX8_start_30 ?_
    refine w_aload_n X dX8_start_31 rfl ?_
    refine w_iload_n X dX8_start_32 rfl ?_
    refine w_put X (by decide) (σ_473 G n0 _ _) rfl gW_X8 tyX8 tyX8_ok nmX8 2 (by decide) gF_X8_13 rfl rfl rfl (Nat.le_of_ble_eq_true rfl) dX8_start_33 (WW.eqf (sp_473_2 _) ?_)
    refine w_iload_n X dX8_start_36 rfl ?_
    refine s_iret X hr dX8_start_37 ?_
    refine ⟨Or.inr ⟨by rw [← hM1]; omega, hset, ML_fr hM (up2_j _ _ _ _ (by decide)) (up2_j _ _ _ _ (by decide)) (up2_j _ _ _ _ (by decide)) (fun a h1 h2 => up2_k _ _ _ _ (by omega)), up2_s _ _ _ _, fun j hj => by rw [up2_k _ _ _ _ (by decide)]; exact hH j hj, SO_fr hS (up2_j _ _ _ _ (by decide)) (up2_j _ _ _ _ (by decide)) (up2_j _ _ _ _ (by decide)) (up2_k _ _ _ _ (by decide))⟩, fun a ha => (up2_k _ _ _ _ (by omega)).trans (hfr0 a ha), rfl⟩
  ·
    refine w_bipush X dX8_start_23 rfl ?_
    refine s_iret X hr dX8_start_25 ?_
    exact ⟨Or.inl ⟨by rw [← hM1]; omega, rfl, hV1⟩, hfr0, rfl⟩
theorem dX8_newRule_0 : decode cX8_newRule 0 = .ok (.aload_n 0, 1) := by decide +kernel
theorem dX8_newRule_1 : decode cX8_newRule 1 = .ok (.getfield 16, 3) := by decide +kernel
theorem dX8_newRule_4 : decode cX8_newRule 4 = .ok (.aload_n 0, 1) := by decide +kernel
theorem dX8_newRule_5 : decode cX8_newRule 5 = .ok (.getfield 80, 3) := by decide +kernel
theorem dX8_newRule_8 : decode cX8_newRule 8 = .ok (.iload_n 1, 1) := by decide +kernel
theorem dX8_newRule_9 : decode cX8_newRule 9 = .ok (.iastore, 1) := by decide +kernel
theorem dX8_newRule_10 : decode cX8_newRule 10 = .ok (.aload_n 0, 1) := by decide +kernel
theorem dX8_newRule_11 : decode cX8_newRule 11 = .ok (.getfield 20, 3) := by decide +kernel
theorem dX8_newRule_14 : decode cX8_newRule 14 = .ok (.aload_n 0, 1) := by decide +kernel
theorem dX8_newRule_15 : decode cX8_newRule 15 = .ok (.getfield 80, 3) := by decide +kernel
theorem dX8_newRule_18 : decode cX8_newRule 18 = .ok (.iload_n 2, 1) := by decide +kernel
theorem dX8_newRule_19 : decode cX8_newRule 19 = .ok (.iastore, 1) := by decide +kernel
theorem dX8_newRule_20 : decode cX8_newRule 20 = .ok (.aload_n 0, 1) := by decide +kernel
theorem dX8_newRule_21 : decode cX8_newRule 21 = .ok (.getfield 23, 3) := by decide +kernel
theorem dX8_newRule_24 : decode cX8_newRule 24 = .ok (.aload_n 0, 1) := by decide +kernel
theorem dX8_newRule_25 : decode cX8_newRule 25 = .ok (.getfield 80, 3) := by decide +kernel
theorem dX8_newRule_28 : decode cX8_newRule 28 = .ok (.iload_n 3, 1) := by decide +kernel
theorem dX8_newRule_29 : decode cX8_newRule 29 = .ok (.iastore, 1) := by decide +kernel
theorem dX8_newRule_30 : decode cX8_newRule 30 = .ok (.aload_n 0, 1) := by decide +kernel
theorem dX8_newRule_31 : decode cX8_newRule 31 = .ok (.getfield 26, 3) := by decide +kernel
theorem dX8_newRule_34 : decode cX8_newRule 34 = .ok (.aload_n 0, 1) := by decide +kernel
theorem dX8_newRule_35 : decode cX8_newRule 35 = .ok (.getfield 80, 3) := by decide +kernel
theorem dX8_newRule_38 : decode cX8_newRule 38 = .ok (.iload 4, 2) := by decide +kernel
theorem dX8_newRule_40 : decode cX8_newRule 40 = .ok (.iastore, 1) := by decide +kernel
theorem dX8_newRule_41 : decode cX8_newRule 41 = .ok (.aload_n 0, 1) := by decide +kernel
theorem dX8_newRule_42 : decode cX8_newRule 42 = .ok (.getfield 29, 3) := by decide +kernel
theorem dX8_newRule_45 : decode cX8_newRule 45 = .ok (.aload_n 0, 1) := by decide +kernel
theorem dX8_newRule_46 : decode cX8_newRule 46 = .ok (.getfield 80, 3) := by decide +kernel
theorem dX8_newRule_49 : decode cX8_newRule 49 = .ok (.iload 5, 2) := by decide +kernel
theorem dX8_newRule_51 : decode cX8_newRule 51 = .ok (.iastore, 1) := by decide +kernel
theorem dX8_newRule_52 : decode cX8_newRule 52 = .ok (.aload_n 0, 1) := by decide +kernel
theorem dX8_newRule_53 : decode cX8_newRule 53 = .ok (.getfield 32, 3) := by decide +kernel
theorem dX8_newRule_56 : decode cX8_newRule 56 = .ok (.aload_n 0, 1) := by decide +kernel
theorem dX8_newRule_57 : decode cX8_newRule 57 = .ok (.getfield 80, 3) := by decide +kernel
theorem dX8_newRule_60 : decode cX8_newRule 60 = .ok (.iload 6, 2) := by decide +kernel
theorem dX8_newRule_62 : decode cX8_newRule 62 = .ok (.iastore, 1) := by decide +kernel
theorem dX8_newRule_63 : decode cX8_newRule 63 = .ok (.aload_n 0, 1) := by decide +kernel
theorem dX8_newRule_64 : decode cX8_newRule 64 = .ok (.getfield 35, 3) := by decide +kernel
theorem dX8_newRule_67 : decode cX8_newRule 67 = .ok (.aload_n 0, 1) := by decide +kernel
theorem dX8_newRule_68 : decode cX8_newRule 68 = .ok (.getfield 80, 3) := by decide +kernel
theorem dX8_newRule_71 : decode cX8_newRule 71 = .ok (.bipush (-9), 2) := by decide +kernel
theorem dX8_newRule_73 : decode cX8_newRule 73 = .ok (.iastore, 1) := by decide +kernel
theorem dX8_newRule_74 : decode cX8_newRule 74 = .ok (.aload_n 0, 1) := by decide +kernel
theorem dX8_newRule_75 : decode cX8_newRule 75 = .ok (.dup, 1) := by decide +kernel
theorem dX8_newRule_76 : decode cX8_newRule 76 = .ok (.getfield 80, 3) := by decide +kernel
theorem dX8_newRule_79 : decode cX8_newRule 79 = .ok (.iconst 1, 1) := by decide +kernel
theorem dX8_newRule_80 : decode cX8_newRule 80 = .ok (.iadd, 1) := by decide +kernel
theorem dX8_newRule_81 : decode cX8_newRule 81 = .ok (.putfield 80, 3) := by decide +kernel
theorem dX8_newRule_84 : decode cX8_newRule 84 = .ok (.aload_n 0, 1) := by decide +kernel
theorem dX8_newRule_85 : decode cX8_newRule 85 = .ok (.iconst 0, 1) := by decide +kernel
theorem dX8_newRule_86 : decode cX8_newRule 86 = .ok (.putfield 88, 3) := by decide +kernel
theorem dX8_newRule_89 : decode cX8_newRule 89 = .ok (.aload_n 0, 1) := by decide +kernel
theorem dX8_newRule_90 : decode cX8_newRule 90 = .ok (.getfield 80, 3) := by decide +kernel
theorem dX8_newRule_93 : decode cX8_newRule 93 = .ok (.iconst 1, 1) := by decide +kernel
theorem dX8_newRule_94 : decode cX8_newRule 94 = .ok (.isub, 1) := by decide +kernel
theorem dX8_newRule_95 : decode cX8_newRule 95 = .ok (.ireturn, 1) := by decide +kernel
theorem hl_yX8_newRule : (yX8_newRule.cls ≠ "java/lang/invoke/MethodHandle" ∧ yX8_newRule.cls ≠ "java/lang/invoke/VarHandle") ∧ (parseMethodDescriptor yX8_newRule.desc).map (fun d => d.parameters.length) = some 6 := by decide +kernel
set_option maxRecDepth 20000 in
set_option maxHeartbeats 4000000 in
theorem c_X8_newRule {l : Launch} {G : Gt} {n0 : Nat} {mi : Nat → Nat → Int} {mr : Nat → Nat → Nat} {L : Lws} {set : Int} {H : V5} {o : Int} (hA : AV L set H) (hV : MV L set H o mi) (h12 : L.2.1 < 12) {z1 z2 z3 z4 z5 z6 : Int} : Ci l yX8_newRule cX8_newRule 7 .int 1 G n0 [.ref (n0 + 473), .int (jI z1), .int (jI z2), .int (jI z3), .int (jI z4), .int (jI z5), .int (jI z6)] mi mr (fun r9 mi9 mr9 => r9 = L.2.1 ∧ (∀ ρ : Nat → Int, (ρ 1 = z1 ∧ ρ 2 = z2 ∧ ρ 3 = z3 ∧ ρ 4 = z4 ∧ ρ 5 = z5 ∧ ρ 6 = z6 ∧ ρ 7 = -9) → MV (L.1, L.2.1 + 1, L.2.2.1, fun j => if (j : Int) = L.2.1 then ρ else L.2.2.2.1 j, L.2.2.2.2) set H (-3) mi9) ∧ (∀ a, a < 473 → mi9 a = mi a) ∧ mr = mr9) := by
  refine Ct_of (by decide +kernel) (by intro v hv; simp at hv; rcases hv with rfl | rfl | rfl | rfl | rfl | rfl | rfl <;> rfl) (Nat.le_of_ble_eq_true rfl) ?_
  intro p e s m args below meth c9 X hr hname
  show WW _ _ _ _ _ _ _ _ _ _ _ _ _ _ _ _ _ _ _ [some (.ref (n0 + 473)), some (.int (jI z1)), some (.int (jI z2)), some (.int (jI z3)), some (.int (jI z4)), some (.int (jI z5)), some (.int (jI z6))] _
  obtain ⟨hM, hset, hH, hS⟩ := id hV
  have hM1 := hM.1
  have hM2 := hM.2.1
  have hM3 := hM.2.2.1
  have hrc := hA.1.2.1
  obtain ⟨k, hk⟩ := Int.eq_ofNat_of_zero_le (show 0 ≤ mi 473 3 by omega)
  refine w_aload_n X dX8_newRule_0 rfl ?_
  refine w_get X (by decide) (σ_473 G n0 _ _) rfl gW_X8 4 (by decide) gF_X8_16 rfl dX8_newRule_1 ?_
  refine w_aload_n X dX8_newRule_4 rfl ?_
  refine w_get X (by decide) (σ_473 G n0 _ _) rfl gW_X8 3 (by decide) gF_X8_80 rfl dX8_newRule_5 ?_
  rw [hk]
  refine w_iload_n X dX8_newRule_8 rfl ?_
  refine s_iast X (k) (by decide) (fun _ => σ_m12 G n0 _ _ (by decide)) dX8_newRule_9 ?_
  refine w_aload_n X dX8_newRule_10 rfl ?_
  refine w_get X (by decide) (σ_473 G n0 _ _) rfl gW_X8 5 (by decide) gF_X8_20 rfl dX8_newRule_11 ?_
  refine w_aload_n X dX8_newRule_14 rfl ?_
  refine w_get X (by decide) (σ_473 G n0 _ _) rfl gW_X8 3 (by decide) gF_X8_80 rfl dX8_newRule_15 ?_
  rw [up2_k _ _ _ _ (show (473 : Nat) ≠ 474 by decide), hk]
  refine w_iload_n X dX8_newRule_18 rfl ?_
  refine s_iast X (k) (by decide) (fun _ => σ_m12 G n0 _ _ (by decide)) dX8_newRule_19 ?_
  refine w_aload_n X dX8_newRule_20 rfl ?_
  refine w_get X (by decide) (σ_473 G n0 _ _) rfl gW_X8 6 (by decide) gF_X8_23 rfl dX8_newRule_21 ?_
  refine w_aload_n X dX8_newRule_24 rfl ?_
  refine w_get X (by decide) (σ_473 G n0 _ _) rfl gW_X8 3 (by decide) gF_X8_80 rfl dX8_newRule_25 ?_
  rw [up2_k _ _ _ _ (show (473 : Nat) ≠ 475 by decide), up2_k _ _ _ _ (show (473 : Nat) ≠ 474 by decide), hk]
  refine w_iload_n X dX8_newRule_28 rfl ?_
  refine s_iast X (k) (by decide) (fun _ => σ_m12 G n0 _ _ (by decide)) dX8_newRule_29 ?_
  refine w_aload_n X dX8_newRule_30 rfl ?_
  refine w_get X (by decide) (σ_473 G n0 _ _) rfl gW_X8 7 (by decide) gF_X8_26 rfl dX8_newRule_31 ?_
  refine w_aload_n X dX8_newRule_34 rfl ?_
  refine w_get X (by decide) (σ_473 G n0 _ _) rfl gW_X8 3 (by decide) gF_X8_80 rfl dX8_newRule_35 ?_
  rw [up2_k _ _ _ _ (show (473 : Nat) ≠ 476 by decide), up2_k _ _ _ _ (show (473 : Nat) ≠ 475 by decide), up2_k _ _ _ _ (show (473 : Nat) ≠ 474 by decide), hk]
  refine w_iload X dX8_newRule_38 rfl ?_
  refine s_iast X (k) (by decide) (fun _ => σ_m12 G n0 _ _ (by decide)) dX8_newRule_40 ?_
  refine w_aload_n X dX8_newRule_41 rfl ?_
  refine w_get X (by decide) (σ_473 G n0 _ _) rfl gW_X8 8 (by decide) gF_X8_29 rfl dX8_newRule_42 ?_
  refine w_aload_n X dX8_newRule_45 rfl ?_
  refine w_get X (by decide) (σ_473 G n0 _ _) rfl gW_X8 3 (by decide) gF_X8_80 rfl dX8_newRule_46 ?_
  rw [up2_k _ _ _ _ (show (473 : Nat) ≠ 477 by decide), up2_k _ _ _ _ (show (473 : Nat) ≠ 476 by decide), up2_k _ _ _ _ (show (473 : Nat) ≠ 475 by decide), up2_k _ _ _ _ (show (473 : Nat) ≠ 474 by decide), hk]
  refine w_iload X dX8_newRule_49 rfl ?_
  refine s_iast X (k) (by decide) (fun _ => σ_m12 G n0 _ _ (by decide)) dX8_newRule_51 ?_
  refine w_aload_n X dX8_newRule_52 rfl ?_
  refine w_get X (by decide) (σ_473 G n0 _ _) rfl gW_X8 9 (by decide) gF_X8_32 rfl dX8_newRule_53 ?_
  refine w_aload_n X dX8_newRule_56 rfl ?_
  refine w_get X (by decide) (σ_473 G n0 _ _) rfl gW_X8 3 (by decide) gF_X8_80 rfl dX8_newRule_57 ?_
  rw [up2_k _ _ _ _ (show (473 : Nat) ≠ 478 by decide), up2_k _ _ _ _ (show (473 : Nat) ≠ 477 by decide), up2_k _ _ _ _ (show (473 : Nat) ≠ 476 by decide), up2_k _ _ _ _ (show (473 : Nat) ≠ 475 by decide), up2_k _ _ _ _ (show (473 : Nat) ≠ 474 by decide), hk]
  refine w_iload X dX8_newRule_60 rfl ?_
  refine s_iast X (k) (by decide) (fun _ => σ_m12 G n0 _ _ (by decide)) dX8_newRule_62 ?_
  refine w_aload_n X dX8_newRule_63 rfl ?_
  refine w_get X (by decide) (σ_473 G n0 _ _) rfl gW_X8 10 (by decide) gF_X8_35 rfl dX8_newRule_64 ?_
  refine w_aload_n X dX8_newRule_67 rfl ?_
  refine w_get X (by decide) (σ_473 G n0 _ _) rfl gW_X8 3 (by decide) gF_X8_80 rfl dX8_newRule_68 ?_
  rw [up2_k _ _ _ _ (show (473 : Nat) ≠ 479 by decide), up2_k _ _ _ _ (show (473 : Nat) ≠ 478 by decide), up2_k _ _ _ _ (show (473 : Nat) ≠ 477 by decide), up2_k _ _ _ _ (show (473 : Nat) ≠ 476 by decide), up2_k _ _ _ _ (show (473 : Nat) ≠ 475 by decide), up2_k _ _ _ _ (show (473 : Nat) ≠ 474 by decide), hk]
  refine w_bipush X dX8_newRule_71 rfl ?_
  refine s_iast X (k) (by decide) (fun _ => σ_m12 G n0 _ _ (by decide)) dX8_newRule_73 ?_
  refine w_aload_n X dX8_newRule_74 rfl ?_
  refine w_dup X dX8_newRule_75 rfl ?_
  refine w_get X (by decide) (σ_473 G n0 _ _) rfl gW_X8 3 (by decide) gF_X8_80 rfl dX8_newRule_76 ?_
  rw [up2_k _ _ _ _ (show (473 : Nat) ≠ 480 by decide), up2_k _ _ _ _ (show (473 : Nat) ≠ 479 by decide), up2_k _ _ _ _ (show (473 : Nat) ≠ 478 by decide), up2_k _ _ _ _ (show (473 : Nat) ≠ 477 by decide), up2_k _ _ _ _ (show (473 : Nat) ≠ 476 by decide), up2_k _ _ _ _ (show (473 : Nat) ≠ 475 by decide), up2_k _ _ _ _ (show (473 : Nat) ≠ 474 by decide), hk]
  refine w_iconst X dX8_newRule_79 ?_
  refine w_iadd X dX8_newRule_80 ?_
  refine w_put X (by decide) (σ_473 G n0 _ _) rfl gW_X8 tyX8 tyX8_ok nmX8 3 (by decide) gF_X8_80 rfl rfl rfl (Nat.le_of_ble_eq_true rfl) dX8_newRule_81 (WW.eqf (sp_473_3 _) ?_)
  refine w_aload_n X dX8_newRule_84 rfl ?_
  refine w_iconst X dX8_newRule_85 ?_
  refine w_put X (by decide) (σ_473 G n0 _ _) rfl gW_X8 tyX8 tyX8_ok nmX8 14 (by decide) gF_X8_88 rfl rfl rfl (Nat.le_of_ble_eq_true rfl) dX8_newRule_86 (WW.eqf (sp_473_14 _) ?_)
  refine w_aload_n X dX8_newRule_89 rfl ?_
  refine w_get X (by decide) (σ_473 G n0 _ _) rfl gW_X8 3 (by decide) gF_X8_80 rfl dX8_newRule_90 ?_
  rw [show up2 (up2 (up2 (up2 (up2 (up2 (up2 (up2 (up2 mi 474 k z1) 475 k z2) 476 k z3) 477 k z4) 478 k z5) 479 k z6) 480 k (-9)) 473 3 ((k : Int) + 1)) 473 14 0 473 3 = (k : Int) + 1 by simp [up2]]
  refine w_iconst X dX8_newRule_93 ?_
  refine w_isub X dX8_newRule_94 ?_
  refine s_iret X hr dX8_newRule_95 ?_
  have g3 : up2 (up2 (up2 (up2 (up2 (up2 (up2 (up2 (up2 mi 474 k z1) 475 k z2) 476 k z3) 477 k z4) 478 k z5) 479 k z6) 480 k (-9)) 473 3 ((k : Int) + 1)) 473 14 0 473 3 = (k : Int) + 1 := by simp [up2]
  have g14 : up2 (up2 (up2 (up2 (up2 (up2 (up2 (up2 (up2 mi 474 k z1) 475 k z2) 476 k z3) 477 k z4) 478 k z5) 479 k z6) 480 k (-9)) 473 3 ((k : Int) + 1)) 473 14 0 473 14 = 0 := by simp [up2]
  have gj : ∀ j : Nat, j ≠ 3 → j ≠ 14 → up2 (up2 (up2 (up2 (up2 (up2 (up2 (up2 (up2 mi 474 k z1) 475 k z2) 476 k z3) 477 k z4) 478 k z5) 479 k z6) 480 k (-9)) 473 3 ((k : Int) + 1)) 473 14 0 473 j = mi 473 j := fun j h1 h2 => by simp [up2, h1, h2]
  have ga : ∀ a, a ≠ 473 → (a < 474 ∨ 480 < a) → up2 (up2 (up2 (up2 (up2 (up2 (up2 (up2 (up2 mi 474 k z1) 475 k z2) 476 k z3) 477 k z4) 478 k z5) 479 k z6) 480 k (-9)) 473 3 ((k : Int) + 1)) 473 14 0 a = mi a := fun a h1 h2 => by rw [up2_k _ _ _ _ h1, up2_k _ _ _ _ h1, up2_k _ _ _ _ (by omega), up2_k _ _ _ _ (by omega), up2_k _ _ _ _ (by omega), up2_k _ _ _ _ (by omega), up2_k _ _ _ _ (by omega), up2_k _ _ _ _ (by omega), up2_k _ _ _ _ (by omega)]
  have gr : ∀ j : Nat, up2 (up2 (up2 (up2 (up2 (up2 (up2 (up2 (up2 mi 474 k z1) 475 k z2) 476 k z3) 477 k z4) 478 k z5) 479 k z6) 480 k (-9)) 473 3 ((k : Int) + 1)) 473 14 0 474 j = (if j = k then z1 else mi 474 j) ∧ up2 (up2 (up2 (up2 (up2 (up2 (up2 (up2 (up2 mi 474 k z1) 475 k z2) 476 k z3) 477 k z4) 478 k z5) 479 k z6) 480 k (-9)) 473 3 ((k : Int) + 1)) 473 14 0 475 j = (if j = k then z2 else mi 475 j) ∧ up2 (up2 (up2 (up2 (up2 (up2 (up2 (up2 (up2 mi 474 k z1) 475 k z2) 476 k z3) 477 k z4) 478 k z5) 479 k z6) 480 k (-9)) 473 3 ((k : Int) + 1)) 473 14 0 476 j = (if j = k then z3 else mi 476 j) ∧ up2 (up2 (up2 (up2 (up2 (up2 (up2 (up2 (up2 mi 474 k z1) 475 k z2) 476 k z3) 477 k z4) 478 k z5) 479 k z6) 480 k (-9)) 473 3 ((k : Int) + 1)) 473 14 0 477 j = (if j = k then z4 else mi 477 j) ∧ up2 (up2 (up2 (up2 (up2 (up2 (up2 (up2 (up2 mi 474 k z1) 475 k z2) 476 k z3) 477 k z4) 478 k z5) 479 k z6) 480 k (-9)) 473 3 ((k : Int) + 1)) 473 14 0 478 j = (if j = k then z5 else mi 478 j) ∧ up2 (up2 (up2 (up2 (up2 (up2 (up2 (up2 (up2 mi 474 k z1) 475 k z2) 476 k z3) 477 k z4) 478 k z5) 479 k z6) 480 k (-9)) 473 3 ((k : Int) + 1)) 473 14 0 479 j = (if j = k then z6 else mi 479 j) ∧ up2 (up2 (up2 (up2 (up2 (up2 (up2 (up2 (up2 mi 474 k z1) 475 k z2) 476 k z3) 477 k z4) 478 k z5) 479 k z6) 480 k (-9)) 473 3 ((k : Int) + 1)) 473 14 0 480 j = (if j = k then -9 else mi 480 j) := fun j => by simp [up2]
  generalize up2 (up2 (up2 (up2 (up2 (up2 (up2 (up2 (up2 mi 474 k z1) 475 k z2) 476 k z3) 477 k z4) 478 k z5) 479 k z6) 480 k (-9)) 473 3 ((k : Int) + 1)) 473 14 0 = m8 at *
  refine ⟨by omega, fun ρ hρ => ⟨⟨by rw [gj 1 (by decide) (by decide)]; exact hM1, by rw [g3, ← hk, hM2], by rw [gj 11 (by decide) (by decide)]; exact hM3, fun j hj w w1 w2 => ?_, fun b hb i hi => by rw [ga 481 (by decide) (by decide)]; exact hM.2.2.2.2 b hb i hi⟩, by rw [gj 2 (by decide) (by decide)]; exact hset, fun j hj => by rw [ga 482 (by decide) (by decide)]; exact hH j hj, Or.inl ⟨rfl, g14⟩⟩, fun a ha => ga a (by omega) (by omega), rfl⟩
  show m8 (473 + w) j = (if (j : Int) = L.2.1 then ρ else L.2.2.2.1 j) w
  have hj2 : (j : Int) < L.2.1 + 1 := hj
  obtain ⟨p1, p2, p3, p4, p5, p6, p7⟩ := hρ
  obtain ⟨u1, u2, u3, u4, u5, u6, u7⟩ := gr j
  by_cases q : (j : Int) = L.2.1
  · have q2 : j = k := by omega
    rw [if_pos q]
    rw [if_pos q2] at u1 u2 u3 u4 u5 u6 u7
    rcases (show w = 1 ∨ w = 2 ∨ w = 3 ∨ w = 4 ∨ w = 5 ∨ w = 6 ∨ w = 7 by omega) with rfl | rfl | rfl | rfl | rfl | rfl | rfl
    · exact u1.trans p1.symm
    · exact u2.trans p2.symm
    · exact u3.trans p3.symm
    · exact u4.trans p4.symm
    · exact u5.trans p5.symm
    · exact u6.trans p6.symm
    · exact u7.trans p7.symm
  · have q2 : ¬ j = k := by omega
    rw [if_neg q, ← hM.2.2.2.1 j (by omega) w w1 w2]
    rw [if_neg q2] at u1 u2 u3 u4 u5 u6 u7
    rcases (show w = 1 ∨ w = 2 ∨ w = 3 ∨ w = 4 ∨ w = 5 ∨ w = 6 ∨ w = 7 by omega) with rfl | rfl | rfl | rfl | rfl | rfl | rfl
    · exact u1
    · exact u2
    · exact u3
    · exact u4
    · exact u5
    · exact u6
    · exact u7
theorem dX8_alone_0 : decode cX8_alone 0 = .ok (.aload_n 0, 1) := by decide +kernel
theorem dX8_alone_1 : decode cX8_alone 1 = .ok (.iconst 0, 1) := by decide +kernel
theorem dX8_alone_2 : decode cX8_alone 2 = .ok (.putfield 73, 3) := by decide +kernel
theorem dX8_alone_5 : decode cX8_alone 5 = .ok (.aload_n 0, 1) := by decide +kernel
theorem dX8_alone_6 : decode cX8_alone 6 = .ok (.iload_n 1, 1) := by decide +kernel
theorem dX8_alone_7 : decode cX8_alone 7 = .ok (.invokevirtual 92, 3) := by decide +kernel
theorem dX8_alone_10 : decode cX8_alone 10 = .ok (.ifCond .ne 11, 3) := by decide +kernel
theorem dX8_alone_13 : decode cX8_alone 13 = .ok (.aload_n 0, 1) := by decide +kernel
theorem dX8_alone_14 : decode cX8_alone 14 = .ok (.iload_n 2, 1) := by decide +kernel
theorem dX8_alone_15 : decode cX8_alone 15 = .ok (.invokevirtual 92, 3) := by decide +kernel
theorem dX8_alone_18 : decode cX8_alone 18 = .ok (.ifCond .eq 5, 3) := by decide +kernel
theorem dX8_alone_21 : decode cX8_alone 21 = .ok (.iconst (-1), 1) := by decide +kernel
theorem dX8_alone_22 : decode cX8_alone 22 = .ok (.ireturn, 1) := by decide +kernel
theorem dX8_alone_23 : decode cX8_alone 23 = .ok (.aload_n 0, 1) := by decide +kernel
theorem dX8_alone_24 : decode cX8_alone 24 = .ok (.getfield 80, 3) := by decide +kernel
theorem dX8_alone_27 : decode cX8_alone 27 = .ok (.bipush 12, 2) := by decide +kernel
theorem dX8_alone_29 : decode cX8_alone 29 = .ok (.if_icmp .ne 8, 3) := by decide +kernel
theorem dX8_alone_32 : decode cX8_alone 32 = .ok (.bipush (-4), 2) := by decide +kernel
theorem dX8_alone_34 : decode cX8_alone 34 = .ok (.goto 16, 3) := by decide +kernel
theorem dX8_alone_37 : decode cX8_alone 37 = .ok (.aload_n 0, 1) := by decide +kernel
theorem dX8_alone_38 : decode cX8_alone 38 = .ok (.iconst 0, 1) := by decide +kernel
theorem dX8_alone_39 : decode cX8_alone 39 = .ok (.iload_n 1, 1) := by decide +kernel
theorem dX8_alone_40 : decode cX8_alone 40 = .ok (.iload_n 2, 1) := by decide +kernel
theorem dX8_alone_41 : decode cX8_alone 41 = .ok (.bipush (-9), 2) := by decide +kernel
theorem dX8_alone_43 : decode cX8_alone 43 = .ok (.bipush (-9), 2) := by decide +kernel
theorem dX8_alone_45 : decode cX8_alone 45 = .ok (.bipush (-9), 2) := by decide +kernel
theorem dX8_alone_47 : decode cX8_alone 47 = .ok (.invokevirtual 96, 3) := by decide +kernel
theorem dX8_alone_50 : decode cX8_alone 50 = .ok (.ireturn, 1) := by decide +kernel
theorem hl_yX8_alone : (yX8_alone.cls ≠ "java/lang/invoke/MethodHandle" ∧ yX8_alone.cls ≠ "java/lang/invoke/VarHandle") ∧ (parseMethodDescriptor yX8_alone.desc).map (fun d => d.parameters.length) = some 2 := by decide +kernel
set_option maxRecDepth 20000 in
set_option maxHeartbeats 4000000 in
theorem c_X8_alone {l : Launch} {G : Gt} {n0 : Nat} {mi : Nat → Nat → Int} {mr : Nat → Nat → Nat} {L : Lws} {set : Int} {H : V5} {o : Int} (hA : AV L set H) (hV : MV L set H o mi) {z x : Int} (hz : rg z) (hx : rg x) : Ci l yX8_alone cX8_alone 3 .int 3 G n0 [.ref (n0 + 473), .int (jI z), .int (jI x)] mi mr (fun r9 mi9 mr9 => ((¬ ((0 ≤ z ∧ z < L.1) ∧ (0 ≤ x ∧ x < L.1)) ∧ r9 = -1 ∧ MV L set H o mi9) ∨ (((0 ≤ z ∧ z < L.1) ∧ (0 ≤ x ∧ x < L.1)) ∧ MRP L set H o 0 z x (-9) (-9) (-9) r9 mi9)) ∧ (∀ a, a < 473 → mi9 a = mi a) ∧ mr = mr9) := by
  refine Ct_of (by decide +kernel) (by intro v hv; simp at hv; rcases hv with rfl | rfl | rfl <;> rfl) (Nat.le_of_ble_eq_true rfl) ?_
  intro p e s m args below meth c9 X hr hname
  show WW _ _ _ _ _ _ _ _ _ _ _ _ _ _ _ _ _ _ _ [some (.ref (n0 + 473)), some (.int (jI z)), some (.int (jI x))] _
  refine w_aload_n X dX8_alone_0 rfl ?_
  refine w_iconst X dX8_alone_1 ?_
  refine w_put X (by decide) (σ_473 G n0 _ _) rfl gW_X8 tyX8 tyX8_ok nmX8 0 (by decide) gF_X8_73 rfl rfl rfl (Nat.le_of_ble_eq_true rfl) dX8_alone_2 (WW.eqf (sp_473_0 _) ?_)
  have hV1 := MV_t hV
  have hfr0 : ∀ a, a < 473 → up2 mi 473 0 0 a = mi a := fun a ha => up2_k _ _ _ _ (by omega)
  generalize up2 mi 473 0 0 = m0 at *
  obtain ⟨hM, hset, hH, hS⟩ := id hV1
  have hM1 := hM.1
  have hM2 := hM.2.1
  have hM3 := hM.2.2.1
  have hsc : 1 ≤ m0 473 1 ∧ m0 473 1 ≤ 5 := by rw [hM1]; exact hA.1.1.1
  have hrc : 0 ≤ m0 473 3 ∧ m0 473 3 ≤ 12 := by rw [hM2]; exact hA.1.2.1
  have hset2 := hA.2.1
  refine w_aload_n X dX8_alone_5 rfl ?_
  refine w_iload_n X dX8_alone_6 rfl ?_
  refine s_callVi X _ (c_X8_noState (l := l) (G := G) (n0 := n0) hsc (by first | assumption | (refine ⟨?_, ?_⟩ <;> omega))) gM_X8_92 gI_yX8_noState gS_yX8_noState gN_X8 gC_yX8_noState (by decide) (σ_473 G n0 _ _) rfl dX8_alone_7 hl_yX8_noState ⟨Nat.le_of_ble_eq_true rfl, Nat.le_of_ble_eq_true rfl⟩ (Nat.le_of_ble_eq_true rfl) rfl (fun r1 mi1 mr1 h1 => ?_)
  obtain ⟨rfl, rfl, h1⟩ := h1
  refine w_if_ne X 21 dX8_alone_10 (by decide) (fun c10_1 => ?_) (fun c10_1 => ?_)
  ·
    refine w_iconst X dX8_alone_21 ?_
    refine s_iret X hr dX8_alone_22 ?_
    exact ⟨Or.inl ⟨by rintro ⟨w1, w2⟩; omega, rfl, hV1⟩, hfr0, rfl⟩
  ·
    refine w_aload_n X dX8_alone_13 rfl ?_
    refine w_iload_n X dX8_alone_14 rfl ?_
    refine s_callVi X _ (c_X8_noState (l := l) (G := G) (n0 := n0) hsc (by first | assumption | (refine ⟨?_, ?_⟩ <;> omega))) gM_X8_92 gI_yX8_noState gS_yX8_noState gN_X8 gC_yX8_noState (by decide) (σ_473 G n0 _ _) rfl dX8_alone_15 hl_yX8_noState ⟨Nat.le_of_ble_eq_true rfl, Nat.le_of_ble_eq_true rfl⟩ (Nat.le_of_ble_eq_true rfl) rfl (fun r2 mi2 mr2 h2 => ?_)
    obtain ⟨rfl, rfl, h2⟩ := h2
    refine w_if_eq X 23 dX8_alone_18 (by decide) (fun c18_2 => ?_) (fun c18_2 => ?_)
    ·
      refine w_aload_n X dX8_alone_23 rfl ?_
      refine w_get X (by decide) (σ_473 G n0 _ _) rfl gW_X8 3 (by decide) gF_X8_80 rfl dX8_alone_24 ?_
      refine w_bipush X dX8_alone_27 rfl ?_
      refine w_icmp_ne X 37 dX8_alone_29 (by decide) (fun c29_3 => ?_) (fun c29_3 => ?_)
      ·
        refine w_aload_n X dX8_alone_37 rfl ?_
        refine w_iconst X dX8_alone_38 ?_
        refine w_iload_n X dX8_alone_39 rfl ?_
        refine w_iload_n X dX8_alone_40 rfl ?_
        refine w_bipush X dX8_alone_41 rfl ?_
        refine w_bipush X dX8_alone_43 rfl ?_
        refine w_bipush X dX8_alone_45 rfl ?_
        refine s_callVi X _ (c_X8_newRule (l := l) (G := G) (n0 := n0) hA hV1 (by omega)) gM_X8_96 gI_yX8_newRule gS_yX8_newRule gN_X8 gC_yX8_newRule (by decide) (σ_473 G n0 _ _) rfl dX8_alone_47 hl_yX8_newRule ⟨Nat.le_of_ble_eq_true rfl, Nat.le_of_ble_eq_true rfl⟩ (Nat.le_of_ble_eq_true rfl) rfl (fun r3 mi3 mr3 h3 => ?_)
        obtain ⟨hn1, hn2, hn3, rfl⟩ := h3
        refine s_iret X hr dX8_alone_50 ?_
        exact ⟨Or.inr ⟨⟨by omega, by omega⟩, Or.inr ⟨by omega, hn1, hn2⟩⟩, fun a ha => (hn3 a ha).trans (hfr0 a ha), rfl⟩
      ·
        refine w_bipush X dX8_alone_32 rfl ?_
        refine w_goto X 50 dX8_alone_34 (by decide) ?_
        refine s_iret X hr dX8_alone_50 ?_
        exact ⟨Or.inr ⟨⟨by omega, by omega⟩, Or.inl ⟨by omega, rfl, hV1⟩⟩, hfr0, rfl⟩
    ·
      refine w_iconst X dX8_alone_21 ?_
      refine s_iret X hr dX8_alone_22 ?_
      exact ⟨Or.inl ⟨by rintro ⟨w1, w2⟩; omega, rfl, hV1⟩, hfr0, rfl⟩
theorem dX8_pair_0 : decode cX8_pair 0 = .ok (.aload_n 0, 1) := by decide +kernel
theorem dX8_pair_1 : decode cX8_pair 1 = .ok (.iconst 0, 1) := by decide +kernel
theorem dX8_pair_2 : decode cX8_pair 2 = .ok (.putfield 73, 3) := by decide +kernel
theorem dX8_pair_5 : decode cX8_pair 5 = .ok (.aload_n 0, 1) := by decide +kernel
theorem dX8_pair_6 : decode cX8_pair 6 = .ok (.iload_n 1, 1) := by decide +kernel
theorem dX8_pair_7 : decode cX8_pair 7 = .ok (.invokevirtual 92, 3) := by decide +kernel
theorem dX8_pair_10 : decode cX8_pair 10 = .ok (.ifCond .ne 28, 3) := by decide +kernel
theorem dX8_pair_13 : decode cX8_pair 13 = .ok (.aload_n 0, 1) := by decide +kernel
theorem dX8_pair_14 : decode cX8_pair 14 = .ok (.iload_n 2, 1) := by decide +kernel
theorem dX8_pair_15 : decode cX8_pair 15 = .ok (.invokevirtual 92, 3) := by decide +kernel
theorem dX8_pair_18 : decode cX8_pair 18 = .ok (.ifCond .ne 20, 3) := by decide +kernel
theorem dX8_pair_21 : decode cX8_pair 21 = .ok (.aload_n 0, 1) := by decide +kernel
theorem dX8_pair_22 : decode cX8_pair 22 = .ok (.iload_n 3, 1) := by decide +kernel
theorem dX8_pair_23 : decode cX8_pair 23 = .ok (.invokevirtual 92, 3) := by decide +kernel
theorem dX8_pair_26 : decode cX8_pair 26 = .ok (.ifCond .ne 12, 3) := by decide +kernel
theorem dX8_pair_29 : decode cX8_pair 29 = .ok (.aload_n 0, 1) := by decide +kernel
theorem dX8_pair_30 : decode cX8_pair 30 = .ok (.iload 4, 2) := by decide +kernel
theorem dX8_pair_32 : decode cX8_pair 32 = .ok (.invokevirtual 92, 3) := by decide +kernel
theorem dX8_pair_35 : decode cX8_pair 35 = .ok (.ifCond .eq 5, 3) := by decide +kernel
theorem dX8_pair_38 : decode cX8_pair 38 = .ok (.iconst (-1), 1) := by decide +kernel
theorem dX8_pair_39 : decode cX8_pair 39 = .ok (.ireturn, 1) := by decide +kernel
theorem dX8_pair_40 : decode cX8_pair 40 = .ok (.aload_n 0, 1) := by decide +kernel
theorem dX8_pair_41 : decode cX8_pair 41 = .ok (.getfield 80, 3) := by decide +kernel
theorem dX8_pair_44 : decode cX8_pair 44 = .ok (.bipush 12, 2) := by decide +kernel
theorem dX8_pair_46 : decode cX8_pair 46 = .ok (.if_icmp .ne 8, 3) := by decide +kernel
theorem dX8_pair_49 : decode cX8_pair 49 = .ok (.bipush (-4), 2) := by decide +kernel
theorem dX8_pair_51 : decode cX8_pair 51 = .ok (.goto 15, 3) := by decide +kernel
theorem dX8_pair_54 : decode cX8_pair 54 = .ok (.aload_n 0, 1) := by decide +kernel
theorem dX8_pair_55 : decode cX8_pair 55 = .ok (.iconst 1, 1) := by decide +kernel
theorem dX8_pair_56 : decode cX8_pair 56 = .ok (.iload_n 1, 1) := by decide +kernel
theorem dX8_pair_57 : decode cX8_pair 57 = .ok (.iload_n 2, 1) := by decide +kernel
theorem dX8_pair_58 : decode cX8_pair 58 = .ok (.iload_n 3, 1) := by decide +kernel
theorem dX8_pair_59 : decode cX8_pair 59 = .ok (.iload 4, 2) := by decide +kernel
theorem dX8_pair_61 : decode cX8_pair 61 = .ok (.bipush (-9), 2) := by decide +kernel
theorem dX8_pair_63 : decode cX8_pair 63 = .ok (.invokevirtual 96, 3) := by decide +kernel
theorem dX8_pair_66 : decode cX8_pair 66 = .ok (.ireturn, 1) := by decide +kernel
theorem hl_yX8_pair : (yX8_pair.cls ≠ "java/lang/invoke/MethodHandle" ∧ yX8_pair.cls ≠ "java/lang/invoke/VarHandle") ∧ (parseMethodDescriptor yX8_pair.desc).map (fun d => d.parameters.length) = some 4 := by decide +kernel
set_option maxRecDepth 20000 in
set_option maxHeartbeats 4000000 in
theorem c_X8_pair {l : Launch} {G : Gt} {n0 : Nat} {mi : Nat → Nat → Int} {mr : Nat → Nat → Nat} {L : Lws} {set : Int} {H : V5} {o : Int} (hA : AV L set H) (hV : MV L set H o mi) {z x y v : Int} (hz : rg z) (hx : rg x) (hy : rg y) (hv : rg v) : Ci l yX8_pair cX8_pair 5 .int 3 G n0 [.ref (n0 + 473), .int (jI z), .int (jI x), .int (jI y), .int (jI v)] mi mr (fun r9 mi9 mr9 => ((¬ ((0 ≤ z ∧ z < L.1) ∧ (0 ≤ x ∧ x < L.1) ∧ (0 ≤ y ∧ y < L.1) ∧ (0 ≤ v ∧ v < L.1)) ∧ r9 = -1 ∧ MV L set H o mi9) ∨ (((0 ≤ z ∧ z < L.1) ∧ (0 ≤ x ∧ x < L.1) ∧ (0 ≤ y ∧ y < L.1) ∧ (0 ≤ v ∧ v < L.1)) ∧ MRP L set H o 1 z x y v (-9) r9 mi9)) ∧ (∀ a, a < 473 → mi9 a = mi a) ∧ mr = mr9) := by
  refine Ct_of (by decide +kernel) (by intro v hv; simp at hv; rcases hv with rfl | rfl | rfl | rfl | rfl <;> rfl) (Nat.le_of_ble_eq_true rfl) ?_
  intro p e s m args below meth c9 X hr hname
  show WW _ _ _ _ _ _ _ _ _ _ _ _ _ _ _ _ _ _ _ [some (.ref (n0 + 473)), some (.int (jI z)), some (.int (jI x)), some (.int (jI y)), some (.int (jI v))] _
  refine w_aload_n X dX8_pair_0 rfl ?_
  refine w_iconst X dX8_pair_1 ?_
  refine w_put X (by decide) (σ_473 G n0 _ _) rfl gW_X8 tyX8 tyX8_ok nmX8 0 (by decide) gF_X8_73 rfl rfl rfl (Nat.le_of_ble_eq_true rfl) dX8_pair_2 (WW.eqf (sp_473_0 _) ?_)
  have hV1 := MV_t hV
  have hfr0 : ∀ a, a < 473 → up2 mi 473 0 0 a = mi a := fun a ha => up2_k _ _ _ _ (by omega)
  generalize up2 mi 473 0 0 = m0 at *
  obtain ⟨hM, hset, hH, hS⟩ := id hV1
  have hM1 := hM.1
  have hM2 := hM.2.1
  have hM3 := hM.2.2.1
  have hsc : 1 ≤ m0 473 1 ∧ m0 473 1 ≤ 5 := by rw [hM1]; exact hA.1.1.1
  have hrc : 0 ≤ m0 473 3 ∧ m0 473 3 ≤ 12 := by rw [hM2]; exact hA.1.2.1
  have hset2 := hA.2.1
  refine w_aload_n X dX8_pair_5 rfl ?_
  refine w_iload_n X dX8_pair_6 rfl ?_
  refine s_callVi X _ (c_X8_noState (l := l) (G := G) (n0 := n0) hsc (by first | assumption | (refine ⟨?_, ?_⟩ <;> omega))) gM_X8_92 gI_yX8_noState gS_yX8_noState gN_X8 gC_yX8_noState (by decide) (σ_473 G n0 _ _) rfl dX8_pair_7 hl_yX8_noState ⟨Nat.le_of_ble_eq_true rfl, Nat.le_of_ble_eq_true rfl⟩ (Nat.le_of_ble_eq_true rfl) rfl (fun r1 mi1 mr1 h1 => ?_)
  obtain ⟨rfl, rfl, h1⟩ := h1
  refine w_if_ne X 38 dX8_pair_10 (by decide) (fun c10_1 => ?_) (fun c10_1 => ?_)
  ·
    refine w_iconst X dX8_pair_38 ?_
    refine s_iret X hr dX8_pair_39 ?_
    exact ⟨Or.inl ⟨by rintro ⟨w1, w2, w3, w4⟩; omega, rfl, hV1⟩, hfr0, rfl⟩
  ·
    refine w_aload_n X dX8_pair_13 rfl ?_
    refine w_iload_n X dX8_pair_14 rfl ?_
    refine s_callVi X _ (c_X8_noState (l := l) (G := G) (n0 := n0) hsc (by first | assumption | (refine ⟨?_, ?_⟩ <;> omega))) gM_X8_92 gI_yX8_noState gS_yX8_noState gN_X8 gC_yX8_noState (by decide) (σ_473 G n0 _ _) rfl dX8_pair_15 hl_yX8_noState ⟨Nat.le_of_ble_eq_true rfl, Nat.le_of_ble_eq_true rfl⟩ (Nat.le_of_ble_eq_true rfl) rfl (fun r2 mi2 mr2 h2 => ?_)
    obtain ⟨rfl, rfl, h2⟩ := h2
    refine w_if_ne X 38 dX8_pair_18 (by decide) (fun c18_2 => ?_) (fun c18_2 => ?_)
    ·
      refine w_iconst X dX8_pair_38 ?_
      refine s_iret X hr dX8_pair_39 ?_
      exact ⟨Or.inl ⟨by rintro ⟨w1, w2, w3, w4⟩; omega, rfl, hV1⟩, hfr0, rfl⟩
    ·
      refine w_aload_n X dX8_pair_21 rfl ?_
      refine w_iload_n X dX8_pair_22 rfl ?_
      refine s_callVi X _ (c_X8_noState (l := l) (G := G) (n0 := n0) hsc (by first | assumption | (refine ⟨?_, ?_⟩ <;> omega))) gM_X8_92 gI_yX8_noState gS_yX8_noState gN_X8 gC_yX8_noState (by decide) (σ_473 G n0 _ _) rfl dX8_pair_23 hl_yX8_noState ⟨Nat.le_of_ble_eq_true rfl, Nat.le_of_ble_eq_true rfl⟩ (Nat.le_of_ble_eq_true rfl) rfl (fun r3 mi3 mr3 h3 => ?_)
      obtain ⟨rfl, rfl, h3⟩ := h3
      refine w_if_ne X 38 dX8_pair_26 (by decide) (fun c26_3 => ?_) (fun c26_3 => ?_)
      ·
        refine w_iconst X dX8_pair_38 ?_
        refine s_iret X hr dX8_pair_39 ?_
        exact ⟨Or.inl ⟨by rintro ⟨w1, w2, w3, w4⟩; omega, rfl, hV1⟩, hfr0, rfl⟩
      ·
        refine w_aload_n X dX8_pair_29 rfl ?_
        refine w_iload X dX8_pair_30 rfl ?_
        refine s_callVi X _ (c_X8_noState (l := l) (G := G) (n0 := n0) hsc (by first | assumption | (refine ⟨?_, ?_⟩ <;> omega))) gM_X8_92 gI_yX8_noState gS_yX8_noState gN_X8 gC_yX8_noState (by decide) (σ_473 G n0 _ _) rfl dX8_pair_32 hl_yX8_noState ⟨Nat.le_of_ble_eq_true rfl, Nat.le_of_ble_eq_true rfl⟩ (Nat.le_of_ble_eq_true rfl) rfl (fun r4 mi4 mr4 h4 => ?_)
        obtain ⟨rfl, rfl, h4⟩ := h4
        refine w_if_eq X 40 dX8_pair_35 (by decide) (fun c35_4 => ?_) (fun c35_4 => ?_)
        ·
          refine w_aload_n X dX8_pair_40 rfl ?_
          refine w_get X (by decide) (σ_473 G n0 _ _) rfl gW_X8 3 (by decide) gF_X8_80 rfl dX8_pair_41 ?_
          refine w_bipush X dX8_pair_44 rfl ?_
          refine w_icmp_ne X 54 dX8_pair_46 (by decide) (fun c46_5 => ?_) (fun c46_5 => ?_)
          ·
            refine w_aload_n X dX8_pair_54 rfl ?_
            refine w_iconst X dX8_pair_55 ?_
            refine w_iload_n X dX8_pair_56 rfl ?_
            refine w_iload_n X dX8_pair_57 rfl ?_
            refine w_iload_n X dX8_pair_58 rfl ?_
            refine w_iload X dX8_pair_59 rfl ?_
            refine w_bipush X dX8_pair_61 rfl ?_
            refine s_callVi X _ (c_X8_newRule (l := l) (G := G) (n0 := n0) hA hV1 (by omega)) gM_X8_96 gI_yX8_newRule gS_yX8_newRule gN_X8 gC_yX8_newRule (by decide) (σ_473 G n0 _ _) rfl dX8_pair_63 hl_yX8_newRule ⟨Nat.le_of_ble_eq_true rfl, Nat.le_of_ble_eq_true rfl⟩ (Nat.le_of_ble_eq_true rfl) rfl (fun r5 mi5 mr5 h5 => ?_)
            obtain ⟨hn1, hn2, hn3, rfl⟩ := h5
            refine s_iret X hr dX8_pair_66 ?_
            exact ⟨Or.inr ⟨⟨by omega, by omega, by omega, by omega⟩, Or.inr ⟨by omega, hn1, hn2⟩⟩, fun a ha => (hn3 a ha).trans (hfr0 a ha), rfl⟩
          ·
            refine w_bipush X dX8_pair_49 rfl ?_
            refine w_goto X 66 dX8_pair_51 (by decide) ?_
            refine s_iret X hr dX8_pair_66 ?_
            exact ⟨Or.inr ⟨⟨by omega, by omega, by omega, by omega⟩, Or.inl ⟨by omega, rfl, hV1⟩⟩, hfr0, rfl⟩
        ·
          refine w_iconst X dX8_pair_38 ?_
          refine s_iret X hr dX8_pair_39 ?_
          exact ⟨Or.inl ⟨by rintro ⟨w1, w2, w3, w4⟩; omega, rfl, hV1⟩, hfr0, rfl⟩
theorem dX8_all_0 : decode cX8_all 0 = .ok (.aload_n 0, 1) := by decide +kernel
theorem dX8_all_1 : decode cX8_all 1 = .ok (.iconst 0, 1) := by decide +kernel
theorem dX8_all_2 : decode cX8_all 2 = .ok (.putfield 73, 3) := by decide +kernel
theorem dX8_all_5 : decode cX8_all 5 = .ok (.aload_n 0, 1) := by decide +kernel
theorem dX8_all_6 : decode cX8_all 6 = .ok (.iload_n 1, 1) := by decide +kernel
theorem dX8_all_7 : decode cX8_all 7 = .ok (.invokevirtual 92, 3) := by decide +kernel
theorem dX8_all_10 : decode cX8_all 10 = .ok (.ifCond .ne 11, 3) := by decide +kernel
theorem dX8_all_13 : decode cX8_all 13 = .ok (.aload_n 0, 1) := by decide +kernel
theorem dX8_all_14 : decode cX8_all 14 = .ok (.iload_n 2, 1) := by decide +kernel
theorem dX8_all_15 : decode cX8_all 15 = .ok (.invokevirtual 92, 3) := by decide +kernel
theorem dX8_all_18 : decode cX8_all 18 = .ok (.ifCond .eq 5, 3) := by decide +kernel
theorem dX8_all_21 : decode cX8_all 21 = .ok (.iconst (-1), 1) := by decide +kernel
theorem dX8_all_22 : decode cX8_all 22 = .ok (.ireturn, 1) := by decide +kernel
theorem dX8_all_23 : decode cX8_all 23 = .ok (.aload_n 0, 1) := by decide +kernel
theorem dX8_all_24 : decode cX8_all 24 = .ok (.iload_n 3, 1) := by decide +kernel
theorem dX8_all_25 : decode cX8_all 25 = .ok (.invokevirtual 100, 3) := by decide +kernel
theorem dX8_all_28 : decode cX8_all 28 = .ok (.istore 4, 2) := by decide +kernel
theorem dX8_all_30 : decode cX8_all 30 = .ok (.iload_n 3, 1) := by decide +kernel
theorem dX8_all_31 : decode cX8_all 31 = .ok (.istore 5, 2) := by decide +kernel
theorem dX8_all_33 : decode cX8_all 33 = .ok (.iconst 0, 1) := by decide +kernel
theorem dX8_all_34 : decode cX8_all 34 = .ok (.istore 6, 2) := by decide +kernel
theorem dX8_all_36 : decode cX8_all 36 = .ok (.iload 6, 2) := by decide +kernel
theorem dX8_all_38 : decode cX8_all 38 = .ok (.aload_n 0, 1) := by decide +kernel
theorem dX8_all_39 : decode cX8_all 39 = .ok (.getfield 7, 3) := by decide +kernel
theorem dX8_all_42 : decode cX8_all 42 = .ok (.if_icmp .ge 40, 3) := by decide +kernel
theorem dX8_all_45 : decode cX8_all 45 = .ok (.iload 4, 2) := by decide +kernel
theorem dX8_all_47 : decode cX8_all 47 = .ok (.ifCond .eq 35, 3) := by decide +kernel
theorem dX8_all_50 : decode cX8_all 50 = .ok (.iload 5, 2) := by decide +kernel
theorem dX8_all_52 : decode cX8_all 52 = .ok (.bipush 10, 2) := by decide +kernel
theorem dX8_all_54 : decode cX8_all 54 = .ok (.irem, 1) := by decide +kernel
theorem dX8_all_55 : decode cX8_all 55 = .ok (.aload_n 0, 1) := by decide +kernel
theorem dX8_all_56 : decode cX8_all 56 = .ok (.getfield 7, 3) := by decide +kernel
theorem dX8_all_59 : decode cX8_all 59 = .ok (.if_icmp .ge 7, 3) := by decide +kernel
theorem dX8_all_62 : decode cX8_all 62 = .ok (.iconst 1, 1) := by decide +kernel
theorem dX8_all_63 : decode cX8_all 63 = .ok (.goto 4, 3) := by decide +kernel
theorem dX8_all_66 : decode cX8_all 66 = .ok (.iconst 0, 1) := by decide +kernel
theorem dX8_all_67 : decode cX8_all 67 = .ok (.istore 4, 2) := by decide +kernel
theorem dX8_all_69 : decode cX8_all 69 = .ok (.iload 5, 2) := by decide +kernel
theorem dX8_all_71 : decode cX8_all 71 = .ok (.bipush 10, 2) := by decide +kernel
theorem dX8_all_73 : decode cX8_all 73 = .ok (.idiv, 1) := by decide +kernel
theorem dX8_all_74 : decode cX8_all 74 = .ok (.istore 5, 2) := by decide +kernel
theorem dX8_all_76 : decode cX8_all 76 = .ok (.iinc 6 1, 3) := by decide +kernel
theorem dX8_all_79 : decode cX8_all 79 = .ok (.goto (-43), 3) := by decide +kernel
theorem dX8_all_82 : decode cX8_all 82 = .ok (.iload 4, 2) := by decide +kernel
theorem dX8_all_84 : decode cX8_all 84 = .ok (.ifCond .ne 6, 3) := by decide +kernel
theorem dX8_all_87 : decode cX8_all 87 = .ok (.bipush (-2), 2) := by decide +kernel
theorem dX8_all_89 : decode cX8_all 89 = .ok (.ireturn, 1) := by decide +kernel
theorem dX8_all_90 : decode cX8_all 90 = .ok (.aload_n 0, 1) := by decide +kernel
theorem dX8_all_91 : decode cX8_all 91 = .ok (.getfield 80, 3) := by decide +kernel
theorem dX8_all_94 : decode cX8_all 94 = .ok (.bipush 12, 2) := by decide +kernel
theorem dX8_all_96 : decode cX8_all 96 = .ok (.if_icmp .ne 8, 3) := by decide +kernel
theorem dX8_all_99 : decode cX8_all 99 = .ok (.bipush (-4), 2) := by decide +kernel
theorem dX8_all_101 : decode cX8_all 101 = .ok (.goto 15, 3) := by decide +kernel
theorem dX8_all_104 : decode cX8_all 104 = .ok (.aload_n 0, 1) := by decide +kernel
theorem dX8_all_105 : decode cX8_all 105 = .ok (.iconst 2, 1) := by decide +kernel
theorem dX8_all_106 : decode cX8_all 106 = .ok (.iload_n 1, 1) := by decide +kernel
theorem dX8_all_107 : decode cX8_all 107 = .ok (.iload_n 2, 1) := by decide +kernel
theorem dX8_all_108 : decode cX8_all 108 = .ok (.bipush (-9), 2) := by decide +kernel
theorem dX8_all_110 : decode cX8_all 110 = .ok (.bipush (-9), 2) := by decide +kernel
theorem dX8_all_112 : decode cX8_all 112 = .ok (.iload_n 3, 1) := by decide +kernel
theorem dX8_all_113 : decode cX8_all 113 = .ok (.invokevirtual 96, 3) := by decide +kernel
theorem dX8_all_116 : decode cX8_all 116 = .ok (.ireturn, 1) := by decide +kernel
theorem hl_yX8_all : (yX8_all.cls ≠ "java/lang/invoke/MethodHandle" ∧ yX8_all.cls ≠ "java/lang/invoke/VarHandle") ∧ (parseMethodDescriptor yX8_all.desc).map (fun d => d.parameters.length) = some 3 := by decide +kernel
set_option maxRecDepth 20000 in
set_option maxHeartbeats 4000000 in
theorem c_X8_all {l : Launch} {G : Gt} {n0 : Nat} {mi : Nat → Nat → Int} {mr : Nat → Nat → Nat} {L : Lws} {set : Int} {H : V5} {o : Int} (hA : AV L set H) (hV : MV L set H o mi) {z x y : Int} (hz : rg z) (hx : rg x) (hy : rg y) : Ci l yX8_all cX8_all 7 .int 3 G n0 [.ref (n0 + 473), .int (jI z), .int (jI x), .int (jI y)] mi mr (fun r9 mi9 mr9 => ((¬ ((0 ≤ z ∧ z < L.1) ∧ (0 ≤ x ∧ x < L.1)) ∧ r9 = -1 ∧ MV L set H o mi9) ∨ (((0 ≤ z ∧ z < L.1) ∧ (0 ≤ x ∧ x < L.1)) ∧ ¬ mapok L.1 y ∧ r9 = -2 ∧ MV L set H o mi9) ∨ (((0 ≤ z ∧ z < L.1) ∧ (0 ≤ x ∧ x < L.1)) ∧ mapok L.1 y ∧ MRP L set H o 2 z x (-9) (-9) y r9 mi9)) ∧ (∀ a, a < 473 → mi9 a = mi a) ∧ mr = mr9) := by
  refine Ct_of (by decide +kernel) (by intro v hv; simp at hv; rcases hv with rfl | rfl | rfl | rfl <;> rfl) (Nat.le_of_ble_eq_true rfl) ?_
  intro p e s m args below meth c9 X hr hname
  show WW _ _ _ _ _ _ _ _ _ _ _ _ _ _ _ _ _ _ _ [some (.ref (n0 + 473)), some (.int (jI z)), some (.int (jI x)), some (.int (jI y)), none, none, none] _
  refine w_aload_n X dX8_all_0 rfl ?_
  refine w_iconst X dX8_all_1 ?_
  refine w_put X (by decide) (σ_473 G n0 _ _) rfl gW_X8 tyX8 tyX8_ok nmX8 0 (by decide) gF_X8_73 rfl rfl rfl (Nat.le_of_ble_eq_true rfl) dX8_all_2 (WW.eqf (sp_473_0 _) ?_)
  have hV1 := MV_t hV
  have hfr0 : ∀ a, a < 473 → up2 mi 473 0 0 a = mi a := fun a ha => up2_k _ _ _ _ (by omega)
  generalize up2 mi 473 0 0 = m0 at *
  obtain ⟨hM, hset, hH, hS⟩ := id hV1
  have hM1 := hM.1
  have hM2 := hM.2.1
  have hM3 := hM.2.2.1
  have hsc : 1 ≤ m0 473 1 ∧ m0 473 1 ≤ 5 := by rw [hM1]; exact hA.1.1.1
  have hrc : 0 ≤ m0 473 3 ∧ m0 473 3 ≤ 12 := by rw [hM2]; exact hA.1.2.1
  have hset2 := hA.2.1
  refine w_aload_n X dX8_all_5 rfl ?_
  refine w_iload_n X dX8_all_6 rfl ?_
  refine s_callVi X _ (c_X8_noState (l := l) (G := G) (n0 := n0) hsc (by first | assumption | (refine ⟨?_, ?_⟩ <;> omega))) gM_X8_92 gI_yX8_noState gS_yX8_noState gN_X8 gC_yX8_noState (by decide) (σ_473 G n0 _ _) rfl dX8_all_7 hl_yX8_noState ⟨Nat.le_of_ble_eq_true rfl, Nat.le_of_ble_eq_true rfl⟩ (Nat.le_of_ble_eq_true rfl) rfl (fun r1 mi1 mr1 h1 => ?_)
  obtain ⟨rfl, rfl, h1⟩ := h1
  refine w_if_ne X 21 dX8_all_10 (by decide) (fun c10_1 => ?_) (fun c10_1 => ?_)
  ·
    refine w_iconst X dX8_all_21 ?_
    refine s_iret X hr dX8_all_22 ?_
    exact ⟨Or.inl ⟨by rintro ⟨w1, w2⟩; omega, rfl, hV1⟩, hfr0, rfl⟩
  ·
    refine w_aload_n X dX8_all_13 rfl ?_
    refine w_iload_n X dX8_all_14 rfl ?_
    refine s_callVi X _ (c_X8_noState (l := l) (G := G) (n0 := n0) hsc (by first | assumption | (refine ⟨?_, ?_⟩ <;> omega))) gM_X8_92 gI_yX8_noState gS_yX8_noState gN_X8 gC_yX8_noState (by decide) (σ_473 G n0 _ _) rfl dX8_all_15 hl_yX8_noState ⟨Nat.le_of_ble_eq_true rfl, Nat.le_of_ble_eq_true rfl⟩ (Nat.le_of_ble_eq_true rfl) rfl (fun r2 mi2 mr2 h2 => ?_)
    obtain ⟨rfl, rfl, h2⟩ := h2
    refine w_if_eq X 23 dX8_all_18 (by decide) (fun c18_2 => ?_) (fun c18_2 => ?_)
    ·
      refine w_aload_n X dX8_all_23 rfl ?_
      refine w_iload_n X dX8_all_24 rfl ?_
      refine s_callVi X _ (c_X8_isShort (l := l) (G := G) (n0 := n0) hsc (by first | assumption | (refine ⟨?_, ?_⟩ <;> omega))) gM_X8_100 gI_yX8_isShort gS_yX8_isShort gN_X8 gC_yX8_isShort (by decide) (σ_473 G n0 _ _) rfl dX8_all_25 hl_yX8_isShort ⟨Nat.le_of_ble_eq_true rfl, Nat.le_of_ble_eq_true rfl⟩ (Nat.le_of_ble_eq_true rfl) rfl (fun r3 mi3 mr3 h3 => ?_)
      obtain ⟨rfl, rfl, h3⟩ := h3
      have hf0 : flg r3 ((0 ≤ y ∧ y < p10 (m0 473 1)) ∧ AU (fun j => y / 10 ^ j % 10 < m0 473 1) 0) := by
        rcases h3 with ⟨q, q2⟩ | ⟨q, q2⟩
        · exact Or.inl ⟨q, q2, fun j hj => absurd hj (by omega)⟩
        · exact Or.inr ⟨q, fun w => q2 w.1⟩
      have hy9 : 0 ≤ y ∧ y < p10 (m0 473 1) → y < 100000 := fun w => by
        have w2 := w.2
        unfold p10 at w2
        split at w2 <;> (try split at w2) <;> (try split at w2) <;> (try split at w2) <;> omega
      refine w_ist7_4 X dX8_all_28 ?_
      refine w_iload_n X dX8_all_30 rfl ?_
      refine w_ist7_5 X dX8_all_31 ?_
      refine w_iconst X dX8_all_33 ?_
      refine w_ist7_6 X dX8_all_34 ?_
      have loop : ∀ (n : Nat) (i : Nat) (w1 x5 : Int), ((i : Int) ≤ m0 473 1) → (flg w1 ((0 ≤ y ∧ y < p10 (m0 473 1)) ∧ AU (fun j => y / 10 ^ j % 10 < m0 473 1) i)) → (w1 = 1 → x5 = y / 10 ^ i ∧ 0 ≤ x5 ∧ x5 < 100000) → n = 5 - i → WSi p l e s m args below meth c9 3 (fun r9 mi9 mr9 => ((¬ ((0 ≤ z ∧ z < L.1) ∧ (0 ≤ x ∧ x < L.1)) ∧ r9 = -1 ∧ MV L set H o mi9) ∨ (((0 ≤ z ∧ z < L.1) ∧ (0 ≤ x ∧ x < L.1)) ∧ ¬ mapok L.1 y ∧ r9 = -2 ∧ MV L set H o mi9) ∨ (((0 ≤ z ∧ z < L.1) ∧ (0 ≤ x ∧ x < L.1)) ∧ mapok L.1 y ∧ MRP L set H o 2 z x (-9) (-9) y r9 mi9)) ∧ (∀ a, a < 473 → mi9 a = mi a) ∧ mr = mr9) G n0 7 m0 mr 36 [some (.ref (n0 + 473)), some (.int (jI z)), some (.int (jI x)), some (.int (jI y)), some (.int (jI w1)), some (.int (jI x5)), some (.int (jI (i : Int)))] [] := by
        intro n
        induction n using Nat.strongRecOn with
        | ind n ih_loop =>
          intro i w1 x5 hi hf hx hn
          have hw1 := flg_b hf
          refine w_iload X dX8_all_36 rfl ?_
          refine w_aload_n X dX8_all_38 rfl ?_
          refine w_get X (by decide) (σ_473 G n0 _ _) rfl gW_X8 1 (by decide) gF_X8_7 rfl dX8_all_39 ?_
          refine w_icmp_ge X 82 dX8_all_42 (by decide) (fun c42_3 => ?_) (fun c42_3 => ?_)
          ·
            have hmo : flg w1 (mapok L.1 y) := by
              rcases hf with ⟨q, q2, q3⟩ | ⟨q, q2⟩
              · refine Or.inl ⟨q, q2.1, by rw [← hM1]; exact q2.2, fun j hj => ?_⟩
                rw [← hM1]
                exact q3 j (by omega)
              · refine Or.inr ⟨q, fun w => q2 ⟨⟨w.1, by rw [hM1]; exact w.2.1⟩, fun j hj => ?_⟩⟩
                show y / 10 ^ j % 10 < m0 473 1
                rw [hM1]
                exact w.2.2 j (by omega)
            refine w_iload X dX8_all_82 rfl ?_
            refine w_if_ne X 90 dX8_all_84 (by decide) (fun c84_4 => ?_) (fun c84_4 => ?_)
            ·
              refine w_aload_n X dX8_all_90 rfl ?_
              refine w_get X (by decide) (σ_473 G n0 _ _) rfl gW_X8 3 (by decide) gF_X8_80 rfl dX8_all_91 ?_
              refine w_bipush X dX8_all_94 rfl ?_
              refine w_icmp_ne X 104 dX8_all_96 (by decide) (fun c96_5 => ?_) (fun c96_5 => ?_)
              ·
                refine w_aload_n X dX8_all_104 rfl ?_
                refine w_iconst X dX8_all_105 ?_
                refine w_iload_n X dX8_all_106 rfl ?_
                refine w_iload_n X dX8_all_107 rfl ?_
                refine w_bipush X dX8_all_108 rfl ?_
                refine w_bipush X dX8_all_110 rfl ?_
                refine w_iload_n X dX8_all_112 rfl ?_
                refine s_callVi X _ (c_X8_newRule (l := l) (G := G) (n0 := n0) hA hV1 (by omega)) gM_X8_96 gI_yX8_newRule gS_yX8_newRule gN_X8 gC_yX8_newRule (by decide) (σ_473 G n0 _ _) rfl dX8_all_113 hl_yX8_newRule ⟨Nat.le_of_ble_eq_true rfl, Nat.le_of_ble_eq_true rfl⟩ (Nat.le_of_ble_eq_true rfl) rfl (fun r4 mi4 mr4 h4 => ?_)
                obtain ⟨hn1, hn2, hn3, rfl⟩ := h4
                refine s_iret X hr dX8_all_116 ?_
                have hmo2 := flg_1 hmo (by omega)
                exact ⟨Or.inr (Or.inr ⟨⟨by omega, by omega⟩, hmo2, Or.inr ⟨by omega, hn1, hn2⟩⟩), fun a ha => (hn3 a ha).trans (hfr0 a ha), rfl⟩
              ·
                refine w_bipush X dX8_all_99 rfl ?_
                refine w_goto X 116 dX8_all_101 (by decide) ?_
                refine s_iret X hr dX8_all_116 ?_
                have hmo2 := flg_1 hmo (by omega)
                exact ⟨Or.inr (Or.inr ⟨⟨by omega, by omega⟩, hmo2, Or.inl ⟨by omega, rfl, hV1⟩⟩), hfr0, rfl⟩
            ·
              refine w_bipush X dX8_all_87 rfl ?_
              refine s_iret X hr dX8_all_89 ?_
              exact ⟨Or.inr (Or.inl ⟨⟨by omega, by omega⟩, flg_0 hmo (by omega), rfl, hV1⟩), hfr0, rfl⟩
          ·
            refine w_iload X dX8_all_45 rfl ?_
            refine w_if_eq X 82 dX8_all_47 (by decide) (fun c47_6 => ?_) (fun c47_6 => ?_)
            ·
              have hmo : flg w1 (mapok L.1 y) := by
                rcases hf with ⟨q, q2, q3⟩ | ⟨q, q2⟩
                · refine Or.inl ⟨q, q2.1, by rw [← hM1]; exact q2.2, fun j hj => ?_⟩
                  rw [← hM1]
                  exact q3 j (by omega)
                · refine Or.inr ⟨q, fun w => q2 ⟨⟨w.1, by rw [hM1]; exact w.2.1⟩, fun j hj => ?_⟩⟩
                  show y / 10 ^ j % 10 < m0 473 1
                  rw [hM1]
                  exact w.2.2 j (by omega)
              refine w_iload X dX8_all_82 rfl ?_
              refine w_if_ne X 90 dX8_all_84 (by decide) (fun h9 => absurd h9 (by first | exact c47_6 | exact fun q9 => q9 c47_6)) (fun _ => ?_)
              refine w_bipush X dX8_all_87 rfl ?_
              refine s_iret X hr dX8_all_89 ?_
              exact ⟨Or.inr (Or.inl ⟨⟨by omega, by omega⟩, flg_0 hmo (by omega), rfl, hV1⟩), hfr0, rfl⟩
            ·
              have hx5 := hx (by rcases hw1 with q | q; exact absurd q (by assumption); exact q)
              refine w_iload X dX8_all_50 rfl ?_
              refine w_bipush X dX8_all_52 rfl ?_
              refine w_irem X dX8_all_54 ?_
              refine w_aload_n X dX8_all_55 rfl ?_
              refine w_get X (by decide) (σ_473 G n0 _ _) rfl gW_X8 1 (by decide) gF_X8_7 rfl dX8_all_56 ?_
              refine w_icmp_ge X 66 dX8_all_59 (by decide) (fun c59_7 => ?_) (fun c59_7 => ?_)
              ·
                refine w_iconst X dX8_all_66 ?_
                refine w_ist7_4 X dX8_all_67 ?_
                refine w_iload X dX8_all_69 rfl ?_
                refine w_bipush X dX8_all_71 rfl ?_
                refine w_idiv X dX8_all_73 ?_
                refine w_ist7_5 X dX8_all_74 ?_
                refine w_iinc7_6 X dX8_all_76 ?_
                refine w_goto X 36 dX8_all_79 (by decide) ?_
                have e8 : y / 10 ^ (i + 1) = x5 / 10 := by rw [Int.pow_succ, ← Int.ediv_ediv_of_nonneg (Int.le_of_lt (Int.pow_pos (by decide))), ← hx5.1]
                exact ih_loop _ (by omega) (i + 1) 0 _ (by omega) (flg_f (fun w => by have w2 : y / 10 ^ i % 10 < m0 473 1 := w.2 i (by omega); rw [← hx5.1] at w2; omega)) (fun q => absurd q (by decide)) rfl
              ·
                refine w_iconst X dX8_all_62 ?_
                refine w_goto X 67 dX8_all_63 (by decide) ?_
                refine w_ist7_4 X dX8_all_67 ?_
                refine w_iload X dX8_all_69 rfl ?_
                refine w_bipush X dX8_all_71 rfl ?_
                refine w_idiv X dX8_all_73 ?_
                refine w_ist7_5 X dX8_all_74 ?_
                refine w_iinc7_6 X dX8_all_76 ?_
                refine w_goto X 36 dX8_all_79 (by decide) ?_
                have e8 : y / 10 ^ (i + 1) = x5 / 10 := by rw [Int.pow_succ, ← Int.ediv_ediv_of_nonneg (Int.le_of_lt (Int.pow_pos (by decide))), ← hx5.1]
                have hfq := flg_1 hf (by omega)
                exact ih_loop _ (by omega) (i + 1) 1 _ (by omega) (flg_t ⟨hfq.1, fun j hj => by rcases (show j < i ∨ j = i by omega) with q | q; exact hfq.2 j q; subst q; show y / 10 ^ j % 10 < m0 473 1; rw [← hx5.1]; omega⟩) (fun _ => ⟨e8.symm, by omega, by omega⟩) rfl
      exact loop _ 0 _ _ (by omega) hf0 (fun q => ⟨by simp, by rcases h3 with ⟨q3, q4⟩ | ⟨q3, q4⟩; exact q4.1; omega, by rcases h3 with ⟨q3, q4⟩ | ⟨q3, q4⟩; exact hy9 q4; omega⟩) rfl
    ·
      refine w_iconst X dX8_all_21 ?_
      refine s_iret X hr dX8_all_22 ?_
      exact ⟨Or.inl ⟨by rintro ⟨w1, w2⟩; omega, rfl, hV1⟩, hfr0, rfl⟩
