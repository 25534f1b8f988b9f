theorem dX7_all_0 : decode cX7_all 0 = .ok (.aload_n 0, 1) := by decide +kernel
theorem dX7_all_1 : decode cX7_all 1 = .ok (.getfield 10, 3) := by decide +kernel
theorem dX7_all_4 : decode cX7_all 4 = .ok (.iload_n 1, 1) := by decide +kernel
theorem dX7_all_5 : decode cX7_all 5 = .ok (.invokevirtual 59, 3) := by decide +kernel
theorem dX7_all_8 : decode cX7_all 8 = .ok (.ifCond .eq 14, 3) := by decide +kernel
theorem dX7_all_11 : decode cX7_all 11 = .ok (.aload_n 0, 1) := by decide +kernel
theorem dX7_all_12 : decode cX7_all 12 = .ok (.getfield 10, 3) := by decide +kernel
theorem dX7_all_15 : decode cX7_all 15 = .ok (.iload_n 2, 1) := by decide +kernel
theorem dX7_all_16 : decode cX7_all 16 = .ok (.invokevirtual 59, 3) := by decide +kernel
theorem dX7_all_19 : decode cX7_all 19 = .ok (.ifCond .ne 5, 3) := by decide +kernel
theorem dX7_all_22 : decode cX7_all 22 = .ok (.iconst (-1), 1) := by decide +kernel
theorem dX7_all_23 : decode cX7_all 23 = .ok (.ireturn, 1) := by decide +kernel
theorem dX7_all_24 : decode cX7_all 24 = .ok (.aload_n 0, 1) := by decide +kernel
theorem dX7_all_25 : decode cX7_all 25 = .ok (.getfield 10, 3) := by decide +kernel
theorem dX7_all_28 : decode cX7_all 28 = .ok (.iload_n 3, 1) := by decide +kernel
theorem dX7_all_29 : decode cX7_all 29 = .ok (.invokevirtual 67, 3) := by decide +kernel
theorem dX7_all_32 : decode cX7_all 32 = .ok (.ifCond .ne 6, 3) := by decide +kernel
theorem dX7_all_35 : decode cX7_all 35 = .ok (.bipush (-2), 2) := by decide +kernel
theorem dX7_all_37 : decode cX7_all 37 = .ok (.ireturn, 1) := by decide +kernel
theorem dX7_all_38 : decode cX7_all 38 = .ok (.aload_n 0, 1) := by decide +kernel
theorem dX7_all_39 : decode cX7_all 39 = .ok (.iconst 2, 1) := by decide +kernel
theorem dX7_all_40 : decode cX7_all 40 = .ok (.iload_n 1, 1) := by decide +kernel
theorem dX7_all_41 : decode cX7_all 41 = .ok (.iload_n 2, 1) := by decide +kernel
theorem dX7_all_42 : decode cX7_all 42 = .ok (.bipush (-9), 2) := by decide +kernel
theorem dX7_all_44 : decode cX7_all 44 = .ok (.bipush (-9), 2) := by decide +kernel
theorem dX7_all_46 : decode cX7_all 46 = .ok (.iload_n 3, 1) := by decide +kernel
theorem dX7_all_47 : decode cX7_all 47 = .ok (.invokevirtual 63, 3) := by decide +kernel
theorem dX7_all_50 : decode cX7_all 50 = .ok (.ireturn, 1) := by decide +kernel
theorem hl_yX7_all : (yX7_all.cls ≠ "java/lang/invoke/MethodHandle" ∧ yX7_all.cls ≠ "java/lang/invoke/VarHandle") ∧ (parseMethodDescriptor yX7_all.desc).map (fun d => d.parameters.length) = some 3 := by decide +kernel
set_option maxRecDepth 20000 in
set_option maxHeartbeats 4000000 in
theorem c_X7_all {l : Launch} {G : Gt} {n0 : Nat} {mi : Nat → Nat → Int} {mr : Nat → Nat → Nat} {K : Nat → Nat → Int} {L : Lws} {set : Int} {H : V5} {o : Int} (hV : CV K L set H o mi mr) {z x y : Int} (hz : rg z) (hx : rg x) (hy : rg y) : Ci l yX7_all cX7_all 4 .int 5 G n0 [.ref (n0 + 0), .int (jI z), .int (jI x), .int (jI y)] mi mr (fun r9 mi9 mr9 => (¬ ((0 ≤ z ∧ z < L.1) ∧ (0 ≤ x ∧ x < L.1)) ∧ r9 = -1 ∧ mi = mi9 ∧ mr = mr9) ∨ (((0 ≤ z ∧ z < L.1) ∧ (0 ≤ x ∧ x < L.1)) ∧ ¬ mapok L.1 y ∧ r9 = -2 ∧ mi = mi9 ∧ mr = mr9) ∨ (((0 ≤ z ∧ z < L.1) ∧ (0 ≤ x ∧ x < L.1)) ∧ mapok L.1 y ∧ NRP K L set H 2 z x (-9) (-9) y mi mr r9 mi9 mr9)) := by
  refine Ct_of (by decide +kernel) (by intro v hv; simp at hv; rcases hv with rfl | rfl | rfl | rfl <;> rfl) (Nat.le_of_ble_eq_true rfl) ?_
  intro p e s m args below meth c9 X hr hname
  show WW _ _ _ _ _ _ _ _ _ _ _ _ _ _ _ _ _ _ _ [some (.ref (n0 + 0)), some (.int (jI z)), some (.int (jI x)), some (.int (jI y))] _
  have hW := hV.1
  have hO := hV.2.1
  have hC := hV.2.2.1
  have hH := hV.2.2.2.2.1
  have hHb := HA_b hH
  have hVo := CV_o hV
  have hoo : mi 44 6 = o := hV.2.2.2.2.2.2.1
  have hsc := hW.1
  have hC1 := hC.1
  refine w_aload_n X dX7_all_0 rfl ?_
  refine w_get X (by decide) (σ_0 G n0 _ _) rfl gW_X7 0 (by decide) gF_X7_10 rfl dX7_all_1 ?_
  refine w_iload_n X dX7_all_4 rfl ?_
  refine s_callVi X _ (c_X5_isState (l := l) (G := G) (n0 := n0) hsc (by first | assumption | (refine ⟨?_, ?_⟩ <;> omega))) gM_X7_59 gI_yX5_isState gS_yX5_isState gN_X5 gC_yX5_isState (by decide) (σ_1 G n0 _ _) rfl dX7_all_5 hl_yX5_isState ⟨Nat.le_of_ble_eq_true rfl, Nat.le_of_ble_eq_true rfl⟩ (Nat.le_of_ble_eq_true rfl) rfl (fun r1 mi1 mr1 h1 => ?_)
  obtain ⟨rfl, rfl, h1⟩ := h1
  refine w_if_eq X 22 dX7_all_8 (by decide) (fun c8_1 => ?_) (fun c8_1 => ?_)
  ·
    refine w_iconst X dX7_all_22 ?_
    refine s_iret X hr dX7_all_23 ?_
    exact Or.inl ⟨by rw [hC1]; rintro ⟨w1, w2⟩; omega, rfl, rfl, rfl⟩
  ·
    refine w_aload_n X dX7_all_11 rfl ?_
    refine w_get X (by decide) (σ_0 G n0 _ _) rfl gW_X7 0 (by decide) gF_X7_10 rfl dX7_all_12 ?_
    refine w_iload_n X dX7_all_15 rfl ?_
    refine s_callVi X _ (c_X5_isState (l := l) (G := G) (n0 := n0) hsc (by first | assumption | (refine ⟨?_, ?_⟩ <;> omega))) gM_X7_59 gI_yX5_isState gS_yX5_isState gN_X5 gC_yX5_isState (by decide) (σ_1 G n0 _ _) rfl dX7_all_16 hl_yX5_isState ⟨Nat.le_of_ble_eq_true rfl, Nat.le_of_ble_eq_true rfl⟩ (Nat.le_of_ble_eq_true rfl) rfl (fun r2 mi2 mr2 h2 => ?_)
    obtain ⟨rfl, rfl, h2⟩ := h2
    refine w_if_ne X 24 dX7_all_19 (by decide) (fun c19_2 => ?_) (fun c19_2 => ?_)
    ·
      have hst : (0 ≤ z ∧ z < L.1) ∧ (0 ≤ x ∧ x < L.1) := by rw [hC1]; refine ⟨?_, ?_⟩ <;> omega
      refine w_aload_n X dX7_all_24 rfl ?_
      refine w_get X (by decide) (σ_0 G n0 _ _) rfl gW_X7 0 (by decide) gF_X7_10 rfl dX7_all_25 ?_
      refine w_iload_n X dX7_all_28 rfl ?_
      refine s_callVi X _ (c_X5_isMap (l := l) (G := G) (n0 := n0) hsc (by first | assumption | (refine ⟨?_, ?_⟩ <;> omega))) gM_X7_67 gI_yX5_isMap gS_yX5_isMap gN_X5 gC_yX5_isMap (by decide) (σ_1 G n0 _ _) rfl dX7_all_29 hl_yX5_isMap ⟨Nat.le_of_ble_eq_true rfl, Nat.le_of_ble_eq_true rfl⟩ (Nat.le_of_ble_eq_true rfl) rfl (fun r3 mi3 mr3 h3 => ?_)
      obtain ⟨rfl, rfl, h3⟩ := h3
      refine w_if_ne X 38 dX7_all_32 (by decide) (fun c32_3 => ?_) (fun c32_3 => ?_)
      ·
        have hmo : mapok (mi 1 3) y := by
          rcases h3 with ⟨-, q⟩ | ⟨q, -⟩
          · exact q
          · omega
        have hNR : NR (mi 1 3) 2 z x (-9) (-9) y := by
          have hst2 := hst
          rw [hC1] at hst2
          exact ⟨by omega, hst2.1, hst2.2, Or.inr ⟨by decide, rfl, rfl⟩, Or.inl ⟨rfl, hmo⟩⟩
        refine w_aload_n X dX7_all_38 rfl ?_
        refine w_iconst X dX7_all_39 ?_
        refine w_iload_n X dX7_all_40 rfl ?_
        refine w_iload_n X dX7_all_41 rfl ?_
        refine w_bipush X dX7_all_42 rfl ?_
        refine w_bipush X dX7_all_44 rfl ?_
        refine w_iload_n X dX7_all_46 rfl ?_
        refine s_callVi X _ (c_X7_addRule (l := l) (G := G) (n0 := n0) hV hNR) gM_X7_63 gI_yX7_addRule gS_yX7_addRule gN_X7 gC_yX7_addRule (by decide) (σ_0 G n0 _ _) rfl dX7_all_47 hl_yX7_addRule ⟨Nat.le_of_ble_eq_true rfl, Nat.le_of_ble_eq_true rfl⟩ (Nat.le_of_ble_eq_true rfl) rfl (fun r4 mi4 mr4 h4 => ?_)
        change NRP K L set H 2 z x (-9) (-9) y mi mr r4 mi4 mr4 at h4
        refine s_iret X hr dX7_all_50 ?_
        exact Or.inr (Or.inr ⟨hst, by rw [hC1]; exact hmo, by assumption⟩)
      ·
        refine w_bipush X dX7_all_35 rfl ?_
        refine s_iret X hr dX7_all_37 ?_
        refine Or.inr (Or.inl ⟨hst, fun w => ?_, rfl, rfl, rfl⟩)
        rw [hC1] at w
        rcases h3 with ⟨q, -⟩ | ⟨-, q⟩
        · omega
        · exact q w
    ·
      refine w_iconst X dX7_all_22 ?_
      refine s_iret X hr dX7_all_23 ?_
      exact Or.inl ⟨by rw [hC1]; rintro ⟨w1, w2⟩; omega, rfl, rfl, rfl⟩
