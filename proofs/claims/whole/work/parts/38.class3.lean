theorem dX7_run_0 : decode cX7_run 0 = .ok (.iload_n 1, 1) := by decide +kernel
theorem dX7_run_1 : decode cX7_run 1 = .ok (.invokestatic 168, 3) := by decide +kernel
theorem dX7_run_4 : decode cX7_run 4 = .ok (.ifCond .ne 6, 3) := by decide +kernel
theorem dX7_run_7 : decode cX7_run 7 = .ok (.bipush (-2), 2) := by decide +kernel
theorem dX7_run_9 : decode cX7_run 9 = .ok (.ireturn, 1) := by decide +kernel
theorem dX7_run_10 : decode cX7_run 10 = .ok (.aload_n 0, 1) := by decide +kernel
theorem dX7_run_11 : decode cX7_run 11 = .ok (.getfield 10, 3) := by decide +kernel
theorem dX7_run_14 : decode cX7_run 14 = .ok (.iload_n 3, 1) := by decide +kernel
theorem dX7_run_15 : decode cX7_run 15 = .ok (.invokevirtual 59, 3) := by decide +kernel
theorem dX7_run_18 : decode cX7_run 18 = .ok (.ifCond .ne 5, 3) := by decide +kernel
theorem dX7_run_21 : decode cX7_run 21 = .ok (.iconst (-1), 1) := by decide +kernel
theorem dX7_run_22 : decode cX7_run 22 = .ok (.ireturn, 1) := by decide +kernel
theorem dX7_run_23 : decode cX7_run 23 = .ok (.aload_n 0, 1) := by decide +kernel
theorem dX7_run_24 : decode cX7_run 24 = .ok (.getfield 35, 3) := by decide +kernel
theorem dX7_run_27 : decode cX7_run 27 = .ok (.iload_n 1, 1) := by decide +kernel
theorem dX7_run_28 : decode cX7_run 28 = .ok (.invokevirtual 171, 3) := by decide +kernel
theorem dX7_run_31 : decode cX7_run 31 = .ok (.aload_n 0, 1) := by decide +kernel
theorem dX7_run_32 : decode cX7_run 32 = .ok (.getfield 35, 3) := by decide +kernel
theorem dX7_run_35 : decode cX7_run 35 = .ok (.iload_n 2, 1) := by decide +kernel
theorem dX7_run_36 : decode cX7_run 36 = .ok (.iload_n 3, 1) := by decide +kernel
theorem dX7_run_37 : decode cX7_run 37 = .ok (.invokevirtual 180, 3) := by decide +kernel
theorem dX7_run_40 : decode cX7_run 40 = .ok (.ireturn, 1) := by decide +kernel
theorem hl_yX7_run : (yX7_run.cls ≠ "java/lang/invoke/MethodHandle" ∧ yX7_run.cls ≠ "java/lang/invoke/VarHandle") ∧ (parseMethodDescriptor yX7_run.desc).map (fun d => d.parameters.length) = some 3 := by decide +kernel
set_option maxRecDepth 20000 in
set_option maxHeartbeats 4000000 in
theorem c_X7_run {l : Launch} {G : Gt} {n0 : Nat} {mi : Nat → Nat → Int} {mr : Nat → Nat → Nat} {K : Nat → Nat → Int} {L : Lws} {set : Int} {H : V5} {o : Int} (hV : CV K L set H o mi mr) {z x y : Int} (hz : rg z) (hy1 : rg x) (hy2 : rg y) : Ci l yX7_run cX7_run 4 .int 7 G n0 [.ref (n0 + 0), .int (jI z), .int (jI x), .int (jI y)] mi mr (fun r9 mi9 mr9 => (¬ (1 ≤ z ∧ z ≤ 8) ∧ r9 = -2 ∧ mi = mi9 ∧ mr = mr9) ∨ ((1 ≤ z ∧ z ≤ 8) ∧ ¬ (0 ≤ y ∧ y < L.1) ∧ r9 = -1 ∧ mi = mi9 ∧ mr = mr9) ∨ ((1 ≤ z ∧ z ≤ 8) ∧ (0 ≤ y ∧ y < L.1) ∧ CV K L set H o mi9 mr9 ∧ ∃ (k c : Nat) (P : Nat → V5) (m : Nat → Nat → Int), FX L z set k c P m ∧ (r9 = -9 ∧ ¬ (0 ≤ x ∧ x ≤ m 461 12) ∨ (0 ≤ x ∧ x ≤ m 461 12) ∧ ∃ v, Rn L (St L.1 z set) (m 461 12).toNat x.toNat v ∧ r9 = F5 v y.toNat))) := by
  refine Ct_of (by decide +kernel) (by intro v hv; simp at hv; rcases hv with rfl | rfl | rfl | rfl <;> rfl) (Nat.le_of_ble_eq_true rfl) ?_
  intro p e s m args below meth c9 X hr hname
  show WW _ _ _ _ _ _ _ _ _ _ _ _ _ _ _ _ _ _ _ [some (.ref (n0 + 0)), some (.int (jI z)), some (.int (jI x)), some (.int (jI y))] _
  have hW := hV.1
  have hO := hV.2.1
  have hC := hV.2.2.1
  have hH := hV.2.2.2.2.1
  have hHb := HA_b hH
  have hVo := CV_o hV
  have hoo : mi 44 6 = o := hV.2.2.2.2.2.2.1
  have hsc := hW.1
  have hC1 := hC.1
  obtain ⟨hNN, hBO, hRe, hor, hEf⟩ := hVo
  have hset := hV.2.2.2.1
  have hWK := hV.2.2.2.2.2.2.2.2
  have hw9 : rg (mi 461 9) := by rcases hWK.1 with q | q; rw [q]; exact ⟨by decide, by decide⟩; exact ⟨by omega, by omega⟩
  refine w_iload_n X dX7_run_0 rfl ?_
  refine s_callSi X _ (c_X7_isWalkable (l := l) (G := G) (n0 := n0) (by first | assumption | (refine ⟨?_, ?_⟩ <;> omega))) gM_X7_168 gT_yX7_isWalkable gN_X7 gC_yX7_isWalkable dX7_run_1 hl_yX7_isWalkable ⟨Nat.le_of_ble_eq_true rfl, Nat.le_of_ble_eq_true rfl⟩ (Nat.le_of_ble_eq_true rfl) rfl (fun r1 mi1 mr1 h1 => ?_)
  obtain ⟨rfl, rfl, h1⟩ := h1
  refine w_if_ne X 10 dX7_run_4 (by decide) (fun c4_1 => ?_) (fun c4_1 => ?_)
  ·
    refine w_aload_n X dX7_run_10 rfl ?_
    refine w_get X (by decide) (σ_0 G n0 _ _) rfl gW_X7 0 (by decide) gF_X7_10 rfl dX7_run_11 ?_
    refine w_iload_n X dX7_run_14 rfl ?_
    refine s_callVi X _ (c_X5_isState (l := l) (G := G) (n0 := n0) hsc (by first | assumption | (refine ⟨?_, ?_⟩ <;> omega))) gM_X7_59 gI_yX5_isState gS_yX5_isState gN_X5 gC_yX5_isState (by decide) (σ_1 G n0 _ _) rfl dX7_run_15 hl_yX5_isState ⟨Nat.le_of_ble_eq_true rfl, Nat.le_of_ble_eq_true rfl⟩ (Nat.le_of_ble_eq_true rfl) rfl (fun r2 mi2 mr2 h2 => ?_)
    obtain ⟨rfl, rfl, h2⟩ := h2
    refine w_if_ne X 23 dX7_run_18 (by decide) (fun c18_2 => ?_) (fun c18_2 => ?_)
    ·
      refine w_aload_n X dX7_run_23 rfl ?_
      refine w_get X (by decide) (σ_0 G n0 _ _) rfl gW_X7 3 (by decide) gF_X7_35 rfl dX7_run_24 ?_
      refine w_iload_n X dX7_run_27 rfl ?_
      refine s_callVv X _ (c_X4_walk (l := l) (G := G) (n0 := n0) (L := L) (z := z) ⟨by omega, by omega⟩ hO hW hC hw9 (by rw [hset]; exact fun q => hWK.2 z (by omega) (by omega) q)) gM_X7_171 gI_yX4_walk gS_yX4_walk gN_X4 gC_yX4_walk (by decide) (σ_461 G n0 _ _) rfl dX7_run_28 hl_yX4_walk ⟨Nat.le_of_ble_eq_true rfl, Nat.le_of_ble_eq_true rfl⟩ (Nat.le_of_ble_eq_true rfl) rfl (fun mi3 mr3 h3 => ?_)
      obtain ⟨hFD, hz9, hfw, rfl⟩ := h3
      rw [hset] at hFD
      have hzw : 1 ≤ z ∧ z ≤ 8 := by omega
      have hyw : 0 ≤ y ∧ y < L.1 := by omega
      have hVw := CV_walk hV hfw hzw hz9 hFD
      obtain ⟨k, c, P, hX⟩ := id hFD
      refine w_aload_n X dX7_run_31 rfl ?_
      refine w_get X (by decide) (σ_0 G n0 _ _) rfl gW_X7 3 (by decide) gF_X7_35 rfl dX7_run_32 ?_
      refine w_iload_n X dX7_run_35 rfl ?_
      refine w_iload_n X dX7_run_36 rfl ?_
      refine s_callVi X _ (c_X4_onPath (l := l) (G := G) (n0 := n0) (set := set) ⟨by omega, by omega⟩ hX hy1 ⟨by omega, by omega⟩) gM_X7_180 gI_yX4_onPath gS_yX4_onPath gN_X4 gC_yX4_onPath (by decide) (σ_461 G n0 _ _) rfl dX7_run_37 hl_yX4_onPath ⟨Nat.le_of_ble_eq_true rfl, Nat.le_of_ble_eq_true rfl⟩ (Nat.le_of_ble_eq_true rfl) rfl (fun r4 mi4 mr4 h4 => ?_)
      obtain ⟨hrX, hfX, rfl⟩ := h4
      refine s_iret X hr dX7_run_40 ?_
      have hV2 := CV_463 hVw hfX
      exact Or.inr (Or.inr ⟨hzw, hyw, hV2, k, c, P, _, hX, hrX⟩)
    ·
      refine w_iconst X dX7_run_21 ?_
      refine s_iret X hr dX7_run_22 ?_
      exact Or.inr (Or.inl ⟨by omega, by omega, rfl, rfl, rfl⟩)
  ·
    refine w_bipush X dX7_run_7 rfl ?_
    refine s_iret X hr dX7_run_9 ?_
    exact Or.inl ⟨by omega, rfl, rfl, rfl⟩
theorem dX7_doomedOf_0 : decode cX7_doomedOf 0 = .ok (.iload_n 1, 1) := by decide +kernel
theorem dX7_doomedOf_1 : decode cX7_doomedOf 1 = .ok (.invokestatic 168, 3) := by decide +kernel
theorem dX7_doomedOf_4 : decode cX7_doomedOf 4 = .ok (.ifCond .ne 6, 3) := by decide +kernel
theorem dX7_doomedOf_7 : decode cX7_doomedOf 7 = .ok (.bipush (-2), 2) := by decide +kernel
theorem dX7_doomedOf_9 : decode cX7_doomedOf 9 = .ok (.ireturn, 1) := by decide +kernel
theorem dX7_doomedOf_10 : decode cX7_doomedOf 10 = .ok (.aload_n 0, 1) := by decide +kernel
theorem dX7_doomedOf_11 : decode cX7_doomedOf 11 = .ok (.getfield 28, 3) := by decide +kernel
theorem dX7_doomedOf_14 : decode cX7_doomedOf 14 = .ok (.getfield 143, 3) := by decide +kernel
theorem dX7_doomedOf_17 : decode cX7_doomedOf 17 = .ok (.ifCond .ge 11, 3) := by decide +kernel
theorem dX7_doomedOf_20 : decode cX7_doomedOf 20 = .ok (.aload_n 0, 1) := by decide +kernel
theorem dX7_doomedOf_21 : decode cX7_doomedOf 21 = .ok (.getfield 28, 3) := by decide +kernel
theorem dX7_doomedOf_24 : decode cX7_doomedOf 24 = .ok (.getfield 143, 3) := by decide +kernel
theorem dX7_doomedOf_27 : decode cX7_doomedOf 27 = .ok (.ireturn, 1) := by decide +kernel
theorem dX7_doomedOf_28 : decode cX7_doomedOf 28 = .ok (.aload_n 0, 1) := by decide +kernel
theorem dX7_doomedOf_29 : decode cX7_doomedOf 29 = .ok (.getfield 35, 3) := by decide +kernel
theorem dX7_doomedOf_32 : decode cX7_doomedOf 32 = .ok (.iload_n 1, 1) := by decide +kernel
theorem dX7_doomedOf_33 : decode cX7_doomedOf 33 = .ok (.invokevirtual 171, 3) := by decide +kernel
theorem dX7_doomedOf_36 : decode cX7_doomedOf 36 = .ok (.aload_n 0, 1) := by decide +kernel
theorem dX7_doomedOf_37 : decode cX7_doomedOf 37 = .ok (.getfield 35, 3) := by decide +kernel
theorem dX7_doomedOf_40 : decode cX7_doomedOf 40 = .ok (.aload_n 0, 1) := by decide +kernel
theorem dX7_doomedOf_41 : decode cX7_doomedOf 41 = .ok (.getfield 28, 3) := by decide +kernel
theorem dX7_doomedOf_44 : decode cX7_doomedOf 44 = .ok (.invokevirtual 184, 3) := by decide +kernel
theorem dX7_doomedOf_47 : decode cX7_doomedOf 47 = .ok (.ireturn, 1) := by decide +kernel
theorem hl_yX7_doomedOf : (yX7_doomedOf.cls ≠ "java/lang/invoke/MethodHandle" ∧ yX7_doomedOf.cls ≠ "java/lang/invoke/VarHandle") ∧ (parseMethodDescriptor yX7_doomedOf.desc).map (fun d => d.parameters.length) = some 1 := by decide +kernel
set_option maxRecDepth 20000 in
set_option maxHeartbeats 4000000 in
theorem c_X7_doomedOf {l : Launch} {G : Gt} {n0 : Nat} {mi : Nat → Nat → Int} {mr : Nat → Nat → Nat} {K : Nat → Nat → Int} {L : Lws} {set : Int} {H : V5} {o : Int} (hV : CV K L set H o mi mr) {z : Int} (hz : rg z) : Ci l yX7_doomedOf cX7_doomedOf 2 .int 7 G n0 [.ref (n0 + 0), .int (jI z)] mi mr (fun r9 mi9 mr9 => (¬ (1 ≤ z ∧ z ≤ 8) ∧ r9 = -2 ∧ mi = mi9 ∧ mr = mr9) ∨ ((1 ≤ z ∧ z ≤ 8) ∧ o < 0 ∧ r9 = o ∧ mi = mi9 ∧ mr = mr9) ∨ ((1 ≤ z ∧ z ≤ 8) ∧ 0 ≤ o ∧ CV K L set H o mi9 mr9 ∧ ∃ (k c : Nat) (P : Nat → V5) (m : Nat → Nat → Int), FX L z set k c P m ∧ (0 ≤ o → Srt (Ef m mr (mr 44 4)) ∧ m (mr 44 4) 2 ≤ 100 ∧ ∀ v, Mn (Dk L o.toNat) v ↔ ∃ y ∈ Ef m mr (mr 44 4), y.1 = v) ∧ r9 = cnt (fun a => ∃ y ∈ Ef m mr (mr 44 4), gv (P (m 468 a).toNat) y.1) c)) := by
  refine Ct_of (by decide +kernel) (by intro v hv; simp at hv; rcases hv with rfl | rfl <;> rfl) (Nat.le_of_ble_eq_true rfl) ?_
  intro p e s m args below meth c9 X hr hname
  show WW _ _ _ _ _ _ _ _ _ _ _ _ _ _ _ _ _ _ _ [some (.ref (n0 + 0)), some (.int (jI z))] _
  have hW := hV.1
  have hO := hV.2.1
  have hC := hV.2.2.1
  have hH := hV.2.2.2.2.1
  have hHb := HA_b hH
  have hVo := CV_o hV
  have hoo : mi 44 6 = o := hV.2.2.2.2.2.2.1
  have hsc := hW.1
  have hC1 := hC.1
  obtain ⟨hNN, hBO, hRe, hor, hEf⟩ := hVo
  have hset := hV.2.2.2.1
  have hWK := hV.2.2.2.2.2.2.2.2
  have hw9 : rg (mi 461 9) := by rcases hWK.1 with q | q; rw [q]; exact ⟨by decide, by decide⟩; exact ⟨by omega, by omega⟩
  refine w_iload_n X dX7_doomedOf_0 rfl ?_
  refine s_callSi X _ (c_X7_isWalkable (l := l) (G := G) (n0 := n0) (by first | assumption | (refine ⟨?_, ?_⟩ <;> omega))) gM_X7_168 gT_yX7_isWalkable gN_X7 gC_yX7_isWalkable dX7_doomedOf_1 hl_yX7_isWalkable ⟨Nat.le_of_ble_eq_true rfl, Nat.le_of_ble_eq_true rfl⟩ (Nat.le_of_ble_eq_true rfl) rfl (fun r1 mi1 mr1 h1 => ?_)
  obtain ⟨rfl, rfl, h1⟩ := h1
  refine w_if_ne X 10 dX7_doomedOf_4 (by decide) (fun c4_1 => ?_) (fun c4_1 => ?_)
  ·
    refine w_aload_n X dX7_doomedOf_10 rfl ?_
    refine w_get X (by decide) (σ_0 G n0 _ _) rfl gW_X7 2 (by decide) gF_X7_28 rfl dX7_doomedOf_11 ?_
    refine w_getN X (by decide) (σ_44 G n0 _ _) rfl gW_X0 6 (by decide) gF_X7_143 rfl dX7_doomedOf_14 ?_
    refine w_if_ge X 28 dX7_doomedOf_17 (by decide) (fun c17_2 => ?_) (fun c17_2 => ?_)
    ·
      refine w_aload_n X dX7_doomedOf_28 rfl ?_
      refine w_get X (by decide) (σ_0 G n0 _ _) rfl gW_X7 3 (by decide) gF_X7_35 rfl dX7_doomedOf_29 ?_
      refine w_iload_n X dX7_doomedOf_32 rfl ?_
      refine s_callVv X _ (c_X4_walk (l := l) (G := G) (n0 := n0) (L := L) (z := z) ⟨by omega, by omega⟩ hO hW hC hw9 (by rw [hset]; exact fun q => hWK.2 z (by omega) (by omega) q)) gM_X7_171 gI_yX4_walk gS_yX4_walk gN_X4 gC_yX4_walk (by decide) (σ_461 G n0 _ _) rfl dX7_doomedOf_33 hl_yX4_walk ⟨Nat.le_of_ble_eq_true rfl, Nat.le_of_ble_eq_true rfl⟩ (Nat.le_of_ble_eq_true rfl) rfl (fun mi2 mr2 h2 => ?_)
      obtain ⟨hFD, hz9, hfw, rfl⟩ := h2
      rw [hset] at hFD
      obtain ⟨k, c, P, hX⟩ := id hFD
      have hVw := CV_walk hV hfw (by omega) hz9 hFD
      have hBOX := (CV_o hVw).2.1
      refine w_aload_n X dX7_doomedOf_36 rfl ?_
      refine w_get X (by decide) (σ_0 G n0 _ _) rfl gW_X7 3 (by decide) gF_X7_35 rfl dX7_doomedOf_37 ?_
      refine w_aload_n X dX7_doomedOf_40 rfl ?_
      refine w_get X (by decide) (σ_0 G n0 _ _) rfl gW_X7 2 (by decide) gF_X7_28 rfl dX7_doomedOf_41 ?_
      refine s_callVi X _ (c_X4_countDoomed (l := l) (G := G) (n0 := n0) (set := set) ⟨by omega, by omega⟩ hX hNN hBOX) gM_X7_184 gI_yX4_countDoomed gS_yX4_countDoomed gN_X4 gC_yX4_countDoomed (by decide) (σ_461 G n0 _ _) rfl dX7_doomedOf_44 hl_yX4_countDoomed ⟨Nat.le_of_ble_eq_true rfl, Nat.le_of_ble_eq_true rfl⟩ (Nat.le_of_ble_eq_true rfl) rfl (fun r3 mi3 mr3 h3 => ?_)
      obtain ⟨hrX, hfX, rfl⟩ := h3
      refine s_iret X hr dX7_doomedOf_47 ?_
      exact Or.inr (Or.inr ⟨by omega, by omega, CV_463 hVw hfX, k, c, P, _, hX, (CV_o hVw).2.2.2.2, hrX⟩)
    ·
      refine w_aload_n X dX7_doomedOf_20 rfl ?_
      refine w_get X (by decide) (σ_0 G n0 _ _) rfl gW_X7 2 (by decide) gF_X7_28 rfl dX7_doomedOf_21 ?_
      refine w_getN X (by decide) (σ_44 G n0 _ _) rfl gW_X0 6 (by decide) gF_X7_143 rfl dX7_doomedOf_24 ?_
      refine s_iret X hr dX7_doomedOf_27 ?_
      exact Or.inr (Or.inl ⟨by omega, by omega, by omega, rfl, rfl⟩)
  ·
    refine w_bipush X dX7_doomedOf_7 rfl ?_
    refine s_iret X hr dX7_doomedOf_9 ?_
    exact Or.inl ⟨by omega, rfl, rfl, rfl⟩
