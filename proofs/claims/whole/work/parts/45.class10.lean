/-- what a new rule leaves -/
def NRP (K : Nat → Nat → Int) (L : Lws) (set : Int) (H : V5) (z1 z2 z3 z4 z5 z6 : Int) (mi : Nat → Nat → Int) (mr : Nat → Nat → Nat) (r9 : Int) (mi9 : Nat → Nat → Int) (mr9 : Nat → Nat → Nat) : Prop := (12 ≤ L.2.1 ∧ r9 = -4 ∧ mi = mi9 ∧ mr = mr9) ∨ (L.2.1 < 12 ∧ r9 = L.2.1 ∧ ∃ ρ : Nat → Int, (ρ 1 = z1 ∧ ρ 2 = z2 ∧ ρ 3 = z3 ∧ ρ 4 = z4 ∧ ρ 5 = z5 ∧ ρ 6 = z6 ∧ ρ 7 = -9) ∧ CV K (L.1, L.2.1 + 1, L.2.2.1, fun j => if (j : Int) = L.2.1 then ρ else L.2.2.2.1 j, L.2.2.2.2) set H (-3) mi9 mr9)
theorem NRP_r {K : Nat → Nat → Int} {L : Lws} {set : Int} {H : V5} {z1 z2 z3 z4 z5 z6 : Int} {mi : Nat → Nat → Int} {mr : Nat → Nat → Nat} {r9 : Int} {mi9 : Nat → Nat → Int} {mr9 : Nat → Nat → Nat} (h : NRP K L set H z1 z2 z3 z4 z5 z6 mi mr r9 mi9 mr9) : NRP K L set H z1 z2 z3 z4 z5 z6 mi mr r9 mi9 mr9 := h
theorem dX7_alone_0 : decode cX7_alone 0 = .ok (.aload_n 0, 1) := by decide +kernel
theorem dX7_alone_1 : decode cX7_alone 1 = .ok (.getfield 10, 3) := by decide +kernel
theorem dX7_alone_4 : decode cX7_alone 4 = .ok (.iload_n 1, 1) := by decide +kernel
theorem dX7_alone_5 : decode cX7_alone 5 = .ok (.invokevirtual 59, 3) := by decide +kernel
theorem dX7_alone_8 : decode cX7_alone 8 = .ok (.ifCond .eq 14, 3) := by decide +kernel
theorem dX7_alone_11 : decode cX7_alone 11 = .ok (.aload_n 0, 1) := by decide +kernel
theorem dX7_alone_12 : decode cX7_alone 12 = .ok (.getfield 10, 3) := by decide +kernel
theorem dX7_alone_15 : decode cX7_alone 15 = .ok (.iload_n 2, 1) := by decide +kernel
theorem dX7_alone_16 : decode cX7_alone 16 = .ok (.invokevirtual 59, 3) := by decide +kernel
theorem dX7_alone_19 : decode cX7_alone 19 = .ok (.ifCond .ne 5, 3) := by decide +kernel
theorem dX7_alone_22 : decode cX7_alone 22 = .ok (.iconst (-1), 1) := by decide +kernel
theorem dX7_alone_23 : decode cX7_alone 23 = .ok (.ireturn, 1) := by decide +kernel
theorem dX7_alone_24 : decode cX7_alone 24 = .ok (.aload_n 0, 1) := by decide +kernel
theorem dX7_alone_25 : decode cX7_alone 25 = .ok (.iconst 0, 1) := by decide +kernel
theorem dX7_alone_26 : decode cX7_alone 26 = .ok (.iload_n 1, 1) := by decide +kernel
theorem dX7_alone_27 : decode cX7_alone 27 = .ok (.iload_n 2, 1) := by decide +kernel
theorem dX7_alone_28 : decode cX7_alone 28 = .ok (.bipush (-9), 2) := by decide +kernel
theorem dX7_alone_30 : decode cX7_alone 30 = .ok (.bipush (-9), 2) := by decide +kernel
theorem dX7_alone_32 : decode cX7_alone 32 = .ok (.bipush (-9), 2) := by decide +kernel
theorem dX7_alone_34 : decode cX7_alone 34 = .ok (.invokevirtual 63, 3) := by decide +kernel
theorem dX7_alone_37 : decode cX7_alone 37 = .ok (.ireturn, 1) := by decide +kernel
theorem hl_yX7_alone : (yX7_alone.cls ≠ "java/lang/invoke/MethodHandle" ∧ yX7_alone.cls ≠ "java/lang/invoke/VarHandle") ∧ (parseMethodDescriptor yX7_alone.desc).map (fun d => d.parameters.length) = some 2 := by decide +kernel
set_option maxRecDepth 20000 in
set_option maxHeartbeats 4000000 in
theorem c_X7_alone {l : Launch} {G : Gt} {n0 : Nat} {mi : Nat → Nat → Int} {mr : Nat → Nat → Nat} {K : Nat → Nat → Int} {L : Lws} {set : Int} {H : V5} {o : Int} (hV : CV K L set H o mi mr) {z x : Int} (hz : rg z) (hx : rg x) : Ci l yX7_alone cX7_alone 3 .int 5 G n0 [.ref (n0 + 0), .int (jI z), .int (jI x)] mi mr (fun r9 mi9 mr9 => (¬ ((0 ≤ z ∧ z < L.1) ∧ (0 ≤ x ∧ x < L.1)) ∧ r9 = -1 ∧ mi = mi9 ∧ mr = mr9) ∨ (((0 ≤ z ∧ z < L.1) ∧ (0 ≤ x ∧ x < L.1)) ∧ NRP K L set H 0 z x (-9) (-9) (-9) mi mr r9 mi9 mr9)) := by
  refine Ct_of (by decide +kernel) (by intro v hv; simp at hv; rcases hv with rfl | rfl | rfl <;> rfl) (Nat.le_of_ble_eq_true rfl) ?_
  intro p e s m args below meth c9 X hr hname
  show WW _ _ _ _ _ _ _ _ _ _ _ _ _ _ _ _ _ _ _ [some (.ref (n0 + 0)), some (.int (jI z)), some (.int (jI x))] _
  have hW := hV.1
  have hO := hV.2.1
  have hC := hV.2.2.1
  have hH := hV.2.2.2.2.1
  have hHb := HA_b hH
  have hVo := CV_o hV
  have hoo : mi 44 6 = o := hV.2.2.2.2.2.2.1
  have hsc := hW.1
  have hC1 := hC.1
  refine w_aload_n X dX7_alone_0 rfl ?_
  refine w_get X (by decide) (σ_0 G n0 _ _) rfl gW_X7 0 (by decide) gF_X7_10 rfl dX7_alone_1 ?_
  refine w_iload_n X dX7_alone_4 rfl ?_
  refine s_callVi X _ (c_X5_isState (l := l) (G := G) (n0 := n0) hsc (by first | assumption | (refine ⟨?_, ?_⟩ <;> omega))) gM_X7_59 gI_yX5_isState gS_yX5_isState gN_X5 gC_yX5_isState (by decide) (σ_1 G n0 _ _) rfl dX7_alone_5 hl_yX5_isState ⟨Nat.le_of_ble_eq_true rfl, Nat.le_of_ble_eq_true rfl⟩ (Nat.le_of_ble_eq_true rfl) rfl (fun r1 mi1 mr1 h1 => ?_)
  obtain ⟨rfl, rfl, h1⟩ := h1
  refine w_if_eq X 22 dX7_alone_8 (by decide) (fun c8_1 => ?_) (fun c8_1 => ?_)
  ·
    refine w_iconst X dX7_alone_22 ?_
    refine s_iret X hr dX7_alone_23 ?_
    exact Or.inl ⟨by rw [hC1]; rintro ⟨w1, w2⟩; omega, rfl, rfl, rfl⟩
  ·
    refine w_aload_n X dX7_alone_11 rfl ?_
    refine w_get X (by decide) (σ_0 G n0 _ _) rfl gW_X7 0 (by decide) gF_X7_10 rfl dX7_alone_12 ?_
    refine w_iload_n X dX7_alone_15 rfl ?_
    refine s_callVi X _ (c_X5_isState (l := l) (G := G) (n0 := n0) hsc (by first | assumption | (refine ⟨?_, ?_⟩ <;> omega))) gM_X7_59 gI_yX5_isState gS_yX5_isState gN_X5 gC_yX5_isState (by decide) (σ_1 G n0 _ _) rfl dX7_alone_16 hl_yX5_isState ⟨Nat.le_of_ble_eq_true rfl, Nat.le_of_ble_eq_true rfl⟩ (Nat.le_of_ble_eq_true rfl) rfl (fun r2 mi2 mr2 h2 => ?_)
    obtain ⟨rfl, rfl, h2⟩ := h2
    refine w_if_ne X 24 dX7_alone_19 (by decide) (fun c19_2 => ?_) (fun c19_2 => ?_)
    ·
      have hst : (0 ≤ z ∧ z < L.1) ∧ (0 ≤ x ∧ x < L.1) := by rw [hC1]; refine ⟨?_, ?_⟩ <;> omega
      have hNR : NR (mi 1 3) 0 z x (-9) (-9) (-9) := by
        rw [hC1] at hst
        exact ⟨by omega, hst.1, hst.2, Or.inr ⟨by decide, rfl, rfl⟩, Or.inr ⟨by decide, rfl⟩⟩
      refine w_aload_n X dX7_alone_24 rfl ?_
      refine w_iconst X dX7_alone_25 ?_
      refine w_iload_n X dX7_alone_26 rfl ?_
      refine w_iload_n X dX7_alone_27 rfl ?_
      refine w_bipush X dX7_alone_28 rfl ?_
      refine w_bipush X dX7_alone_30 rfl ?_
      refine w_bipush X dX7_alone_32 rfl ?_
      refine s_callVi X _ (c_X7_addRule (l := l) (G := G) (n0 := n0) hV hNR) gM_X7_63 gI_yX7_addRule gS_yX7_addRule gN_X7 gC_yX7_addRule (by decide) (σ_0 G n0 _ _) rfl dX7_alone_34 hl_yX7_addRule ⟨Nat.le_of_ble_eq_true rfl, Nat.le_of_ble_eq_true rfl⟩ (Nat.le_of_ble_eq_true rfl) rfl (fun r3 mi3 mr3 h3 => ?_)
      change NRP K L set H 0 z x (-9) (-9) (-9) mi mr r3 mi3 mr3 at h3
      refine s_iret X hr dX7_alone_37 ?_
      exact Or.inr ⟨hst, by assumption⟩
    ·
      refine w_iconst X dX7_alone_22 ?_
      refine s_iret X hr dX7_alone_23 ?_
      exact Or.inl ⟨by rw [hC1]; rintro ⟨w1, w2⟩; omega, rfl, rfl, rfl⟩
theorem dX7_pair_0 : decode cX7_pair 0 = .ok (.aload_n 0, 1) := by decide +kernel
theorem dX7_pair_1 : decode cX7_pair 1 = .ok (.getfield 10, 3) := by decide +kernel
theorem dX7_pair_4 : decode cX7_pair 4 = .ok (.iload_n 1, 1) := by decide +kernel
theorem dX7_pair_5 : decode cX7_pair 5 = .ok (.invokevirtual 59, 3) := by decide +kernel
theorem dX7_pair_8 : decode cX7_pair 8 = .ok (.ifCond .eq 37, 3) := by decide +kernel
theorem dX7_pair_11 : decode cX7_pair 11 = .ok (.aload_n 0, 1) := by decide +kernel
theorem dX7_pair_12 : decode cX7_pair 12 = .ok (.getfield 10, 3) := by decide +kernel
theorem dX7_pair_15 : decode cX7_pair 15 = .ok (.iload_n 2, 1) := by decide +kernel
theorem dX7_pair_16 : decode cX7_pair 16 = .ok (.invokevirtual 59, 3) := by decide +kernel
theorem dX7_pair_19 : decode cX7_pair 19 = .ok (.ifCond .eq 26, 3) := by decide +kernel
theorem dX7_pair_22 : decode cX7_pair 22 = .ok (.aload_n 0, 1) := by decide +kernel
theorem dX7_pair_23 : decode cX7_pair 23 = .ok (.getfield 10, 3) := by decide +kernel
theorem dX7_pair_26 : decode cX7_pair 26 = .ok (.iload_n 3, 1) := by decide +kernel
theorem dX7_pair_27 : decode cX7_pair 27 = .ok (.invokevirtual 59, 3) := by decide +kernel
theorem dX7_pair_30 : decode cX7_pair 30 = .ok (.ifCond .eq 15, 3) := by decide +kernel
theorem dX7_pair_33 : decode cX7_pair 33 = .ok (.aload_n 0, 1) := by decide +kernel
theorem dX7_pair_34 : decode cX7_pair 34 = .ok (.getfield 10, 3) := by decide +kernel
theorem dX7_pair_37 : decode cX7_pair 37 = .ok (.iload 4, 2) := by decide +kernel
theorem dX7_pair_39 : decode cX7_pair 39 = .ok (.invokevirtual 59, 3) := by decide +kernel
theorem dX7_pair_42 : decode cX7_pair 42 = .ok (.ifCond .ne 5, 3) := by decide +kernel
theorem dX7_pair_45 : decode cX7_pair 45 = .ok (.iconst (-1), 1) := by decide +kernel
theorem dX7_pair_46 : decode cX7_pair 46 = .ok (.ireturn, 1) := by decide +kernel
theorem dX7_pair_47 : decode cX7_pair 47 = .ok (.aload_n 0, 1) := by decide +kernel
theorem dX7_pair_48 : decode cX7_pair 48 = .ok (.iconst 1, 1) := by decide +kernel
theorem dX7_pair_49 : decode cX7_pair 49 = .ok (.iload_n 1, 1) := by decide +kernel
theorem dX7_pair_50 : decode cX7_pair 50 = .ok (.iload_n 2, 1) := by decide +kernel
theorem dX7_pair_51 : decode cX7_pair 51 = .ok (.iload_n 3, 1) := by decide +kernel
theorem dX7_pair_52 : decode cX7_pair 52 = .ok (.iload 4, 2) := by decide +kernel
theorem dX7_pair_54 : decode cX7_pair 54 = .ok (.bipush (-9), 2) := by decide +kernel
theorem dX7_pair_56 : decode cX7_pair 56 = .ok (.invokevirtual 63, 3) := by decide +kernel
theorem dX7_pair_59 : decode cX7_pair 59 = .ok (.ireturn, 1) := by decide +kernel
theorem hl_yX7_pair : (yX7_pair.cls ≠ "java/lang/invoke/MethodHandle" ∧ yX7_pair.cls ≠ "java/lang/invoke/VarHandle") ∧ (parseMethodDescriptor yX7_pair.desc).map (fun d => d.parameters.length) = some 4 := by decide +kernel
set_option maxRecDepth 20000 in
set_option maxHeartbeats 4000000 in
theorem c_X7_pair {l : Launch} {G : Gt} {n0 : Nat} {mi : Nat → Nat → Int} {mr : Nat → Nat → Nat} {K : Nat → Nat → Int} {L : Lws} {set : Int} {H : V5} {o : Int} (hV : CV K L set H o mi mr) {z x y v : Int} (hz : rg z) (hx : rg x) (hy : rg y) (hv : rg v) : Ci l yX7_pair cX7_pair 5 .int 5 G n0 [.ref (n0 + 0), .int (jI z), .int (jI x), .int (jI y), .int (jI v)] mi mr (fun r9 mi9 mr9 => (¬ ((0 ≤ z ∧ z < L.1) ∧ (0 ≤ x ∧ x < L.1) ∧ (0 ≤ y ∧ y < L.1) ∧ (0 ≤ v ∧ v < L.1)) ∧ r9 = -1 ∧ mi = mi9 ∧ mr = mr9) ∨ (((0 ≤ z ∧ z < L.1) ∧ (0 ≤ x ∧ x < L.1) ∧ (0 ≤ y ∧ y < L.1) ∧ (0 ≤ v ∧ v < L.1)) ∧ NRP K L set H 1 z x y v (-9) mi mr r9 mi9 mr9)) := by
  refine Ct_of (by decide +kernel) (by intro v hv; simp at hv; rcases hv with rfl | rfl | rfl | rfl | rfl <;> rfl) (Nat.le_of_ble_eq_true rfl) ?_
  intro p e s m args below meth c9 X hr hname
  show WW _ _ _ _ _ _ _ _ _ _ _ _ _ _ _ _ _ _ _ [some (.ref (n0 + 0)), some (.int (jI z)), some (.int (jI x)), some (.int (jI y)), some (.int (jI v))] _
  have hW := hV.1
  have hO := hV.2.1
  have hC := hV.2.2.1
  have hH := hV.2.2.2.2.1
  have hHb := HA_b hH
  have hVo := CV_o hV
  have hoo : mi 44 6 = o := hV.2.2.2.2.2.2.1
  have hsc := hW.1
  have hC1 := hC.1
  refine w_aload_n X dX7_pair_0 rfl ?_
  refine w_get X (by decide) (σ_0 G n0 _ _) rfl gW_X7 0 (by decide) gF_X7_10 rfl dX7_pair_1 ?_
  refine w_iload_n X dX7_pair_4 rfl ?_
  refine s_callVi X _ (c_X5_isState (l := l) (G := G) (n0 := n0) hsc (by first | assumption | (refine ⟨?_, ?_⟩ <;> omega))) gM_X7_59 gI_yX5_isState gS_yX5_isState gN_X5 gC_yX5_isState (by decide) (σ_1 G n0 _ _) rfl dX7_pair_5 hl_yX5_isState ⟨Nat.le_of_ble_eq_true rfl, Nat.le_of_ble_eq_true rfl⟩ (Nat.le_of_ble_eq_true rfl) rfl (fun r1 mi1 mr1 h1 => ?_)
  obtain ⟨rfl, rfl, h1⟩ := h1
  refine w_if_eq X 45 dX7_pair_8 (by decide) (fun c8_1 => ?_) (fun c8_1 => ?_)
  ·
    refine w_iconst X dX7_pair_45 ?_
    refine s_iret X hr dX7_pair_46 ?_
    exact Or.inl ⟨by rw [hC1]; rintro ⟨w1, w2, w3, w4⟩; omega, rfl, rfl, rfl⟩
  ·
    refine w_aload_n X dX7_pair_11 rfl ?_
    refine w_get X (by decide) (σ_0 G n0 _ _) rfl gW_X7 0 (by decide) gF_X7_10 rfl dX7_pair_12 ?_
    refine w_iload_n X dX7_pair_15 rfl ?_
    refine s_callVi X _ (c_X5_isState (l := l) (G := G) (n0 := n0) hsc (by first | assumption | (refine ⟨?_, ?_⟩ <;> omega))) gM_X7_59 gI_yX5_isState gS_yX5_isState gN_X5 gC_yX5_isState (by decide) (σ_1 G n0 _ _) rfl dX7_pair_16 hl_yX5_isState ⟨Nat.le_of_ble_eq_true rfl, Nat.le_of_ble_eq_true rfl⟩ (Nat.le_of_ble_eq_true rfl) rfl (fun r2 mi2 mr2 h2 => ?_)
    obtain ⟨rfl, rfl, h2⟩ := h2
    refine w_if_eq X 45 dX7_pair_19 (by decide) (fun c19_2 => ?_) (fun c19_2 => ?_)
    ·
      refine w_iconst X dX7_pair_45 ?_
      refine s_iret X hr dX7_pair_46 ?_
      exact Or.inl ⟨by rw [hC1]; rintro ⟨w1, w2, w3, w4⟩; omega, rfl, rfl, rfl⟩
    ·
      refine w_aload_n X dX7_pair_22 rfl ?_
      refine w_get X (by decide) (σ_0 G n0 _ _) rfl gW_X7 0 (by decide) gF_X7_10 rfl dX7_pair_23 ?_
      refine w_iload_n X dX7_pair_26 rfl ?_
      refine s_callVi X _ (c_X5_isState (l := l) (G := G) (n0 := n0) hsc (by first | assumption | (refine ⟨?_, ?_⟩ <;> omega))) gM_X7_59 gI_yX5_isState gS_yX5_isState gN_X5 gC_yX5_isState (by decide) (σ_1 G n0 _ _) rfl dX7_pair_27 hl_yX5_isState ⟨Nat.le_of_ble_eq_true rfl, Nat.le_of_ble_eq_true rfl⟩ (Nat.le_of_ble_eq_true rfl) rfl (fun r3 mi3 mr3 h3 => ?_)
      obtain ⟨rfl, rfl, h3⟩ := h3
      refine w_if_eq X 45 dX7_pair_30 (by decide) (fun c30_3 => ?_) (fun c30_3 => ?_)
      ·
        refine w_iconst X dX7_pair_45 ?_
        refine s_iret X hr dX7_pair_46 ?_
        exact Or.inl ⟨by rw [hC1]; rintro ⟨w1, w2, w3, w4⟩; omega, rfl, rfl, rfl⟩
      ·
        refine w_aload_n X dX7_pair_33 rfl ?_
        refine w_get X (by decide) (σ_0 G n0 _ _) rfl gW_X7 0 (by decide) gF_X7_10 rfl dX7_pair_34 ?_
        refine w_iload X dX7_pair_37 rfl ?_
        refine s_callVi X _ (c_X5_isState (l := l) (G := G) (n0 := n0) hsc (by first | assumption | (refine ⟨?_, ?_⟩ <;> omega))) gM_X7_59 gI_yX5_isState gS_yX5_isState gN_X5 gC_yX5_isState (by decide) (σ_1 G n0 _ _) rfl dX7_pair_39 hl_yX5_isState ⟨Nat.le_of_ble_eq_true rfl, Nat.le_of_ble_eq_true rfl⟩ (Nat.le_of_ble_eq_true rfl) rfl (fun r4 mi4 mr4 h4 => ?_)
        obtain ⟨rfl, rfl, h4⟩ := h4
        refine w_if_ne X 47 dX7_pair_42 (by decide) (fun c42_4 => ?_) (fun c42_4 => ?_)
        ·
          have hst : (0 ≤ z ∧ z < L.1) ∧ (0 ≤ x ∧ x < L.1) ∧ (0 ≤ y ∧ y < L.1) ∧ (0 ≤ v ∧ v < L.1) := by rw [hC1]; refine ⟨?_, ?_, ?_, ?_⟩ <;> omega
          have hNR : NR (mi 1 3) 1 z x y v (-9) := by
            rw [hC1] at hst
            exact ⟨by omega, hst.1, hst.2.1, Or.inl ⟨rfl, hst.2.2.1, hst.2.2.2⟩, Or.inr ⟨by decide, rfl⟩⟩
          refine w_aload_n X dX7_pair_47 rfl ?_
          refine w_iconst X dX7_pair_48 ?_
          refine w_iload_n X dX7_pair_49 rfl ?_
          refine w_iload_n X dX7_pair_50 rfl ?_
          refine w_iload_n X dX7_pair_51 rfl ?_
          refine w_iload X dX7_pair_52 rfl ?_
          refine w_bipush X dX7_pair_54 rfl ?_
          refine s_callVi X _ (c_X7_addRule (l := l) (G := G) (n0 := n0) hV hNR) gM_X7_63 gI_yX7_addRule gS_yX7_addRule gN_X7 gC_yX7_addRule (by decide) (σ_0 G n0 _ _) rfl dX7_pair_56 hl_yX7_addRule ⟨Nat.le_of_ble_eq_true rfl, Nat.le_of_ble_eq_true rfl⟩ (Nat.le_of_ble_eq_true rfl) rfl (fun r5 mi5 mr5 h5 => ?_)
          change NRP K L set H 1 z x y v (-9) mi mr r5 mi5 mr5 at h5
          refine s_iret X hr dX7_pair_59 ?_
          exact Or.inr ⟨hst, by assumption⟩
        ·
          refine w_iconst X dX7_pair_45 ?_
          refine s_iret X hr dX7_pair_46 ?_
          exact Or.inl ⟨by rw [hC1]; rintro ⟨w1, w2, w3, w4⟩; omega, rfl, rfl, rfl⟩
