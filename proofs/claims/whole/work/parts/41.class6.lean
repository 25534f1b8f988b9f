theorem dX7_start_0 : decode cX7_start 0 = .ok (.iload_n 1, 1) := by decide +kernel
theorem dX7_start_1 : decode cX7_start 1 = .ok (.ifCond .le 16, 3) := by decide +kernel
theorem dX7_start_4 : decode cX7_start 4 = .ok (.iload_n 1, 1) := by decide +kernel
theorem dX7_start_5 : decode cX7_start 5 = .ok (.iconst 1, 1) := by decide +kernel
theorem dX7_start_6 : decode cX7_start 6 = .ok (.aload_n 0, 1) := by decide +kernel
theorem dX7_start_7 : decode cX7_start 7 = .ok (.getfield 10, 3) := by decide +kernel
theorem dX7_start_10 : decode cX7_start 10 = .ok (.getfield 39, 3) := by decide +kernel
theorem dX7_start_13 : decode cX7_start 13 = .ok (.ishl, 1) := by decide +kernel
theorem dX7_start_14 : decode cX7_start 14 = .ok (.if_icmp .lt 6, 3) := by decide +kernel
theorem dX7_start_17 : decode cX7_start 17 = .ok (.bipush (-2), 2) := by decide +kernel
theorem dX7_start_19 : decode cX7_start 19 = .ok (.ireturn, 1) := by decide +kernel
theorem dX7_start_20 : decode cX7_start 20 = .ok (.aload_n 0, 1) := by decide +kernel
theorem dX7_start_21 : decode cX7_start 21 = .ok (.getfield 10, 3) := by decide +kernel
theorem dX7_start_24 : decode cX7_start 24 = .ok (.getfield 53, 3) := by decide +kernel
theorem dX7_start_27 : decode cX7_start 27 = .ok (.istore_n 2, 1) := by decide +kernel
theorem dX7_start_28 : decode cX7_start 28 = .ok (.aload_n 0, 1) := by decide +kernel
theorem dX7_start_29 : decode cX7_start 29 = .ok (.getfield 10, 3) := by decide +kernel
theorem dX7_start_32 : decode cX7_start 32 = .ok (.iload_n 1, 1) := by decide +kernel
theorem dX7_start_33 : decode cX7_start 33 = .ok (.putfield 53, 3) := by decide +kernel
theorem dX7_start_36 : decode cX7_start 36 = .ok (.aload_n 0, 1) := by decide +kernel
theorem dX7_start_37 : decode cX7_start 37 = .ok (.getfield 35, 3) := by decide +kernel
theorem dX7_start_40 : decode cX7_start 40 = .ok (.invokevirtual 56, 3) := by decide +kernel
theorem dX7_start_43 : decode cX7_start 43 = .ok (.iload_n 2, 1) := by decide +kernel
theorem dX7_start_44 : decode cX7_start 44 = .ok (.ireturn, 1) := by decide +kernel
theorem hl_yX7_start : (yX7_start.cls ≠ "java/lang/invoke/MethodHandle" ∧ yX7_start.cls ≠ "java/lang/invoke/VarHandle") ∧ (parseMethodDescriptor yX7_start.desc).map (fun d => d.parameters.length) = some 1 := by decide +kernel
set_option maxRecDepth 20000 in
set_option maxHeartbeats 4000000 in
theorem c_X7_start {l : Launch} {G : Gt} {n0 : Nat} {mi : Nat → Nat → Int} {mr : Nat → Nat → Nat} {K : Nat → Nat → Int} {L : Lws} {set : Int} {H : V5} {o : Int} (hV : CV K L set H o mi mr) {z : Int} (hz : rg z) : Ci l yX7_start cX7_start 3 .int 3 G n0 [.ref (n0 + 0), .int (jI z)] mi mr (fun r9 mi9 mr9 => (¬ (1 ≤ z ∧ z < 2 ^ L.1.toNat) ∧ r9 = -2 ∧ mi = mi9 ∧ mr = mr9) ∨ ((1 ≤ z ∧ z < 2 ^ L.1.toNat) ∧ r9 = set ∧ CV K L z H o mi9 mr9)) := by
  refine Ct_of (by decide +kernel) (by intro v hv; simp at hv; rcases hv with rfl | rfl <;> rfl) (Nat.le_of_ble_eq_true rfl) ?_
  intro p e s m args below meth c9 X hr hname
  show WW _ _ _ _ _ _ _ _ _ _ _ _ _ _ _ _ _ _ _ [some (.ref (n0 + 0)), some (.int (jI z)), none] _
  have hW := hV.1
  have hO := hV.2.1
  have hC := hV.2.2.1
  have hH := hV.2.2.2.2.1
  have hHb := HA_b hH
  have hVo := CV_o hV
  have hoo : mi 44 6 = o := hV.2.2.2.2.2.2.1
  have hsc := hW.1
  have hC1 := hC.1
  have hset := hV.2.2.2.1
  have hpw : (2 : Int) ^ (mi 1 3).toNat ≤ 32 ∧ 2 ≤ (2 : Int) ^ (mi 1 3).toNat := by
    rcases (show mi 1 3 = 1 ∨ mi 1 3 = 2 ∨ mi 1 3 = 3 ∨ mi 1 3 = 4 ∨ mi 1 3 = 5 by omega) with q | q | q | q | q <;> rw [q] <;> decide
  refine w_iload_n X dX7_start_0 rfl ?_
  refine w_if_le X 17 dX7_start_1 (by decide) (fun c1_1 => ?_) (fun c1_1 => ?_)
  ·
    refine w_bipush X dX7_start_17 rfl ?_
    refine s_iret X hr dX7_start_19 ?_
    exact Or.inl ⟨by rw [hC1]; omega, rfl, rfl, rfl⟩
  ·
    refine w_iload_n X dX7_start_4 rfl ?_
    refine w_iconst X dX7_start_5 ?_
    refine w_aload_n X dX7_start_6 rfl ?_
    refine w_get X (by decide) (σ_0 G n0 _ _) rfl gW_X7 0 (by decide) gF_X7_10 rfl dX7_start_7 ?_
    refine w_getN X (by decide) (σ_1 G n0 _ _) rfl gW_X5 3 (by decide) gF_X7_39 rfl dX7_start_10 ?_
    refine w_ishl X dX7_start_13 ?_
    refine w_icmp_lt X 20 dX7_start_14 (by decide) (fun c14_2 => ?_) (fun c14_2 => ?_)
    ·
      refine w_aload_n X dX7_start_20 rfl ?_
      refine w_get X (by decide) (σ_0 G n0 _ _) rfl gW_X7 0 (by decide) gF_X7_10 rfl dX7_start_21 ?_
      refine w_getN X (by decide) (σ_1 G n0 _ _) rfl gW_X5 4 (by decide) gF_X7_53 rfl dX7_start_24 ?_
      refine w_ist3_2 X dX7_start_27 ?_
      refine w_aload_n X dX7_start_28 rfl ?_
      refine w_get X (by decide) (σ_0 G n0 _ _) rfl gW_X7 0 (by decide) gF_X7_10 rfl dX7_start_29 ?_
      refine w_iload_n X dX7_start_32 rfl ?_
      refine w_putN X (by decide) (σ_1 G n0 _ _) rfl gW_X5 tyX5 tyX5_ok nmX5 4 (by decide) gF_X7_53 rfl rfl rfl (Nat.le_of_ble_eq_true rfl) dX7_start_33 (WW.eqf (sp_1_4 _) ?_)
      refine w_aload_n X dX7_start_36 rfl ?_
      refine w_get X (by decide) (σ_0 G n0 _ _) rfl gW_X7 3 (by decide) gF_X7_35 rfl dX7_start_37 ?_
      refine s_callVv X _ (c_X4_forget (l := l) (G := G) (n0 := n0)) gM_X7_56 gI_yX4_forget gS_yX4_forget gN_X4 gC_yX4_forget (by decide) (σ_461 G n0 _ _) rfl dX7_start_40 hl_yX4_forget ⟨Nat.le_of_ble_eq_true rfl, Nat.le_of_ble_eq_true rfl⟩ (Nat.le_of_ble_eq_true rfl) rfl (fun mi1 mr1 h1 => ?_)
      obtain ⟨rfl, rfl⟩ := h1
      refine w_iload_n X dX7_start_43 rfl ?_
      refine s_iret X hr dX7_start_44 ?_
      refine Or.inr ⟨by rw [hC1]; omega, hset, ?_⟩
      have g1 : ∀ a, a ≠ 1 → a ≠ 461 → up2 (up2 mi 1 4 z) 461 9 (-9) a = mi a := fun a h1 h2 => by rw [up2_k _ _ _ _ h2, up2_k _ _ _ _ h1]
      have gj : ∀ j : Nat, j ≠ 4 → up2 (up2 mi 1 4 z) 461 9 (-9) 1 j = mi 1 j := fun j hj => by rw [up2_k _ _ _ _ (by decide), up2_j _ _ _ _ hj]
      have g4 : up2 (up2 mi 1 4 z) 461 9 (-9) 1 4 = z := by rw [up2_k _ _ _ _ (by decide), up2_s]
      have g9 : up2 (up2 mi 1 4 z) 461 9 (-9) 461 9 = -9 := up2_s _ _ _ _
      generalize up2 (up2 mi 1 4 z) 461 9 (-9) = M at *
      have hL3 := hW.2.2.1
      have hL4 := hW.2.2.2.1
      refine ⟨⟨by rw [gj 3 (by decide)]; exact hW.1, by omega, by rw [gj 5 (by decide)]; exact hW.2.2.1, by rw [gj 6 (by decide)]; exact hW.2.2.2.1, fun i hi => ?_, fun i hi => ?_⟩, hO, ⟨by rw [gj 3 (by decide)]; exact hC.1, by rw [gj 5 (by decide)]; exact hC.2.1, by rw [gj 6 (by decide)]; exact hC.2.2.1, fun j hj => ?_, fun j hj => ?_⟩, g4, ⟨hH.1, hH.2.1, by rw [g1 43 (by decide) (by decide)]; exact hH.2.2⟩, SkP_fr hV.2.2.2.2.2.1 (fun a h1 h2 => g1 a (by omega) (by omega)), by rw [g1 44 (by decide) (by decide)]; exact hoo, fun a ha => (g1 a (by omega) (by omega)).trans (hV.2.2.2.2.2.2.2.1 a ha), Or.inl g9, fun z' h1 h2 h3 => by omega⟩
      · rw [gj 5 (by decide)] at hi
        rw [gj 3 (by decide)]
        exact RV_fr (hW.2.2.2.2.1 i hi) (g1 _ (by omega) (by omega)) (g1 _ (by omega) (by omega))
      · rw [gj 6 (by decide)] at hi
        exact CB_fr (hW.2.2.2.2.2 i hi) (g1 _ (by omega) (by omega))
      · rw [gj 5 (by decide)] at hj
        rw [g1 _ (by omega) (by omega)]
        exact hC.2.2.2.1 j hj
      · rw [gj 6 (by decide)] at hj
        rw [g1 _ (by omega) (by omega)]
        exact hC.2.2.2.2 j hj
    ·
      refine w_bipush X dX7_start_17 rfl ?_
      refine s_iret X hr dX7_start_19 ?_
      exact Or.inl ⟨by rw [hC1]; omega, rfl, rfl, rfl⟩
theorem dX7_base_0 : decode cX7_base 0 = .ok (.aload_n 0, 1) := by decide +kernel
theorem dX7_base_1 : decode cX7_base 1 = .ok (.getfield 28, 3) := by decide +kernel
theorem dX7_base_4 : decode cX7_base 4 = .ok (.getfield 143, 3) := by decide +kernel
theorem dX7_base_7 : decode cX7_base 7 = .ok (.ifCond .ge 11, 3) := by decide +kernel
theorem dX7_base_10 : decode cX7_base 10 = .ok (.aload_n 0, 1) := by decide +kernel
theorem dX7_base_11 : decode cX7_base 11 = .ok (.getfield 28, 3) := by decide +kernel
theorem dX7_base_14 : decode cX7_base 14 = .ok (.getfield 143, 3) := by decide +kernel
theorem dX7_base_17 : decode cX7_base 17 = .ok (.ireturn, 1) := by decide +kernel
theorem dX7_base_18 : decode cX7_base 18 = .ok (.iload_n 1, 1) := by decide +kernel
theorem dX7_base_19 : decode cX7_base 19 = .ok (.ifCond .lt 28, 3) := by decide +kernel
theorem dX7_base_22 : decode cX7_base 22 = .ok (.iload_n 1, 1) := by decide +kernel
theorem dX7_base_23 : decode cX7_base 23 = .ok (.aload_n 0, 1) := by decide +kernel
theorem dX7_base_24 : decode cX7_base 24 = .ok (.getfield 28, 3) := by decide +kernel
theorem dX7_base_27 : decode cX7_base 27 = .ok (.getfield 152, 3) := by decide +kernel
theorem dX7_base_30 : decode cX7_base 30 = .ok (.getfield 156, 3) := by decide +kernel
theorem dX7_base_33 : decode cX7_base 33 = .ok (.if_icmp .ge 14, 3) := by decide +kernel
theorem dX7_base_36 : decode cX7_base 36 = .ok (.aload_n 0, 1) := by decide +kernel
theorem dX7_base_37 : decode cX7_base 37 = .ok (.getfield 10, 3) := by decide +kernel
theorem dX7_base_40 : decode cX7_base 40 = .ok (.iload_n 2, 1) := by decide +kernel
theorem dX7_base_41 : decode cX7_base 41 = .ok (.invokevirtual 59, 3) := by decide +kernel
theorem dX7_base_44 : decode cX7_base 44 = .ok (.ifCond .ne 5, 3) := by decide +kernel
theorem dX7_base_47 : decode cX7_base 47 = .ok (.iconst (-1), 1) := by decide +kernel
theorem dX7_base_48 : decode cX7_base 48 = .ok (.ireturn, 1) := by decide +kernel
theorem dX7_base_49 : decode cX7_base 49 = .ok (.aload_n 0, 1) := by decide +kernel
theorem dX7_base_50 : decode cX7_base 50 = .ok (.getfield 28, 3) := by decide +kernel
theorem dX7_base_53 : decode cX7_base 53 = .ok (.getfield 152, 3) := by decide +kernel
theorem dX7_base_56 : decode cX7_base 56 = .ok (.getfield 161, 3) := by decide +kernel
theorem dX7_base_59 : decode cX7_base 59 = .ok (.iload_n 1, 1) := by decide +kernel
theorem dX7_base_60 : decode cX7_base 60 = .ok (.aaload, 1) := by decide +kernel
theorem dX7_base_61 : decode cX7_base 61 = .ok (.iload_n 2, 1) := by decide +kernel
theorem dX7_base_62 : decode cX7_base 62 = .ok (.invokevirtual 109, 3) := by decide +kernel
theorem dX7_base_65 : decode cX7_base 65 = .ok (.ireturn, 1) := by decide +kernel
theorem hl_yX7_base : (yX7_base.cls ≠ "java/lang/invoke/MethodHandle" ∧ yX7_base.cls ≠ "java/lang/invoke/VarHandle") ∧ (parseMethodDescriptor yX7_base.desc).map (fun d => d.parameters.length) = some 2 := by decide +kernel
set_option maxRecDepth 20000 in
set_option maxHeartbeats 4000000 in
theorem c_X7_base {l : Launch} {G : Gt} {n0 : Nat} {mi : Nat → Nat → Int} {mr : Nat → Nat → Nat} {K : Nat → Nat → Int} {L : Lws} {set : Int} {H : V5} {o : Int} (hV : CV K L set H o mi mr) {z y : Int} (hz : rg z) (hy : rg y) : Ci l yX7_base cX7_base 3 .int 3 G n0 [.ref (n0 + 0), .int (jI z), .int (jI y)] mi mr (fun r9 mi9 mr9 => mi = mi9 ∧ mr = mr9 ∧ (o < 0 ∧ r9 = o ∨ 0 ≤ o ∧ (¬ ((0 ≤ z ∧ z < mi (mr 44 4) 2) ∧ 0 ≤ y ∧ y < L.1) ∧ r9 = -1 ∨ ((0 ≤ z ∧ z < mi (mr 44 4) 2) ∧ 0 ≤ y ∧ y < L.1) ∧ r9 = mi (mr (mr 44 4 + 1) z.toNat + 1) y.toNat))) := by
  refine Ct_of (by decide +kernel) (by intro v hv; simp at hv; rcases hv with rfl | rfl | rfl <;> rfl) (Nat.le_of_ble_eq_true rfl) ?_
  intro p e s m args below meth c9 X hr hname
  show WW _ _ _ _ _ _ _ _ _ _ _ _ _ _ _ _ _ _ _ [some (.ref (n0 + 0)), some (.int (jI z)), some (.int (jI y))] _
  have hW := hV.1
  have hO := hV.2.1
  have hC := hV.2.2.1
  have hH := hV.2.2.2.2.1
  have hHb := HA_b hH
  have hVo := CV_o hV
  have hoo : mi 44 6 = o := hV.2.2.2.2.2.2.1
  have hsc := hW.1
  have hC1 := hC.1
  obtain ⟨hNN, hBO, hRe, hor, hEf⟩ := hVo
  have hB2 := hBO.2.1
  refine w_aload_n X dX7_base_0 rfl ?_
  refine w_get X (by decide) (σ_0 G n0 _ _) rfl gW_X7 2 (by decide) gF_X7_28 rfl dX7_base_1 ?_
  refine w_getN X (by decide) (σ_44 G n0 _ _) rfl gW_X0 6 (by decide) gF_X7_143 rfl dX7_base_4 ?_
  refine w_if_ge X 18 dX7_base_7 (by decide) (fun c7_1 => ?_) (fun c7_1 => ?_)
  ·
    refine w_iload_n X dX7_base_18 rfl ?_
    refine w_if_lt X 47 dX7_base_19 (by decide) (fun c19_2 => ?_) (fun c19_2 => ?_)
    ·
      refine w_iconst X dX7_base_47 ?_
      refine s_iret X hr dX7_base_48 ?_
      exact ⟨rfl, rfl, Or.inr ⟨by omega, Or.inl ⟨by omega, rfl⟩⟩⟩
    ·
      refine w_iload_n X dX7_base_22 rfl ?_
      refine w_aload_n X dX7_base_23 rfl ?_
      refine w_get X (by decide) (σ_0 G n0 _ _) rfl gW_X7 2 (by decide) gF_X7_28 rfl dX7_base_24 ?_
      refine w_getN X (by decide) (σ_44 G n0 _ _) rfl gW_X0 4 (by decide) gF_X7_152 rfl dX7_base_27 ?_
      refine w_getN X (isBs_k hNN.a) (σ_bs G n0 _ _ hNN.a) rfl gW_X1 2 (by decide) gF_X7_156 rfl dX7_base_30 ?_
      refine w_icmp_ge X 47 dX7_base_33 (by decide) (fun c33_3 => ?_) (fun c33_3 => ?_)
      ·
        refine w_iconst X dX7_base_47 ?_
        refine s_iret X hr dX7_base_48 ?_
        exact ⟨rfl, rfl, Or.inr ⟨by omega, Or.inl ⟨by omega, rfl⟩⟩⟩
      ·
        refine w_aload_n X dX7_base_36 rfl ?_
        refine w_get X (by decide) (σ_0 G n0 _ _) rfl gW_X7 0 (by decide) gF_X7_10 rfl dX7_base_37 ?_
        refine w_iload_n X dX7_base_40 rfl ?_
        refine s_callVi X _ (c_X5_isState (l := l) (G := G) (n0 := n0) hsc (by first | assumption | (refine ⟨?_, ?_⟩ <;> omega))) gM_X7_59 gI_yX5_isState gS_yX5_isState gN_X5 gC_yX5_isState (by decide) (σ_1 G n0 _ _) rfl dX7_base_41 hl_yX5_isState ⟨Nat.le_of_ble_eq_true rfl, Nat.le_of_ble_eq_true rfl⟩ (Nat.le_of_ble_eq_true rfl) rfl (fun r1 mi1 mr1 h1 => ?_)
        obtain ⟨rfl, rfl, h1⟩ := h1
        refine w_if_ne X 49 dX7_base_44 (by decide) (fun c44_4 => ?_) (fun c44_4 => ?_)
        ·
          refine w_aload_n X dX7_base_49 rfl ?_
          refine w_get X (by decide) (σ_0 G n0 _ _) rfl gW_X7 2 (by decide) gF_X7_28 rfl dX7_base_50 ?_
          refine w_getN X (by decide) (σ_44 G n0 _ _) rfl gW_X0 4 (by decide) gF_X7_152 rfl dX7_base_53 ?_
          refine w_getN X (isBs_k hNN.a) (σ_bs G n0 _ _ hNN.a) rfl gW_X1 0 (by decide) gF_X7_161 rfl dX7_base_56 ?_
          refine w_iload_n X dX7_base_59 rfl ?_
          refine s_aald X (t := 2) (z.toNat) (isBs_k1 hNN.a) (σ_r1 G n0 _ _ hNN.a) rfl dX7_base_60 ?_
          refine w_iload_n X dX7_base_61 rfl ?_
          refine s_callVi X _ (c_X3_of (l := l) (G := G) (n0 := n0) (hBO.cr (by omega)) (by first | assumption | (refine ⟨?_, ?_⟩ <;> omega))) gM_X7_109 gI_yX3_of gS_yX3_of gN_X3 gC_yX3_of (isCr_k (hBO.cr (by omega))) (σ_cr G n0 _ _ (hBO.cr (by omega))) rfl dX7_base_62 hl_yX3_of ⟨Nat.le_of_ble_eq_true rfl, Nat.le_of_ble_eq_true rfl⟩ (Nat.le_of_ble_eq_true rfl) rfl (fun r2 mi2 mr2 h2 => ?_)
          obtain ⟨rfl, rfl, h2⟩ := h2
          rw [if_pos ⟨by omega, by omega⟩] at h2
          refine s_iret X hr dX7_base_65 ?_
          exact ⟨rfl, rfl, Or.inr ⟨by omega, Or.inr ⟨by omega, h2⟩⟩⟩
        ·
          refine w_iconst X dX7_base_47 ?_
          refine s_iret X hr dX7_base_48 ?_
          exact ⟨rfl, rfl, Or.inr ⟨by omega, Or.inl ⟨by omega, rfl⟩⟩⟩
  ·
    refine w_aload_n X dX7_base_10 rfl ?_
    refine w_get X (by decide) (σ_0 G n0 _ _) rfl gW_X7 2 (by decide) gF_X7_28 rfl dX7_base_11 ?_
    refine w_getN X (by decide) (σ_44 G n0 _ _) rfl gW_X0 6 (by decide) gF_X7_143 rfl dX7_base_14 ?_
    refine s_iret X hr dX7_base_17 ?_
    exact ⟨rfl, rfl, Or.inl ⟨by omega, hoo⟩⟩
