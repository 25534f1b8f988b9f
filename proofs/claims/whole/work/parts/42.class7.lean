theorem dX7_least_0 : decode cX7_least 0 = .ok (.aload_n 0, 1) := by decide +kernel
theorem dX7_least_1 : decode cX7_least 1 = .ok (.getfield 28, 3) := by decide +kernel
theorem dX7_least_4 : decode cX7_least 4 = .ok (.getfield 143, 3) := by decide +kernel
theorem dX7_least_7 : decode cX7_least 7 = .ok (.ifCond .ge 13, 3) := by decide +kernel
theorem dX7_least_10 : decode cX7_least 10 = .ok (.aload_n 0, 1) := by decide +kernel
theorem dX7_least_11 : decode cX7_least 11 = .ok (.getfield 28, 3) := by decide +kernel
theorem dX7_least_14 : decode cX7_least 14 = .ok (.getfield 143, 3) := by decide +kernel
theorem dX7_least_17 : decode cX7_least 17 = .ok (.goto 10, 3) := by decide +kernel
theorem dX7_least_20 : decode cX7_least 20 = .ok (.aload_n 0, 1) := by decide +kernel
theorem dX7_least_21 : decode cX7_least 21 = .ok (.getfield 28, 3) := by decide +kernel
theorem dX7_least_24 : decode cX7_least 24 = .ok (.invokevirtual 165, 3) := by decide +kernel
theorem dX7_least_27 : decode cX7_least 27 = .ok (.ireturn, 1) := by decide +kernel
set_option maxRecDepth 20000 in
set_option maxHeartbeats 4000000 in
theorem c_X7_least {l : Launch} {G : Gt} {n0 : Nat} {mi : Nat → Nat → Int} {mr : Nat → Nat → Nat} {K : Nat → Nat → Int} {L : Lws} {set : Int} {H : V5} {o : Int} (hV : CV K L set H o mi mr) : Ci l yX7_least cX7_least 1 .int 4 G n0 [.ref (n0 + 0)] mi mr (fun r9 mi9 mr9 => mi = mi9 ∧ mr = mr9 ∧ (o < 0 ∧ r9 = o ∨ 0 ≤ o ∧ ((r9 = -9 ∧ ∀ i : Nat, (i : Int) < mi (mr 44 4) 2 → ¬ inst set (mi (mr ((mr 44 4) + 1) i + 1)) L.1) ∨ ∃ i : Nat, (i : Int) < mi (mr 44 4) 2 ∧ inst set (mi (mr ((mr 44 4) + 1) i + 1)) L.1 ∧ (∀ j : Nat, j < i → ¬ inst set (mi (mr ((mr 44 4) + 1) j + 1)) L.1) ∧ r9 = sum5 (mi (mr ((mr 44 4) + 1) i + 1))))) := by
  refine Ct_of (by decide +kernel) (by intro v hv; simp at hv; rcases hv with rfl <;> rfl) (Nat.le_of_ble_eq_true rfl) ?_
  intro p e s m args below meth c9 X hr hname
  show WW _ _ _ _ _ _ _ _ _ _ _ _ _ _ _ _ _ _ _ [some (.ref (n0 + 0))] _
  have hW := hV.1
  have hO := hV.2.1
  have hC := hV.2.2.1
  have hH := hV.2.2.2.2.1
  have hHb := HA_b hH
  have hVo := CV_o hV
  have hoo : mi 44 6 = o := hV.2.2.2.2.2.2.1
  have hsc := hW.1
  have hC1 := hC.1
  obtain ⟨hNN, hBO, hRe, hor, hEf⟩ := hVo
  have hset := hV.2.2.2.1
  refine w_aload_n X dX7_least_0 rfl ?_
  refine w_get X (by decide) (σ_0 G n0 _ _) rfl gW_X7 2 (by decide) gF_X7_28 rfl dX7_least_1 ?_
  refine w_getN X (by decide) (σ_44 G n0 _ _) rfl gW_X0 6 (by decide) gF_X7_143 rfl dX7_least_4 ?_
  refine w_if_ge X 20 dX7_least_7 (by decide) (fun c7_1 => ?_) (fun c7_1 => ?_)
  ·
    have ho0 : 0 ≤ o := by omega
    refine w_aload_n X dX7_least_20 rfl ?_
    refine w_get X (by decide) (σ_0 G n0 _ _) rfl gW_X7 2 (by decide) gF_X7_28 rfl dX7_least_21 ?_
    refine s_callVi X _ (c_X0_leastFromStart (l := l) (G := G) (n0 := n0) hNN hW hBO) gM_X7_165 gI_yX0_leastFromStart gS_yX0_leastFromStart gN_X0 gC_yX0_leastFromStart (by decide) (σ_44 G n0 _ _) rfl dX7_least_24 hl_yX0_leastFromStart ⟨Nat.le_of_ble_eq_true rfl, Nat.le_of_ble_eq_true rfl⟩ (Nat.le_of_ble_eq_true rfl) rfl (fun r1 mi1 mr1 h1 => ?_)
    obtain ⟨rfl, rfl, h1⟩ := h1
    rw [hset, ← hC1] at h1
    refine s_iret X hr dX7_least_27 ?_
    first | exact ⟨rfl, rfl, Or.inl ⟨by omega, hoo⟩⟩ | exact ⟨rfl, rfl, Or.inr ⟨ho0, h1⟩⟩
  ·
    refine w_aload_n X dX7_least_10 rfl ?_
    refine w_get X (by decide) (σ_0 G n0 _ _) rfl gW_X7 2 (by decide) gF_X7_28 rfl dX7_least_11 ?_
    refine w_getN X (by decide) (σ_44 G n0 _ _) rfl gW_X0 6 (by decide) gF_X7_143 rfl dX7_least_14 ?_
    refine w_goto X 27 dX7_least_17 (by decide) ?_
    refine s_iret X hr dX7_least_27 ?_
    first | exact ⟨rfl, rfl, Or.inl ⟨by omega, hoo⟩⟩ | exact ⟨rfl, rfl, Or.inr ⟨ho0, h1⟩⟩
theorem CV_5 {K : Nat → Nat → Int} {L : Lws} {set : Int} {H H' : V5} {o : Int} {mi mi' : Nat → Nat → Int} {mr : Nat → Nat → Nat} (h : CV K L set H o mi mr) (h1 : ∀ a, a ≠ 43 → a ≠ 5 → mi' a = mi a) (hH : HA L H' mi') : CV K L set H' o mi' mr := by
  obtain ⟨a1, a2, a3, a4, a5, a6, a7, aF, a8⟩ := h
  exact ⟨LW_fr a1 (fun a ha _ b => h1 a (by omega) b), a2, LwC_fr a1 a3 (fun a ha _ b => h1 a (by omega) b), by rw [h1 1 (by omega) (by omega)]; exact a4, hH, SkP_fr a6 (fun a _ _ => h1 a (by omega) (by omega)), by rw [h1 44 (by omega) (by omega)]; exact a7, fun a ha => (h1 a (by omega) (by omega)).trans (aF a ha), by rw [h1 461 (by omega) (by omega)]; exact a8.1, fun z a b q => by rw [h1 461 (by omega) (by omega)] at q; exact FD_fr (a8.2 z a b q) (fun a ha _ b => h1 a (by omega) b) (h1 461 (by omega) (by omega))⟩
theorem dX7_step_0 : decode cX7_step 0 = .ok (.aload_n 0, 1) := by decide +kernel
theorem dX7_step_1 : decode cX7_step 1 = .ok (.getfield 10, 3) := by decide +kernel
theorem dX7_step_4 : decode cX7_step 4 = .ok (.iload_n 1, 1) := by decide +kernel
theorem dX7_step_5 : decode cX7_step 5 = .ok (.invokevirtual 70, 3) := by decide +kernel
theorem dX7_step_8 : decode cX7_step 8 = .ok (.ifCond .ne 5, 3) := by decide +kernel
theorem dX7_step_11 : decode cX7_step 11 = .ok (.iconst (-1), 1) := by decide +kernel
theorem dX7_step_12 : decode cX7_step 12 = .ok (.ireturn, 1) := by decide +kernel
theorem dX7_step_13 : decode cX7_step 13 = .ok (.aload_n 0, 1) := by decide +kernel
theorem dX7_step_14 : decode cX7_step 14 = .ok (.getfield 10, 3) := by decide +kernel
theorem dX7_step_17 : decode cX7_step 17 = .ok (.getfield 73, 3) := by decide +kernel
theorem dX7_step_20 : decode cX7_step 20 = .ok (.iload_n 1, 1) := by decide +kernel
theorem dX7_step_21 : decode cX7_step 21 = .ok (.aaload, 1) := by decide +kernel
theorem dX7_step_22 : decode cX7_step 22 = .ok (.astore_n 2, 1) := by decide +kernel
theorem dX7_step_23 : decode cX7_step 23 = .ok (.aload_n 2, 1) := by decide +kernel
theorem dX7_step_24 : decode cX7_step 24 = .ok (.aload_n 0, 1) := by decide +kernel
theorem dX7_step_25 : decode cX7_step 25 = .ok (.getfield 19, 3) := by decide +kernel
theorem dX7_step_28 : decode cX7_step 28 = .ok (.invokevirtual 121, 3) := by decide +kernel
theorem dX7_step_31 : decode cX7_step 31 = .ok (.ifCond .ne 6, 3) := by decide +kernel
theorem dX7_step_34 : decode cX7_step 34 = .ok (.bipush (-3), 2) := by decide +kernel
theorem dX7_step_36 : decode cX7_step 36 = .ok (.ireturn, 1) := by decide +kernel
theorem dX7_step_37 : decode cX7_step 37 = .ok (.aload_n 2, 1) := by decide +kernel
theorem dX7_step_38 : decode cX7_step 38 = .ok (.aload_n 0, 1) := by decide +kernel
theorem dX7_step_39 : decode cX7_step 39 = .ok (.getfield 19, 3) := by decide +kernel
theorem dX7_step_42 : decode cX7_step 42 = .ok (.aload_n 0, 1) := by decide +kernel
theorem dX7_step_43 : decode cX7_step 43 = .ok (.getfield 10, 3) := by decide +kernel
theorem dX7_step_46 : decode cX7_step 46 = .ok (.getfield 125, 3) := by decide +kernel
theorem dX7_step_49 : decode cX7_step 49 = .ok (.invokevirtual 128, 3) := by decide +kernel
theorem dX7_step_52 : decode cX7_step 52 = .ok (.aload_n 0, 1) := by decide +kernel
theorem dX7_step_53 : decode cX7_step 53 = .ok (.getfield 19, 3) := by decide +kernel
theorem dX7_step_56 : decode cX7_step 56 = .ok (.aload_n 0, 1) := by decide +kernel
theorem dX7_step_57 : decode cX7_step 57 = .ok (.getfield 10, 3) := by decide +kernel
theorem dX7_step_60 : decode cX7_step 60 = .ok (.getfield 125, 3) := by decide +kernel
theorem dX7_step_63 : decode cX7_step 63 = .ok (.invokevirtual 132, 3) := by decide +kernel
theorem dX7_step_66 : decode cX7_step 66 = .ok (.aload_n 0, 1) := by decide +kernel
theorem dX7_step_67 : decode cX7_step 67 = .ok (.getfield 10, 3) := by decide +kernel
theorem dX7_step_70 : decode cX7_step 70 = .ok (.aload_n 0, 1) := by decide +kernel
theorem dX7_step_71 : decode cX7_step 71 = .ok (.getfield 19, 3) := by decide +kernel
theorem dX7_step_74 : decode cX7_step 74 = .ok (.invokevirtual 136, 3) := by decide +kernel
theorem dX7_step_77 : decode cX7_step 77 = .ok (.ireturn, 1) := by decide +kernel
theorem hl_yX7_step : (yX7_step.cls ≠ "java/lang/invoke/MethodHandle" ∧ yX7_step.cls ≠ "java/lang/invoke/VarHandle") ∧ (parseMethodDescriptor yX7_step.desc).map (fun d => d.parameters.length) = some 1 := by decide +kernel
set_option maxRecDepth 20000 in
set_option maxHeartbeats 4000000 in
theorem c_X7_step {l : Launch} {G : Gt} {n0 : Nat} {mi : Nat → Nat → Int} {mr : Nat → Nat → Nat} {K : Nat → Nat → Int} {L : Lws} {set : Int} {H : V5} {o : Int} (hV : CV K L set H o mi mr) {z : Int} (hz : rg z) : Ci l yX7_step cX7_step 3 .int 4 G n0 [.ref (n0 + 0), .int (jI z)] mi mr (fun r9 mi9 mr9 => (¬ (0 ≤ z ∧ z < L.2.1) ∧ r9 = -1 ∧ mi = mi9 ∧ mr = mr9) ∨ ((0 ≤ z ∧ z < L.2.1) ∧ ¬ fit (L.2.2.2.1 z.toNat) (F5 H) ∧ r9 = -3 ∧ mi = mi9 ∧ mr = mr9) ∨ ((0 ≤ z ∧ z < L.2.1) ∧ fit (L.2.2.2.1 z.toNat) (F5 H) ∧ r9 = cnt (fun j => fit (L.2.2.2.1 j) (F5 (T5 (led (L.2.2.2.1 z.toNat) (F5 H))))) L.2.1.toNat ∧ CV K L set (T5 (led (L.2.2.2.1 z.toNat) (F5 H))) o mi9 mr9)) := by
  refine Ct_of (by decide +kernel) (by intro v hv; simp at hv; rcases hv with rfl | rfl <;> rfl) (Nat.le_of_ble_eq_true rfl) ?_
  intro p e s m args below meth c9 X hr hname
  show WW _ _ _ _ _ _ _ _ _ _ _ _ _ _ _ _ _ _ _ [some (.ref (n0 + 0)), some (.int (jI z)), none] _
  have hW := hV.1
  have hO := hV.2.1
  have hC := hV.2.2.1
  have hH := hV.2.2.2.2.1
  have hHb := HA_b hH
  have hVo := CV_o hV
  have hoo : mi 44 6 = o := hV.2.2.2.2.2.2.1
  have hsc := hW.1
  have hC1 := hC.1
  have hL3 := hW.2.2.1
  refine w_aload_n X dX7_step_0 rfl ?_
  refine w_get X (by decide) (σ_0 G n0 _ _) rfl gW_X7 0 (by decide) gF_X7_10 rfl dX7_step_1 ?_
  refine w_iload_n X dX7_step_4 rfl ?_
  refine s_callVi X _ (c_X5_isRule (l := l) (G := G) (n0 := n0) hW.2.2.1 (by first | assumption | (refine ⟨?_, ?_⟩ <;> omega))) gM_X7_70 gI_yX5_isRule gS_yX5_isRule gN_X5 gC_yX5_isRule (by decide) (σ_1 G n0 _ _) rfl dX7_step_5 hl_yX5_isRule ⟨Nat.le_of_ble_eq_true rfl, Nat.le_of_ble_eq_true rfl⟩ (Nat.le_of_ble_eq_true rfl) rfl (fun r1 mi1 mr1 h1 => ?_)
  obtain ⟨rfl, rfl, h1⟩ := h1
  refine w_if_ne X 13 dX7_step_8 (by decide) (fun c8_1 => ?_) (fun c8_1 => ?_)
  ·
    have hz2 : 0 ≤ z ∧ z < mi 1 5 := by omega
    have hzL : 0 ≤ z ∧ z < L.2.1 := by rw [hC.2.1]; omega
    have hrv := hW.2.2.2.2.1 z.toNat (by omega)
    have hru := hC.2.2.2.1 z.toNat (by omega)
    have hf : fit (L.2.2.2.1 z.toNat) (F5 H) ↔ fit (mi (6 + 2 * z.toNat)) (mi 43) := by rw [hru]; exact (fit_c hH.2.2).symm
    refine w_aload_n X dX7_step_13 rfl ?_
    refine w_get X (by decide) (σ_0 G n0 _ _) rfl gW_X7 0 (by decide) gF_X7_10 rfl dX7_step_14 ?_
    refine w_getN X (by decide) (σ_1 G n0 _ _) rfl gW_X5 0 (by decide) gF_X7_73 rfl dX7_step_17 ?_
    refine w_iload_n X dX7_step_20 rfl ?_
    refine s_aald X (t := 3) (z.toNat) (by decide) (σ_2 G n0 _ _) rfl dX7_step_21 ?_
    refine w_ast3_2 X dX7_step_22 ?_
    refine w_aload_n X dX7_step_23 rfl ?_
    refine w_aload_n X dX7_step_24 rfl ?_
    refine w_get X (by decide) (σ_0 G n0 _ _) rfl gW_X7 1 (by decide) gF_X7_19 rfl dX7_step_25 ?_
    refine s_callVi X _ (c_X6_fits (l := l) (G := G) (n0 := n0) (ru_2 (by omega)) hrv cr_42 hHb.2.1) gM_X7_121 gI_yX6_fits gS_yX6_fits gN_X6 gC_yX6_fits (isRu_k (ru_2 (by omega))) (σ_ru G n0 _ _ (ru_2 (by omega))) rfl dX7_step_28 hl_yX6_fits ⟨Nat.le_of_ble_eq_true rfl, Nat.le_of_ble_eq_true rfl⟩ (Nat.le_of_ble_eq_true rfl) rfl (fun r2 mi2 mr2 h2 => ?_)
    obtain ⟨rfl, rfl, h2⟩ := h2
    refine w_if_ne X 37 dX7_step_31 (by decide) (fun c31_2 => ?_) (fun c31_2 => ?_)
    ·
      have hfit : fit (L.2.2.2.1 z.toNat) (F5 H) := by
        rcases h2 with ⟨-, q⟩ | ⟨q, -⟩
        · exact hf.mpr q
        · omega
      refine w_aload_n X dX7_step_37 rfl ?_
      refine w_aload_n X dX7_step_38 rfl ?_
      refine w_get X (by decide) (σ_0 G n0 _ _) rfl gW_X7 1 (by decide) gF_X7_19 rfl dX7_step_39 ?_
      refine w_aload_n X dX7_step_42 rfl ?_
      refine w_get X (by decide) (σ_0 G n0 _ _) rfl gW_X7 0 (by decide) gF_X7_10 rfl dX7_step_43 ?_
      refine w_getN X (by decide) (σ_1 G n0 _ _) rfl gW_X5 2 (by decide) gF_X7_125 rfl dX7_step_46 ?_
      refine s_callVv X _ (c_X6_lead (l := l) (G := G) (n0 := n0) (ru_2 (by omega)) hrv cr_42 cr_4 (by decide)) gM_X7_128 gI_yX6_lead gS_yX6_lead gN_X6 gC_yX6_lead (isRu_k (ru_2 (by omega))) (σ_ru G n0 _ _ (ru_2 (by omega))) rfl dX7_step_49 hl_yX6_lead ⟨Nat.le_of_ble_eq_true rfl, Nat.le_of_ble_eq_true rfl⟩ (Nat.le_of_ble_eq_true rfl) rfl (fun mi3 mr3 h3 => ?_)
      obtain ⟨⟨hw9, hf9⟩, rfl⟩ := h3
      simp only [Nat.reduceAdd] at hw9 hf9
      refine w_aload_n X dX7_step_52 rfl ?_
      refine w_get X (by decide) (σ_0 G n0 _ _) rfl gW_X7 1 (by decide) gF_X7_19 rfl dX7_step_53 ?_
      refine w_aload_n X dX7_step_56 rfl ?_
      refine w_get X (by decide) (σ_0 G n0 _ _) rfl gW_X7 0 (by decide) gF_X7_10 rfl dX7_step_57 ?_
      refine w_getN X (by decide) (σ_1 G n0 _ _) rfl gW_X5 2 (by decide) gF_X7_125 rfl dX7_step_60 ?_
      refine s_callVv X _ (c_X3_copy (l := l) (G := G) (n0 := n0) cr_42 cr_4) gM_X7_132 gI_yX3_copy gS_yX3_copy gN_X3 gC_yX3_copy (isCr_k cr_42) (σ_cr G n0 _ _ cr_42) rfl dX7_step_63 hl_yX3_copy ⟨Nat.le_of_ble_eq_true rfl, Nat.le_of_ble_eq_true rfl⟩ (Nat.le_of_ble_eq_true rfl) rfl (fun mi4 mr4 h4 => ?_)
      obtain ⟨h4, rfl⟩ := h4
      simp only [Nat.reduceAdd] at h4
      have g : ∀ a, a ≠ 43 → a ≠ 5 → mi4 a = mi a := fun a h1 h2 => by rw [← h4, row5_k h1]; exact hf9 a h2
      have g43 : ∀ j : Nat, j < 5 → mi4 43 j = F5 (T5 (led (L.2.2.2.1 z.toNat) (F5 H))) j := fun j hj => by
        rw [← h4, row5_s hj, hw9 j hj, F5_T5 _ hj, hru]
        exact Int.le_antisymm (led_mono (fun a ha => by rw [hH.2.2 a ha]; exact Int.le_refl _) j) (led_mono (fun a ha => by rw [hH.2.2 a ha]; exact Int.le_refl _) j)
      have hcr := led_cro (hO.2.1 z.toNat (by omega)) hH.1 hfit
      have hV5 : CV K L set (T5 (led (L.2.2.2.1 z.toNat) (F5 H))) o mi4 mr := CV_5 hV g ⟨by rw [hcr.2.2]; exact hcr, by rw [hcr.2.2]; exact hH.2.1, g43⟩
      have hHb5 := HA_b hV5.2.2.2.2.1
      refine w_aload_n X dX7_step_66 rfl ?_
      refine w_get X (by decide) (σ_0 G n0 _ _) rfl gW_X7 0 (by decide) gF_X7_10 rfl dX7_step_67 ?_
      refine w_aload_n X dX7_step_70 rfl ?_
      refine w_get X (by decide) (σ_0 G n0 _ _) rfl gW_X7 1 (by decide) gF_X7_19 rfl dX7_step_71 ?_
      refine s_callVi X _ (c_X5_countFitting (l := l) (G := G) (n0 := n0) hV5.1 cr_42 hHb5.2.1) gM_X7_136 gI_yX5_countFitting gS_yX5_countFitting gN_X5 gC_yX5_countFitting (by decide) (σ_1 G n0 _ _) rfl dX7_step_74 hl_yX5_countFitting ⟨Nat.le_of_ble_eq_true rfl, Nat.le_of_ble_eq_true rfl⟩ (Nat.le_of_ble_eq_true rfl) rfl (fun r5 mi5 mr5 h5 => ?_)
      obtain ⟨rfl, rfl, h5⟩ := h5
      refine s_iret X hr dX7_step_77 ?_
      refine Or.inr (Or.inr ⟨hzL, hfit, ?_, hV5⟩)
      rw [h5, hV5.2.2.1.2.1]
      refine cnt_c (fun j hj => ?_)
      rw [hV5.2.2.1.2.2.2.1 j (by omega)]
      exact fit_c hV5.2.2.2.2.1.2.2
    ·
      refine w_bipush X dX7_step_34 rfl ?_
      refine s_iret X hr dX7_step_36 ?_
      refine Or.inr (Or.inl ⟨hzL, fun w => ?_, rfl, rfl, rfl⟩)
      rcases h2 with ⟨q, -⟩ | ⟨-, q⟩
      · omega
      · exact q (hf.mp w)
  ·
    refine w_iconst X dX7_step_11 ?_
    refine s_iret X hr dX7_step_12 ?_
    exact Or.inl ⟨by rw [hC.2.1]; omega, rfl, rfl, rfl⟩
