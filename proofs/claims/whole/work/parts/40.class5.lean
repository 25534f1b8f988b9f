theorem CV_p {K : Nat → Nat → Int} {L : Lws} {set : Int} {H H' : V5} {o : Int} {mi mi' : Nat → Nat → Int} {mr : Nat → Nat → Nat} (h : CV K L set H o mi mr) (h1 : ∀ a, a ≠ 43 → mi' a = mi a) (hH : HA L H' mi') : CV K L set H' o mi' mr := by
  obtain ⟨a1, a2, a3, a4, a5, a6, a7, aF, a8⟩ := h
  exact ⟨LW_fr a1 (fun a ha _ _ => h1 a (by omega)), a2, LwC_fr a1 a3 (fun a ha _ _ => h1 a (by omega)), by rw [h1 1 (by omega)]; exact a4, hH, SkP_fr a6 (fun a _ _ => h1 a (by omega)), by rw [h1 44 (by omega)]; exact a7, fun a ha => (h1 a (by omega)).trans (aF a ha), by rw [h1 461 (by omega)]; exact a8.1, fun z a b q => by rw [h1 461 (by omega)] at q; exact FD_fr (a8.2 z a b q) (fun a ha _ _ => h1 a (by omega)) (h1 461 (by omega))⟩
theorem dX7_put_0 : decode cX7_put 0 = .ok (.aload_n 0, 1) := by decide +kernel
theorem dX7_put_1 : decode cX7_put 1 = .ok (.getfield 10, 3) := by decide +kernel
theorem dX7_put_4 : decode cX7_put 4 = .ok (.iload_n 1, 1) := by decide +kernel
theorem dX7_put_5 : decode cX7_put 5 = .ok (.invokevirtual 59, 3) := by decide +kernel
theorem dX7_put_8 : decode cX7_put 8 = .ok (.ifCond .ne 5, 3) := by decide +kernel
theorem dX7_put_11 : decode cX7_put 11 = .ok (.iconst (-1), 1) := by decide +kernel
theorem dX7_put_12 : decode cX7_put 12 = .ok (.ireturn, 1) := by decide +kernel
theorem dX7_put_13 : decode cX7_put 13 = .ok (.aload_n 0, 1) := by decide +kernel
theorem dX7_put_14 : decode cX7_put 14 = .ok (.getfield 19, 3) := by decide +kernel
theorem dX7_put_17 : decode cX7_put 17 = .ok (.iload_n 1, 1) := by decide +kernel
theorem dX7_put_18 : decode cX7_put 18 = .ok (.invokevirtual 109, 3) := by decide +kernel
theorem dX7_put_21 : decode cX7_put 21 = .ok (.istore_n 3, 1) := by decide +kernel
theorem dX7_put_22 : decode cX7_put 22 = .ok (.iload_n 2, 1) := by decide +kernel
theorem dX7_put_23 : decode cX7_put 23 = .ok (.ifCond .lt 26, 3) := by decide +kernel
theorem dX7_put_26 : decode cX7_put 26 = .ok (.iload_n 2, 1) := by decide +kernel
theorem dX7_put_27 : decode cX7_put 27 = .ok (.bipush 50, 2) := by decide +kernel
theorem dX7_put_29 : decode cX7_put 29 = .ok (.if_icmp .gt 20, 3) := by decide +kernel
theorem dX7_put_32 : decode cX7_put 32 = .ok (.aload_n 0, 1) := by decide +kernel
theorem dX7_put_33 : decode cX7_put 33 = .ok (.getfield 19, 3) := by decide +kernel
theorem dX7_put_36 : decode cX7_put 36 = .ok (.invokevirtual 113, 3) := by decide +kernel
theorem dX7_put_39 : decode cX7_put 39 = .ok (.iload_n 3, 1) := by decide +kernel
theorem dX7_put_40 : decode cX7_put 40 = .ok (.isub, 1) := by decide +kernel
theorem dX7_put_41 : decode cX7_put 41 = .ok (.iload_n 2, 1) := by decide +kernel
theorem dX7_put_42 : decode cX7_put 42 = .ok (.iadd, 1) := by decide +kernel
theorem dX7_put_43 : decode cX7_put 43 = .ok (.sipush 250, 3) := by decide +kernel
theorem dX7_put_46 : decode cX7_put 46 = .ok (.if_icmp .le 6, 3) := by decide +kernel
theorem dX7_put_49 : decode cX7_put 49 = .ok (.bipush (-2), 2) := by decide +kernel
theorem dX7_put_51 : decode cX7_put 51 = .ok (.ireturn, 1) := by decide +kernel
theorem dX7_put_52 : decode cX7_put 52 = .ok (.aload_n 0, 1) := by decide +kernel
theorem dX7_put_53 : decode cX7_put 53 = .ok (.getfield 19, 3) := by decide +kernel
theorem dX7_put_56 : decode cX7_put 56 = .ok (.iload_n 1, 1) := by decide +kernel
theorem dX7_put_57 : decode cX7_put 57 = .ok (.iload_n 2, 1) := by decide +kernel
theorem dX7_put_58 : decode cX7_put 58 = .ok (.invokevirtual 117, 3) := by decide +kernel
theorem dX7_put_61 : decode cX7_put 61 = .ok (.iload_n 3, 1) := by decide +kernel
theorem dX7_put_62 : decode cX7_put 62 = .ok (.ireturn, 1) := by decide +kernel
theorem hl_yX7_put : (yX7_put.cls ≠ "java/lang/invoke/MethodHandle" ∧ yX7_put.cls ≠ "java/lang/invoke/VarHandle") ∧ (parseMethodDescriptor yX7_put.desc).map (fun d => d.parameters.length) = some 2 := by decide +kernel
set_option maxRecDepth 20000 in
set_option maxHeartbeats 4000000 in
theorem c_X7_put {l : Launch} {G : Gt} {n0 : Nat} {mi : Nat → Nat → Int} {mr : Nat → Nat → Nat} {K : Nat → Nat → Int} {L : Lws} {set : Int} {H : V5} {o : Int} (hV : CV K L set H o mi mr) {z x : Int} (hz : rg z) (hx : rg x) : Ci l yX7_put cX7_put 4 .int 3 G n0 [.ref (n0 + 0), .int (jI z), .int (jI x)] mi mr (fun r9 mi9 mr9 => (¬ (0 ≤ z ∧ z < L.1) ∧ r9 = -1 ∧ mi = mi9 ∧ mr = mr9) ∨ ((0 ≤ z ∧ z < L.1) ∧ ¬ (0 ≤ x ∧ x ≤ 50 ∧ sm H - F5 H z.toNat + x ≤ 250) ∧ r9 = -2 ∧ mi = mi9 ∧ mr = mr9) ∨ ((0 ≤ z ∧ z < L.1) ∧ (0 ≤ x ∧ x ≤ 50 ∧ sm H - F5 H z.toNat + x ≤ 250) ∧ r9 = F5 H z.toNat ∧ CV K L set (T5 (fun j => if j = z.toNat then x else F5 H j)) o mi9 mr9)) := by
  refine Ct_of (by decide +kernel) (by intro v hv; simp at hv; rcases hv with rfl | rfl | rfl <;> rfl) (Nat.le_of_ble_eq_true rfl) ?_
  intro p e s m args below meth c9 X hr hname
  show WW _ _ _ _ _ _ _ _ _ _ _ _ _ _ _ _ _ _ _ [some (.ref (n0 + 0)), some (.int (jI z)), some (.int (jI x)), none] _
  have hW := hV.1
  have hO := hV.2.1
  have hC := hV.2.2.1
  have hH := hV.2.2.2.2.1
  have hHb := HA_b hH
  have hVo := CV_o hV
  have hoo : mi 44 6 = o := hV.2.2.2.2.2.2.1
  have hsc := hW.1
  have hC1 := hC.1
  obtain ⟨hx1, hx2⟩ := id hx
  refine w_aload_n X dX7_put_0 rfl ?_
  refine w_get X (by decide) (σ_0 G n0 _ _) rfl gW_X7 0 (by decide) gF_X7_10 rfl dX7_put_1 ?_
  refine w_iload_n X dX7_put_4 rfl ?_
  refine s_callVi X _ (c_X5_isState (l := l) (G := G) (n0 := n0) hsc (by first | assumption | (refine ⟨?_, ?_⟩ <;> omega))) gM_X7_59 gI_yX5_isState gS_yX5_isState gN_X5 gC_yX5_isState (by decide) (σ_1 G n0 _ _) rfl dX7_put_5 hl_yX5_isState ⟨Nat.le_of_ble_eq_true rfl, Nat.le_of_ble_eq_true rfl⟩ (Nat.le_of_ble_eq_true rfl) rfl (fun r1 mi1 mr1 h1 => ?_)
  obtain ⟨rfl, rfl, h1⟩ := h1
  refine w_if_ne X 13 dX7_put_8 (by decide) (fun c8_1 => ?_) (fun c8_1 => ?_)
  ·
    refine w_aload_n X dX7_put_13 rfl ?_
    refine w_get X (by decide) (σ_0 G n0 _ _) rfl gW_X7 1 (by decide) gF_X7_19 rfl dX7_put_14 ?_
    refine w_iload_n X dX7_put_17 rfl ?_
    refine s_callVi X _ (c_X3_of (l := l) (G := G) (n0 := n0) cr_42 (by first | assumption | (refine ⟨?_, ?_⟩ <;> omega))) gM_X7_109 gI_yX3_of gS_yX3_of gN_X3 gC_yX3_of (isCr_k cr_42) (σ_cr G n0 _ _ cr_42) rfl dX7_put_18 hl_yX3_of ⟨Nat.le_of_ble_eq_true rfl, Nat.le_of_ble_eq_true rfl⟩ (Nat.le_of_ble_eq_true rfl) rfl (fun r2 mi2 mr2 h2 => ?_)
    obtain ⟨rfl, rfl, h2⟩ := h2
    rw [if_pos ⟨by omega, by omega⟩] at h2
    simp only [Nat.reduceAdd] at h2
    refine w_ist4_3 X dX7_put_21 ?_
    have hb43 := hHb.1 z.toNat (by omega)
    have hsum := hHb.2.2.2.1
    have hs0 := hHb.2.2.2.2
    have hH2 := hH.2.1
    refine w_iload_n X dX7_put_22 rfl ?_
    refine w_if_lt X 49 dX7_put_23 (by decide) (fun c23_2 => ?_) (fun c23_2 => ?_)
    ·
      refine w_bipush X dX7_put_49 rfl ?_
      refine s_iret X hr dX7_put_51 ?_
      exact Or.inr (Or.inl ⟨by omega, by have := hH.2.2 z.toNat (by omega); omega, rfl, rfl, rfl⟩)
    ·
      refine w_iload_n X dX7_put_26 rfl ?_
      refine w_bipush X dX7_put_27 rfl ?_
      refine w_icmp_gt X 49 dX7_put_29 (by decide) (fun c29_3 => ?_) (fun c29_3 => ?_)
      ·
        refine w_bipush X dX7_put_49 rfl ?_
        refine s_iret X hr dX7_put_51 ?_
        exact Or.inr (Or.inl ⟨by omega, by have := hH.2.2 z.toNat (by omega); omega, rfl, rfl, rfl⟩)
      ·
        refine w_aload_n X dX7_put_32 rfl ?_
        refine w_get X (by decide) (σ_0 G n0 _ _) rfl gW_X7 1 (by decide) gF_X7_19 rfl dX7_put_33 ?_
        refine s_callVi X _ (c_X3_sum (l := l) (G := G) (n0 := n0) cr_42) gM_X7_113 gI_yX3_sum gS_yX3_sum gN_X3 gC_yX3_sum (isCr_k cr_42) (σ_cr G n0 _ _ cr_42) rfl dX7_put_36 hl_yX3_sum ⟨Nat.le_of_ble_eq_true rfl, Nat.le_of_ble_eq_true rfl⟩ (Nat.le_of_ble_eq_true rfl) rfl (fun r3 mi3 mr3 h3 => ?_)
        obtain ⟨rfl, rfl, h3⟩ := h3
        simp only [Nat.reduceAdd] at h3
        refine w_iload_n X dX7_put_39 rfl ?_
        refine w_isub X dX7_put_40 ?_
        refine w_iload_n X dX7_put_41 rfl ?_
        refine w_iadd X dX7_put_42 ?_
        refine w_sipush X dX7_put_43 rfl ?_
        refine w_icmp_le X 52 dX7_put_46 (by decide) (fun c46_4 => ?_) (fun c46_4 => ?_)
        ·
          refine w_aload_n X dX7_put_52 rfl ?_
          refine w_get X (by decide) (σ_0 G n0 _ _) rfl gW_X7 1 (by decide) gF_X7_19 rfl dX7_put_53 ?_
          refine w_iload_n X dX7_put_56 rfl ?_
          refine w_iload_n X dX7_put_57 rfl ?_
          refine s_callVv X _ (c_X3_set (l := l) (G := G) (n0 := n0) cr_42 (by first | assumption | (refine ⟨?_, ?_⟩ <;> omega))) gM_X7_117 gI_yX3_set gS_yX3_set gN_X3 gC_yX3_set (isCr_k cr_42) (σ_cr G n0 _ _ cr_42) rfl dX7_put_58 hl_yX3_set ⟨Nat.le_of_ble_eq_true rfl, Nat.le_of_ble_eq_true rfl⟩ (Nat.le_of_ble_eq_true rfl) rfl (fun mi4 mr4 h4 => ?_)
          obtain ⟨h4, rfl⟩ := h4
          rw [if_pos ⟨by omega, by omega⟩] at h4
          simp only [Nat.reduceAdd] at h4
          refine w_iload_n X dX7_put_61 rfl ?_
          refine s_iret X hr dX7_put_62 ?_
          have h43 : mi 43 z.toNat = F5 H z.toNat := hH.2.2 z.toNat (by omega)
          have g : ∀ a, a ≠ 43 → mi4 a = mi a := fun a ha => by rw [← h4, up2_k _ _ _ _ ha]
          have gj : ∀ j : Nat, j < 5 → mi4 43 j = if j = z.toNat then x else F5 H j := fun j hj => by
            rw [← h4, up2_a]
            by_cases q : j = z.toNat
            · rw [if_pos ⟨rfl, q⟩, if_pos q]
            · rw [if_neg (fun w => q w.2), if_neg q]; exact hH.2.2 j hj
          have hsx : sum5 (fun j => if j = z.toNat then x else F5 H j) = sm H - F5 H z.toNat + x := by
            have e : sum5 (addA (F5 H) z.toNat (x - F5 H z.toNat)) = sum5 (F5 H) + (x - F5 H z.toNat) := sum5_addA (by omega)
            have e2 : sum5 (fun j => if j = z.toNat then x else F5 H j) = sum5 (addA (F5 H) z.toNat (x - F5 H z.toNat)) := sum5_c (fun j _ => by unfold addA; by_cases q : j = z.toNat; rw [if_pos q, if_pos q]; omega; rw [if_neg q, if_neg q])
            have e3 : sum5 (F5 H) = sm H := rfl
            omega
          refine Or.inr (Or.inr ⟨by omega, by omega, by omega, CV_p hV g ⟨⟨fun j hj hj2 => ?_, fun j hj => ?_, rfl⟩, by rw [sm_T, hsx]; omega, fun j hj => by rw [gj j hj, F5_T5 _ hj]⟩⟩)
          · rw [F5_T5 _ hj, if_neg (by omega)]; exact hH.1.1 j hj hj2
          · rw [F5_T5 _ hj]
            split
            · omega
            · exact hH.1.2.1 j hj
        ·
          refine w_bipush X dX7_put_49 rfl ?_
          refine s_iret X hr dX7_put_51 ?_
          exact Or.inr (Or.inl ⟨by omega, by have := hH.2.2 z.toNat (by omega); omega, rfl, rfl, rfl⟩)
  ·
    refine w_iconst X dX7_put_11 ?_
    refine s_iret X hr dX7_put_12 ?_
    exact Or.inl ⟨by omega, rfl, rfl, rfl⟩
