theorem SkP_3 {L L' : Lws} {mi mi' : Nat → Nat → Int} {mr : Nat → Nat → Nat} (h : SkP L mi mr) (h1 : ∀ a, 51 ≤ a → a < 461 → mi' a = mi a) (h2 : mi' 44 6 = -3) : SkP L' mi' mr := by
  obtain ⟨A, N, g1, g2, g3, g4, g5, -⟩ := h
  exact SkP_of g1 g2 g3 g4 g5 h1 (fun _ _ => rfl) (Or.inl h2)
theorem dX7_bases_0 : decode cX7_bases 0 = .ok (.aload_n 0, 1) := by decide +kernel
theorem dX7_bases_1 : decode cX7_bases 1 = .ok (.getfield 28, 3) := by decide +kernel
theorem dX7_bases_4 : decode cX7_bases 4 = .ok (.getfield 143, 3) := by decide +kernel
theorem dX7_bases_7 : decode cX7_bases 7 = .ok (.ifCond .ge 13, 3) := by decide +kernel
theorem dX7_bases_10 : decode cX7_bases 10 = .ok (.aload_n 0, 1) := by decide +kernel
theorem dX7_bases_11 : decode cX7_bases 11 = .ok (.getfield 28, 3) := by decide +kernel
theorem dX7_bases_14 : decode cX7_bases 14 = .ok (.getfield 143, 3) := by decide +kernel
theorem dX7_bases_17 : decode cX7_bases 17 = .ok (.goto 13, 3) := by decide +kernel
theorem dX7_bases_20 : decode cX7_bases 20 = .ok (.aload_n 0, 1) := by decide +kernel
theorem dX7_bases_21 : decode cX7_bases 21 = .ok (.getfield 28, 3) := by decide +kernel
theorem dX7_bases_24 : decode cX7_bases 24 = .ok (.getfield 152, 3) := by decide +kernel
theorem dX7_bases_27 : decode cX7_bases 27 = .ok (.getfield 156, 3) := by decide +kernel
theorem dX7_bases_30 : decode cX7_bases 30 = .ok (.ireturn, 1) := by decide +kernel
set_option maxRecDepth 20000 in
set_option maxHeartbeats 4000000 in
theorem c_X7_bases {l : Launch} {G : Gt} {n0 : Nat} {mi : Nat → Nat → Int} {mr : Nat → Nat → Nat} {K : Nat → Nat → Int} {L : Lws} {set : Int} {H : V5} {o : Int} (hV : CV K L set H o mi mr) : Ci l yX7_bases cX7_bases 1 .int 2 G n0 [.ref (n0 + 0)] mi mr (fun r9 mi9 mr9 => mi = mi9 ∧ mr = mr9 ∧ (o < 0 ∧ r9 = o ∨ 0 ≤ o ∧ r9 = ((Ef mi mr (mr 44 4)).length : Int))) := by
  refine Ct_of (by decide +kernel) (by intro v hv; simp at hv; rcases hv with rfl <;> rfl) (Nat.le_of_ble_eq_true rfl) ?_
  intro p e s m args below meth c9 X hr hname
  show WW _ _ _ _ _ _ _ _ _ _ _ _ _ _ _ _ _ _ _ [some (.ref (n0 + 0))] _
  have hW := hV.1
  have hO := hV.2.1
  have hC := hV.2.2.1
  have hH := hV.2.2.2.2.1
  have hHb := HA_b hH
  have hVo := CV_o hV
  have hoo : mi 44 6 = o := hV.2.2.2.2.2.2.1
  have hsc := hW.1
  have hC1 := hC.1
  obtain ⟨hNN, hBO, hRe, hor, hEf⟩ := hVo
  refine w_aload_n X dX7_bases_0 rfl ?_
  refine w_get X (by decide) (σ_0 G n0 _ _) rfl gW_X7 2 (by decide) gF_X7_28 rfl dX7_bases_1 ?_
  refine w_getN X (by decide) (σ_44 G n0 _ _) rfl gW_X0 6 (by decide) gF_X7_143 rfl dX7_bases_4 ?_
  refine w_if_ge X 20 dX7_bases_7 (by decide) (fun c7_1 => ?_) (fun c7_1 => ?_)
  ·
    refine w_aload_n X dX7_bases_20 rfl ?_
    refine w_get X (by decide) (σ_0 G n0 _ _) rfl gW_X7 2 (by decide) gF_X7_28 rfl dX7_bases_21 ?_
    refine w_getN X (by decide) (σ_44 G n0 _ _) rfl gW_X0 4 (by decide) gF_X7_152 rfl dX7_bases_24 ?_
    refine w_getN X (isBs_k hNN.a) (σ_bs G n0 _ _ hNN.a) rfl gW_X1 2 (by decide) gF_X7_156 rfl dX7_bases_27 ?_
    refine s_iret X hr dX7_bases_30 ?_
    first | exact ⟨rfl, rfl, Or.inl ⟨by omega, hoo⟩⟩ | exact ⟨rfl, rfl, Or.inr ⟨by omega, by rw [Ef_len]; have := hBO.2.1; omega⟩⟩
  ·
    refine w_aload_n X dX7_bases_10 rfl ?_
    refine w_get X (by decide) (σ_0 G n0 _ _) rfl gW_X7 2 (by decide) gF_X7_28 rfl dX7_bases_11 ?_
    refine w_getN X (by decide) (σ_44 G n0 _ _) rfl gW_X0 6 (by decide) gF_X7_143 rfl dX7_bases_14 ?_
    refine w_goto X 30 dX7_bases_17 (by decide) ?_
    refine s_iret X hr dX7_bases_30 ?_
    first | exact ⟨rfl, rfl, Or.inl ⟨by omega, hoo⟩⟩ | exact ⟨rfl, rfl, Or.inr ⟨by omega, by rw [Ef_len]; have := hBO.2.1; omega⟩⟩
theorem dX7_states_0 : decode cX7_states 0 = .ok (.iload_n 1, 1) := by decide +kernel
theorem dX7_states_1 : decode cX7_states 1 = .ok (.iconst 1, 1) := by decide +kernel
theorem dX7_states_2 : decode cX7_states 2 = .ok (.if_icmp .lt 8, 3) := by decide +kernel
theorem dX7_states_5 : decode cX7_states 5 = .ok (.iload_n 1, 1) := by decide +kernel
theorem dX7_states_6 : decode cX7_states 6 = .ok (.iconst 5, 1) := by decide +kernel
theorem dX7_states_7 : decode cX7_states 7 = .ok (.if_icmp .le 6, 3) := by decide +kernel
theorem dX7_states_10 : decode cX7_states 10 = .ok (.bipush (-2), 2) := by decide +kernel
theorem dX7_states_12 : decode cX7_states 12 = .ok (.ireturn, 1) := by decide +kernel
theorem dX7_states_13 : decode cX7_states 13 = .ok (.aload_n 0, 1) := by decide +kernel
theorem dX7_states_14 : decode cX7_states 14 = .ok (.getfield 10, 3) := by decide +kernel
theorem dX7_states_17 : decode cX7_states 17 = .ok (.getfield 39, 3) := by decide +kernel
theorem dX7_states_20 : decode cX7_states 20 = .ok (.istore_n 2, 1) := by decide +kernel
theorem dX7_states_21 : decode cX7_states 21 = .ok (.aload_n 0, 1) := by decide +kernel
theorem dX7_states_22 : decode cX7_states 22 = .ok (.getfield 10, 3) := by decide +kernel
theorem dX7_states_25 : decode cX7_states 25 = .ok (.iload_n 1, 1) := by decide +kernel
theorem dX7_states_26 : decode cX7_states 26 = .ok (.invokevirtual 43, 3) := by decide +kernel
theorem dX7_states_29 : decode cX7_states 29 = .ok (.aload_n 0, 1) := by decide +kernel
theorem dX7_states_30 : decode cX7_states 30 = .ok (.getfield 19, 3) := by decide +kernel
theorem dX7_states_33 : decode cX7_states 33 = .ok (.invokevirtual 47, 3) := by decide +kernel
theorem dX7_states_36 : decode cX7_states 36 = .ok (.aload_n 0, 1) := by decide +kernel
theorem dX7_states_37 : decode cX7_states 37 = .ok (.invokevirtual 50, 3) := by decide +kernel
theorem dX7_states_40 : decode cX7_states 40 = .ok (.iload_n 2, 1) := by decide +kernel
theorem dX7_states_41 : decode cX7_states 41 = .ok (.ireturn, 1) := by decide +kernel
theorem hl_yX7_states : (yX7_states.cls ≠ "java/lang/invoke/MethodHandle" ∧ yX7_states.cls ≠ "java/lang/invoke/VarHandle") ∧ (parseMethodDescriptor yX7_states.desc).map (fun d => d.parameters.length) = some 1 := by decide +kernel
set_option maxRecDepth 20000 in
set_option maxHeartbeats 4000000 in
theorem c_X7_states {l : Launch} {G : Gt} {n0 : Nat} {mi : Nat → Nat → Int} {mr : Nat → Nat → Nat} {K : Nat → Nat → Int} {L : Lws} {set : Int} {H : V5} {o : Int} (hV : CV K L set H o mi mr) {z : Int} (hz : rg z) : Ci l yX7_states cX7_states 3 .int 3 G n0 [.ref (n0 + 0), .int (jI z)] mi mr (fun r9 mi9 mr9 => (¬ (1 ≤ z ∧ z ≤ 5) ∧ r9 = -2 ∧ mi = mi9 ∧ mr = mr9) ∨ ((1 ≤ z ∧ z ≤ 5) ∧ r9 = L.1 ∧ CV K (z, 0, 0, L.2.2.2.1, L.2.2.2.2) 1 (0, 0, 0, 0, 0) (-3) mi9 mr9)) := by
  refine Ct_of (by decide +kernel) (by intro v hv; simp at hv; rcases hv with rfl | rfl <;> rfl) (Nat.le_of_ble_eq_true rfl) ?_
  intro p e s m args below meth c9 X hr hname
  show WW _ _ _ _ _ _ _ _ _ _ _ _ _ _ _ _ _ _ _ [some (.ref (n0 + 0)), some (.int (jI z)), none] _
  have hW := hV.1
  have hO := hV.2.1
  have hC := hV.2.2.1
  have hH := hV.2.2.2.2.1
  have hHb := HA_b hH
  have hVo := CV_o hV
  have hoo : mi 44 6 = o := hV.2.2.2.2.2.2.1
  have hsc := hW.1
  have hC1 := hC.1
  refine w_iload_n X dX7_states_0 rfl ?_
  refine w_iconst X dX7_states_1 ?_
  refine w_icmp_lt X 10 dX7_states_2 (by decide) (fun c2_1 => ?_) (fun c2_1 => ?_)
  ·
    refine w_bipush X dX7_states_10 rfl ?_
    refine s_iret X hr dX7_states_12 ?_
    exact Or.inl ⟨by omega, rfl, rfl, rfl⟩
  ·
    refine w_iload_n X dX7_states_5 rfl ?_
    refine w_iconst X dX7_states_6 ?_
    refine w_icmp_le X 13 dX7_states_7 (by decide) (fun c7_2 => ?_) (fun c7_2 => ?_)
    ·
      refine w_aload_n X dX7_states_13 rfl ?_
      refine w_get X (by decide) (σ_0 G n0 _ _) rfl gW_X7 0 (by decide) gF_X7_10 rfl dX7_states_14 ?_
      refine w_getN X (by decide) (σ_1 G n0 _ _) rfl gW_X5 3 (by decide) gF_X7_39 rfl dX7_states_17 ?_
      refine w_ist3_2 X dX7_states_20 ?_
      refine w_aload_n X dX7_states_21 rfl ?_
      refine w_get X (by decide) (σ_0 G n0 _ _) rfl gW_X7 0 (by decide) gF_X7_10 rfl dX7_states_22 ?_
      refine w_iload_n X dX7_states_25 rfl ?_
      refine s_callVv X _ (c_X5_begin (l := l) (G := G) (n0 := n0)) gM_X7_43 gI_yX5_begin gS_yX5_begin gN_X5 gC_yX5_begin (by decide) (σ_1 G n0 _ _) rfl dX7_states_26 hl_yX5_begin ⟨Nat.le_of_ble_eq_true rfl, Nat.le_of_ble_eq_true rfl⟩ (Nat.le_of_ble_eq_true rfl) rfl (fun mi1 mr1 h1 => ?_)
      obtain ⟨rfl, rfl⟩ := h1
      refine w_aload_n X dX7_states_29 rfl ?_
      refine w_get X (by decide) (σ_0 G n0 _ _) rfl gW_X7 1 (by decide) gF_X7_19 rfl dX7_states_30 ?_
      refine s_callVv X _ (c_X3_clear (l := l) (G := G) (n0 := n0) cr_42) gM_X7_47 gI_yX3_clear gS_yX3_clear gN_X3 gC_yX3_clear (isCr_k cr_42) (σ_cr G n0 _ _ cr_42) rfl dX7_states_33 hl_yX3_clear ⟨Nat.le_of_ble_eq_true rfl, Nat.le_of_ble_eq_true rfl⟩ (Nat.le_of_ble_eq_true rfl) rfl (fun mi2 mr2 h2 => ?_)
      obtain ⟨rfl, rfl⟩ := h2
      refine w_aload_n X dX7_states_36 rfl ?_
      refine s_callVv X _ (c_X7_forgetFindings (l := l) (G := G) (n0 := n0)) gM_X7_50 gI_yX7_forgetFindings gS_yX7_forgetFindings gN_X7 gC_yX7_forgetFindings (by decide) (σ_0 G n0 _ _) rfl dX7_states_37 hl_yX7_forgetFindings ⟨Nat.le_of_ble_eq_true rfl, Nat.le_of_ble_eq_true rfl⟩ (Nat.le_of_ble_eq_true rfl) rfl (fun mi3 mr3 h3 => ?_)
      obtain ⟨rfl, rfl⟩ := h3
      refine w_iload_n X dX7_states_40 rfl ?_
      refine s_iret X hr dX7_states_41 ?_
      refine Or.inr ⟨by omega, hC1.symm, ?_⟩
      have g1 : ∀ a, a ≠ 1 → a ≠ 43 → a ≠ 44 → a ≠ 461 → up2 (up2 (row5 (up2 (up2 (up2 (up2 mi 1 3 z) 1 4 1) 1 5 0) 1 6 0) (42 + 1) (fun _ => 0)) 44 6 (-3)) 461 9 (-9) a = mi a := fun a h1 h2 h3 h4 => by rw [up2_k _ _ _ _ h4, up2_k _ _ _ _ h3, row5_k h2, up2_k _ _ _ _ h1, up2_k _ _ _ _ h1, up2_k _ _ _ _ h1, up2_k _ _ _ _ h1]
      have g3 : up2 (up2 (row5 (up2 (up2 (up2 (up2 mi 1 3 z) 1 4 1) 1 5 0) 1 6 0) (42 + 1) (fun _ => 0)) 44 6 (-3)) 461 9 (-9) 1 3 = z := by rw [up2_k _ _ _ _ (by decide), up2_k _ _ _ _ (by decide), row5_k (by decide)]; simp [up2_a]
      have g4 : up2 (up2 (row5 (up2 (up2 (up2 (up2 mi 1 3 z) 1 4 1) 1 5 0) 1 6 0) (42 + 1) (fun _ => 0)) 44 6 (-3)) 461 9 (-9) 1 4 = 1 := by rw [up2_k _ _ _ _ (by decide), up2_k _ _ _ _ (by decide), row5_k (by decide)]; simp [up2_a]
      have g5 : up2 (up2 (row5 (up2 (up2 (up2 (up2 mi 1 3 z) 1 4 1) 1 5 0) 1 6 0) (42 + 1) (fun _ => 0)) 44 6 (-3)) 461 9 (-9) 1 5 = 0 := by rw [up2_k _ _ _ _ (by decide), up2_k _ _ _ _ (by decide), row5_k (by decide)]; simp [up2_a]
      have g6 : up2 (up2 (row5 (up2 (up2 (up2 (up2 mi 1 3 z) 1 4 1) 1 5 0) 1 6 0) (42 + 1) (fun _ => 0)) 44 6 (-3)) 461 9 (-9) 1 6 = 0 := by rw [up2_k _ _ _ _ (by decide), up2_k _ _ _ _ (by decide), row5_k (by decide)]; simp [up2_a]
      have g43 : ∀ j : Nat, j < 5 → up2 (up2 (row5 (up2 (up2 (up2 (up2 mi 1 3 z) 1 4 1) 1 5 0) 1 6 0) (42 + 1) (fun _ => 0)) 44 6 (-3)) 461 9 (-9) 43 j = 0 := fun j hj => by rw [up2_k _ _ _ _ (by decide), up2_k _ _ _ _ (by decide)]; exact row5_s hj
      have g44 : up2 (up2 (row5 (up2 (up2 (up2 (up2 mi 1 3 z) 1 4 1) 1 5 0) 1 6 0) (42 + 1) (fun _ => 0)) 44 6 (-3)) 461 9 (-9) 44 6 = -3 := by rw [up2_k _ _ _ _ (by decide), up2_s]
      have g461 : up2 (up2 (row5 (up2 (up2 (up2 (up2 mi 1 3 z) 1 4 1) 1 5 0) 1 6 0) (42 + 1) (fun _ => 0)) 44 6 (-3)) 461 9 (-9) 461 9 = -9 := up2_s _ _ _ _
      generalize up2 (up2 (row5 (up2 (up2 (up2 (up2 mi 1 3 z) 1 4 1) 1 5 0) 1 6 0) (42 + 1) (fun _ => 0)) 44 6 (-3)) 461 9 (-9) = M at *
      refine ⟨⟨by omega, by omega, by omega, by omega, fun i hi => by omega, fun i hi => by omega⟩, ⟨by exact ⟨by omega, by omega⟩, fun j hj => absurd hj (by show ¬ (j : Int) < 0; omega), fun j hj => absurd hj (by show ¬ (j : Int) < 0; omega)⟩, ⟨g3.symm, g5.symm, g6.symm, fun j hj => by omega, fun j hj => by omega⟩, g4, ⟨⟨fun j hj _ => ?_, fun j hj => ?_, rfl⟩, by decide, fun j hj => ?_⟩, SkP_3 hV.2.2.2.2.2.1 (fun a h1 h2 => g1 a (by omega) (by omega) (by omega) (by omega)) g44, g44, fun a ha => (g1 a (by omega) (by omega) (by omega) (by omega)).trans (hV.2.2.2.2.2.2.2.1 a ha), Or.inl g461, fun z' h1 h2 h3 => by omega⟩
      · exact F5_T5 (fun _ => 0) hj
      · rw [show F5 ((0 : Int), (0 : Int), (0 : Int), (0 : Int), (0 : Int)) j = 0 from F5_T5 (fun _ => 0) hj]; exact Int.le_refl _
      · rw [g43 j hj]; exact (F5_T5 (fun _ => 0) hj).symm
    ·
      refine w_bipush X dX7_states_10 rfl ?_
      refine s_iret X hr dX7_states_12 ?_
      exact Or.inl ⟨by omega, rfl, rfl, rfl⟩
