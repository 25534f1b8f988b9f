theorem FD_fr {L : Lws} {z set : Int} {mi mi' : Nat → Nat → Int} (h : FD L z set mi) (h1 : ∀ a, a < 42 ∨ 465 < a ∧ a < 473 → a ≠ 4 → a ≠ 5 → mi' a = mi a) (h2 : mi' 461 = mi 461) : FD L z set mi' := by
  obtain ⟨k, c, P, g1, g2, g3, g4⟩ := h
  have e := fun a h => h1 a h
  refine ⟨k, c, P, FE_fr g1 (fun a ha h4 h5 => h1 a (by omega) h4 h5) (by rw [h2]) (h1 466 (by omega) (by omega) (by omega)), by rw [h2]; exact g2, ?_, ?_⟩
  · rw [h2]
    exact FG_fr g3 (h1 467 (by omega) (by omega) (by omega)) (h1 468 (by omega) (by omega) (by omega)) (h1 470 (by omega) (by omega) (by omega))
  · rw [h2, h1 472 (by omega) (by omega) (by omega)]
    exact g4
theorem CV_fr {K : Nat → Nat → Int} {L : Lws} {set : Int} {H : V5} {o o' : Int} {mi mi' : Nat → Nat → Int} {mr mr' : Nat → Nat → Nat} (h : CV K L set H o mi mr) (h1 : ∀ a, a < 44 → a ≠ 4 → a ≠ 5 → mi' a = mi a) (hS : SkP L mi' mr') (ho : mi' 44 6 = o') (hF : ∀ a, 472 < a → mi' a = mi a) (hw : WK L set mi') : CV K L set H o' mi' mr' := by
  obtain ⟨a1, a2, a3, a4, a5, a6, a7, aF, a8⟩ := h
  exact ⟨LW_fr a1 (fun a ha b c => h1 a (by omega) b c), a2, LwC_fr a1 a3 (fun a ha b c => h1 a (by omega) b c), by rw [h1 1 (by omega) (by omega) (by omega)]; exact a4, ⟨a5.1, a5.2.1, by rw [h1 43 (by omega) (by omega) (by omega)]; exact a5.2.2⟩, hS, ho, fun a ha => (hF a ha).trans (aF a ha), hw⟩
theorem SkP_fr {L : Lws} {mi mi' : Nat → Nat → Int} {mr : Nat → Nat → Nat} (h : SkP L mi mr) (h1 : ∀ a, 44 ≤ a → a < 461 → mi' a = mi a) : SkP L mi' mr := by
  obtain ⟨A, N, g1, g2, g3, g4, g5, g6⟩ := h
  have hne := g1.ne
  refine SkP_of g1 g2 g3 g4 g5 (fun a a1 a2 => h1 a (by omega) a2) (fun _ _ => rfl) ?_
  rw [h1 44 (by omega) (by omega)]
  exact g6
theorem CV_walk {K : Nat → Nat → Int} {L : Lws} {set : Int} {H : V5} {o z : Int} {mi mi' : Nat → Nat → Int} {mr : Nat → Nat → Nat} (h : CV K L set H o mi mr) (h1 : ∀ a, a < 461 ∨ 472 < a → mi' a = mi a) (hz : 1 ≤ z ∧ z ≤ 8) (h9 : mi' 461 9 = z) (hD : FD L z set mi') : CV K L set H o mi' mr :=
  CV_fr h (fun a ha _ _ => h1 a (by omega)) (SkP_fr h.2.2.2.2.2.1 (fun a _ ha => h1 a (by omega))) (by rw [h1 44 (by omega)]; exact h.2.2.2.2.2.2.1) (fun a ha => h1 a (by omega)) ⟨Or.inr (by omega), fun z' _ _ q => by rw [show z' = z by omega]; exact hD⟩
theorem CV_463 {K : Nat → Nat → Int} {L : Lws} {set : Int} {H : V5} {o : Int} {mi mi' : Nat → Nat → Int} {mr : Nat → Nat → Nat} (h : CV K L set H o mi mr) (h1 : ∀ a, a ≠ 463 → mi' a = mi a) : CV K L set H o mi' mr :=
  CV_fr h (fun a ha _ _ => h1 a (by omega)) (SkP_fr h.2.2.2.2.2.1 (fun a _ ha => h1 a (by omega))) (by rw [h1 44 (by omega)]; exact h.2.2.2.2.2.2.1) (fun a ha => h1 a (by omega)) ⟨by rw [h1 461 (by omega)]; exact h.2.2.2.2.2.2.2.2.1, fun z a b q => by rw [h1 461 (by omega)] at q; exact FD_fr (h.2.2.2.2.2.2.2.2.2 z a b q) (fun a ha _ _ => h1 a (by omega)) (h1 461 (by omega))⟩
theorem dX7_search_0 : decode cX7_search 0 = .ok (.aload_n 0, 1) := by decide +kernel
theorem dX7_search_1 : decode cX7_search 1 = .ok (.getfield 28, 3) := by decide +kernel
theorem dX7_search_4 : decode cX7_search 4 = .ok (.invokevirtual 149, 3) := by decide +kernel
theorem dX7_search_7 : decode cX7_search 7 = .ok (.aload_n 0, 1) := by decide +kernel
theorem dX7_search_8 : decode cX7_search 8 = .ok (.getfield 28, 3) := by decide +kernel
theorem dX7_search_11 : decode cX7_search 11 = .ok (.getfield 143, 3) := by decide +kernel
theorem dX7_search_14 : decode cX7_search 14 = .ok (.ireturn, 1) := by decide +kernel
set_option maxRecDepth 20000 in
set_option maxHeartbeats 4000000 in
theorem c_X7_search {l : Launch} {G : Gt} {n0 : Nat} {mi : Nat → Nat → Int} {mr : Nat → Nat → Nat} {K : Nat → Nat → Int} {L : Lws} {set : Int} {H : V5} {o : Int} (hV : CV K L set H o mi mr) : Ci l yX7_search cX7_search 1 .int 13 G n0 [.ref (n0 + 0)] mi mr (fun r9 mi9 mr9 => Res L r9 ∧ CV K L set H r9 mi9 mr9) := by
  refine Ct_of (by decide +kernel) (by intro v hv; simp at hv; rcases hv with rfl <;> rfl) (Nat.le_of_ble_eq_true rfl) ?_
  intro p e s m args below meth c9 X hr hname
  show WW _ _ _ _ _ _ _ _ _ _ _ _ _ _ _ _ _ _ _ [some (.ref (n0 + 0))] _
  have hW := hV.1
  have hO := hV.2.1
  have hC := hV.2.2.1
  have hH := hV.2.2.2.2.1
  have hHb := HA_b hH
  have hVo := CV_o hV
  have hoo : mi 44 6 = o := hV.2.2.2.2.2.2.1
  have hsc := hW.1
  have hC1 := hC.1
  obtain ⟨hNN, hBO, hRe, hor, hEf⟩ := hVo
  obtain ⟨A, N, hAN, hA4, hN5, hBA, hBN, -⟩ := id hV.2.2.2.2.2.1
  refine w_aload_n X dX7_search_0 rfl ?_
  refine w_get X (by decide) (σ_0 G n0 _ _) rfl gW_X7 2 (by decide) gF_X7_28 rfl dX7_search_1 ?_
  refine s_callVv X _ (c_X0_seek (l := l) (G := G) (n0 := n0) hAN hA4 hN5 hW hBA hBN hO hC ⟨by omega, by omega⟩) gM_X7_149 gI_yX0_seek gS_yX0_seek gN_X0 gC_yX0_seek (by decide) (σ_44 G n0 _ _) rfl dX7_search_4 hl_yX0_seek ⟨Nat.le_of_ble_eq_true rfl, Nat.le_of_ble_eq_true rfl⟩ (Nat.le_of_ble_eq_true rfl) rfl (fun mi1 mr1 h1 => ?_)
  obtain ⟨hs1, hs2⟩ := h1
  refine w_aload_n X dX7_search_7 rfl ?_
  refine w_get X (by decide) (σ_0 G n0 _ _) rfl gW_X7 2 (by decide) gF_X7_28 rfl dX7_search_8 ?_
  refine w_getN X (by decide) (σ_44 G n0 _ _) rfl gW_X0 6 (by decide) gF_X7_143 rfl dX7_search_11 ?_
  refine s_iret X hr dX7_search_14 ?_
  by_cases q : mi 44 6 = -3
  · obtain ⟨g1, g2, g3, g4⟩ := hs2 q
    have hr2 : mi1 44 6 = -3 ∨ Res L (mi1 44 6) := by
      obtain ⟨A', N', -, -, -, -, -, g5 | ⟨g5, -⟩⟩ := g1
      · exact Or.inl g5
      · exact Or.inr g5
    have hr3 : Res L (mi1 44 6) := by
      rcases hr2 with q2 | q2
      · exact absurd q2 g4
      · exact q2
    exact ⟨hr3, CV_fr hV (fun a ha _ _ => g2 a (by omega)) g1 rfl (fun a ha => g2 a (by omega)) ⟨by rw [g2 461 (by omega)]; exact hV.2.2.2.2.2.2.2.2.1, fun z z1 z2 z3 => by rw [g2 461 (by omega)] at z3; exact FD_fr (hV.2.2.2.2.2.2.2.2.2 z z1 z2 z3) (fun a ha _ _ => g2 a (by omega)) (g2 461 (by omega))⟩⟩
  · obtain ⟨rfl, rfl⟩ := hs1 q
    rw [hoo]
    exact ⟨by rcases hRe with q2 | q2; omega; exact q2, hV⟩
theorem dX7_reach_0 : decode cX7_reach 0 = .ok (.iload_n 1, 1) := by decide +kernel
theorem dX7_reach_1 : decode cX7_reach 1 = .ok (.invokestatic 168, 3) := by decide +kernel
theorem dX7_reach_4 : decode cX7_reach 4 = .ok (.ifCond .ne 6, 3) := by decide +kernel
theorem dX7_reach_7 : decode cX7_reach 7 = .ok (.bipush (-2), 2) := by decide +kernel
theorem dX7_reach_9 : decode cX7_reach 9 = .ok (.ireturn, 1) := by decide +kernel
theorem dX7_reach_10 : decode cX7_reach 10 = .ok (.aload_n 0, 1) := by decide +kernel
theorem dX7_reach_11 : decode cX7_reach 11 = .ok (.getfield 35, 3) := by decide +kernel
theorem dX7_reach_14 : decode cX7_reach 14 = .ok (.iload_n 1, 1) := by decide +kernel
theorem dX7_reach_15 : decode cX7_reach 15 = .ok (.invokevirtual 171, 3) := by decide +kernel
theorem dX7_reach_18 : decode cX7_reach 18 = .ok (.aload_n 0, 1) := by decide +kernel
theorem dX7_reach_19 : decode cX7_reach 19 = .ok (.getfield 35, 3) := by decide +kernel
theorem dX7_reach_22 : decode cX7_reach 22 = .ok (.getfield 174, 3) := by decide +kernel
theorem dX7_reach_25 : decode cX7_reach 25 = .ok (.ireturn, 1) := by decide +kernel
theorem hl_yX7_reach : (yX7_reach.cls ≠ "java/lang/invoke/MethodHandle" ∧ yX7_reach.cls ≠ "java/lang/invoke/VarHandle") ∧ (parseMethodDescriptor yX7_reach.desc).map (fun d => d.parameters.length) = some 1 := by decide +kernel
set_option maxRecDepth 20000 in
set_option maxHeartbeats 4000000 in
theorem c_X7_reach {l : Launch} {G : Gt} {n0 : Nat} {mi : Nat → Nat → Int} {mr : Nat → Nat → Nat} {K : Nat → Nat → Int} {L : Lws} {set : Int} {H : V5} {o : Int} (hV : CV K L set H o mi mr) {z : Int} (hz : rg z) : Ci l yX7_reach cX7_reach 2 .int 7 G n0 [.ref (n0 + 0), .int (jI z)] mi mr (fun r9 mi9 mr9 => (¬ (1 ≤ z ∧ z ≤ 8) ∧ r9 = -2 ∧ mi = mi9 ∧ mr = mr9) ∨ ((1 ≤ z ∧ z ≤ 8) ∧ CV K L set H o mi9 mr9 ∧ ∃ (k c : Nat) (P : Nat → V5), FX L z set k c P mi9 ∧ r9 = (c : Int))) := by
  refine Ct_of (by decide +kernel) (by intro v hv; simp at hv; rcases hv with rfl | rfl <;> rfl) (Nat.le_of_ble_eq_true rfl) ?_
  intro p e s m args below meth c9 X hr hname
  show WW _ _ _ _ _ _ _ _ _ _ _ _ _ _ _ _ _ _ _ [some (.ref (n0 + 0)), some (.int (jI z))] _
  have hW := hV.1
  have hO := hV.2.1
  have hC := hV.2.2.1
  have hH := hV.2.2.2.2.1
  have hHb := HA_b hH
  have hVo := CV_o hV
  have hoo : mi 44 6 = o := hV.2.2.2.2.2.2.1
  have hsc := hW.1
  have hC1 := hC.1
  obtain ⟨hNN, hBO, hRe, hor, hEf⟩ := hVo
  have hset := hV.2.2.2.1
  have hWK := hV.2.2.2.2.2.2.2.2
  have hw9 : rg (mi 461 9) := by rcases hWK.1 with q | q; rw [q]; exact ⟨by decide, by decide⟩; exact ⟨by omega, by omega⟩
  refine w_iload_n X dX7_reach_0 rfl ?_
  refine s_callSi X _ (c_X7_isWalkable (l := l) (G := G) (n0 := n0) (by first | assumption | (refine ⟨?_, ?_⟩ <;> omega))) gM_X7_168 gT_yX7_isWalkable gN_X7 gC_yX7_isWalkable dX7_reach_1 hl_yX7_isWalkable ⟨Nat.le_of_ble_eq_true rfl, Nat.le_of_ble_eq_true rfl⟩ (Nat.le_of_ble_eq_true rfl) rfl (fun r1 mi1 mr1 h1 => ?_)
  obtain ⟨rfl, rfl, h1⟩ := h1
  refine w_if_ne X 10 dX7_reach_4 (by decide) (fun c4_1 => ?_) (fun c4_1 => ?_)
  ·
    refine w_aload_n X dX7_reach_10 rfl ?_
    refine w_get X (by decide) (σ_0 G n0 _ _) rfl gW_X7 3 (by decide) gF_X7_35 rfl dX7_reach_11 ?_
    refine w_iload_n X dX7_reach_14 rfl ?_
    refine s_callVv X _ (c_X4_walk (l := l) (G := G) (n0 := n0) (L := L) (z := z) ⟨by omega, by omega⟩ hO hW hC hw9 (by rw [hset]; exact fun q => hWK.2 z (by omega) (by omega) q)) gM_X7_171 gI_yX4_walk gS_yX4_walk gN_X4 gC_yX4_walk (by decide) (σ_461 G n0 _ _) rfl dX7_reach_15 hl_yX4_walk ⟨Nat.le_of_ble_eq_true rfl, Nat.le_of_ble_eq_true rfl⟩ (Nat.le_of_ble_eq_true rfl) rfl (fun mi2 mr2 h2 => ?_)
    obtain ⟨hFD, hz9, hfw, rfl⟩ := h2
    rw [hset] at hFD
    refine w_aload_n X dX7_reach_18 rfl ?_
    refine w_get X (by decide) (σ_0 G n0 _ _) rfl gW_X7 3 (by decide) gF_X7_35 rfl dX7_reach_19 ?_
    refine w_getN X (by decide) (σ_461 G n0 _ _) rfl gW_X4 11 (by decide) gF_X7_174 rfl dX7_reach_22 ?_
    refine s_iret X hr dX7_reach_25 ?_
    obtain ⟨k, c, P, hX⟩ := id hFD
    exact Or.inr ⟨by omega, CV_walk hV hfw (by omega) hz9 hFD, k, c, P, hX, hX.2.1⟩
  ·
    refine w_bipush X dX7_reach_7 rfl ?_
    refine s_iret X hr dX7_reach_9 ?_
    exact Or.inl ⟨by omega, rfl, rfl, rfl⟩
theorem dX7_steps_0 : decode cX7_steps 0 = .ok (.iload_n 1, 1) := by decide +kernel
theorem dX7_steps_1 : decode cX7_steps 1 = .ok (.invokestatic 168, 3) := by decide +kernel
theorem dX7_steps_4 : decode cX7_steps 4 = .ok (.ifCond .ne 6, 3) := by decide +kernel
theorem dX7_steps_7 : decode cX7_steps 7 = .ok (.bipush (-2), 2) := by decide +kernel
theorem dX7_steps_9 : decode cX7_steps 9 = .ok (.ireturn, 1) := by decide +kernel
theorem dX7_steps_10 : decode cX7_steps 10 = .ok (.aload_n 0, 1) := by decide +kernel
theorem dX7_steps_11 : decode cX7_steps 11 = .ok (.getfield 35, 3) := by decide +kernel
theorem dX7_steps_14 : decode cX7_steps 14 = .ok (.iload_n 1, 1) := by decide +kernel
theorem dX7_steps_15 : decode cX7_steps 15 = .ok (.invokevirtual 171, 3) := by decide +kernel
theorem dX7_steps_18 : decode cX7_steps 18 = .ok (.aload_n 0, 1) := by decide +kernel
theorem dX7_steps_19 : decode cX7_steps 19 = .ok (.getfield 35, 3) := by decide +kernel
theorem dX7_steps_22 : decode cX7_steps 22 = .ok (.getfield 177, 3) := by decide +kernel
theorem dX7_steps_25 : decode cX7_steps 25 = .ok (.ireturn, 1) := by decide +kernel
theorem hl_yX7_steps : (yX7_steps.cls ≠ "java/lang/invoke/MethodHandle" ∧ yX7_steps.cls ≠ "java/lang/invoke/VarHandle") ∧ (parseMethodDescriptor yX7_steps.desc).map (fun d => d.parameters.length) = some 1 := by decide +kernel
set_option maxRecDepth 20000 in
set_option maxHeartbeats 4000000 in
theorem c_X7_steps {l : Launch} {G : Gt} {n0 : Nat} {mi : Nat → Nat → Int} {mr : Nat → Nat → Nat} {K : Nat → Nat → Int} {L : Lws} {set : Int} {H : V5} {o : Int} (hV : CV K L set H o mi mr) {z : Int} (hz : rg z) : Ci l yX7_steps cX7_steps 2 .int 7 G n0 [.ref (n0 + 0), .int (jI z)] mi mr (fun r9 mi9 mr9 => (¬ (1 ≤ z ∧ z ≤ 8) ∧ r9 = -2 ∧ mi = mi9 ∧ mr = mr9) ∨ ((1 ≤ z ∧ z ≤ 8) ∧ CV K L set H o mi9 mr9 ∧ ∃ (k c : Nat) (P : Nat → V5), FX L z set k c P mi9 ∧ r9 = mi9 461 12)) := by
  refine Ct_of (by decide +kernel) (by intro v hv; simp at hv; rcases hv with rfl | rfl <;> rfl) (Nat.le_of_ble_eq_true rfl) ?_
  intro p e s m args below meth c9 X hr hname
  show WW _ _ _ _ _ _ _ _ _ _ _ _ _ _ _ _ _ _ _ [some (.ref (n0 + 0)), some (.int (jI z))] _
  have hW := hV.1
  have hO := hV.2.1
  have hC := hV.2.2.1
  have hH := hV.2.2.2.2.1
  have hHb := HA_b hH
  have hVo := CV_o hV
  have hoo : mi 44 6 = o := hV.2.2.2.2.2.2.1
  have hsc := hW.1
  have hC1 := hC.1
  obtain ⟨hNN, hBO, hRe, hor, hEf⟩ := hVo
  have hset := hV.2.2.2.1
  have hWK := hV.2.2.2.2.2.2.2.2
  have hw9 : rg (mi 461 9) := by rcases hWK.1 with q | q; rw [q]; exact ⟨by decide, by decide⟩; exact ⟨by omega, by omega⟩
  refine w_iload_n X dX7_steps_0 rfl ?_
  refine s_callSi X _ (c_X7_isWalkable (l := l) (G := G) (n0 := n0) (by first | assumption | (refine ⟨?_, ?_⟩ <;> omega))) gM_X7_168 gT_yX7_isWalkable gN_X7 gC_yX7_isWalkable dX7_steps_1 hl_yX7_isWalkable ⟨Nat.le_of_ble_eq_true rfl, Nat.le_of_ble_eq_true rfl⟩ (Nat.le_of_ble_eq_true rfl) rfl (fun r1 mi1 mr1 h1 => ?_)
  obtain ⟨rfl, rfl, h1⟩ := h1
  refine w_if_ne X 10 dX7_steps_4 (by decide) (fun c4_1 => ?_) (fun c4_1 => ?_)
  ·
    refine w_aload_n X dX7_steps_10 rfl ?_
    refine w_get X (by decide) (σ_0 G n0 _ _) rfl gW_X7 3 (by decide) gF_X7_35 rfl dX7_steps_11 ?_
    refine w_iload_n X dX7_steps_14 rfl ?_
    refine s_callVv X _ (c_X4_walk (l := l) (G := G) (n0 := n0) (L := L) (z := z) ⟨by omega, by omega⟩ hO hW hC hw9 (by rw [hset]; exact fun q => hWK.2 z (by omega) (by omega) q)) gM_X7_171 gI_yX4_walk gS_yX4_walk gN_X4 gC_yX4_walk (by decide) (σ_461 G n0 _ _) rfl dX7_steps_15 hl_yX4_walk ⟨Nat.le_of_ble_eq_true rfl, Nat.le_of_ble_eq_true rfl⟩ (Nat.le_of_ble_eq_true rfl) rfl (fun mi2 mr2 h2 => ?_)
    obtain ⟨hFD, hz9, hfw, rfl⟩ := h2
    rw [hset] at hFD
    refine w_aload_n X dX7_steps_18 rfl ?_
    refine w_get X (by decide) (σ_0 G n0 _ _) rfl gW_X7 3 (by decide) gF_X7_35 rfl dX7_steps_19 ?_
    refine w_getN X (by decide) (σ_461 G n0 _ _) rfl gW_X4 12 (by decide) gF_X7_177 rfl dX7_steps_22 ?_
    refine s_iret X hr dX7_steps_25 ?_
    obtain ⟨k, c, P, hX⟩ := id hFD
    exact Or.inr ⟨by omega, CV_walk hV hfw (by omega) hz9 hFD, k, c, P, hX, rfl⟩
  ·
    refine w_bipush X dX7_steps_7 rfl ?_
    refine s_iret X hr dX7_steps_9 ?_
    exact Or.inl ⟨by omega, rfl, rfl, rfl⟩
