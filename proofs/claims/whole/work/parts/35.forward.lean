/-- what Forward knows of so many -/
def FX (L : Lws) (N set : Int) (k c : Nat) (P : Nat → V5) (mi : Nat → Nat → Int) : Prop := FE L N k P mi ∧ mi 461 11 = (c : Int) ∧ FG L (St L.1 N set) k c P (mi 467) (mi 468) (mi 470) (mi 461 12) ∧ ∀ i : Nat, (i : Int) ≤ mi 461 12 → Pth L (St L.1 N set) P k (mi 461 12) (mi 472) i
def FD (L : Lws) (N set : Int) (mi : Nat → Nat → Int) : Prop := ∃ (k c : Nat) (P : Nat → V5), FX L N set k c P mi
theorem dX4_onPath_0 : decode cX4_onPath 0 = .ok (.aload_n 0, 1) := by decide +kernel
theorem dX4_onPath_1 : decode cX4_onPath 1 = .ok (.getfield 57, 3) := by decide +kernel
theorem dX4_onPath_4 : decode cX4_onPath 4 = .ok (.bipush (-9), 2) := by decide +kernel
theorem dX4_onPath_6 : decode cX4_onPath 6 = .ok (.if_icmp .eq 24, 3) := by decide +kernel
theorem dX4_onPath_9 : decode cX4_onPath 9 = .ok (.iload_n 1, 1) := by decide +kernel
theorem dX4_onPath_10 : decode cX4_onPath 10 = .ok (.ifCond .lt 20, 3) := by decide +kernel
theorem dX4_onPath_13 : decode cX4_onPath 13 = .ok (.iload_n 1, 1) := by decide +kernel
theorem dX4_onPath_14 : decode cX4_onPath 14 = .ok (.aload_n 0, 1) := by decide +kernel
theorem dX4_onPath_15 : decode cX4_onPath 15 = .ok (.getfield 57, 3) := by decide +kernel
theorem dX4_onPath_18 : decode cX4_onPath 18 = .ok (.if_icmp .gt 12, 3) := by decide +kernel
theorem dX4_onPath_21 : decode cX4_onPath 21 = .ok (.iload_n 1, 1) := by decide +kernel
theorem dX4_onPath_22 : decode cX4_onPath 22 = .ok (.aload_n 0, 1) := by decide +kernel
theorem dX4_onPath_23 : decode cX4_onPath 23 = .ok (.getfield 44, 3) := by decide +kernel
theorem dX4_onPath_26 : decode cX4_onPath 26 = .ok (.arraylength, 1) := by decide +kernel
theorem dX4_onPath_27 : decode cX4_onPath 27 = .ok (.if_icmp .lt 6, 3) := by decide +kernel
theorem dX4_onPath_30 : decode cX4_onPath 30 = .ok (.bipush (-9), 2) := by decide +kernel
theorem dX4_onPath_32 : decode cX4_onPath 32 = .ok (.ireturn, 1) := by decide +kernel
theorem dX4_onPath_33 : decode cX4_onPath 33 = .ok (.aload_n 0, 1) := by decide +kernel
theorem dX4_onPath_34 : decode cX4_onPath 34 = .ok (.aload_n 0, 1) := by decide +kernel
theorem dX4_onPath_35 : decode cX4_onPath 35 = .ok (.aload_n 0, 1) := by decide +kernel
theorem dX4_onPath_36 : decode cX4_onPath 36 = .ok (.getfield 44, 3) := by decide +kernel
theorem dX4_onPath_39 : decode cX4_onPath 39 = .ok (.iload_n 1, 1) := by decide +kernel
theorem dX4_onPath_40 : decode cX4_onPath 40 = .ok (.iaload, 1) := by decide +kernel
theorem dX4_onPath_41 : decode cX4_onPath 41 = .ok (.invokevirtual 83, 3) := by decide +kernel
theorem dX4_onPath_44 : decode cX4_onPath 44 = .ok (.invokevirtual 87, 3) := by decide +kernel
theorem dX4_onPath_47 : decode cX4_onPath 47 = .ok (.aload_n 0, 1) := by decide +kernel
theorem dX4_onPath_48 : decode cX4_onPath 48 = .ok (.getfield 12, 3) := by decide +kernel
theorem dX4_onPath_51 : decode cX4_onPath 51 = .ok (.iload_n 2, 1) := by decide +kernel
theorem dX4_onPath_52 : decode cX4_onPath 52 = .ok (.invokevirtual 90, 3) := by decide +kernel
theorem dX4_onPath_55 : decode cX4_onPath 55 = .ok (.ireturn, 1) := by decide +kernel
theorem hl_yX4_onPath : (yX4_onPath.cls ≠ "java/lang/invoke/MethodHandle" ∧ yX4_onPath.cls ≠ "java/lang/invoke/VarHandle") ∧ (parseMethodDescriptor yX4_onPath.desc).map (fun d => d.parameters.length) = some 2 := by decide +kernel
theorem dX4_countDoomed_0 : decode cX4_countDoomed 0 = .ok (.iconst 0, 1) := by decide +kernel
theorem dX4_countDoomed_1 : decode cX4_countDoomed 1 = .ok (.istore_n 2, 1) := by decide +kernel
theorem dX4_countDoomed_2 : decode cX4_countDoomed 2 = .ok (.iconst 0, 1) := by decide +kernel
theorem dX4_countDoomed_3 : decode cX4_countDoomed 3 = .ok (.istore_n 3, 1) := by decide +kernel
theorem dX4_countDoomed_4 : decode cX4_countDoomed 4 = .ok (.iload_n 3, 1) := by decide +kernel
theorem dX4_countDoomed_5 : decode cX4_countDoomed 5 = .ok (.aload_n 0, 1) := by decide +kernel
theorem dX4_countDoomed_6 : decode cX4_countDoomed 6 = .ok (.getfield 54, 3) := by decide +kernel
theorem dX4_countDoomed_9 : decode cX4_countDoomed 9 = .ok (.if_icmp .ge 37, 3) := by decide +kernel
theorem dX4_countDoomed_12 : decode cX4_countDoomed 12 = .ok (.aload_n 0, 1) := by decide +kernel
theorem dX4_countDoomed_13 : decode cX4_countDoomed 13 = .ok (.aload_n 0, 1) := by decide +kernel
theorem dX4_countDoomed_14 : decode cX4_countDoomed 14 = .ok (.aload_n 0, 1) := by decide +kernel
theorem dX4_countDoomed_15 : decode cX4_countDoomed 15 = .ok (.getfield 28, 3) := by decide +kernel
theorem dX4_countDoomed_18 : decode cX4_countDoomed 18 = .ok (.iload_n 3, 1) := by decide +kernel
theorem dX4_countDoomed_19 : decode cX4_countDoomed 19 = .ok (.iaload, 1) := by decide +kernel
theorem dX4_countDoomed_20 : decode cX4_countDoomed 20 = .ok (.invokevirtual 83, 3) := by decide +kernel
theorem dX4_countDoomed_23 : decode cX4_countDoomed 23 = .ok (.invokevirtual 87, 3) := by decide +kernel
theorem dX4_countDoomed_26 : decode cX4_countDoomed 26 = .ok (.aload_n 1, 1) := by decide +kernel
theorem dX4_countDoomed_27 : decode cX4_countDoomed 27 = .ok (.aload_n 0, 1) := by decide +kernel
theorem dX4_countDoomed_28 : decode cX4_countDoomed 28 = .ok (.getfield 12, 3) := by decide +kernel
theorem dX4_countDoomed_31 : decode cX4_countDoomed 31 = .ok (.invokevirtual 93, 3) := by decide +kernel
theorem dX4_countDoomed_34 : decode cX4_countDoomed 34 = .ok (.ifCond .eq 6, 3) := by decide +kernel
theorem dX4_countDoomed_37 : decode cX4_countDoomed 37 = .ok (.iinc 2 1, 3) := by decide +kernel
theorem dX4_countDoomed_40 : decode cX4_countDoomed 40 = .ok (.iinc 3 1, 3) := by decide +kernel
theorem dX4_countDoomed_43 : decode cX4_countDoomed 43 = .ok (.goto (-39), 3) := by decide +kernel
theorem dX4_countDoomed_46 : decode cX4_countDoomed 46 = .ok (.iload_n 2, 1) := by decide +kernel
theorem dX4_countDoomed_47 : decode cX4_countDoomed 47 = .ok (.ireturn, 1) := by decide +kernel
theorem hl_yX4_countDoomed : (yX4_countDoomed.cls ≠ "java/lang/invoke/MethodHandle" ∧ yX4_countDoomed.cls ≠ "java/lang/invoke/VarHandle") ∧ (parseMethodDescriptor yX4_countDoomed.desc).map (fun d => d.parameters.length) = some 1 := by decide +kernel
set_option maxRecDepth 20000 in
set_option maxHeartbeats 4000000 in
theorem c_X4_walk {l : Launch} {G : Gt} {n0 : Nat} {mi : Nat → Nat → Int} {mr : Nat → Nat → Nat} {L : Lws} {z : Int} (hN : 1 ≤ z ∧ z ≤ 8) (hO : LO L) (hW : LW mi) (hC : LwC mi L) (h9 : rg (mi 461 9)) (hD : mi 461 9 = z → FD L z (mi 1 4) mi) : Cv l yX4_walk cX4_walk 2 6 G n0 [.ref (n0 + 461), .int (jI z)] mi mr (fun mi9 mr9 => FD L z (mi 1 4) mi9 ∧ mi9 461 9 = z ∧ (∀ a, a < 461 ∨ 472 < a → mi9 a = mi a) ∧ mr = mr9) := by
  refine Ct_of (by decide +kernel) (by intro v hv; simp at hv; rcases hv with rfl | rfl <;> rfl) (Nat.le_of_ble_eq_true rfl) ?_
  intro p e s m args below meth c9 X hr hname
  show WW _ _ _ _ _ _ _ _ _ _ _ _ _ _ _ _ _ _ _ [some (.ref (n0 + 461)), some (.int (jI z))] _
  have hL1 : L.1 = mi 1 3 := hC.1
  obtain ⟨h9a, h9b⟩ := h9
  refine w_aload_n X dX4_walk_0 rfl ?_
  refine w_get X (by decide) (σ_461 G n0 _ _) rfl gW_X4 9 (by decide) gF_X4_47 rfl dX4_walk_1 ?_
  refine w_iload_n X dX4_walk_4 rfl ?_
  refine w_icmp_ne X 9 dX4_walk_5 (by decide) (fun c5_1 => ?_) (fun c5_1 => ?_)
  ·
    refine w_aload_n X dX4_walk_9 rfl ?_
    refine w_iload_n X dX4_walk_10 rfl ?_
    refine s_callVv X _ (c_X4_listCrowds (l := l) (G := G) (n0 := n0) hW.1 hN) gM_X4_64 gI_yX4_listCrowds gS_yX4_listCrowds gN_X4 gC_yX4_listCrowds (by decide) (σ_461 G n0 _ _) rfl dX4_walk_11 hl_yX4_listCrowds ⟨Nat.le_of_ble_eq_true rfl, Nat.le_of_ble_eq_true rfl⟩ (Nat.le_of_ble_eq_true rfl) rfl (fun mi1 mr1 h1 => ?_)
    obtain ⟨k, P, h10a, hLst, hro, hfa, h461a, rfl⟩ := h1
    rw [← hL1] at hLst
    have e11 : mi1 1 = mi 1 := hfa 1 (by decide) (by decide) (by decide) (by decide) (by decide)
    have hE1 : FE L z k P mi1 := ⟨LW_fr hW (fun a ha _ _ => hfa a (by omega) (by omega) (by omega) (by omega) (by omega)), LwC_fr hW hC (fun a ha _ _ => hfa a (by omega) (by omega) (by omega) (by omega) (by omega)), h10a, hLst, fun i hi => by rw [e11]; exact (hro i hi).1⟩
    have h901 : ∀ q : Nat, q < k → mi1 467 q = -9 := fun q hq => (hro q hq).2.1
    refine w_aload_n X dX4_walk_14 rfl ?_
    refine s_callVv X _ (c_X4_beginAtStart (l := l) (G := G) (n0 := n0) (L := L) (N := z) (k := k) (P := P) hN hE1 h901) gM_X4_68 gI_yX4_beginAtStart gS_yX4_beginAtStart gN_X4 gC_yX4_beginAtStart (by decide) (σ_461 G n0 _ _) rfl dX4_walk_15 hl_yX4_beginAtStart ⟨Nat.le_of_ble_eq_true rfl, Nat.le_of_ble_eq_true rfl⟩ (Nat.le_of_ble_eq_true rfl) rfl (fun mi2 mr2 h2 => ?_)
    obtain ⟨c0, hcb, hQb, hSb, hzb, hfb, h461b, rfl⟩ := h2
    have e121 : mi2 1 = mi1 1 := hfb 1 (by decide) (by decide) (by decide) (by decide)
    have e12 : mi2 1 = mi 1 := e121.trans e11
    rw [e11] at hQb hSb
    have hE2 : FE L z k P mi2 := FE_fr hE1 (fun a ha _ _ => hfb a (by omega) (by omega) (by omega) (by omega)) (h461b 10 (by decide)) (hfb 466 (by decide) (by decide) (by decide) (by decide))
    refine w_aload_n X dX4_walk_18 rfl ?_
    refine s_callVv X _ (c_X4_goOn (l := l) (G := G) (n0 := n0) (L := L) (N := z) (k := k) (c0 := c0) (P := P) hN hO hE2 hcb (by rw [e12]; exact hQb) (by rw [e12]; exact hSb) hzb) gM_X4_71 gI_yX4_goOn gS_yX4_goOn gN_X4 gC_yX4_goOn (by decide) (σ_461 G n0 _ _) rfl dX4_walk_19 hl_yX4_goOn ⟨Nat.le_of_ble_eq_true rfl, Nat.le_of_ble_eq_true rfl⟩ (Nat.le_of_ble_eq_true rfl) rfl (fun mi3 mr3 h3 => ?_)
    obtain ⟨c, hcg, hQg, hSg, hGg, hfg, h461g, rfl⟩ := h3
    rw [e12, ← hL1] at hQg hSg
    have hE3 : FE L z k P mi3 := FE_fr hE2 (fun a ha _ _ => hfg a (by omega) (by omega) (by omega) (by omega) (by omega) (by omega)) (h461g 10 (by decide)) (hfg 466 (by decide) (by decide) (by decide) (by decide) (by decide) (by decide))
    refine w_aload_n X dX4_walk_22 rfl ?_
    refine s_callVv X _ (c_X4_findFewest (l := l) (G := G) (n0 := n0) (L := L) (N := z) (k := k) (c := c) (P := P) hN hE3 hcg hQg) gM_X4_74 gI_yX4_findFewest gS_yX4_findFewest gN_X4 gC_yX4_findFewest (by decide) (σ_461 G n0 _ _) rfl dX4_walk_23 hl_yX4_findFewest ⟨Nat.le_of_ble_eq_true rfl, Nat.le_of_ble_eq_true rfl⟩ (Nat.le_of_ble_eq_true rfl) rfl (fun mi4 mr4 h4 => ?_)
    obtain ⟨hff, hfF, h461f, rfl⟩ := h4
    have hE4 : FE L z k P mi4 := FE_fr hE3 (fun a ha _ _ => hfF a (by omega) (by omega)) (h461f 10 (by decide)) (hfF 466 (by decide) (by decide))
    have hc4 : mi4 461 11 = (c : Int) := by rw [h461f 11 (by decide)]; exact hcg
    have hG4 : FG L (St L.1 z (mi 1 4)) k c P (mi4 467) (mi4 468) (mi4 470) (mi4 461 12) := by rw [hfF 467 (by decide) (by decide), hfF 468 (by decide) (by decide), hfF 470 (by decide) (by decide)]; exact ⟨hQg, hSg, hGg, hff⟩
    have h04 : ∀ q : Nat, q < k → mi4 471 q = 0 := fun q hq => by rw [hfF 471 (by decide) (by decide), hfg 471 (by decide) (by decide) (by decide) (by decide) (by decide) (by decide), hfb 471 (by decide) (by decide) (by decide) (by decide)]; exact (hro q hq).2.2
    refine w_aload_n X dX4_walk_26 rfl ?_
    refine s_callVv X _ (c_X4_markLeading (l := l) (G := G) (n0 := n0) (L := L) (N := z) (k := k) (c := c) (P := P) hN hE4 hc4 hG4 h04) gM_X4_77 gI_yX4_markLeading gS_yX4_markLeading gN_X4 gC_yX4_markLeading (by decide) (σ_461 G n0 _ _) rfl dX4_walk_27 hl_yX4_markLeading ⟨Nat.le_of_ble_eq_true rfl, Nat.le_of_ble_eq_true rfl⟩ (Nat.le_of_ble_eq_true rfl) rfl (fun mi5 mr5 h5 => ?_)
    obtain ⟨hmk, hfm, rfl⟩ := h5
    have hE5 : FE L z k P mi5 := FE_fr hE4 (fun a ha _ _ => hfm a (by omega) (by omega)) (by rw [hfm 461 (by decide) (by decide)]) (hfm 466 (by decide) (by decide))
    have e51 : mi5 461 = mi4 461 := hfm 461 (by decide) (by decide)
    have e57 : mi5 467 = mi4 467 := hfm 467 (by decide) (by decide)
    have hG5 : FG L (St L.1 z (mi 1 4)) k c P (mi5 467) (mi5 468) (mi5 470) (mi5 461 12) := by rw [e51]; exact FG_fr hG4 e57 (hfm 468 (by decide) (by decide)) (hfm 470 (by decide) (by decide))
    have hl5 : ∀ q : Nat, q < k → mi5 471 q = 1 ∧ Ld L P (mi5 467) (mi5 461 12) q ∨ mi5 471 q = 0 ∧ ¬ Ld L P (mi5 467) (mi5 461 12) q := by rw [e51, e57]; exact hmk
    refine w_aload_n X dX4_walk_30 rfl ?_
    refine s_callVv X _ (c_X4_choosePath (l := l) (G := G) (n0 := n0) (L := L) (N := z) (k := k) (c := c) (P := P) hN hO (fun v hv => hv.1) hE5 hG5 hl5) gM_X4_80 gI_yX4_choosePath gS_yX4_choosePath gN_X4 gC_yX4_choosePath (by decide) (σ_461 G n0 _ _) rfl dX4_walk_31 hl_yX4_choosePath ⟨Nat.le_of_ble_eq_true rfl, Nat.le_of_ble_eq_true rfl⟩ (Nat.le_of_ble_eq_true rfl) rfl (fun mi6 mr6 h6 => ?_)
    obtain ⟨hpt, hfp, rfl⟩ := h6
    refine w_aload_n X dX4_walk_34 rfl ?_
    refine w_iload_n X dX4_walk_35 rfl ?_
    refine w_put X (by decide) (σ_461 G n0 _ _) rfl gW_X4 tyX4 tyX4_ok nmX4 9 (by decide) gF_X4_47 rfl rfl rfl (Nat.le_of_ble_eq_true rfl) dX4_walk_36 (WW.eqf (sp_461_9 _) ?_)
    refine s_vret X hr dX4_walk_39 ?_
    have uk : ∀ a, a ≠ 461 → up2 mi6 461 9 z a = mi6 a := fun a ha => up2_k _ _ _ _ ha
    have uj : ∀ j : Nat, j ≠ 9 → up2 mi6 461 9 z 461 j = mi5 461 j := fun j hj => by rw [up2_j _ _ _ _ hj, hfp 461 (by decide)]
    have hE6 : FE L z k P (up2 mi6 461 9 z) := FE_fr hE5 (fun a ha _ _ => by rw [uk a (by omega), hfp a (by omega)]) (uj 10 (by decide)) (by rw [uk 466 (by decide), hfp 466 (by decide)])
    refine ⟨⟨k, c, P, hE6, by rw [uj 11 (by decide), e51]; exact hc4, by rw [uk 467 (by decide), uk 468 (by decide), uk 470 (by decide), hfp 467 (by decide), hfp 468 (by decide), hfp 470 (by decide), uj 12 (by decide)]; exact hG5, fun i hi => ?_⟩, up2_s _ _ _ _, fun a ha => ?_, rfl⟩
    · rw [uj 12 (by decide)] at hi ⊢
      rw [uk 472 (by decide)]
      exact hpt i hi
    · rw [uk a (by omega), hfp a (by omega), hfm a (by omega) (by omega), hfF a (by omega) (by omega), hfg a (by omega) (by omega) (by omega) (by omega) (by omega) (by omega), hfb a (by omega) (by omega) (by omega) (by omega), hfa a (by omega) (by omega) (by omega) (by omega) (by omega)]
  ·
    refine s_vret X hr dX4_walk_8 ?_
    exact ⟨hD (by omega), by omega, fun _ _ => rfl, rfl⟩
set_option maxRecDepth 20000 in
set_option maxHeartbeats 4000000 in
theorem c_X4_onPath {l : Launch} {G : Gt} {n0 : Nat} {mi : Nat → Nat → Int} {mr : Nat → Nat → Nat} {L : Lws} {N set : Int} {k c : Nat} {P : Nat → V5} {z y : Int} (hN : 1 ≤ N ∧ N ≤ 8) (hX : FX L N set k c P mi) (hz : rg z) (hy : 0 ≤ y ∧ y < 5) : Ci l yX4_onPath cX4_onPath 3 .int 3 G n0 [.ref (n0 + 461), .int (jI z), .int (jI y)] mi mr (fun r9 mi9 mr9 => (r9 = -9 ∧ ¬ (0 ≤ z ∧ z ≤ mi 461 12) ∨ (0 ≤ z ∧ z ≤ mi 461 12) ∧ ∃ v, Rn L (St L.1 N set) (mi 461 12).toNat z.toNat v ∧ r9 = F5 v y.toNat) ∧ (∀ a, a ≠ 463 → mi9 a = mi a) ∧ mr = mr9) := by
  refine Ct_of (by decide +kernel) (by intro v hv; simp at hv; rcases hv with rfl | rfl | rfl <;> rfl) (Nat.le_of_ble_eq_true rfl) ?_
  intro p e s m args below meth c9 X hr hname
  show WW _ _ _ _ _ _ _ _ _ _ _ _ _ _ _ _ _ _ _ [some (.ref (n0 + 461)), some (.int (jI z)), some (.int (jI y))] _
  have hE := hX.1
  have hk495 := Inc_l hE.2.2.2.1.1 (by omega)
  have hff := FG_f hX.2.2.1 hk495
  have h10 := hE.2.2.1
  have hsc' := hE.1.1
  have hcc1 : 0 ≤ mi 461 10 ∧ mi 461 10 ≤ 495 := by rw [h10]; omega
  obtain ⟨hza, hzb⟩ := id hz
  refine w_aload_n X dX4_onPath_0 rfl ?_
  refine w_get X (by decide) (σ_461 G n0 _ _) rfl gW_X4 12 (by decide) gF_X4_57 rfl dX4_onPath_1 ?_
  refine w_bipush X dX4_onPath_4 rfl ?_
  refine w_icmp_eq X 30 dX4_onPath_6 (by decide) (fun c6_1 => ?_) (fun c6_1 => ?_)
  ·
    refine w_bipush X dX4_onPath_30 rfl ?_
    refine s_iret X hr dX4_onPath_32 ?_
    exact ⟨Or.inl ⟨rfl, by omega⟩, fun _ _ => rfl, rfl⟩
  ·
    refine w_iload_n X dX4_onPath_9 rfl ?_
    refine w_if_lt X 30 dX4_onPath_10 (by decide) (fun c10_2 => ?_) (fun c10_2 => ?_)
    ·
      refine w_bipush X dX4_onPath_30 rfl ?_
      refine s_iret X hr dX4_onPath_32 ?_
      exact ⟨Or.inl ⟨rfl, by omega⟩, fun _ _ => rfl, rfl⟩
    ·
      refine w_iload_n X dX4_onPath_13 rfl ?_
      refine w_aload_n X dX4_onPath_14 rfl ?_
      refine w_get X (by decide) (σ_461 G n0 _ _) rfl gW_X4 12 (by decide) gF_X4_57 rfl dX4_onPath_15 ?_
      refine w_icmp_gt X 30 dX4_onPath_18 (by decide) (fun c18_3 => ?_) (fun c18_3 => ?_)
      ·
        refine w_bipush X dX4_onPath_30 rfl ?_
        refine s_iret X hr dX4_onPath_32 ?_
        exact ⟨Or.inl ⟨rfl, by omega⟩, fun _ _ => rfl, rfl⟩
      ·
        refine w_iload_n X dX4_onPath_21 rfl ?_
        refine w_aload_n X dX4_onPath_22 rfl ?_
        refine w_get X (by decide) (σ_461 G n0 _ _) rfl gW_X4 8 (by decide) gF_X4_44 rfl dX4_onPath_23 ?_
        refine w_alen X (t := 0) (by decide) (σ_f4 G n0 _ _ (by decide)) rfl dX4_onPath_26 ?_
        refine s_alen (b := 495) rfl ?_
        refine w_icmp_lt X 33 dX4_onPath_27 (by decide) (fun c27_4 => ?_) (fun c27_4 => ?_)
        ·
          obtain ⟨p0, hp1, hp2, hp3⟩ := hX.2.2.2 z.toNat (by omega)
          have hzz := FE_z hE hN hp2
          refine w_aload_n X dX4_onPath_33 rfl ?_
          refine w_aload_n X dX4_onPath_34 rfl ?_
          refine w_aload_n X dX4_onPath_35 rfl ?_
          refine w_get X (by decide) (σ_461 G n0 _ _) rfl gW_X4 8 (by decide) gF_X4_44 rfl dX4_onPath_36 ?_
          refine w_iload_n X dX4_onPath_39 rfl ?_
          refine s_iald X (z.toNat) (by decide) (fun _ => σ_f4 G n0 _ _ (by decide)) dX4_onPath_40 ?_
          rw [hp1]
          refine s_callVi X _ (c_X4_codeAt (l := l) (G := G) (n0 := n0) hcc1 (by first | assumption | (refine ⟨?_, ?_⟩ <;> omega))) gM_X4_83 gI_yX4_codeAt gS_yX4_codeAt gN_X4 gC_yX4_codeAt (by decide) (σ_461 G n0 _ _) rfl dX4_onPath_41 hl_yX4_codeAt ⟨Nat.le_of_ble_eq_true rfl, Nat.le_of_ble_eq_true rfl⟩ (Nat.le_of_ble_eq_true rfl) rfl (fun r1 mi1 mr1 h1 => ?_)
          obtain ⟨rfl, rfl, h1⟩ := h1
          rw [if_pos ⟨by omega, by omega⟩, Int.toNat_natCast] at h1
          subst h1
          refine s_callVv X _ (c_X4_decode (l := l) (G := G) (n0 := n0) hsc' ⟨by omega, by omega⟩) gM_X4_87 gI_yX4_decode gS_yX4_decode gN_X4 gC_yX4_decode (by decide) (σ_461 G n0 _ _) rfl dX4_onPath_44 hl_yX4_decode ⟨Nat.le_of_ble_eq_true rfl, Nat.le_of_ble_eq_true rfl⟩ (Nat.le_of_ble_eq_true rfl) rfl (fun mi2 mr2 h2 => ?_)
          obtain ⟨hd44, hf44, rfl⟩ := h2
          refine w_aload_n X dX4_onPath_47 rfl ?_
          refine w_get X (by decide) (σ_461 G n0 _ _) rfl gW_X4 1 (by decide) gF_X4_12 rfl dX4_onPath_48 ?_
          refine w_iload_n X dX4_onPath_51 rfl ?_
          refine s_callVi X _ (c_X3_of (l := l) (G := G) (n0 := n0) cr_462 (by first | assumption | (refine ⟨?_, ?_⟩ <;> omega))) gM_X4_90 gI_yX3_of gS_yX3_of gN_X3 gC_yX3_of (isCr_k cr_462) (σ_cr G n0 _ _ cr_462) rfl dX4_onPath_52 hl_yX3_of ⟨Nat.le_of_ble_eq_true rfl, Nat.le_of_ble_eq_true rfl⟩ (Nat.le_of_ble_eq_true rfl) rfl (fun r3 mi3 mr3 h3 => ?_)
          obtain ⟨rfl, rfl, h3⟩ := h3
          rw [if_pos ⟨by omega, by omega⟩] at h3
          simp only [Nat.reduceAdd] at h3
          refine s_iret X hr dX4_onPath_55 ?_
          have hrow := FE_row hE hN hp2 hd44
          exact ⟨Or.inr ⟨⟨by omega, by omega⟩, P p0, hp3, by rw [h3]; exact hrow _ (by omega)⟩, hf44, rfl⟩
        ·
          refine w_bipush X dX4_onPath_30 rfl ?_
          refine s_iret X hr dX4_onPath_32 ?_
          exact ⟨Or.inl ⟨rfl, by omega⟩, fun _ _ => rfl, rfl⟩
set_option maxRecDepth 20000 in
set_option maxHeartbeats 4000000 in
theorem c_X4_countDoomed {l : Launch} {G : Gt} {n0 : Nat} {mi : Nat → Nat → Int} {mr : Nat → Nat → Nat} {L : Lws} {N set : Int} {k c : Nat} {P : Nat → V5} (hN : 1 ≤ N ∧ N ≤ 8) (hX : FX L N set k c P mi) (hNN : NN mr) (hBO : BO mi mr (mr 44 4)) : Ci l yX4_countDoomed cX4_countDoomed 4 .int 5 G n0 [.ref (n0 + 461), .ref (n0 + 44)] mi mr (fun r9 mi9 mr9 => r9 = cnt (fun a => ∃ y ∈ Ef mi mr (mr 44 4), gv (P (mi 468 a).toNat) y.1) c ∧ (∀ a, a ≠ 463 → mi9 a = mi a) ∧ mr = mr9) := by
  refine Ct_of (by decide +kernel) (by intro v hv; simp at hv; rcases hv with rfl | rfl <;> rfl) (Nat.le_of_ble_eq_true rfl) ?_
  intro p e s m args below meth c9 X hr hname
  show WW _ _ _ _ _ _ _ _ _ _ _ _ _ _ _ _ _ _ _ [some (.ref (n0 + 461)), some (.ref (n0 + 44)), none, none] _
  have hE := hX.1
  have hG := hX.2.2.1
  have hck := QV_c hG.1
  have hk495 := Inc_l hE.2.2.2.1.1 (by omega)
  refine w_iconst X dX4_countDoomed_0 ?_
  refine w_ist4_2 X dX4_countDoomed_1 ?_
  refine w_iconst X dX4_countDoomed_2 ?_
  refine w_ist4_3 X dX4_countDoomed_3 ?_
  have loop : ∀ (n : Nat) (mi' : Nat → Nat → Int) (i : Nat) (t : Int), (i ≤ c) → (t = cnt (fun a => ∃ y ∈ Ef mi mr (mr 44 4), gv (P (mi 468 a).toNat) y.1) i) → (∀ a, a ≠ 463 → mi' a = mi a) → n = c - i → WSi p l e s m args below meth c9 5 (fun r9 mi9 mr9 => r9 = cnt (fun a => ∃ y ∈ Ef mi mr (mr 44 4), gv (P (mi 468 a).toNat) y.1) c ∧ (∀ a, a ≠ 463 → mi9 a = mi a) ∧ mr = mr9) G n0 4 mi' mr 4 [some (.ref (n0 + 461)), some (.ref (n0 + 44)), some (.int (jI t)), some (.int (jI (i : Int)))] [] := by
    intro n
    induction n using Nat.strongRecOn with
    | ind n ih_loop =>
      intro mi' i t hi ht hfr hn
      have e461 : mi' 461 = mi 461 := hfr 461 (by decide)
      have hE' : FE L N k P mi' := FE_fr hE (fun a ha _ _ => hfr a (by omega)) (by rw [e461]) (hfr 466 (by decide))
      have h10' := hE'.2.2.1
      have hsc' := hE'.1.1
      have hcc1 : 0 ≤ mi' 461 10 ∧ mi' 461 10 ≤ 495 := by rw [h10']; omega
      have hcb9 := cnt_b (fun a => ∃ y ∈ Ef mi mr (mr 44 4), gv (P (mi 468 a).toNat) y.1) i
      refine w_iload_n X dX4_countDoomed_4 rfl ?_
      refine w_aload_n X dX4_countDoomed_5 rfl ?_
      refine w_get X (by decide) (σ_461 G n0 _ _) rfl gW_X4 11 (by decide) gF_X4_54 rfl dX4_countDoomed_6 ?_
      rw [e461, hX.2.1]
      refine w_icmp_ge X 46 dX4_countDoomed_9 (by decide) (fun c9_1 => ?_) (fun c9_1 => ?_)
      ·
        refine w_iload_n X dX4_countDoomed_46 rfl ?_
        refine s_iret X hr dX4_countDoomed_47 ?_
        exact ⟨by rw [ht, show i = c by omega], hfr, rfl⟩
      ·
        obtain ⟨p0, hpq, hpk⟩ : ∃ p0 : Nat, mi 468 i = (p0 : Int) ∧ p0 < k := by
          have := hG.1.1 i (by omega)
          exact ⟨(mi 468 i).toNat, by omega, by omega⟩
        have hpq' : mi' 468 i = (p0 : Int) := by rw [hfr 468 (by decide)]; exact hpq
        have hzz := FE_z hE' hN hpk
        refine w_aload_n X dX4_countDoomed_12 rfl ?_
        refine w_aload_n X dX4_countDoomed_13 rfl ?_
        refine w_aload_n X dX4_countDoomed_14 rfl ?_
        refine w_get X (by decide) (σ_461 G n0 _ _) rfl gW_X4 5 (by decide) gF_X4_28 rfl dX4_countDoomed_15 ?_
        refine w_iload_n X dX4_countDoomed_18 rfl ?_
        refine s_iald X (i) (by decide) (fun _ => σ_f4 G n0 _ _ (by decide)) dX4_countDoomed_19 ?_
        rw [hpq']
        refine s_callVi X _ (c_X4_codeAt (l := l) (G := G) (n0 := n0) hcc1 (by first | assumption | (refine ⟨?_, ?_⟩ <;> omega))) gM_X4_83 gI_yX4_codeAt gS_yX4_codeAt gN_X4 gC_yX4_codeAt (by decide) (σ_461 G n0 _ _) rfl dX4_countDoomed_20 hl_yX4_codeAt ⟨Nat.le_of_ble_eq_true rfl, Nat.le_of_ble_eq_true rfl⟩ (Nat.le_of_ble_eq_true rfl) rfl (fun r1 mi1 mr1 h1 => ?_)
        obtain ⟨rfl, rfl, h1⟩ := h1
        rw [if_pos ⟨by omega, by omega⟩, Int.toNat_natCast] at h1
        subst h1
        refine s_callVv X _ (c_X4_decode (l := l) (G := G) (n0 := n0) hsc' ⟨by omega, by omega⟩) gM_X4_87 gI_yX4_decode gS_yX4_decode gN_X4 gC_yX4_decode (by decide) (σ_461 G n0 _ _) rfl dX4_countDoomed_23 hl_yX4_decode ⟨Nat.le_of_ble_eq_true rfl, Nat.le_of_ble_eq_true rfl⟩ (Nat.le_of_ble_eq_true rfl) rfl (fun mi2 mr2 h2 => ?_)
        obtain ⟨hd23, hf23, rfl⟩ := h2
        have hrow := FE_row hE' hN hpk hd23
        have hcb2 : CB mi2 462 := CB_row (hE.2.2.2.1.1.1 p0 hpk) hN.2 hrow
        have hnb := hNN.ne
        have hfa : ∀ a, mr 44 4 ≤ a → a < mr 44 4 + 205 → mi2 a = mi a := fun a h1 h2 => by rw [hf23 a (by omega)]; exact hfr a (by omega)
        have hBO2 : BO mi2 mr (mr 44 4) := BO_fr hBO hfa rfl
        have hEf : Ef mi2 mr (mr 44 4) = Ef mi mr (mr 44 4) := Ef_fr hBO hfa rfl
        have hT5 : T5 (mi2 (462 + 1)) = P p0 := (T5_c hrow).trans (T5_F5 _)
        refine w_aload_n X dX4_countDoomed_26 rfl ?_
        refine w_aload_n X dX4_countDoomed_27 rfl ?_
        refine w_get X (by decide) (σ_461 G n0 _ _) rfl gW_X4 1 (by decide) gF_X4_12 rfl dX4_countDoomed_28 ?_
        refine s_callVi X _ (c_X0_dooms (l := l) (G := G) (n0 := n0) hNN hBO2 cr_462 hcb2) gM_X4_93 gI_yX0_dooms gS_yX0_dooms gN_X0 gC_yX0_dooms (by decide) (σ_44 G n0 _ _) rfl dX4_countDoomed_31 hl_yX0_dooms ⟨Nat.le_of_ble_eq_true rfl, Nat.le_of_ble_eq_true rfl⟩ (Nat.le_of_ble_eq_true rfl) rfl (fun r3 mi3 mr3 h3 => ?_)
        obtain ⟨rfl, rfl, h3⟩ := h3
        refine w_if_eq X 40 dX4_countDoomed_34 (by decide) (fun c34_2 => ?_) (fun c34_2 => ?_)
        ·
          refine w_iinc4_3 X dX4_countDoomed_40 ?_
          refine w_goto X 4 dX4_countDoomed_43 (by decide) ?_
          have hno : ¬ (fun a => ∃ y ∈ Ef mi mr (mr 44 4), gv (P (mi 468 a).toNat) y.1) i := by
            rcases h3 with ⟨q, -⟩ | ⟨-, q⟩
            · omega
            · rw [hEf, hT5] at q
              show ¬ ∃ y ∈ Ef mi mr (mr 44 4), gv (P (mi 468 i).toNat) y.1
              rw [hpq, Int.toNat_natCast]
              rintro ⟨y, y1, y2⟩
              exact q y y1 y2
          exact ih_loop _ (by omega) mi2 (i + 1) _ (by omega) (by rw [cnt_f hno, ht]) (fun a ha => by rw [hf23 a ha]; exact hfr a ha) rfl
        ·
          refine w_iinc4_2 X dX4_countDoomed_37 ?_
          refine w_iinc4_3 X dX4_countDoomed_40 ?_
          refine w_goto X 4 dX4_countDoomed_43 (by decide) ?_
          have hyes : (fun a => ∃ y ∈ Ef mi mr (mr 44 4), gv (P (mi 468 a).toNat) y.1) i := by
            rcases h3 with ⟨-, q⟩ | ⟨q, -⟩
            · rw [hEf, hT5] at q
              show ∃ y ∈ Ef mi mr (mr 44 4), gv (P (mi 468 i).toNat) y.1
              rw [hpq, Int.toNat_natCast]
              exact q
            · omega
          exact ih_loop _ (by omega) mi2 (i + 1) _ (by omega) (by rw [cnt_t hyes, ht]) (fun a ha => by rw [hf23 a ha]; exact hfr a ha) rfl
  exact loop _ mi 0 0 (by omega) rfl (fun _ _ => rfl) rfl
