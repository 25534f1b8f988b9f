/-! the model's whole store -/
def HM (H : V5) (mi : Nat → Nat → Int) : Prop := ∀ j : Nat, j < 5 → mi 482 j = F5 H j
def BR (mi : Nat → Nat → Int) (i : Nat) : V5 := T5 (fun j => mi 483 (5 * i + j))
def SB (L : Lws) (o : Int) (mi : Nat → Nat → Int) : Prop := (0 ≤ mi 473 16 ∧ mi 473 16 ≤ 100) ∧ (∀ i j : Nat, i < j → (j : Int) < mi 473 16 → bv (BR mi i) (BR mi j)) ∧ (∀ v, Mn (Dk L o.toNat) v ↔ ∃ i : Nat, (i : Int) < mi 473 16 ∧ BR mi i = v) ∧ ∀ i : Nat, (i : Int) < mi 473 16 → sm (BR mi i) ≤ 1000
def SO (L : Lws) (o : Int) (mi : Nat → Nat → Int) : Prop := (o = -3 ∧ mi 473 14 = 0) ∨ (o = -5 ∧ mi 473 14 = 1 ∧ mi 473 15 = 1) ∨ (0 ≤ o ∧ mi 473 14 = 1 ∧ mi 473 15 = 0 ∧ SB L o mi)
def MV (L : Lws) (set : Int) (H : V5) (o : Int) (mi : Nat → Nat → Int) : Prop := ML L mi ∧ mi 473 2 = set ∧ HM H mi ∧ SO L o mi
def AV (L : Lws) (set : Int) (H : V5) : Prop := AB L ∧ (1 ≤ set ∧ set < 32) ∧ Cro L.1 (sm H) H ∧ sm H ≤ 250
theorem AV_h {L : Lws} {set : Int} {H : V5} (h : AV L set H) {j : Nat} (hj : j < 5) : 0 ≤ F5 H j ∧ F5 H j ≤ 250 := by
  have h1 := h.2.2.1.2.1
  have h2 := (sum5_n h1).2 j hj
  have h3 := h.2.2.2
  have h4 := h1 j hj
  have : sum5 (F5 H) = sm H := rfl
  omega
theorem SB_fr {L : Lws} {o : Int} {mi mi' : Nat → Nat → Int} (h : SB L o mi) (h16 : mi' 473 16 = mi 473 16) (h3 : mi' 483 = mi 483) : SB L o mi' := by
  unfold SB BR at *
  rw [h16, h3]
  exact h
theorem SO_fr {L : Lws} {o : Int} {mi mi' : Nat → Nat → Int} (h : SO L o mi) (h14 : mi' 473 14 = mi 473 14) (h15 : mi' 473 15 = mi 473 15) (h16 : mi' 473 16 = mi 473 16) (h3 : mi' 483 = mi 483) : SO L o mi' := by
  unfold SO at *
  rw [h14, h15]
  rcases h with h | h | ⟨a, b, c, d⟩
  · exact Or.inl h
  · exact Or.inr (Or.inl h)
  · exact Or.inr (Or.inr ⟨a, b, c, SB_fr d h16 h3⟩)
theorem MV_fr {L : Lws} {set : Int} {H : V5} {o : Int} {mi mi' : Nat → Nat → Int} (h : MV L set H o mi) (hs : ∀ j : Nat, j ≠ 0 → j ≠ 18 → j ≠ 23 → mi' 473 j = mi 473 j) (ha : ∀ a, 474 ≤ a → a ≤ 483 → mi' a = mi a) : MV L set H o mi' := by
  obtain ⟨a1, a2, a3, a4⟩ := h
  refine ⟨ML_fr a1 (hs 1 (by decide) (by decide) (by decide)) (hs 3 (by decide) (by decide) (by decide)) (hs 11 (by decide) (by decide) (by decide)) (fun a h1 h2 => ha a h1 (by omega)), by rw [hs 2 (by decide) (by decide) (by decide)]; exact a2, fun j hj => by rw [ha 482 (by decide) (by decide)]; exact a3 j hj, SO_fr a4 (hs 14 (by decide) (by decide) (by decide)) (hs 15 (by decide) (by decide) (by decide)) (hs 16 (by decide) (by decide) (by decide)) (ha 483 (by decide) (by decide))⟩
theorem MV_t {L : Lws} {set : Int} {H : V5} {o : Int} {mi : Nat → Nat → Int} (h : MV L set H o mi) : MV L set H o (up2 mi 473 0 0) := MV_fr h (fun j h0 _ _ => up2_j _ _ _ _ h0) (fun a h1 _ => up2_k _ _ _ _ (by omega))
theorem MV_486 {L : Lws} {set : Int} {H : V5} {o : Int} {mi mi' : Nat → Nat → Int} (h : MV L set H o mi) (ha : ∀ a, a ≠ 485 → a ≠ 486 → a ≠ 487 → mi' a = mi a) : MV L set H o mi' := MV_fr h (fun j _ _ _ => by rw [ha 473 (by decide) (by decide) (by decide)]) (fun a _ h2 => ha a (by omega) (by omega) (by omega))
theorem led_c {ρ v w : Nat → Int} (h : ∀ j : Nat, j < 5 → v j = w j) (x : Nat) : led ρ v x = led ρ w x := Int.le_antisymm (led_mono (fun a ha => by rw [h a ha]; exact Int.le_refl _) x) (led_mono (fun a ha => by rw [h a ha]; exact Int.le_refl _) x)
theorem dX8_at_0 : decode cX8_at 0 = .ok (.aload_n 0, 1) := by decide +kernel
theorem dX8_at_1 : decode cX8_at 1 = .ok (.iconst 0, 1) := by decide +kernel
theorem dX8_at_2 : decode cX8_at 2 = .ok (.putfield 73, 3) := by decide +kernel
theorem dX8_at_5 : decode cX8_at 5 = .ok (.aload_n 0, 1) := by decide +kernel
theorem dX8_at_6 : decode cX8_at 6 = .ok (.iload_n 1, 1) := by decide +kernel
theorem dX8_at_7 : decode cX8_at 7 = .ok (.invokevirtual 92, 3) := by decide +kernel
theorem dX8_at_10 : decode cX8_at 10 = .ok (.ifCond .eq 7, 3) := by decide +kernel
theorem dX8_at_13 : decode cX8_at 13 = .ok (.iconst (-1), 1) := by decide +kernel
theorem dX8_at_14 : decode cX8_at 14 = .ok (.goto 9, 3) := by decide +kernel
theorem dX8_at_17 : decode cX8_at 17 = .ok (.aload_n 0, 1) := by decide +kernel
theorem dX8_at_18 : decode cX8_at 18 = .ok (.getfield 41, 3) := by decide +kernel
theorem dX8_at_21 : decode cX8_at 21 = .ok (.iload_n 1, 1) := by decide +kernel
theorem dX8_at_22 : decode cX8_at 22 = .ok (.iaload, 1) := by decide +kernel
theorem dX8_at_23 : decode cX8_at 23 = .ok (.ireturn, 1) := by decide +kernel
theorem hl_yX8_at : (yX8_at.cls ≠ "java/lang/invoke/MethodHandle" ∧ yX8_at.cls ≠ "java/lang/invoke/VarHandle") ∧ (parseMethodDescriptor yX8_at.desc).map (fun d => d.parameters.length) = some 1 := by decide +kernel
set_option maxRecDepth 20000 in
set_option maxHeartbeats 4000000 in
theorem c_X8_at {l : Launch} {G : Gt} {n0 : Nat} {mi : Nat → Nat → Int} {mr : Nat → Nat → Nat} {L : Lws} {set : Int} {H : V5} {o : Int} (hA : AV L set H) (hV : MV L set H o mi) {z : Int} (hz : rg z) : Ci l yX8_at cX8_at 2 .int 3 G n0 [.ref (n0 + 473), .int (jI z)] mi mr (fun r9 mi9 mr9 => ((0 ≤ z ∧ z < L.1) ∧ r9 = F5 H z.toNat ∨ ¬ (0 ≤ z ∧ z < L.1) ∧ r9 = -1) ∧ MV L set H o mi9 ∧ (∀ a, a < 473 → mi9 a = mi a) ∧ mr = mr9) := by
  refine Ct_of (by decide +kernel) (by intro v hv; simp at hv; rcases hv with rfl | rfl <;> rfl) (Nat.le_of_ble_eq_true rfl) ?_
  intro p e s m args below meth c9 X hr hname
  show WW _ _ _ _ _ _ _ _ _ _ _ _ _ _ _ _ _ _ _ [some (.ref (n0 + 473)), some (.int (jI z))] _
  refine w_aload_n X dX8_at_0 rfl ?_
  refine w_iconst X dX8_at_1 ?_
  refine w_put X (by decide) (σ_473 G n0 _ _) rfl gW_X8 tyX8 tyX8_ok nmX8 0 (by decide) gF_X8_73 rfl rfl rfl (Nat.le_of_ble_eq_true rfl) dX8_at_2 (WW.eqf (sp_473_0 _) ?_)
  have hV1 := MV_t hV
  have hfr0 : ∀ a, a < 473 → up2 mi 473 0 0 a = mi a := fun a ha => up2_k _ _ _ _ (by omega)
  generalize up2 mi 473 0 0 = m0 at *
  obtain ⟨hM, hset, hH, hS⟩ := id hV1
  have hM1 := hM.1
  have hM2 := hM.2.1
  have hM3 := hM.2.2.1
  have hsc : 1 ≤ m0 473 1 ∧ m0 473 1 ≤ 5 := by rw [hM1]; exact hA.1.1.1
  have hrc : 0 ≤ m0 473 3 ∧ m0 473 3 ≤ 12 := by rw [hM2]; exact hA.1.2.1
  have hset2 := hA.2.1
  refine w_aload_n X dX8_at_5 rfl ?_
  refine w_iload_n X dX8_at_6 rfl ?_
  refine s_callVi X _ (c_X8_noState (l := l) (G := G) (n0 := n0) hsc (by first | assumption | (refine ⟨?_, ?_⟩ <;> omega))) gM_X8_92 gI_yX8_noState gS_yX8_noState gN_X8 gC_yX8_noState (by decide) (σ_473 G n0 _ _) rfl dX8_at_7 hl_yX8_noState ⟨Nat.le_of_ble_eq_true rfl, Nat.le_of_ble_eq_true rfl⟩ (Nat.le_of_ble_eq_true rfl) rfl (fun r1 mi1 mr1 h1 => ?_)
  obtain ⟨rfl, rfl, h1⟩ := h1
  refine w_if_eq X 17 dX8_at_10 (by decide) (fun c10_1 => ?_) (fun c10_1 => ?_)
  ·
    obtain ⟨k, rfl⟩ := Int.eq_ofNat_of_zero_le (show 0 ≤ z by omega)
    refine w_aload_n X dX8_at_17 rfl ?_
    refine w_get X (by decide) (σ_473 G n0 _ _) rfl gW_X8 13 (by decide) gF_X8_41 rfl dX8_at_18 ?_
    refine w_iload_n X dX8_at_21 rfl ?_
    refine s_iald X (k) (by decide) (fun _ => σ_m5 G n0 _ _ (by decide)) dX8_at_22 ?_
    refine s_iret X hr dX8_at_23 ?_
    first | exact ⟨Or.inr ⟨by omega, rfl⟩, hV1, hfr0, rfl⟩ | exact ⟨Or.inl ⟨by omega, hH k (by omega)⟩, hV1, hfr0, rfl⟩
  ·
    refine w_iconst X dX8_at_13 ?_
    refine w_goto X 23 dX8_at_14 (by decide) ?_
    refine s_iret X hr dX8_at_23 ?_
    first | exact ⟨Or.inr ⟨by omega, rfl⟩, hV1, hfr0, rfl⟩ | exact ⟨Or.inl ⟨by omega, hH k (by omega)⟩, hV1, hfr0, rfl⟩
theorem dX8_can_0 : decode cX8_can 0 = .ok (.aload_n 0, 1) := by decide +kernel
theorem dX8_can_1 : decode cX8_can 1 = .ok (.iconst 0, 1) := by decide +kernel
theorem dX8_can_2 : decode cX8_can 2 = .ok (.putfield 73, 3) := by decide +kernel
theorem dX8_can_5 : decode cX8_can 5 = .ok (.aload_n 0, 1) := by decide +kernel
theorem dX8_can_6 : decode cX8_can 6 = .ok (.iload_n 1, 1) := by decide +kernel
theorem dX8_can_7 : decode cX8_can 7 = .ok (.invokevirtual 103, 3) := by decide +kernel
theorem dX8_can_10 : decode cX8_can 10 = .ok (.ifCond .eq 7, 3) := by decide +kernel
theorem dX8_can_13 : decode cX8_can 13 = .ok (.iconst (-1), 1) := by decide +kernel
theorem dX8_can_14 : decode cX8_can 14 = .ok (.goto 20, 3) := by decide +kernel
theorem dX8_can_17 : decode cX8_can 17 = .ok (.aload_n 0, 1) := by decide +kernel
theorem dX8_can_18 : decode cX8_can 18 = .ok (.aload_n 0, 1) := by decide +kernel
theorem dX8_can_19 : decode cX8_can 19 = .ok (.getfield 41, 3) := by decide +kernel
theorem dX8_can_22 : decode cX8_can 22 = .ok (.iload_n 1, 1) := by decide +kernel
theorem dX8_can_23 : decode cX8_can 23 = .ok (.invokevirtual 106, 3) := by decide +kernel
theorem dX8_can_26 : decode cX8_can 26 = .ok (.ifCond .eq 7, 3) := by decide +kernel
theorem dX8_can_29 : decode cX8_can 29 = .ok (.iconst 1, 1) := by decide +kernel
theorem dX8_can_30 : decode cX8_can 30 = .ok (.goto 4, 3) := by decide +kernel
theorem dX8_can_33 : decode cX8_can 33 = .ok (.iconst 0, 1) := by decide +kernel
theorem dX8_can_34 : decode cX8_can 34 = .ok (.ireturn, 1) := by decide +kernel
theorem hl_yX8_can : (yX8_can.cls ≠ "java/lang/invoke/MethodHandle" ∧ yX8_can.cls ≠ "java/lang/invoke/VarHandle") ∧ (parseMethodDescriptor yX8_can.desc).map (fun d => d.parameters.length) = some 1 := by decide +kernel
set_option maxRecDepth 20000 in
set_option maxHeartbeats 4000000 in
theorem c_X8_can {l : Launch} {G : Gt} {n0 : Nat} {mi : Nat → Nat → Int} {mr : Nat → Nat → Nat} {L : Lws} {set : Int} {H : V5} {o : Int} (hA : AV L set H) (hV : MV L set H o mi) {z : Int} (hz : rg z) : Ci l yX8_can cX8_can 2 .int 4 G n0 [.ref (n0 + 473), .int (jI z)] mi mr (fun r9 mi9 mr9 => ((0 ≤ z ∧ z < L.2.1) ∧ (r9 = 1 ∧ fit (L.2.2.2.1 z.toNat) (F5 H) ∨ r9 = 0 ∧ ¬ fit (L.2.2.2.1 z.toNat) (F5 H)) ∨ ¬ (0 ≤ z ∧ z < L.2.1) ∧ r9 = -1) ∧ MV L set H o mi9 ∧ (∀ a, a < 473 → mi9 a = mi a) ∧ mr = mr9) := by
  refine Ct_of (by decide +kernel) (by intro v hv; simp at hv; rcases hv with rfl | rfl <;> rfl) (Nat.le_of_ble_eq_true rfl) ?_
  intro p e s m args below meth c9 X hr hname
  show WW _ _ _ _ _ _ _ _ _ _ _ _ _ _ _ _ _ _ _ [some (.ref (n0 + 473)), some (.int (jI z))] _
  refine w_aload_n X dX8_can_0 rfl ?_
  refine w_iconst X dX8_can_1 ?_
  refine w_put X (by decide) (σ_473 G n0 _ _) rfl gW_X8 tyX8 tyX8_ok nmX8 0 (by decide) gF_X8_73 rfl rfl rfl (Nat.le_of_ble_eq_true rfl) dX8_can_2 (WW.eqf (sp_473_0 _) ?_)
  have hV1 := MV_t hV
  have hfr0 : ∀ a, a < 473 → up2 mi 473 0 0 a = mi a := fun a ha => up2_k _ _ _ _ (by omega)
  generalize up2 mi 473 0 0 = m0 at *
  obtain ⟨hM, hset, hH, hS⟩ := id hV1
  have hM1 := hM.1
  have hM2 := hM.2.1
  have hM3 := hM.2.2.1
  have hsc : 1 ≤ m0 473 1 ∧ m0 473 1 ≤ 5 := by rw [hM1]; exact hA.1.1.1
  have hrc : 0 ≤ m0 473 3 ∧ m0 473 3 ≤ 12 := by rw [hM2]; exact hA.1.2.1
  have hset2 := hA.2.1
  refine w_aload_n X dX8_can_5 rfl ?_
  refine w_iload_n X dX8_can_6 rfl ?_
  refine s_callVi X _ (c_X8_noRule (l := l) (G := G) (n0 := n0) hrc (by first | assumption | (refine ⟨?_, ?_⟩ <;> omega))) gM_X8_103 gI_yX8_noRule gS_yX8_noRule gN_X8 gC_yX8_noRule (by decide) (σ_473 G n0 _ _) rfl dX8_can_7 hl_yX8_noRule ⟨Nat.le_of_ble_eq_true rfl, Nat.le_of_ble_eq_true rfl⟩ (Nat.le_of_ble_eq_true rfl) rfl (fun r1 mi1 mr1 h1 => ?_)
  obtain ⟨rfl, rfl, h1⟩ := h1
  refine w_if_eq X 17 dX8_can_10 (by decide) (fun c10_1 => ?_) (fun c10_1 => ?_)
  ·
    obtain ⟨k, rfl⟩ := Int.eq_ofNat_of_zero_le (show 0 ≤ z by omega)
    have hhb : ∀ j : Nat, j < 5 → 0 ≤ m0 482 j ∧ m0 482 j ≤ 1000 := fun j hj => by have := AV_h hA hj; rw [hH j hj]; omega
    refine w_aload_n X dX8_can_17 rfl ?_
    refine w_aload_n X dX8_can_18 rfl ?_
    refine w_get X (by decide) (σ_473 G n0 _ _) rfl gW_X8 13 (by decide) gF_X8_41 rfl dX8_can_19 ?_
    refine w_iload_n X dX8_can_22 rfl ?_
    refine s_callVi X _ (c_X8_leaves (l := l) (G := G) (n0 := n0) hA.1 hM IA_482 (by decide) hhb (k := k) (by omega)) gM_X8_106 gI_yX8_leaves gS_yX8_leaves gN_X8 gC_yX8_leaves (by decide) (σ_473 G n0 _ _) rfl dX8_can_23 hl_yX8_leaves ⟨Nat.le_of_ble_eq_true rfl, Nat.le_of_ble_eq_true rfl⟩ (Nat.le_of_ble_eq_true rfl) rfl (fun r2 mi2 mr2 h2 => ?_)
    obtain ⟨hg2, hF2, hm2, rfl⟩ := h2
    have hb2 := flg_b hg2
    have hff := fit_c (ρ := L.2.2.2.1 k) (f := m0 482) (g := F5 H) hH
    refine w_if_eq X 33 dX8_can_26 (by decide) (fun c26_2 => ?_) (fun c26_2 => ?_)
    ·
      refine w_iconst X dX8_can_33 ?_
      refine s_iret X hr dX8_can_34 ?_
      refine ⟨Or.inl ⟨by omega, Or.inr ⟨rfl, fun w => flg_0 hg2 (by omega) (hff.mpr w)⟩⟩, MV_486 hV1 (fun a _ h _ => hm2 a h), fun a ha => (hm2 a (by omega)).trans (hfr0 a ha), rfl⟩
    ·
      refine w_iconst X dX8_can_29 ?_
      refine w_goto X 34 dX8_can_30 (by decide) ?_
      refine s_iret X hr dX8_can_34 ?_
      refine ⟨Or.inl ⟨by omega, Or.inl ⟨rfl, hff.mp (flg_1 hg2 (by omega))⟩⟩, MV_486 hV1 (fun a _ h _ => hm2 a h), fun a ha => (hm2 a (by omega)).trans (hfr0 a ha), rfl⟩
  ·
    refine w_iconst X dX8_can_13 ?_
    refine w_goto X 34 dX8_can_14 (by decide) ?_
    refine s_iret X hr dX8_can_34 ?_
    exact ⟨Or.inr ⟨by omega, rfl⟩, hV1, hfr0, rfl⟩
theorem dX8_isBad_0 : decode cX8_isBad 0 = .ok (.aload_n 0, 1) := by decide +kernel
theorem dX8_isBad_1 : decode cX8_isBad 1 = .ok (.iconst 0, 1) := by decide +kernel
theorem dX8_isBad_2 : decode cX8_isBad 2 = .ok (.putfield 73, 3) := by decide +kernel
theorem dX8_isBad_5 : decode cX8_isBad 5 = .ok (.aload_n 0, 1) := by decide +kernel
theorem dX8_isBad_6 : decode cX8_isBad 6 = .ok (.aload_n 0, 1) := by decide +kernel
theorem dX8_isBad_7 : decode cX8_isBad 7 = .ok (.getfield 41, 3) := by decide +kernel
theorem dX8_isBad_10 : decode cX8_isBad 10 = .ok (.invokevirtual 124, 3) := by decide +kernel
theorem dX8_isBad_13 : decode cX8_isBad 13 = .ok (.ifCond .eq 7, 3) := by decide +kernel
theorem dX8_isBad_16 : decode cX8_isBad 16 = .ok (.iconst 1, 1) := by decide +kernel
theorem dX8_isBad_17 : decode cX8_isBad 17 = .ok (.goto 4, 3) := by decide +kernel
theorem dX8_isBad_20 : decode cX8_isBad 20 = .ok (.iconst 0, 1) := by decide +kernel
theorem dX8_isBad_21 : decode cX8_isBad 21 = .ok (.ireturn, 1) := by decide +kernel
theorem hl_yX8_isBad : (yX8_isBad.cls ≠ "java/lang/invoke/MethodHandle" ∧ yX8_isBad.cls ≠ "java/lang/invoke/VarHandle") ∧ (parseMethodDescriptor yX8_isBad.desc).map (fun d => d.parameters.length) = some 0 := by decide +kernel
set_option maxRecDepth 20000 in
set_option maxHeartbeats 4000000 in
theorem c_X8_isBad {l : Launch} {G : Gt} {n0 : Nat} {mi : Nat → Nat → Int} {mr : Nat → Nat → Nat} {L : Lws} {set : Int} {H : V5} {o : Int} (hA : AV L set H) (hV : MV L set H o mi) : Ci l yX8_isBad cX8_isBad 1 .int 2 G n0 [.ref (n0 + 473)] mi mr (fun r9 mi9 mr9 => (r9 = 1 ∧ Dk L 0 H ∨ r9 = 0 ∧ ¬ Dk L 0 H) ∧ MV L set H o mi9 ∧ (∀ a, a < 473 → mi9 a = mi a) ∧ mr = mr9) := by
  refine Ct_of (by decide +kernel) (by intro v hv; simp at hv; rcases hv with rfl <;> rfl) (Nat.le_of_ble_eq_true rfl) ?_
  intro p e s m args below meth c9 X hr hname
  show WW _ _ _ _ _ _ _ _ _ _ _ _ _ _ _ _ _ _ _ [some (.ref (n0 + 473))] _
  refine w_aload_n X dX8_isBad_0 rfl ?_
  refine w_iconst X dX8_isBad_1 ?_
  refine w_put X (by decide) (σ_473 G n0 _ _) rfl gW_X8 tyX8 tyX8_ok nmX8 0 (by decide) gF_X8_73 rfl rfl rfl (Nat.le_of_ble_eq_true rfl) dX8_isBad_2 (WW.eqf (sp_473_0 _) ?_)
  have hV1 := MV_t hV
  have hfr0 : ∀ a, a < 473 → up2 mi 473 0 0 a = mi a := fun a ha => up2_k _ _ _ _ (by omega)
  generalize up2 mi 473 0 0 = m0 at *
  obtain ⟨hM, hset, hH, hS⟩ := id hV1
  have hM1 := hM.1
  have hM2 := hM.2.1
  have hM3 := hM.2.2.1
  have hsc : 1 ≤ m0 473 1 ∧ m0 473 1 ≤ 5 := by rw [hM1]; exact hA.1.1.1
  have hrc : 0 ≤ m0 473 3 ∧ m0 473 3 ≤ 12 := by rw [hM2]; exact hA.1.2.1
  have hset2 := hA.2.1
  have hhb : ∀ j : Nat, j < 5 → 0 ≤ m0 482 j ∧ m0 482 j ≤ 1000 := fun j hj => by have := AV_h hA hj; rw [hH j hj]; omega
  have hbd : (∃ b : Nat, (b : Int) < L.2.2.1 ∧ ∀ j : Nat, j < 5 → F5 (L.2.2.2.2 b) j ≤ m0 482 j) ↔ Dk L 0 H := by
    constructor
    · rintro ⟨b, b1, b2⟩; exact ⟨hA.2.2.1.1, b, b1, gv_i.mpr (fun j hj => by rw [← hH j hj]; exact b2 j hj)⟩
    · rintro ⟨-, b, b1, b2⟩; exact ⟨b, b1, fun j hj => by rw [hH j hj]; exact gv_i.mp b2 j hj⟩
  refine w_aload_n X dX8_isBad_5 rfl ?_
  refine w_aload_n X dX8_isBad_6 rfl ?_
  refine w_get X (by decide) (σ_473 G n0 _ _) rfl gW_X8 13 (by decide) gF_X8_41 rfl dX8_isBad_7 ?_
  refine s_callVi X _ (c_X8_isBadOne (l := l) (G := G) (n0 := n0) hA.1 hM IA_482 hhb) gM_X8_124 gI_yX8_isBadOne gS_yX8_isBadOne gN_X8 gC_yX8_isBadOne (by decide) (σ_473 G n0 _ _) rfl dX8_isBad_10 hl_yX8_isBadOne ⟨Nat.le_of_ble_eq_true rfl, Nat.le_of_ble_eq_true rfl⟩ (Nat.le_of_ble_eq_true rfl) rfl (fun r1 mi1 mr1 h1 => ?_)
  obtain ⟨rfl, rfl, h1⟩ := h1
  have hbb := flg_b h1
  refine w_if_eq X 20 dX8_isBad_13 (by decide) (fun c13_1 => ?_) (fun c13_1 => ?_)
  ·
    refine w_iconst X dX8_isBad_20 ?_
    refine s_iret X hr dX8_isBad_21 ?_
    exact ⟨Or.inr ⟨rfl, fun w => flg_0 h1 (by omega) (hbd.mpr w)⟩, hV1, hfr0, rfl⟩
  ·
    refine w_iconst X dX8_isBad_16 ?_
    refine w_goto X 21 dX8_isBad_17 (by decide) ?_
    refine s_iret X hr dX8_isBad_21 ?_
    exact ⟨Or.inl ⟨rfl, hbd.mp (flg_1 h1 (by omega))⟩, hV1, hfr0, rfl⟩
theorem dX8_total_0 : decode cX8_total 0 = .ok (.aload_n 0, 1) := by decide +kernel
theorem dX8_total_1 : decode cX8_total 1 = .ok (.iconst 0, 1) := by decide +kernel
theorem dX8_total_2 : decode cX8_total 2 = .ok (.putfield 73, 3) := by decide +kernel
theorem dX8_total_5 : decode cX8_total 5 = .ok (.iload_n 1, 1) := by decide +kernel
theorem dX8_total_6 : decode cX8_total 6 = .ok (.ifCond .ne 10, 3) := by decide +kernel
theorem dX8_total_9 : decode cX8_total 9 = .ok (.aload_n 0, 1) := by decide +kernel
theorem dX8_total_10 : decode cX8_total 10 = .ok (.getfield 7, 3) := by decide +kernel
theorem dX8_total_13 : decode cX8_total 13 = .ok (.goto 57, 3) := by decide +kernel
theorem dX8_total_16 : decode cX8_total 16 = .ok (.iload_n 1, 1) := by decide +kernel
theorem dX8_total_17 : decode cX8_total 17 = .ok (.iconst 1, 1) := by decide +kernel
theorem dX8_total_18 : decode cX8_total 18 = .ok (.if_icmp .ne 10, 3) := by decide +kernel
theorem dX8_total_21 : decode cX8_total 21 = .ok (.aload_n 0, 1) := by decide +kernel
theorem dX8_total_22 : decode cX8_total 22 = .ok (.getfield 80, 3) := by decide +kernel
theorem dX8_total_25 : decode cX8_total 25 = .ok (.goto 45, 3) := by decide +kernel
theorem dX8_total_28 : decode cX8_total 28 = .ok (.iload_n 1, 1) := by decide +kernel
theorem dX8_total_29 : decode cX8_total 29 = .ok (.iconst 2, 1) := by decide +kernel
theorem dX8_total_30 : decode cX8_total 30 = .ok (.if_icmp .ne 10, 3) := by decide +kernel
theorem dX8_total_33 : decode cX8_total 33 = .ok (.aload_n 0, 1) := by decide +kernel
theorem dX8_total_34 : decode cX8_total 34 = .ok (.getfield 85, 3) := by decide +kernel
theorem dX8_total_37 : decode cX8_total 37 = .ok (.goto 33, 3) := by decide +kernel
theorem dX8_total_40 : decode cX8_total 40 = .ok (.iload_n 1, 1) := by decide +kernel
theorem dX8_total_41 : decode cX8_total 41 = .ok (.iconst 3, 1) := by decide +kernel
theorem dX8_total_42 : decode cX8_total 42 = .ok (.if_icmp .ne 14, 3) := by decide +kernel
theorem dX8_total_45 : decode cX8_total 45 = .ok (.aload_n 0, 1) := by decide +kernel
theorem dX8_total_46 : decode cX8_total 46 = .ok (.getfield 41, 3) := by decide +kernel
theorem dX8_total_49 : decode cX8_total 49 = .ok (.iconst 0, 1) := by decide +kernel
theorem dX8_total_50 : decode cX8_total 50 = .ok (.invokestatic 116, 3) := by decide +kernel
theorem dX8_total_53 : decode cX8_total 53 = .ok (.goto 17, 3) := by decide +kernel
theorem dX8_total_56 : decode cX8_total 56 = .ok (.iload_n 1, 1) := by decide +kernel
theorem dX8_total_57 : decode cX8_total 57 = .ok (.iconst 4, 1) := by decide +kernel
theorem dX8_total_58 : decode cX8_total 58 = .ok (.if_icmp .ne 10, 3) := by decide +kernel
theorem dX8_total_61 : decode cX8_total 61 = .ok (.aload_n 0, 1) := by decide +kernel
theorem dX8_total_62 : decode cX8_total 62 = .ok (.getfield 13, 3) := by decide +kernel
theorem dX8_total_65 : decode cX8_total 65 = .ok (.goto 5, 3) := by decide +kernel
theorem dX8_total_68 : decode cX8_total 68 = .ok (.bipush (-2), 2) := by decide +kernel
theorem dX8_total_70 : decode cX8_total 70 = .ok (.ireturn, 1) := by decide +kernel
theorem hl_yX8_total : (yX8_total.cls ≠ "java/lang/invoke/MethodHandle" ∧ yX8_total.cls ≠ "java/lang/invoke/VarHandle") ∧ (parseMethodDescriptor yX8_total.desc).map (fun d => d.parameters.length) = some 1 := by decide +kernel
set_option maxRecDepth 20000 in
set_option maxHeartbeats 4000000 in
theorem c_X8_total {l : Launch} {G : Gt} {n0 : Nat} {mi : Nat → Nat → Int} {mr : Nat → Nat → Nat} {L : Lws} {set : Int} {H : V5} {o : Int} (hA : AV L set H) (hV : MV L set H o mi) {z : Int} (hz : rg z) : Ci l yX8_total cX8_total 2 .int 2 G n0 [.ref (n0 + 473), .int (jI z)] mi mr (fun r9 mi9 mr9 => (z = 0 ∧ r9 = L.1 ∨ z = 1 ∧ r9 = L.2.1 ∨ z = 2 ∧ r9 = L.2.2.1 ∨ z = 3 ∧ r9 = sm H ∨ z = 4 ∧ r9 = set ∨ (z < 0 ∨ 4 < z) ∧ r9 = -2) ∧ MV L set H o mi9 ∧ (∀ a, a < 473 → mi9 a = mi a) ∧ mr = mr9) := by
  refine Ct_of (by decide +kernel) (by intro v hv; simp at hv; rcases hv with rfl | rfl <;> rfl) (Nat.le_of_ble_eq_true rfl) ?_
  intro p e s m args below meth c9 X hr hname
  show WW _ _ _ _ _ _ _ _ _ _ _ _ _ _ _ _ _ _ _ [some (.ref (n0 + 473)), some (.int (jI z))] _
  refine w_aload_n X dX8_total_0 rfl ?_
  refine w_iconst X dX8_total_1 ?_
  refine w_put X (by decide) (σ_473 G n0 _ _) rfl gW_X8 tyX8 tyX8_ok nmX8 0 (by decide) gF_X8_73 rfl rfl rfl (Nat.le_of_ble_eq_true rfl) dX8_total_2 (WW.eqf (sp_473_0 _) ?_)
  have hV1 := MV_t hV
  have hfr0 : ∀ a, a < 473 → up2 mi 473 0 0 a = mi a := fun a ha => up2_k _ _ _ _ (by omega)
  generalize up2 mi 473 0 0 = m0 at *
  obtain ⟨hM, hset, hH, hS⟩ := id hV1
  have hM1 := hM.1
  have hM2 := hM.2.1
  have hM3 := hM.2.2.1
  have hsc : 1 ≤ m0 473 1 ∧ m0 473 1 ≤ 5 := by rw [hM1]; exact hA.1.1.1
  have hrc : 0 ≤ m0 473 3 ∧ m0 473 3 ≤ 12 := by rw [hM2]; exact hA.1.2.1
  have hset2 := hA.2.1
  refine w_iload_n X dX8_total_5 rfl ?_
  refine w_if_ne X 16 dX8_total_6 (by decide) (fun c6_1 => ?_) (fun c6_1 => ?_)
  ·
    refine w_iload_n X dX8_total_16 rfl ?_
    refine w_iconst X dX8_total_17 ?_
    refine w_icmp_ne X 28 dX8_total_18 (by decide) (fun c18_2 => ?_) (fun c18_2 => ?_)
    ·
      refine w_iload_n X dX8_total_28 rfl ?_
      refine w_iconst X dX8_total_29 ?_
      refine w_icmp_ne X 40 dX8_total_30 (by decide) (fun c30_3 => ?_) (fun c30_3 => ?_)
      ·
        refine w_iload_n X dX8_total_40 rfl ?_
        refine w_iconst X dX8_total_41 ?_
        refine w_icmp_ne X 56 dX8_total_42 (by decide) (fun c42_4 => ?_) (fun c42_4 => ?_)
        ·
          refine w_iload_n X dX8_total_56 rfl ?_
          refine w_iconst X dX8_total_57 ?_
          refine w_icmp_ne X 68 dX8_total_58 (by decide) (fun c58_5 => ?_) (fun c58_5 => ?_)
          ·
            refine w_bipush X dX8_total_68 rfl ?_
            refine s_iret X hr dX8_total_70 ?_
            refine ⟨?_, hV1, hfr0, rfl⟩
            first
            | exact Or.inl ⟨by omega, hM1⟩
            | exact Or.inr (Or.inl ⟨by omega, hM2⟩)
            | exact Or.inr (Or.inr (Or.inl ⟨by omega, hM3⟩))
            | exact Or.inr (Or.inr (Or.inr (Or.inl ⟨by omega, by rw [h1, sm_x]; rw [hH 0 (by decide), hH (0 + 1) (by decide), hH (0 + 2) (by decide), hH (0 + 3) (by decide), hH (0 + 4) (by decide)]; rfl⟩)))
            | exact Or.inr (Or.inr (Or.inr (Or.inr (Or.inl ⟨by omega, hset⟩))))
            | exact Or.inr (Or.inr (Or.inr (Or.inr (Or.inr ⟨by omega, rfl⟩))))
          ·
            refine w_aload_n X dX8_total_61 rfl ?_
            refine w_get X (by decide) (σ_473 G n0 _ _) rfl gW_X8 2 (by decide) gF_X8_13 rfl dX8_total_62 ?_
            refine w_goto X 70 dX8_total_65 (by decide) ?_
            refine s_iret X hr dX8_total_70 ?_
            refine ⟨?_, hV1, hfr0, rfl⟩
            first
            | exact Or.inl ⟨by omega, hM1⟩
            | exact Or.inr (Or.inl ⟨by omega, hM2⟩)
            | exact Or.inr (Or.inr (Or.inl ⟨by omega, hM3⟩))
            | exact Or.inr (Or.inr (Or.inr (Or.inl ⟨by omega, by rw [h1, sm_x]; rw [hH 0 (by decide), hH (0 + 1) (by decide), hH (0 + 2) (by decide), hH (0 + 3) (by decide), hH (0 + 4) (by decide)]; rfl⟩)))
            | exact Or.inr (Or.inr (Or.inr (Or.inr (Or.inl ⟨by omega, hset⟩))))
            | exact Or.inr (Or.inr (Or.inr (Or.inr (Or.inr ⟨by omega, rfl⟩))))
        ·
          refine w_aload_n X dX8_total_45 rfl ?_
          refine w_get X (by decide) (σ_473 G n0 _ _) rfl gW_X8 13 (by decide) gF_X8_41 rfl dX8_total_46 ?_
          refine w_iconst X dX8_total_49 ?_
          refine s_callSi X _ (c_X8_sum (b := 0) (l := l) (G := G) (n0 := n0) IA_482 (by decide) (by decide)) gM_X8_116 gT_yX8_sum gN_X8 gC_yX8_sum dX8_total_50 hl_yX8_sum ⟨Nat.le_of_ble_eq_true rfl, Nat.le_of_ble_eq_true rfl⟩ (Nat.le_of_ble_eq_true rfl) rfl (fun r1 mi1 mr1 h1 => ?_)
          obtain ⟨rfl, rfl, h1⟩ := h1
          refine w_goto X 70 dX8_total_53 (by decide) ?_
          refine s_iret X hr dX8_total_70 ?_
          refine ⟨?_, hV1, hfr0, rfl⟩
          first
          | exact Or.inl ⟨by omega, hM1⟩
          | exact Or.inr (Or.inl ⟨by omega, hM2⟩)
          | exact Or.inr (Or.inr (Or.inl ⟨by omega, hM3⟩))
          | exact Or.inr (Or.inr (Or.inr (Or.inl ⟨by omega, by rw [h1, sm_x]; rw [hH 0 (by decide), hH (0 + 1) (by decide), hH (0 + 2) (by decide), hH (0 + 3) (by decide), hH (0 + 4) (by decide)]; rfl⟩)))
          | exact Or.inr (Or.inr (Or.inr (Or.inr (Or.inl ⟨by omega, hset⟩))))
          | exact Or.inr (Or.inr (Or.inr (Or.inr (Or.inr ⟨by omega, rfl⟩))))
      ·
        refine w_aload_n X dX8_total_33 rfl ?_
        refine w_get X (by decide) (σ_473 G n0 _ _) rfl gW_X8 11 (by decide) gF_X8_85 rfl dX8_total_34 ?_
        refine w_goto X 70 dX8_total_37 (by decide) ?_
        refine s_iret X hr dX8_total_70 ?_
        refine ⟨?_, hV1, hfr0, rfl⟩
        first
        | exact Or.inl ⟨by omega, hM1⟩
        | exact Or.inr (Or.inl ⟨by omega, hM2⟩)
        | exact Or.inr (Or.inr (Or.inl ⟨by omega, hM3⟩))
        | exact Or.inr (Or.inr (Or.inr (Or.inl ⟨by omega, by rw [h1, sm_x]; rw [hH 0 (by decide), hH (0 + 1) (by decide), hH (0 + 2) (by decide), hH (0 + 3) (by decide), hH (0 + 4) (by decide)]; rfl⟩)))
        | exact Or.inr (Or.inr (Or.inr (Or.inr (Or.inl ⟨by omega, hset⟩))))
        | exact Or.inr (Or.inr (Or.inr (Or.inr (Or.inr ⟨by omega, rfl⟩))))
    ·
      refine w_aload_n X dX8_total_21 rfl ?_
      refine w_get X (by decide) (σ_473 G n0 _ _) rfl gW_X8 3 (by decide) gF_X8_80 rfl dX8_total_22 ?_
      refine w_goto X 70 dX8_total_25 (by decide) ?_
      refine s_iret X hr dX8_total_70 ?_
      refine ⟨?_, hV1, hfr0, rfl⟩
      first
      | exact Or.inl ⟨by omega, hM1⟩
      | exact Or.inr (Or.inl ⟨by omega, hM2⟩)
      | exact Or.inr (Or.inr (Or.inl ⟨by omega, hM3⟩))
      | exact Or.inr (Or.inr (Or.inr (Or.inl ⟨by omega, by rw [h1, sm_x]; rw [hH 0 (by decide), hH (0 + 1) (by decide), hH (0 + 2) (by decide), hH (0 + 3) (by decide), hH (0 + 4) (by decide)]; rfl⟩)))
      | exact Or.inr (Or.inr (Or.inr (Or.inr (Or.inl ⟨by omega, hset⟩))))
      | exact Or.inr (Or.inr (Or.inr (Or.inr (Or.inr ⟨by omega, rfl⟩))))
  ·
    refine w_aload_n X dX8_total_9 rfl ?_
    refine w_get X (by decide) (σ_473 G n0 _ _) rfl gW_X8 1 (by decide) gF_X8_7 rfl dX8_total_10 ?_
    refine w_goto X 70 dX8_total_13 (by decide) ?_
    refine s_iret X hr dX8_total_70 ?_
    refine ⟨?_, hV1, hfr0, rfl⟩
    first
    | exact Or.inl ⟨by omega, hM1⟩
    | exact Or.inr (Or.inl ⟨by omega, hM2⟩)
    | exact Or.inr (Or.inr (Or.inl ⟨by omega, hM3⟩))
    | exact Or.inr (Or.inr (Or.inr (Or.inl ⟨by omega, by rw [h1, sm_x]; rw [hH 0 (by decide), hH (0 + 1) (by decide), hH (0 + 2) (by decide), hH (0 + 3) (by decide), hH (0 + 4) (by decide)]; rfl⟩)))
    | exact Or.inr (Or.inr (Or.inr (Or.inr (Or.inl ⟨by omega, hset⟩))))
    | exact Or.inr (Or.inr (Or.inr (Or.inr (Or.inr ⟨by omega, rfl⟩))))
theorem dX8_rule_0 : decode cX8_rule 0 = .ok (.aload_n 0, 1) := by decide +kernel
theorem dX8_rule_1 : decode cX8_rule 1 = .ok (.iconst 0, 1) := by decide +kernel
theorem dX8_rule_2 : decode cX8_rule 2 = .ok (.putfield 73, 3) := by decide +kernel
theorem dX8_rule_5 : decode cX8_rule 5 = .ok (.aload_n 0, 1) := by decide +kernel
theorem dX8_rule_6 : decode cX8_rule 6 = .ok (.iload_n 1, 1) := by decide +kernel
theorem dX8_rule_7 : decode cX8_rule 7 = .ok (.invokevirtual 103, 3) := by decide +kernel
theorem dX8_rule_10 : decode cX8_rule 10 = .ok (.ifCond .eq 5, 3) := by decide +kernel
theorem dX8_rule_13 : decode cX8_rule 13 = .ok (.iconst (-1), 1) := by decide +kernel
theorem dX8_rule_14 : decode cX8_rule 14 = .ok (.ireturn, 1) := by decide +kernel
theorem dX8_rule_15 : decode cX8_rule 15 = .ok (.iload_n 2, 1) := by decide +kernel
theorem dX8_rule_16 : decode cX8_rule 16 = .ok (.tableswitch 93 0 6 #[44, 51, 58, 65, 72, 79, 86], 44) := by decide +kernel
theorem dX8_rule_60 : decode cX8_rule 60 = .ok (.aload_n 0, 1) := by decide +kernel
theorem dX8_rule_61 : decode cX8_rule 61 = .ok (.getfield 16, 3) := by decide +kernel
theorem dX8_rule_64 : decode cX8_rule 64 = .ok (.iload_n 1, 1) := by decide +kernel
theorem dX8_rule_65 : decode cX8_rule 65 = .ok (.iaload, 1) := by decide +kernel
theorem dX8_rule_66 : decode cX8_rule 66 = .ok (.ireturn, 1) := by decide +kernel
theorem dX8_rule_67 : decode cX8_rule 67 = .ok (.aload_n 0, 1) := by decide +kernel
theorem dX8_rule_68 : decode cX8_rule 68 = .ok (.getfield 20, 3) := by decide +kernel
theorem dX8_rule_71 : decode cX8_rule 71 = .ok (.iload_n 1, 1) := by decide +kernel
theorem dX8_rule_72 : decode cX8_rule 72 = .ok (.iaload, 1) := by decide +kernel
theorem dX8_rule_73 : decode cX8_rule 73 = .ok (.ireturn, 1) := by decide +kernel
theorem dX8_rule_74 : decode cX8_rule 74 = .ok (.aload_n 0, 1) := by decide +kernel
theorem dX8_rule_75 : decode cX8_rule 75 = .ok (.getfield 23, 3) := by decide +kernel
theorem dX8_rule_78 : decode cX8_rule 78 = .ok (.iload_n 1, 1) := by decide +kernel
theorem dX8_rule_79 : decode cX8_rule 79 = .ok (.iaload, 1) := by decide +kernel
theorem dX8_rule_80 : decode cX8_rule 80 = .ok (.ireturn, 1) := by decide +kernel
theorem dX8_rule_81 : decode cX8_rule 81 = .ok (.aload_n 0, 1) := by decide +kernel
theorem dX8_rule_82 : decode cX8_rule 82 = .ok (.getfield 26, 3) := by decide +kernel
theorem dX8_rule_85 : decode cX8_rule 85 = .ok (.iload_n 1, 1) := by decide +kernel
theorem dX8_rule_86 : decode cX8_rule 86 = .ok (.iaload, 1) := by decide +kernel
theorem dX8_rule_87 : decode cX8_rule 87 = .ok (.ireturn, 1) := by decide +kernel
theorem dX8_rule_88 : decode cX8_rule 88 = .ok (.aload_n 0, 1) := by decide +kernel
theorem dX8_rule_89 : decode cX8_rule 89 = .ok (.getfield 29, 3) := by decide +kernel
theorem dX8_rule_92 : decode cX8_rule 92 = .ok (.iload_n 1, 1) := by decide +kernel
theorem dX8_rule_93 : decode cX8_rule 93 = .ok (.iaload, 1) := by decide +kernel
theorem dX8_rule_94 : decode cX8_rule 94 = .ok (.ireturn, 1) := by decide +kernel
theorem dX8_rule_95 : decode cX8_rule 95 = .ok (.aload_n 0, 1) := by decide +kernel
theorem dX8_rule_96 : decode cX8_rule 96 = .ok (.getfield 32, 3) := by decide +kernel
theorem dX8_rule_99 : decode cX8_rule 99 = .ok (.iload_n 1, 1) := by decide +kernel
theorem dX8_rule_100 : decode cX8_rule 100 = .ok (.iaload, 1) := by decide +kernel
theorem dX8_rule_101 : decode cX8_rule 101 = .ok (.ireturn, 1) := by decide +kernel
theorem dX8_rule_102 : decode cX8_rule 102 = .ok (.aload_n 0, 1) := by decide +kernel
theorem dX8_rule_103 : decode cX8_rule 103 = .ok (.getfield 35, 3) := by decide +kernel
theorem dX8_rule_106 : decode cX8_rule 106 = .ok (.iload_n 1, 1) := by decide +kernel
theorem dX8_rule_107 : decode cX8_rule 107 = .ok (.iaload, 1) := by decide +kernel
theorem dX8_rule_108 : decode cX8_rule 108 = .ok (.ireturn, 1) := by decide +kernel
theorem dX8_rule_109 : decode cX8_rule 109 = .ok (.bipush (-2), 2) := by decide +kernel
theorem dX8_rule_111 : decode cX8_rule 111 = .ok (.ireturn, 1) := by decide +kernel
theorem hl_yX8_rule : (yX8_rule.cls ≠ "java/lang/invoke/MethodHandle" ∧ yX8_rule.cls ≠ "java/lang/invoke/VarHandle") ∧ (parseMethodDescriptor yX8_rule.desc).map (fun d => d.parameters.length) = some 2 := by decide +kernel
set_option maxRecDepth 20000 in
set_option maxHeartbeats 4000000 in
theorem c_X8_rule {l : Launch} {G : Gt} {n0 : Nat} {mi : Nat → Nat → Int} {mr : Nat → Nat → Nat} {L : Lws} {set : Int} {H : V5} {o : Int} (hA : AV L set H) (hV : MV L set H o mi) {i z : Int} (hi : rg i) (hz : rg z) : Ci l yX8_rule cX8_rule 3 .int 3 G n0 [.ref (n0 + 473), .int (jI i), .int (jI z)] mi mr (fun r9 mi9 mr9 => (¬ (0 ≤ i ∧ i < L.2.1) ∧ r9 = -1 ∨ (0 ≤ i ∧ i < L.2.1) ∧ ((0 ≤ z ∧ z ≤ 6) ∧ r9 = L.2.2.2.1 i.toNat (z.toNat + 1) ∨ ¬ (0 ≤ z ∧ z ≤ 6) ∧ r9 = -2)) ∧ MV L set H o mi9 ∧ (∀ a, a < 473 → mi9 a = mi a) ∧ mr = mr9) := by
  refine Ct_of (by decide +kernel) (by intro v hv; simp at hv; rcases hv with rfl | rfl | rfl <;> rfl) (Nat.le_of_ble_eq_true rfl) ?_
  intro p e s m args below meth c9 X hr hname
  show WW _ _ _ _ _ _ _ _ _ _ _ _ _ _ _ _ _ _ _ [some (.ref (n0 + 473)), some (.int (jI i)), some (.int (jI z))] _
  refine w_aload_n X dX8_rule_0 rfl ?_
  refine w_iconst X dX8_rule_1 ?_
  refine w_put X (by decide) (σ_473 G n0 _ _) rfl gW_X8 tyX8 tyX8_ok nmX8 0 (by decide) gF_X8_73 rfl rfl rfl (Nat.le_of_ble_eq_true rfl) dX8_rule_2 (WW.eqf (sp_473_0 _) ?_)
  have hV1 := MV_t hV
  have hfr0 : ∀ a, a < 473 → up2 mi 473 0 0 a = mi a := fun a ha => up2_k _ _ _ _ (by omega)
  generalize up2 mi 473 0 0 = m0 at *
  obtain ⟨hM, hset, hH, hS⟩ := id hV1
  have hM1 := hM.1
  have hM2 := hM.2.1
  have hM3 := hM.2.2.1
  have hsc : 1 ≤ m0 473 1 ∧ m0 473 1 ≤ 5 := by rw [hM1]; exact hA.1.1.1
  have hrc : 0 ≤ m0 473 3 ∧ m0 473 3 ≤ 12 := by rw [hM2]; exact hA.1.2.1
  have hset2 := hA.2.1
  refine w_aload_n X dX8_rule_5 rfl ?_
  refine w_iload_n X dX8_rule_6 rfl ?_
  refine s_callVi X _ (c_X8_noRule (l := l) (G := G) (n0 := n0) hrc (by first | assumption | (refine ⟨?_, ?_⟩ <;> omega))) gM_X8_103 gI_yX8_noRule gS_yX8_noRule gN_X8 gC_yX8_noRule (by decide) (σ_473 G n0 _ _) rfl dX8_rule_7 hl_yX8_noRule ⟨Nat.le_of_ble_eq_true rfl, Nat.le_of_ble_eq_true rfl⟩ (Nat.le_of_ble_eq_true rfl) rfl (fun r1 mi1 mr1 h1 => ?_)
  obtain ⟨rfl, rfl, h1⟩ := h1
  refine w_if_eq X 15 dX8_rule_10 (by decide) (fun c10_1 => ?_) (fun c10_1 => ?_)
  ·
    obtain ⟨k, rfl⟩ := Int.eq_ofNat_of_zero_le (show 0 ≤ i by omega)
    have hkL : (k : Int) < L.2.1 := by omega
    refine w_iload_n X dX8_rule_15 rfl ?_
    rcases (show z = 0 ∨ z = 1 ∨ z = 2 ∨ z = 3 ∨ z = 4 ∨ z = 5 ∨ z = 6 ∨ (z < 0 ∨ 6 < z) by omega) with qz | qz | qz | qz | qz | qz | qz | qz
    ·
      subst qz
      refine w_tabIn X 60 dX8_rule_16 ⟨by decide, by decide⟩ (by decide) rfl rfl ?_
      refine w_aload_n X dX8_rule_60 rfl ?_
      refine w_get X (by decide) (σ_473 G n0 _ _) rfl gW_X8 4 (by decide) gF_X8_16 rfl dX8_rule_61 ?_
      refine w_iload_n X dX8_rule_64 rfl ?_
      refine s_iald X (k) (by decide) (fun _ => σ_m12 G n0 _ _ (by decide)) dX8_rule_65 ?_
      refine s_iret X hr dX8_rule_66 ?_
      exact ⟨Or.inr ⟨by omega, Or.inl ⟨⟨by decide, by decide⟩, hM.2.2.2.1 k hkL 1 (by decide) (by decide)⟩⟩, hV1, hfr0, rfl⟩
    ·
      subst qz
      refine w_tabIn X 67 dX8_rule_16 ⟨by decide, by decide⟩ (by decide) rfl rfl ?_
      refine w_aload_n X dX8_rule_67 rfl ?_
      refine w_get X (by decide) (σ_473 G n0 _ _) rfl gW_X8 5 (by decide) gF_X8_20 rfl dX8_rule_68 ?_
      refine w_iload_n X dX8_rule_71 rfl ?_
      refine s_iald X (k) (by decide) (fun _ => σ_m12 G n0 _ _ (by decide)) dX8_rule_72 ?_
      refine s_iret X hr dX8_rule_73 ?_
      exact ⟨Or.inr ⟨by omega, Or.inl ⟨⟨by decide, by decide⟩, hM.2.2.2.1 k hkL 2 (by decide) (by decide)⟩⟩, hV1, hfr0, rfl⟩
    ·
      subst qz
      refine w_tabIn X 74 dX8_rule_16 ⟨by decide, by decide⟩ (by decide) rfl rfl ?_
      refine w_aload_n X dX8_rule_74 rfl ?_
      refine w_get X (by decide) (σ_473 G n0 _ _) rfl gW_X8 6 (by decide) gF_X8_23 rfl dX8_rule_75 ?_
      refine w_iload_n X dX8_rule_78 rfl ?_
      refine s_iald X (k) (by decide) (fun _ => σ_m12 G n0 _ _ (by decide)) dX8_rule_79 ?_
      refine s_iret X hr dX8_rule_80 ?_
      exact ⟨Or.inr ⟨by omega, Or.inl ⟨⟨by decide, by decide⟩, hM.2.2.2.1 k hkL 3 (by decide) (by decide)⟩⟩, hV1, hfr0, rfl⟩
    ·
      subst qz
      refine w_tabIn X 81 dX8_rule_16 ⟨by decide, by decide⟩ (by decide) rfl rfl ?_
      refine w_aload_n X dX8_rule_81 rfl ?_
      refine w_get X (by decide) (σ_473 G n0 _ _) rfl gW_X8 7 (by decide) gF_X8_26 rfl dX8_rule_82 ?_
      refine w_iload_n X dX8_rule_85 rfl ?_
      refine s_iald X (k) (by decide) (fun _ => σ_m12 G n0 _ _ (by decide)) dX8_rule_86 ?_
      refine s_iret X hr dX8_rule_87 ?_
      exact ⟨Or.inr ⟨by omega, Or.inl ⟨⟨by decide, by decide⟩, hM.2.2.2.1 k hkL 4 (by decide) (by decide)⟩⟩, hV1, hfr0, rfl⟩
    ·
      subst qz
      refine w_tabIn X 88 dX8_rule_16 ⟨by decide, by decide⟩ (by decide) rfl rfl ?_
      refine w_aload_n X dX8_rule_88 rfl ?_
      refine w_get X (by decide) (σ_473 G n0 _ _) rfl gW_X8 8 (by decide) gF_X8_29 rfl dX8_rule_89 ?_
      refine w_iload_n X dX8_rule_92 rfl ?_
      refine s_iald X (k) (by decide) (fun _ => σ_m12 G n0 _ _ (by decide)) dX8_rule_93 ?_
      refine s_iret X hr dX8_rule_94 ?_
      exact ⟨Or.inr ⟨by omega, Or.inl ⟨⟨by decide, by decide⟩, hM.2.2.2.1 k hkL 5 (by decide) (by decide)⟩⟩, hV1, hfr0, rfl⟩
    ·
      subst qz
      refine w_tabIn X 95 dX8_rule_16 ⟨by decide, by decide⟩ (by decide) rfl rfl ?_
      refine w_aload_n X dX8_rule_95 rfl ?_
      refine w_get X (by decide) (σ_473 G n0 _ _) rfl gW_X8 9 (by decide) gF_X8_32 rfl dX8_rule_96 ?_
      refine w_iload_n X dX8_rule_99 rfl ?_
      refine s_iald X (k) (by decide) (fun _ => σ_m12 G n0 _ _ (by decide)) dX8_rule_100 ?_
      refine s_iret X hr dX8_rule_101 ?_
      exact ⟨Or.inr ⟨by omega, Or.inl ⟨⟨by decide, by decide⟩, hM.2.2.2.1 k hkL 6 (by decide) (by decide)⟩⟩, hV1, hfr0, rfl⟩
    ·
      subst qz
      refine w_tabIn X 102 dX8_rule_16 ⟨by decide, by decide⟩ (by decide) rfl rfl ?_
      refine w_aload_n X dX8_rule_102 rfl ?_
      refine w_get X (by decide) (σ_473 G n0 _ _) rfl gW_X8 10 (by decide) gF_X8_35 rfl dX8_rule_103 ?_
      refine w_iload_n X dX8_rule_106 rfl ?_
      refine s_iald X (k) (by decide) (fun _ => σ_m12 G n0 _ _ (by decide)) dX8_rule_107 ?_
      refine s_iret X hr dX8_rule_108 ?_
      exact ⟨Or.inr ⟨by omega, Or.inl ⟨⟨by decide, by decide⟩, hM.2.2.2.1 k hkL 7 (by decide) (by decide)⟩⟩, hV1, hfr0, rfl⟩
    ·
      refine w_tabOut X 109 dX8_rule_16 rfl ?_
      refine w_bipush X dX8_rule_109 rfl ?_
      refine s_iret X hr dX8_rule_111 ?_
      exact ⟨Or.inr ⟨by omega, Or.inr ⟨by omega, rfl⟩⟩, hV1, hfr0, rfl⟩
  ·
    refine w_iconst X dX8_rule_13 ?_
    refine s_iret X hr dX8_rule_14 ?_
    exact ⟨Or.inl ⟨by omega, rfl⟩, hV1, hfr0, rfl⟩
theorem dX8_put_0 : decode cX8_put 0 = .ok (.aload_n 0, 1) := by decide +kernel
theorem dX8_put_1 : decode cX8_put 1 = .ok (.iconst 0, 1) := by decide +kernel
theorem dX8_put_2 : decode cX8_put 2 = .ok (.putfield 73, 3) := by decide +kernel
theorem dX8_put_5 : decode cX8_put 5 = .ok (.aload_n 0, 1) := by decide +kernel
theorem dX8_put_6 : decode cX8_put 6 = .ok (.iload_n 1, 1) := by decide +kernel
theorem dX8_put_7 : decode cX8_put 7 = .ok (.invokevirtual 92, 3) := by decide +kernel
theorem dX8_put_10 : decode cX8_put 10 = .ok (.ifCond .eq 5, 3) := by decide +kernel
theorem dX8_put_13 : decode cX8_put 13 = .ok (.iconst (-1), 1) := by decide +kernel
theorem dX8_put_14 : decode cX8_put 14 = .ok (.ireturn, 1) := by decide +kernel
theorem dX8_put_15 : decode cX8_put 15 = .ok (.iload_n 2, 1) := by decide +kernel
theorem dX8_put_16 : decode cX8_put 16 = .ok (.i2l, 1) := by decide +kernel
theorem dX8_put_17 : decode cX8_put 17 = .ok (.lconst 0, 1) := by decide +kernel
theorem dX8_put_18 : decode cX8_put 18 = .ok (.ldc2_w 114, 3) := by decide +kernel
theorem dX8_put_21 : decode cX8_put 21 = .ok (.invokestatic 76, 3) := by decide +kernel
theorem dX8_put_24 : decode cX8_put 24 = .ok (.ifCond .eq 26, 3) := by decide +kernel
theorem dX8_put_27 : decode cX8_put 27 = .ok (.aload_n 0, 1) := by decide +kernel
theorem dX8_put_28 : decode cX8_put 28 = .ok (.getfield 41, 3) := by decide +kernel
theorem dX8_put_31 : decode cX8_put 31 = .ok (.iconst 0, 1) := by decide +kernel
theorem dX8_put_32 : decode cX8_put 32 = .ok (.invokestatic 116, 3) := by decide +kernel
theorem dX8_put_35 : decode cX8_put 35 = .ok (.aload_n 0, 1) := by decide +kernel
theorem dX8_put_36 : decode cX8_put 36 = .ok (.getfield 41, 3) := by decide +kernel
theorem dX8_put_39 : decode cX8_put 39 = .ok (.iload_n 1, 1) := by decide +kernel
theorem dX8_put_40 : decode cX8_put 40 = .ok (.iaload, 1) := by decide +kernel
theorem dX8_put_41 : decode cX8_put 41 = .ok (.isub, 1) := by decide +kernel
theorem dX8_put_42 : decode cX8_put 42 = .ok (.iload_n 2, 1) := by decide +kernel
theorem dX8_put_43 : decode cX8_put 43 = .ok (.iadd, 1) := by decide +kernel
theorem dX8_put_44 : decode cX8_put 44 = .ok (.sipush 250, 3) := by decide +kernel
theorem dX8_put_47 : decode cX8_put 47 = .ok (.if_icmp .le 6, 3) := by decide +kernel
theorem dX8_put_50 : decode cX8_put 50 = .ok (.bipush (-2), 2) := by decide +kernel
theorem dX8_put_52 : decode cX8_put 52 = .ok (.ireturn, 1) := by decide +kernel
theorem dX8_put_53 : decode cX8_put 53 = .ok (.aload_n 0, 1) := by decide +kernel
theorem dX8_put_54 : decode cX8_put 54 = .ok (.getfield 41, 3) := by decide +kernel
theorem dX8_put_57 : decode cX8_put 57 = .ok (.iload_n 1, 1) := by decide +kernel
theorem dX8_put_58 : decode cX8_put 58 = .ok (.iaload, 1) := by decide +kernel
theorem dX8_put_59 : decode cX8_put 59 = .ok (.istore_n 3, 1) := by decide +kernel
theorem dX8_put_60 : decode cX8_put 60 = .ok (.aload_n 0, 1) := by decide +kernel
theorem dX8_put_61 : decode cX8_put 61 = .ok (.getfield 41, 3) := by decide +kernel
theorem dX8_put_64 : decode cX8_put 64 = .ok (.iload_n 1, 1) := by decide +kernel
theorem dX8_put_65 : decode cX8_put 65 = .ok (.iload_n 2, 1) := by decide +kernel
theorem dX8_put_66 : decode cX8_put 66 = .ok (.iastore, 1) := by decide +kernel
theorem dX8_put_67 : decode cX8_put 67 = .ok (.iload_n 3, 1) := by decide +kernel
theorem dX8_put_68 : decode cX8_put 68 = .ok (.ireturn, 1) := by decide +kernel
theorem hl_yX8_put : (yX8_put.cls ≠ "java/lang/invoke/MethodHandle" ∧ yX8_put.cls ≠ "java/lang/invoke/VarHandle") ∧ (parseMethodDescriptor yX8_put.desc).map (fun d => d.parameters.length) = some 2 := by decide +kernel
set_option maxRecDepth 20000 in
set_option maxHeartbeats 4000000 in
theorem c_X8_put {l : Launch} {G : Gt} {n0 : Nat} {mi : Nat → Nat → Int} {mr : Nat → Nat → Nat} {L : Lws} {set : Int} {H : V5} {o : Int} (hA : AV L set H) (hV : MV L set H o mi) {z x : Int} (hz : rg z) (hx : rg x) : Ci l yX8_put cX8_put 4 .int 3 G n0 [.ref (n0 + 473), .int (jI z), .int (jI x)] mi mr (fun r9 mi9 mr9 => ((¬ (0 ≤ z ∧ z < L.1) ∧ r9 = -1 ∧ MV L set H o mi9) ∨ ((0 ≤ z ∧ z < L.1) ∧ ¬ (0 ≤ x ∧ x ≤ 50 ∧ sm H - F5 H z.toNat + x ≤ 250) ∧ r9 = -2 ∧ MV L set H o mi9) ∨ ((0 ≤ z ∧ z < L.1) ∧ (0 ≤ x ∧ x ≤ 50 ∧ sm H - F5 H z.toNat + x ≤ 250) ∧ r9 = F5 H z.toNat ∧ MV L set (T5 (fun j => if j = z.toNat then x else F5 H j)) o mi9)) ∧ (∀ a, a < 473 → mi9 a = mi a) ∧ mr = mr9) := by
  refine Ct_of (by decide +kernel) (by intro v hv; simp at hv; rcases hv with rfl | rfl | rfl <;> rfl) (Nat.le_of_ble_eq_true rfl) ?_
  intro p e s m args below meth c9 X hr hname
  show WW _ _ _ _ _ _ _ _ _ _ _ _ _ _ _ _ _ _ _ [some (.ref (n0 + 473)), some (.int (jI z)), some (.int (jI x)), none] _
  refine w_aload_n X dX8_put_0 rfl ?_
  refine w_iconst X dX8_put_1 ?_
  refine w_put X (by decide) (σ_473 G n0 _ _) rfl gW_X8 tyX8 tyX8_ok nmX8 0 (by decide) gF_X8_73 rfl rfl rfl (Nat.le_of_ble_eq_true rfl) dX8_put_2 (WW.eqf (sp_473_0 _) ?_)
  have hV1 := MV_t hV
  have hfr0 : ∀ a, a < 473 → up2 mi 473 0 0 a = mi a := fun a ha => up2_k _ _ _ _ (by omega)
  generalize up2 mi 473 0 0 = m0 at *
  obtain ⟨hM, hset, hH, hS⟩ := id hV1
  have hM1 := hM.1
  have hM2 := hM.2.1
  have hM3 := hM.2.2.1
  have hsc : 1 ≤ m0 473 1 ∧ m0 473 1 ≤ 5 := by rw [hM1]; exact hA.1.1.1
  have hrc : 0 ≤ m0 473 3 ∧ m0 473 3 ≤ 12 := by rw [hM2]; exact hA.1.2.1
  have hset2 := hA.2.1
  refine w_aload_n X dX8_put_5 rfl ?_
  refine w_iload_n X dX8_put_6 rfl ?_
  refine s_callVi X _ (c_X8_noState (l := l) (G := G) (n0 := n0) hsc (by first | assumption | (refine ⟨?_, ?_⟩ <;> omega))) gM_X8_92 gI_yX8_noState gS_yX8_noState gN_X8 gC_yX8_noState (by decide) (σ_473 G n0 _ _) rfl dX8_put_7 hl_yX8_noState ⟨Nat.le_of_ble_eq_true rfl, Nat.le_of_ble_eq_true rfl⟩ (Nat.le_of_ble_eq_true rfl) rfl (fun r1 mi1 mr1 h1 => ?_)
  obtain ⟨rfl, rfl, h1⟩ := h1
  refine w_if_eq X 15 dX8_put_10 (by decide) (fun c10_1 => ?_) (fun c10_1 => ?_)
  ·
    obtain ⟨k, rfl⟩ := Int.eq_ofNat_of_zero_le (show 0 ≤ z by omega)
    have hkb := AV_h hA (j := k) (by omega)
    have hk5 := hH k (by omega)
    have hsm : m0 482 0 + m0 482 (0 + 1) + m0 482 (0 + 2) + m0 482 (0 + 3) + m0 482 (0 + 4) = sm H := by rw [sm_x]; rw [hH 0 (by decide), hH (0 + 1) (by decide), hH (0 + 2) (by decide), hH (0 + 3) (by decide), hH (0 + 4) (by decide)]; rfl
    have hs250 := hA.2.2.2
    have hs0 := (sum5_n hA.2.2.1.2.1).1
    have hs1 : sum5 (F5 H) = sm H := rfl
    obtain ⟨hx1, hx2⟩ := id hx
    refine w_iload_n X dX8_put_15 rfl ?_
    refine w_i2l X dX8_put_16 ?_
    refine w_lconst X dX8_put_17 0 rfl ?_
    refine w_ldc2 X (z := 50) gK_X8_114 rfl dX8_put_18 ?_
    refine s_callSi X _ (c_X8_in (l := l) (G := G) (n0 := n0) (by first | assumption | (refine ⟨?_, ?_⟩ <;> omega)) (by first | assumption | (refine ⟨?_, ?_⟩ <;> omega)) (by first | assumption | (refine ⟨?_, ?_⟩ <;> omega))) gM_X8_76 gT_yX8_in gN_X8 gC_yX8_in dX8_put_21 hl_yX8_in ⟨Nat.le_of_ble_eq_true rfl, Nat.le_of_ble_eq_true rfl⟩ (Nat.le_of_ble_eq_true rfl) rfl (fun r2 mi2 mr2 h2 => ?_)
    obtain ⟨rfl, rfl, h2⟩ := h2
    refine w_if_eq X 50 dX8_put_24 (by decide) (fun c24_2 => ?_) (fun c24_2 => ?_)
    ·
      refine w_bipush X dX8_put_50 rfl ?_
      refine s_iret X hr dX8_put_52 ?_
      exact ⟨Or.inr (Or.inl ⟨by omega, fun w => by have w1 : 0 ≤ x ∧ x ≤ 50 ∧ sm H - F5 H k + x ≤ 250 := w; omega, rfl, hV1⟩), hfr0, rfl⟩
    ·
      refine w_aload_n X dX8_put_27 rfl ?_
      refine w_get X (by decide) (σ_473 G n0 _ _) rfl gW_X8 13 (by decide) gF_X8_41 rfl dX8_put_28 ?_
      refine w_iconst X dX8_put_31 ?_
      refine s_callSi X _ (c_X8_sum (b := 0) (l := l) (G := G) (n0 := n0) IA_482 (by decide) (by decide)) gM_X8_116 gT_yX8_sum gN_X8 gC_yX8_sum dX8_put_32 hl_yX8_sum ⟨Nat.le_of_ble_eq_true rfl, Nat.le_of_ble_eq_true rfl⟩ (Nat.le_of_ble_eq_true rfl) rfl (fun r3 mi3 mr3 h3 => ?_)
      obtain ⟨rfl, rfl, h3⟩ := h3
      refine w_aload_n X dX8_put_35 rfl ?_
      refine w_get X (by decide) (σ_473 G n0 _ _) rfl gW_X8 13 (by decide) gF_X8_41 rfl dX8_put_36 ?_
      refine w_iload_n X dX8_put_39 rfl ?_
      refine s_iald X (k) (by decide) (fun _ => σ_m5 G n0 _ _ (by decide)) dX8_put_40 ?_
      refine w_isub X dX8_put_41 ?_
      refine w_iload_n X dX8_put_42 rfl ?_
      refine w_iadd X dX8_put_43 ?_
      refine w_sipush X dX8_put_44 rfl ?_
      refine w_icmp_le X 53 dX8_put_47 (by decide) (fun c47_3 => ?_) (fun c47_3 => ?_)
      ·
        refine w_aload_n X dX8_put_53 rfl ?_
        refine w_get X (by decide) (σ_473 G n0 _ _) rfl gW_X8 13 (by decide) gF_X8_41 rfl dX8_put_54 ?_
        refine w_iload_n X dX8_put_57 rfl ?_
        refine s_iald X (k) (by decide) (fun _ => σ_m5 G n0 _ _ (by decide)) dX8_put_58 ?_
        refine w_ist4_3 X dX8_put_59 ?_
        refine w_aload_n X dX8_put_60 rfl ?_
        refine w_get X (by decide) (σ_473 G n0 _ _) rfl gW_X8 13 (by decide) gF_X8_41 rfl dX8_put_61 ?_
        refine w_iload_n X dX8_put_64 rfl ?_
        refine w_iload_n X dX8_put_65 rfl ?_
        refine s_iast X (k) (by decide) (fun _ => σ_m5 G n0 _ _ (by decide)) dX8_put_66 ?_
        refine w_iload_n X dX8_put_67 rfl ?_
        refine s_iret X hr dX8_put_68 ?_
        refine ⟨Or.inr (Or.inr ⟨by omega, show 0 ≤ x ∧ x ≤ 50 ∧ sm H - F5 H k + x ≤ 250 by omega, hk5, ?_⟩), fun a ha => (up2_k _ _ _ _ (by omega)).trans (hfr0 a ha), rfl⟩
        refine ⟨ML_fr hM (by rw [up2_k _ _ _ _ (by decide)]) (by rw [up2_k _ _ _ _ (by decide)]) (by rw [up2_k _ _ _ _ (by decide)]) (fun a h1 h2 => up2_k _ _ _ _ (by omega)), by rw [up2_k _ _ _ _ (by decide)]; exact hset, fun j hj => ?_, SO_fr hS (by rw [up2_k _ _ _ _ (by decide)]) (by rw [up2_k _ _ _ _ (by decide)]) (by rw [up2_k _ _ _ _ (by decide)]) (up2_k _ _ _ _ (by decide))⟩
        rw [F5_T5 _ hj, up2_a]
        show _ = if j = k then x else F5 H j
        by_cases q : j = k
        · rw [if_pos ⟨rfl, q⟩, if_pos q]
        · rw [if_neg (fun w => q w.2), if_neg q]; exact hH j hj
      ·
        refine w_bipush X dX8_put_50 rfl ?_
        refine s_iret X hr dX8_put_52 ?_
        exact ⟨Or.inr (Or.inl ⟨by omega, fun w => by have w1 : 0 ≤ x ∧ x ≤ 50 ∧ sm H - F5 H k + x ≤ 250 := w; omega, rfl, hV1⟩), hfr0, rfl⟩
  ·
    refine w_iconst X dX8_put_13 ?_
    refine s_iret X hr dX8_put_14 ?_
    exact ⟨Or.inl ⟨by omega, rfl, hV1⟩, hfr0, rfl⟩
