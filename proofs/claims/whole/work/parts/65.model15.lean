theorem dX8_doomed_0 : decode cX8_doomed 0 = .ok (.aload_n 0, 1) := by decide +kernel
theorem dX8_doomed_1 : decode cX8_doomed 1 = .ok (.iconst 0, 1) := by decide +kernel
theorem dX8_doomed_2 : decode cX8_doomed 2 = .ok (.putfield 73, 3) := by decide +kernel
theorem dX8_doomed_5 : decode cX8_doomed 5 = .ok (.aload_n 0, 1) := by decide +kernel
theorem dX8_doomed_6 : decode cX8_doomed 6 = .ok (.invokevirtual 138, 3) := by decide +kernel
theorem dX8_doomed_9 : decode cX8_doomed 9 = .ok (.ifCond .eq 10, 3) := by decide +kernel
theorem dX8_doomed_12 : decode cX8_doomed 12 = .ok (.aload_n 0, 1) := by decide +kernel
theorem dX8_doomed_13 : decode cX8_doomed 13 = .ok (.invokevirtual 138, 3) := by decide +kernel
theorem dX8_doomed_16 : decode cX8_doomed 16 = .ok (.goto 19, 3) := by decide +kernel
theorem dX8_doomed_19 : decode cX8_doomed 19 = .ok (.aload_n 0, 1) := by decide +kernel
theorem dX8_doomed_20 : decode cX8_doomed 20 = .ok (.aload_n 0, 1) := by decide +kernel
theorem dX8_doomed_21 : decode cX8_doomed 21 = .ok (.getfield 41, 3) := by decide +kernel
theorem dX8_doomed_24 : decode cX8_doomed 24 = .ok (.invokevirtual 142, 3) := by decide +kernel
theorem dX8_doomed_27 : decode cX8_doomed 27 = .ok (.ifCond .eq 7, 3) := by decide +kernel
theorem dX8_doomed_30 : decode cX8_doomed 30 = .ok (.iconst 1, 1) := by decide +kernel
theorem dX8_doomed_31 : decode cX8_doomed 31 = .ok (.goto 4, 3) := by decide +kernel
theorem dX8_doomed_34 : decode cX8_doomed 34 = .ok (.iconst 0, 1) := by decide +kernel
theorem dX8_doomed_35 : decode cX8_doomed 35 = .ok (.ireturn, 1) := by decide +kernel
theorem hl_yX8_doomed : (yX8_doomed.cls ≠ "java/lang/invoke/MethodHandle" ∧ yX8_doomed.cls ≠ "java/lang/invoke/VarHandle") ∧ (parseMethodDescriptor yX8_doomed.desc).map (fun d => d.parameters.length) = some 0 := by decide +kernel
set_option maxRecDepth 20000 in
set_option maxHeartbeats 4000000 in
theorem c_X8_doomed {l : Launch} {G : Gt} {n0 : Nat} {mi : Nat → Nat → Int} {mr : Nat → Nat → Nat} {L : Lws} {set : Int} {H : V5} {o : Int} (hA : AV L set H) (hV : MV L set H o mi) : Ci l yX8_doomed cX8_doomed 1 .int 4 G n0 [.ref (n0 + 473)] mi mr (fun r9 mi9 mr9 => (o < 0 ∧ r9 = o ∨ 0 ≤ o ∧ (r9 = 1 ∧ Dk L o.toNat H ∨ r9 = 0 ∧ ¬ Dk L o.toNat H)) ∧ MV L set H o mi9 ∧ (∀ a, a < 473 → mi9 a = mi a) ∧ mr = mr9) := by
  refine Ct_of (by decide +kernel) (by intro v hv; simp at hv; rcases hv with rfl <;> rfl) (Nat.le_of_ble_eq_true rfl) ?_
  intro p e s m args below meth c9 X hr hname
  show WW _ _ _ _ _ _ _ _ _ _ _ _ _ _ _ _ _ _ _ [some (.ref (n0 + 473))] _
  refine w_aload_n X dX8_doomed_0 rfl ?_
  refine w_iconst X dX8_doomed_1 ?_
  refine w_put X (by decide) (σ_473 G n0 _ _) rfl gW_X8 tyX8 tyX8_ok nmX8 0 (by decide) gF_X8_73 rfl rfl rfl (Nat.le_of_ble_eq_true rfl) dX8_doomed_2 (WW.eqf (sp_473_0 _) ?_)
  have hV1 := MV_t hV
  have hfr0 : ∀ a, a < 473 → up2 mi 473 0 0 a = mi a := fun a ha => up2_k _ _ _ _ (by omega)
  generalize up2 mi 473 0 0 = m0 at *
  obtain ⟨hM, hset, hH, hS⟩ := id hV1
  have hM1 := hM.1
  have hM2 := hM.2.1
  have hM3 := hM.2.2.1
  have hsc : 1 ≤ m0 473 1 ∧ m0 473 1 ≤ 5 := by rw [hM1]; exact hA.1.1.1
  have hrc : 0 ≤ m0 473 3 ∧ m0 473 3 ≤ 12 := by rw [hM2]; exact hA.1.2.1
  have hset2 := hA.2.1
  have hsr := SO_rg hS
  have hsn := SO_nn hS
  refine w_aload_n X dX8_doomed_5 rfl ?_
  refine s_callVi X _ (c_X8_noSearch (l := l) (G := G) (n0 := n0) hsr.1 hsr.2) gM_X8_138 gI_yX8_noSearch gS_yX8_noSearch gN_X8 gC_yX8_noSearch (by decide) (σ_473 G n0 _ _) rfl dX8_doomed_6 hl_yX8_noSearch ⟨Nat.le_of_ble_eq_true rfl, Nat.le_of_ble_eq_true rfl⟩ (Nat.le_of_ble_eq_true rfl) rfl (fun r1 mi1 mr1 h1 => ?_)
  obtain ⟨rfl, rfl, h1⟩ := h1
  have hno1 : rg r1 := by rw [h1]; unfold NSv; split; exact ⟨by decide, by decide⟩; split; exact ⟨by decide, by decide⟩; exact ⟨by decide, by decide⟩
  refine w_if_eq X 19 dX8_doomed_9 (by decide) (fun c9_1 => ?_) (fun c9_1 => ?_)
  ·
    have ho0 : 0 ≤ o := by omega
    have hSB := SO_s hS ho0
    have hhb : ∀ j : Nat, j < 5 → 0 ≤ m0 482 j ∧ m0 482 j ≤ 1000 := fun j hj => by have := AV_h hA hj; rw [hH j hj]; omega
    have hdd := SB_d hA.1.1 hSB hA.2.2.1.1
    have hdq : (∃ b : Nat, (b : Int) < m0 473 16 ∧ ∀ j : Nat, j < 5 → m0 483 (5 * b + j) ≤ m0 482 j) ↔ Dk L o.toNat H := by
      rw [← hdd]
      constructor
      · rintro ⟨b, b1, b2⟩; exact ⟨b, b1, fun j hj => by rw [← hH j hj]; exact b2 j hj⟩
      · rintro ⟨b, b1, b2⟩; exact ⟨b, b1, fun j hj => by rw [hH j hj]; exact b2 j hj⟩
    refine w_aload_n X dX8_doomed_19 rfl ?_
    refine w_aload_n X dX8_doomed_20 rfl ?_
    refine w_get X (by decide) (σ_473 G n0 _ _) rfl gW_X8 13 (by decide) gF_X8_41 rfl dX8_doomed_21 ?_
    refine s_callVi X _ (c_X8_isDoomed (l := l) (G := G) (n0 := n0) hSB.1 (fun i hi => SB_rb hA.1.1 hSB hi) IA_482 hhb) gM_X8_142 gI_yX8_isDoomed gS_yX8_isDoomed gN_X8 gC_yX8_isDoomed (by decide) (σ_473 G n0 _ _) rfl dX8_doomed_24 hl_yX8_isDoomed ⟨Nat.le_of_ble_eq_true rfl, Nat.le_of_ble_eq_true rfl⟩ (Nat.le_of_ble_eq_true rfl) rfl (fun r2 mi2 mr2 h2 => ?_)
    obtain ⟨rfl, rfl, h2⟩ := h2
    have bd := flg_b h2
    have hdm := h2
    refine w_if_eq X 34 dX8_doomed_27 (by decide) (fun c27_2 => ?_) (fun c27_2 => ?_)
    ·
      refine w_iconst X dX8_doomed_34 ?_
      refine s_iret X hr dX8_doomed_35 ?_
      exact ⟨Or.inr ⟨ho0, Or.inr ⟨rfl, fun w => flg_0 hdm (by omega) (hdq.mpr w)⟩⟩, hV1, hfr0, rfl⟩
    ·
      refine w_iconst X dX8_doomed_30 ?_
      refine w_goto X 35 dX8_doomed_31 (by decide) ?_
      refine s_iret X hr dX8_doomed_35 ?_
      exact ⟨Or.inr ⟨ho0, Or.inl ⟨rfl, hdq.mp (flg_1 hdm (by omega))⟩⟩, hV1, hfr0, rfl⟩
  ·
    refine w_aload_n X dX8_doomed_12 rfl ?_
    refine s_callVi X _ (c_X8_noSearch (l := l) (G := G) (n0 := n0) hsr.1 hsr.2) gM_X8_138 gI_yX8_noSearch gS_yX8_noSearch gN_X8 gC_yX8_noSearch (by decide) (σ_473 G n0 _ _) rfl dX8_doomed_13 hl_yX8_noSearch ⟨Nat.le_of_ble_eq_true rfl, Nat.le_of_ble_eq_true rfl⟩ (Nat.le_of_ble_eq_true rfl) rfl (fun r2 mi2 mr2 h2 => ?_)
    obtain ⟨rfl, rfl, h2⟩ := h2
    refine w_goto X 35 dX8_doomed_16 (by decide) ?_
    refine s_iret X hr dX8_doomed_35 ?_
    exact ⟨Or.inl ⟨by omega, by omega⟩, hV1, hfr0, rfl⟩
theorem dX8_bases_0 : decode cX8_bases 0 = .ok (.aload_n 0, 1) := by decide +kernel
theorem dX8_bases_1 : decode cX8_bases 1 = .ok (.iconst 0, 1) := by decide +kernel
theorem dX8_bases_2 : decode cX8_bases 2 = .ok (.putfield 73, 3) := by decide +kernel
theorem dX8_bases_5 : decode cX8_bases 5 = .ok (.aload_n 0, 1) := by decide +kernel
theorem dX8_bases_6 : decode cX8_bases 6 = .ok (.invokevirtual 138, 3) := by decide +kernel
theorem dX8_bases_9 : decode cX8_bases 9 = .ok (.ifCond .eq 10, 3) := by decide +kernel
theorem dX8_bases_12 : decode cX8_bases 12 = .ok (.aload_n 0, 1) := by decide +kernel
theorem dX8_bases_13 : decode cX8_bases 13 = .ok (.invokevirtual 138, 3) := by decide +kernel
theorem dX8_bases_16 : decode cX8_bases 16 = .ok (.goto 7, 3) := by decide +kernel
theorem dX8_bases_19 : decode cX8_bases 19 = .ok (.aload_n 0, 1) := by decide +kernel
theorem dX8_bases_20 : decode cX8_bases 20 = .ok (.getfield 128, 3) := by decide +kernel
theorem dX8_bases_23 : decode cX8_bases 23 = .ok (.ireturn, 1) := by decide +kernel
theorem hl_yX8_bases : (yX8_bases.cls ≠ "java/lang/invoke/MethodHandle" ∧ yX8_bases.cls ≠ "java/lang/invoke/VarHandle") ∧ (parseMethodDescriptor yX8_bases.desc).map (fun d => d.parameters.length) = some 0 := by decide +kernel
set_option maxRecDepth 20000 in
set_option maxHeartbeats 4000000 in
theorem c_X8_bases {l : Launch} {G : Gt} {n0 : Nat} {mi : Nat → Nat → Int} {mr : Nat → Nat → Nat} {L : Lws} {set : Int} {H : V5} {o : Int} (hA : AV L set H) (hV : MV L set H o mi) : Ci l yX8_bases cX8_bases 1 .int 3 G n0 [.ref (n0 + 473)] mi mr (fun r9 mi9 mr9 => (o < 0 ∧ r9 = o ∨ 0 ≤ o ∧ ∃ l : List V5, MnL (Dk L o.toNat) l ∧ r9 = (l.length : Int)) ∧ MV L set H o mi9 ∧ (∀ a, a < 473 → mi9 a = mi a) ∧ mr = mr9) := by
  refine Ct_of (by decide +kernel) (by intro v hv; simp at hv; rcases hv with rfl <;> rfl) (Nat.le_of_ble_eq_true rfl) ?_
  intro p e s m args below meth c9 X hr hname
  show WW _ _ _ _ _ _ _ _ _ _ _ _ _ _ _ _ _ _ _ [some (.ref (n0 + 473))] _
  refine w_aload_n X dX8_bases_0 rfl ?_
  refine w_iconst X dX8_bases_1 ?_
  refine w_put X (by decide) (σ_473 G n0 _ _) rfl gW_X8 tyX8 tyX8_ok nmX8 0 (by decide) gF_X8_73 rfl rfl rfl (Nat.le_of_ble_eq_true rfl) dX8_bases_2 (WW.eqf (sp_473_0 _) ?_)
  have hV1 := MV_t hV
  have hfr0 : ∀ a, a < 473 → up2 mi 473 0 0 a = mi a := fun a ha => up2_k _ _ _ _ (by omega)
  generalize up2 mi 473 0 0 = m0 at *
  obtain ⟨hM, hset, hH, hS⟩ := id hV1
  have hM1 := hM.1
  have hM2 := hM.2.1
  have hM3 := hM.2.2.1
  have hsc : 1 ≤ m0 473 1 ∧ m0 473 1 ≤ 5 := by rw [hM1]; exact hA.1.1.1
  have hrc : 0 ≤ m0 473 3 ∧ m0 473 3 ≤ 12 := by rw [hM2]; exact hA.1.2.1
  have hset2 := hA.2.1
  have hsr := SO_rg hS
  have hsn := SO_nn hS
  refine w_aload_n X dX8_bases_5 rfl ?_
  refine s_callVi X _ (c_X8_noSearch (l := l) (G := G) (n0 := n0) hsr.1 hsr.2) gM_X8_138 gI_yX8_noSearch gS_yX8_noSearch gN_X8 gC_yX8_noSearch (by decide) (σ_473 G n0 _ _) rfl dX8_bases_6 hl_yX8_noSearch ⟨Nat.le_of_ble_eq_true rfl, Nat.le_of_ble_eq_true rfl⟩ (Nat.le_of_ble_eq_true rfl) rfl (fun r1 mi1 mr1 h1 => ?_)
  obtain ⟨rfl, rfl, h1⟩ := h1
  have hno1 : rg r1 := by rw [h1]; unfold NSv; split; exact ⟨by decide, by decide⟩; split; exact ⟨by decide, by decide⟩; exact ⟨by decide, by decide⟩
  refine w_if_eq X 19 dX8_bases_9 (by decide) (fun c9_1 => ?_) (fun c9_1 => ?_)
  ·
    have ho0 : 0 ≤ o := by omega
    have hSB := SO_s hS ho0
    refine w_aload_n X dX8_bases_19 rfl ?_
    refine w_get X (by decide) (σ_473 G n0 _ _) rfl gW_X8 16 (by decide) gF_X8_128 rfl dX8_bases_20 ?_
    refine s_iret X hr dX8_bases_23 ?_
    first
    | exact ⟨Or.inl ⟨by omega, by omega⟩, hV1, hfr0, rfl⟩
    | exact ⟨Or.inr ⟨ho0, ((List.range (m0 473 16).toNat).map (BR m0)), SB_l hSB, by rw [List.length_map, List.length_range]; have := hSB.1; omega⟩, hV1, hfr0, rfl⟩
  ·
    refine w_aload_n X dX8_bases_12 rfl ?_
    refine s_callVi X _ (c_X8_noSearch (l := l) (G := G) (n0 := n0) hsr.1 hsr.2) gM_X8_138 gI_yX8_noSearch gS_yX8_noSearch gN_X8 gC_yX8_noSearch (by decide) (σ_473 G n0 _ _) rfl dX8_bases_13 hl_yX8_noSearch ⟨Nat.le_of_ble_eq_true rfl, Nat.le_of_ble_eq_true rfl⟩ (Nat.le_of_ble_eq_true rfl) rfl (fun r2 mi2 mr2 h2 => ?_)
    obtain ⟨rfl, rfl, h2⟩ := h2
    refine w_goto X 23 dX8_bases_16 (by decide) ?_
    refine s_iret X hr dX8_bases_23 ?_
    first
    | exact ⟨Or.inl ⟨by omega, by omega⟩, hV1, hfr0, rfl⟩
    | exact ⟨Or.inr ⟨ho0, ((List.range (m0 473 16).toNat).map (BR m0)), SB_l hSB, by rw [List.length_map, List.length_range]; have := hSB.1; omega⟩, hV1, hfr0, rfl⟩
theorem dX8_base_0 : decode cX8_base 0 = .ok (.aload_n 0, 1) := by decide +kernel
theorem dX8_base_1 : decode cX8_base 1 = .ok (.iconst 0, 1) := by decide +kernel
theorem dX8_base_2 : decode cX8_base 2 = .ok (.putfield 73, 3) := by decide +kernel
theorem dX8_base_5 : decode cX8_base 5 = .ok (.aload_n 0, 1) := by decide +kernel
theorem dX8_base_6 : decode cX8_base 6 = .ok (.invokevirtual 138, 3) := by decide +kernel
theorem dX8_base_9 : decode cX8_base 9 = .ok (.ifCond .eq 10, 3) := by decide +kernel
theorem dX8_base_12 : decode cX8_base 12 = .ok (.aload_n 0, 1) := by decide +kernel
theorem dX8_base_13 : decode cX8_base 13 = .ok (.invokevirtual 138, 3) := by decide +kernel
theorem dX8_base_16 : decode cX8_base 16 = .ok (.goto 41, 3) := by decide +kernel
theorem dX8_base_19 : decode cX8_base 19 = .ok (.iload_n 1, 1) := by decide +kernel
theorem dX8_base_20 : decode cX8_base 20 = .ok (.i2l, 1) := by decide +kernel
theorem dX8_base_21 : decode cX8_base 21 = .ok (.lconst 0, 1) := by decide +kernel
theorem dX8_base_22 : decode cX8_base 22 = .ok (.aload_n 0, 1) := by decide +kernel
theorem dX8_base_23 : decode cX8_base 23 = .ok (.getfield 128, 3) := by decide +kernel
theorem dX8_base_26 : decode cX8_base 26 = .ok (.iconst 1, 1) := by decide +kernel
theorem dX8_base_27 : decode cX8_base 27 = .ok (.isub, 1) := by decide +kernel
theorem dX8_base_28 : decode cX8_base 28 = .ok (.i2l, 1) := by decide +kernel
theorem dX8_base_29 : decode cX8_base 29 = .ok (.invokestatic 76, 3) := by decide +kernel
theorem dX8_base_32 : decode cX8_base 32 = .ok (.ifCond .eq 11, 3) := by decide +kernel
theorem dX8_base_35 : decode cX8_base 35 = .ok (.aload_n 0, 1) := by decide +kernel
theorem dX8_base_36 : decode cX8_base 36 = .ok (.iload_n 2, 1) := by decide +kernel
theorem dX8_base_37 : decode cX8_base 37 = .ok (.invokevirtual 92, 3) := by decide +kernel
theorem dX8_base_40 : decode cX8_base 40 = .ok (.ifCond .eq 7, 3) := by decide +kernel
theorem dX8_base_43 : decode cX8_base 43 = .ok (.iconst (-1), 1) := by decide +kernel
theorem dX8_base_44 : decode cX8_base 44 = .ok (.goto 13, 3) := by decide +kernel
theorem dX8_base_47 : decode cX8_base 47 = .ok (.aload_n 0, 1) := by decide +kernel
theorem dX8_base_48 : decode cX8_base 48 = .ok (.getfield 44, 3) := by decide +kernel
theorem dX8_base_51 : decode cX8_base 51 = .ok (.iconst 5, 1) := by decide +kernel
theorem dX8_base_52 : decode cX8_base 52 = .ok (.iload_n 1, 1) := by decide +kernel
theorem dX8_base_53 : decode cX8_base 53 = .ok (.imul, 1) := by decide +kernel
theorem dX8_base_54 : decode cX8_base 54 = .ok (.iload_n 2, 1) := by decide +kernel
theorem dX8_base_55 : decode cX8_base 55 = .ok (.iadd, 1) := by decide +kernel
theorem dX8_base_56 : decode cX8_base 56 = .ok (.iaload, 1) := by decide +kernel
theorem dX8_base_57 : decode cX8_base 57 = .ok (.ireturn, 1) := by decide +kernel
theorem hl_yX8_base : (yX8_base.cls ≠ "java/lang/invoke/MethodHandle" ∧ yX8_base.cls ≠ "java/lang/invoke/VarHandle") ∧ (parseMethodDescriptor yX8_base.desc).map (fun d => d.parameters.length) = some 2 := by decide +kernel
set_option maxRecDepth 20000 in
set_option maxHeartbeats 4000000 in
theorem c_X8_base {l : Launch} {G : Gt} {n0 : Nat} {mi : Nat → Nat → Int} {mr : Nat → Nat → Nat} {L : Lws} {set : Int} {H : V5} {o : Int} (hA : AV L set H) (hV : MV L set H o mi) {z x : Int} (hz : rg z) (hx : rg x) : Ci l yX8_base cX8_base 3 .int 3 G n0 [.ref (n0 + 473), .int (jI z), .int (jI x)] mi mr (fun r9 mi9 mr9 => (o < 0 ∧ r9 = o ∨ 0 ≤ o ∧ ∃ l : List V5, MnL (Dk L o.toNat) l ∧ (¬ ((0 ≤ z ∧ z < (l.length : Int)) ∧ 0 ≤ x ∧ x < L.1) ∧ r9 = -1 ∨ ((0 ≤ z ∧ z < (l.length : Int)) ∧ 0 ≤ x ∧ x < L.1) ∧ ∃ v, l[z.toNat]? = some v ∧ r9 = F5 v x.toNat)) ∧ MV L set H o mi9 ∧ (∀ a, a < 473 → mi9 a = mi a) ∧ mr = mr9) := by
  refine Ct_of (by decide +kernel) (by intro v hv; simp at hv; rcases hv with rfl | rfl | rfl <;> rfl) (Nat.le_of_ble_eq_true rfl) ?_
  intro p e s m args below meth c9 X hr hname
  show WW _ _ _ _ _ _ _ _ _ _ _ _ _ _ _ _ _ _ _ [some (.ref (n0 + 473)), some (.int (jI z)), some (.int (jI x))] _
  refine w_aload_n X dX8_base_0 rfl ?_
  refine w_iconst X dX8_base_1 ?_
  refine w_put X (by decide) (σ_473 G n0 _ _) rfl gW_X8 tyX8 tyX8_ok nmX8 0 (by decide) gF_X8_73 rfl rfl rfl (Nat.le_of_ble_eq_true rfl) dX8_base_2 (WW.eqf (sp_473_0 _) ?_)
  have hV1 := MV_t hV
  have hfr0 : ∀ a, a < 473 → up2 mi 473 0 0 a = mi a := fun a ha => up2_k _ _ _ _ (by omega)
  generalize up2 mi 473 0 0 = m0 at *
  obtain ⟨hM, hset, hH, hS⟩ := id hV1
  have hM1 := hM.1
  have hM2 := hM.2.1
  have hM3 := hM.2.2.1
  have hsc : 1 ≤ m0 473 1 ∧ m0 473 1 ≤ 5 := by rw [hM1]; exact hA.1.1.1
  have hrc : 0 ≤ m0 473 3 ∧ m0 473 3 ≤ 12 := by rw [hM2]; exact hA.1.2.1
  have hset2 := hA.2.1
  have hsr := SO_rg hS
  have hsn := SO_nn hS
  refine w_aload_n X dX8_base_5 rfl ?_
  refine s_callVi X _ (c_X8_noSearch (l := l) (G := G) (n0 := n0) hsr.1 hsr.2) gM_X8_138 gI_yX8_noSearch gS_yX8_noSearch gN_X8 gC_yX8_noSearch (by decide) (σ_473 G n0 _ _) rfl dX8_base_6 hl_yX8_noSearch ⟨Nat.le_of_ble_eq_true rfl, Nat.le_of_ble_eq_true rfl⟩ (Nat.le_of_ble_eq_true rfl) rfl (fun r1 mi1 mr1 h1 => ?_)
  obtain ⟨rfl, rfl, h1⟩ := h1
  have hno1 : rg r1 := by rw [h1]; unfold NSv; split; exact ⟨by decide, by decide⟩; split; exact ⟨by decide, by decide⟩; exact ⟨by decide, by decide⟩
  refine w_if_eq X 19 dX8_base_9 (by decide) (fun c9_1 => ?_) (fun c9_1 => ?_)
  ·
    have ho0 : 0 ≤ o := by omega
    have hSB := SO_s hS ho0
    have hlen : (((List.range (m0 473 16).toNat).map (BR m0)).length : Int) = m0 473 16 := by rw [List.length_map, List.length_range]; have := hSB.1; omega
    have hcn := hSB.1
    refine w_iload_n X dX8_base_19 rfl ?_
    refine w_i2l X dX8_base_20 ?_
    refine w_lconst X dX8_base_21 0 rfl ?_
    refine w_aload_n X dX8_base_22 rfl ?_
    refine w_get X (by decide) (σ_473 G n0 _ _) rfl gW_X8 16 (by decide) gF_X8_128 rfl dX8_base_23 ?_
    refine w_iconst X dX8_base_26 ?_
    refine w_isub X dX8_base_27 ?_
    refine w_i2l X dX8_base_28 ?_
    refine s_callSi X _ (c_X8_in (l := l) (G := G) (n0 := n0) (by first | assumption | (refine ⟨?_, ?_⟩ <;> omega)) (by first | assumption | (refine ⟨?_, ?_⟩ <;> omega)) (by first | assumption | (refine ⟨?_, ?_⟩ <;> omega))) gM_X8_76 gT_yX8_in gN_X8 gC_yX8_in dX8_base_29 hl_yX8_in ⟨Nat.le_of_ble_eq_true rfl, Nat.le_of_ble_eq_true rfl⟩ (Nat.le_of_ble_eq_true rfl) rfl (fun r2 mi2 mr2 h2 => ?_)
    obtain ⟨rfl, rfl, h2⟩ := h2
    refine w_if_eq X 43 dX8_base_32 (by decide) (fun c32_2 => ?_) (fun c32_2 => ?_)
    ·
      refine w_iconst X dX8_base_43 ?_
      refine w_goto X 57 dX8_base_44 (by decide) ?_
      refine s_iret X hr dX8_base_57 ?_
      first
      | exact ⟨Or.inl ⟨by omega, by omega⟩, hV1, hfr0, rfl⟩
      | exact ⟨Or.inr ⟨ho0, ((List.range (m0 473 16).toNat).map (BR m0)), SB_l hSB, Or.inl ⟨by rw [hlen]; omega, rfl⟩⟩, hV1, hfr0, rfl⟩
      | exact ⟨Or.inr ⟨ho0, ((List.range (m0 473 16).toNat).map (BR m0)), SB_l hSB, Or.inr ⟨by rw [hlen]; omega, BR m0 i, by rw [Int.toNat_natCast, List.getElem?_map, List.getElem?_range (by omega)]; rfl, (F5_T5 (fun a => m0 483 (5 * i + a)) (j := j) (by omega)).symm⟩⟩, hV1, hfr0, rfl⟩
    ·
      refine w_aload_n X dX8_base_35 rfl ?_
      refine w_iload_n X dX8_base_36 rfl ?_
      refine s_callVi X _ (c_X8_noState (l := l) (G := G) (n0 := n0) hsc (by first | assumption | (refine ⟨?_, ?_⟩ <;> omega))) gM_X8_92 gI_yX8_noState gS_yX8_noState gN_X8 gC_yX8_noState (by decide) (σ_473 G n0 _ _) rfl dX8_base_37 hl_yX8_noState ⟨Nat.le_of_ble_eq_true rfl, Nat.le_of_ble_eq_true rfl⟩ (Nat.le_of_ble_eq_true rfl) rfl (fun r3 mi3 mr3 h3 => ?_)
      obtain ⟨rfl, rfl, h3⟩ := h3
      refine w_if_eq X 47 dX8_base_40 (by decide) (fun c40_3 => ?_) (fun c40_3 => ?_)
      ·
        obtain ⟨i, rfl⟩ := Int.eq_ofNat_of_zero_le (show 0 ≤ z by omega)
        obtain ⟨j, rfl⟩ := Int.eq_ofNat_of_zero_le (show 0 ≤ x by omega)
        refine w_aload_n X dX8_base_47 rfl ?_
        refine w_get X (by decide) (σ_473 G n0 _ _) rfl gW_X8 17 (by decide) gF_X8_44 rfl dX8_base_48 ?_
        refine w_iconst X dX8_base_51 ?_
        refine w_iload_n X dX8_base_52 rfl ?_
        refine w_imul X dX8_base_53 ?_
        refine w_iload_n X dX8_base_54 rfl ?_
        refine w_iadd X dX8_base_55 ?_
        refine s_iald X ((5 * i + j)) (by decide) (fun _ => σ_m505 G n0 _ _ (by decide)) dX8_base_56 ?_
        refine s_iret X hr dX8_base_57 ?_
        first
        | exact ⟨Or.inl ⟨by omega, by omega⟩, hV1, hfr0, rfl⟩
        | exact ⟨Or.inr ⟨ho0, ((List.range (m0 473 16).toNat).map (BR m0)), SB_l hSB, Or.inl ⟨by rw [hlen]; omega, rfl⟩⟩, hV1, hfr0, rfl⟩
        | exact ⟨Or.inr ⟨ho0, ((List.range (m0 473 16).toNat).map (BR m0)), SB_l hSB, Or.inr ⟨by rw [hlen]; omega, BR m0 i, by rw [Int.toNat_natCast, List.getElem?_map, List.getElem?_range (by omega)]; rfl, (F5_T5 (fun a => m0 483 (5 * i + a)) (j := j) (by omega)).symm⟩⟩, hV1, hfr0, rfl⟩
      ·
        refine w_iconst X dX8_base_43 ?_
        refine w_goto X 57 dX8_base_44 (by decide) ?_
        refine s_iret X hr dX8_base_57 ?_
        first
        | exact ⟨Or.inl ⟨by omega, by omega⟩, hV1, hfr0, rfl⟩
        | exact ⟨Or.inr ⟨ho0, ((List.range (m0 473 16).toNat).map (BR m0)), SB_l hSB, Or.inl ⟨by rw [hlen]; omega, rfl⟩⟩, hV1, hfr0, rfl⟩
        | exact ⟨Or.inr ⟨ho0, ((List.range (m0 473 16).toNat).map (BR m0)), SB_l hSB, Or.inr ⟨by rw [hlen]; omega, BR m0 i, by rw [Int.toNat_natCast, List.getElem?_map, List.getElem?_range (by omega)]; rfl, (F5_T5 (fun a => m0 483 (5 * i + a)) (j := j) (by omega)).symm⟩⟩, hV1, hfr0, rfl⟩
  ·
    refine w_aload_n X dX8_base_12 rfl ?_
    refine s_callVi X _ (c_X8_noSearch (l := l) (G := G) (n0 := n0) hsr.1 hsr.2) gM_X8_138 gI_yX8_noSearch gS_yX8_noSearch gN_X8 gC_yX8_noSearch (by decide) (σ_473 G n0 _ _) rfl dX8_base_13 hl_yX8_noSearch ⟨Nat.le_of_ble_eq_true rfl, Nat.le_of_ble_eq_true rfl⟩ (Nat.le_of_ble_eq_true rfl) rfl (fun r2 mi2 mr2 h2 => ?_)
    obtain ⟨rfl, rfl, h2⟩ := h2
    refine w_goto X 57 dX8_base_16 (by decide) ?_
    refine s_iret X hr dX8_base_57 ?_
    first
    | exact ⟨Or.inl ⟨by omega, by omega⟩, hV1, hfr0, rfl⟩
    | exact ⟨Or.inr ⟨ho0, ((List.range (m0 473 16).toNat).map (BR m0)), SB_l hSB, Or.inl ⟨by rw [hlen]; omega, rfl⟩⟩, hV1, hfr0, rfl⟩
    | exact ⟨Or.inr ⟨ho0, ((List.range (m0 473 16).toNat).map (BR m0)), SB_l hSB, Or.inr ⟨by rw [hlen]; omega, BR m0 i, by rw [Int.toNat_natCast, List.getElem?_map, List.getElem?_range (by omega)]; rfl, (F5_T5 (fun a => m0 483 (5 * i + a)) (j := j) (by omega)).symm⟩⟩, hV1, hfr0, rfl⟩
theorem dX8_least_0 : decode cX8_least 0 = .ok (.aload_n 0, 1) := by decide +kernel
theorem dX8_least_1 : decode cX8_least 1 = .ok (.iconst 0, 1) := by decide +kernel
theorem dX8_least_2 : decode cX8_least 2 = .ok (.putfield 73, 3) := by decide +kernel
theorem dX8_least_5 : decode cX8_least 5 = .ok (.aload_n 0, 1) := by decide +kernel
theorem dX8_least_6 : decode cX8_least 6 = .ok (.invokevirtual 138, 3) := by decide +kernel
theorem dX8_least_9 : decode cX8_least 9 = .ok (.ifCond .eq 8, 3) := by decide +kernel
theorem dX8_least_12 : decode cX8_least 12 = .ok (.aload_n 0, 1) := by decide +kernel
theorem dX8_least_13 : decode cX8_least 13 = .ok (.invokevirtual 138, 3) := by decide +kernel
theorem dX8_least_16 : decode cX8_least 16 = .ok (.ireturn, 1) := by decide +kernel
theorem dX8_least_17 : decode cX8_least 17 = .ok (.bipush (-9), 2) := by decide +kernel
theorem dX8_least_19 : decode cX8_least 19 = .ok (.istore_n 1, 1) := by decide +kernel
theorem dX8_least_20 : decode cX8_least 20 = .ok (.iconst 0, 1) := by decide +kernel
theorem dX8_least_21 : decode cX8_least 21 = .ok (.istore_n 2, 1) := by decide +kernel
theorem dX8_least_22 : decode cX8_least 22 = .ok (.iload_n 2, 1) := by decide +kernel
theorem dX8_least_23 : decode cX8_least 23 = .ok (.aload_n 0, 1) := by decide +kernel
theorem dX8_least_24 : decode cX8_least 24 = .ok (.getfield 128, 3) := by decide +kernel
theorem dX8_least_27 : decode cX8_least 27 = .ok (.if_icmp .ge 98, 3) := by decide +kernel
theorem dX8_least_30 : decode cX8_least 30 = .ok (.iconst 1, 1) := by decide +kernel
theorem dX8_least_31 : decode cX8_least 31 = .ok (.istore_n 3, 1) := by decide +kernel
theorem dX8_least_32 : decode cX8_least 32 = .ok (.iconst 0, 1) := by decide +kernel
theorem dX8_least_33 : decode cX8_least 33 = .ok (.istore 4, 2) := by decide +kernel
theorem dX8_least_35 : decode cX8_least 35 = .ok (.iload 4, 2) := by decide +kernel
theorem dX8_least_37 : decode cX8_least 37 = .ok (.iconst 5, 1) := by decide +kernel
theorem dX8_least_38 : decode cX8_least 38 = .ok (.if_icmp .ge 46, 3) := by decide +kernel
theorem dX8_least_41 : decode cX8_least 41 = .ok (.iload_n 3, 1) := by decide +kernel
theorem dX8_least_42 : decode cX8_least 42 = .ok (.ifCond .eq 34, 3) := by decide +kernel
theorem dX8_least_45 : decode cX8_least 45 = .ok (.aload_n 0, 1) := by decide +kernel
theorem dX8_least_46 : decode cX8_least 46 = .ok (.getfield 44, 3) := by decide +kernel
theorem dX8_least_49 : decode cX8_least 49 = .ok (.iconst 5, 1) := by decide +kernel
theorem dX8_least_50 : decode cX8_least 50 = .ok (.iload_n 2, 1) := by decide +kernel
theorem dX8_least_51 : decode cX8_least 51 = .ok (.imul, 1) := by decide +kernel
theorem dX8_least_52 : decode cX8_least 52 = .ok (.iload 4, 2) := by decide +kernel
theorem dX8_least_54 : decode cX8_least 54 = .ok (.iadd, 1) := by decide +kernel
theorem dX8_least_55 : decode cX8_least 55 = .ok (.iaload, 1) := by decide +kernel
theorem dX8_least_56 : decode cX8_least 56 = .ok (.ifCond .eq 16, 3) := by decide +kernel
theorem dX8_least_59 : decode cX8_least 59 = .ok (.aload_n 0, 1) := by decide +kernel
theorem dX8_least_60 : decode cX8_least 60 = .ok (.getfield 13, 3) := by decide +kernel
theorem dX8_least_63 : decode cX8_least 63 = .ok (.iload 4, 2) := by decide +kernel
theorem dX8_least_65 : decode cX8_least 65 = .ok (.ishr, 1) := by decide +kernel
theorem dX8_least_66 : decode cX8_least 66 = .ok (.iconst 1, 1) := by decide +kernel
theorem dX8_least_67 : decode cX8_least 67 = .ok (.iand, 1) := by decide +kernel
theorem dX8_least_68 : decode cX8_least 68 = .ok (.iconst 1, 1) := by decide +kernel
theorem dX8_least_69 : decode cX8_least 69 = .ok (.if_icmp .ne 7, 3) := by decide +kernel
theorem dX8_least_72 : decode cX8_least 72 = .ok (.iconst 1, 1) := by decide +kernel
theorem dX8_least_73 : decode cX8_least 73 = .ok (.goto 4, 3) := by decide +kernel
theorem dX8_least_76 : decode cX8_least 76 = .ok (.iconst 0, 1) := by decide +kernel
theorem dX8_least_77 : decode cX8_least 77 = .ok (.istore_n 3, 1) := by decide +kernel
theorem dX8_least_78 : decode cX8_least 78 = .ok (.iinc 4 1, 3) := by decide +kernel
theorem dX8_least_81 : decode cX8_least 81 = .ok (.goto (-46), 3) := by decide +kernel
theorem dX8_least_84 : decode cX8_least 84 = .ok (.aload_n 0, 1) := by decide +kernel
theorem dX8_least_85 : decode cX8_least 85 = .ok (.getfield 44, 3) := by decide +kernel
theorem dX8_least_88 : decode cX8_least 88 = .ok (.iconst 5, 1) := by decide +kernel
theorem dX8_least_89 : decode cX8_least 89 = .ok (.iload_n 2, 1) := by decide +kernel
theorem dX8_least_90 : decode cX8_least 90 = .ok (.imul, 1) := by decide +kernel
theorem dX8_least_91 : decode cX8_least 91 = .ok (.invokestatic 116, 3) := by decide +kernel
theorem dX8_least_94 : decode cX8_least 94 = .ok (.istore 4, 2) := by decide +kernel
theorem dX8_least_96 : decode cX8_least 96 = .ok (.iload_n 3, 1) := by decide +kernel
theorem dX8_least_97 : decode cX8_least 97 = .ok (.ifCond .eq 20, 3) := by decide +kernel
theorem dX8_least_100 : decode cX8_least 100 = .ok (.iload_n 1, 1) := by decide +kernel
theorem dX8_least_101 : decode cX8_least 101 = .ok (.bipush (-9), 2) := by decide +kernel
theorem dX8_least_103 : decode cX8_least 103 = .ok (.if_icmp .eq 9, 3) := by decide +kernel
theorem dX8_least_106 : decode cX8_least 106 = .ok (.iload 4, 2) := by decide +kernel
theorem dX8_least_108 : decode cX8_least 108 = .ok (.iload_n 1, 1) := by decide +kernel
theorem dX8_least_109 : decode cX8_least 109 = .ok (.if_icmp .ge 8, 3) := by decide +kernel
theorem dX8_least_112 : decode cX8_least 112 = .ok (.iload 4, 2) := by decide +kernel
theorem dX8_least_114 : decode cX8_least 114 = .ok (.goto 4, 3) := by decide +kernel
theorem dX8_least_117 : decode cX8_least 117 = .ok (.iload_n 1, 1) := by decide +kernel
theorem dX8_least_118 : decode cX8_least 118 = .ok (.istore_n 1, 1) := by decide +kernel
theorem dX8_least_119 : decode cX8_least 119 = .ok (.iinc 2 1, 3) := by decide +kernel
theorem dX8_least_122 : decode cX8_least 122 = .ok (.goto (-100), 3) := by decide +kernel
theorem dX8_least_125 : decode cX8_least 125 = .ok (.iload_n 1, 1) := by decide +kernel
theorem dX8_least_126 : decode cX8_least 126 = .ok (.ireturn, 1) := by decide +kernel
theorem hl_yX8_least : (yX8_least.cls ≠ "java/lang/invoke/MethodHandle" ∧ yX8_least.cls ≠ "java/lang/invoke/VarHandle") ∧ (parseMethodDescriptor yX8_least.desc).map (fun d => d.parameters.length) = some 0 := by decide +kernel
set_option maxRecDepth 20000 in
set_option maxHeartbeats 4000000 in
theorem c_X8_least {l : Launch} {G : Gt} {n0 : Nat} {mi : Nat → Nat → Int} {mr : Nat → Nat → Nat} {L : Lws} {set : Int} {H : V5} {o : Int} (hA : AV L set H) (hV : MV L set H o mi) : Ci l yX8_least cX8_least 5 .int 3 G n0 [.ref (n0 + 473)] mi mr (fun r9 mi9 mr9 => (o < 0 ∧ r9 = o ∨ 0 ≤ o ∧ LSP L set o r9) ∧ MV L set H o mi9 ∧ (∀ a, a < 473 → mi9 a = mi a) ∧ mr = mr9) := by
  refine Ct_of (by decide +kernel) (by intro v hv; simp at hv; rcases hv with rfl <;> rfl) (Nat.le_of_ble_eq_true rfl) ?_
  intro p e s m args below meth c9 X hr hname
  show WW _ _ _ _ _ _ _ _ _ _ _ _ _ _ _ _ _ _ _ [some (.ref (n0 + 473)), none, none, none, none] _
  refine w_aload_n X dX8_least_0 rfl ?_
  refine w_iconst X dX8_least_1 ?_
  refine w_put X (by decide) (σ_473 G n0 _ _) rfl gW_X8 tyX8 tyX8_ok nmX8 0 (by decide) gF_X8_73 rfl rfl rfl (Nat.le_of_ble_eq_true rfl) dX8_least_2 (WW.eqf (sp_473_0 _) ?_)
  have hV1 := MV_t hV
  have hfr0 : ∀ a, a < 473 → up2 mi 473 0 0 a = mi a := fun a ha => up2_k _ _ _ _ (by omega)
  generalize up2 mi 473 0 0 = m0 at *
  obtain ⟨hM, hset, hH, hS⟩ := id hV1
  have hM1 := hM.1
  have hM2 := hM.2.1
  have hM3 := hM.2.2.1
  have hsc : 1 ≤ m0 473 1 ∧ m0 473 1 ≤ 5 := by rw [hM1]; exact hA.1.1.1
  have hrc : 0 ≤ m0 473 3 ∧ m0 473 3 ≤ 12 := by rw [hM2]; exact hA.1.2.1
  have hset2 := hA.2.1
  have hsr := SO_rg hS
  have hsn := SO_nn hS
  refine w_aload_n X dX8_least_5 rfl ?_
  refine s_callVi X _ (c_X8_noSearch (l := l) (G := G) (n0 := n0) hsr.1 hsr.2) gM_X8_138 gI_yX8_noSearch gS_yX8_noSearch gN_X8 gC_yX8_noSearch (by decide) (σ_473 G n0 _ _) rfl dX8_least_6 hl_yX8_noSearch ⟨Nat.le_of_ble_eq_true rfl, Nat.le_of_ble_eq_true rfl⟩ (Nat.le_of_ble_eq_true rfl) rfl (fun r1 mi1 mr1 h1 => ?_)
  obtain ⟨rfl, rfl, h1⟩ := h1
  have hno1 : rg r1 := by rw [h1]; unfold NSv; split; exact ⟨by decide, by decide⟩; split; exact ⟨by decide, by decide⟩; exact ⟨by decide, by decide⟩
  refine w_if_eq X 17 dX8_least_9 (by decide) (fun c9_1 => ?_) (fun c9_1 => ?_)
  ·
    have ho0 : 0 ≤ o := by omega
    have hSB := SO_s hS ho0
    have hcn := hSB.1
    have hin : ∀ b : Nat, (∀ j : Nat, j < 5 → m0 483 (5 * b + j) = 0 ∨ btz (m0 473 2) j = 1) ↔ ins5 set (BR m0 b) := fun b => by
      unfold ins5
      rw [← hset]
      exact ⟨fun q j hj => by rw [show F5 (BR m0 b) j = m0 483 (5 * b + j) from F5_T5 _ hj]; exact q j hj, fun q j hj => by have w := q j hj; rw [show F5 (BR m0 b) j = m0 483 (5 * b + j) from F5_T5 _ hj] at w; exact w⟩
    refine w_bipush X dX8_least_17 rfl ?_
    refine w_ist5_1 X dX8_least_19 ?_
    refine w_iconst X dX8_least_20 ?_
    refine w_ist5_2 X dX8_least_21 ?_
    have bloop : ∀ (n : Nat) (b : Nat) (r : Int) (x3 x4 : Option Value), ((b : Int) ≤ m0 473 16) → (LSn m0 set b r) → (r ≤ 1000) → n = 101 - b → WSi p l e s m args below meth c9 3 (fun r9 mi9 mr9 => (o < 0 ∧ r9 = o ∨ 0 ≤ o ∧ LSP L set o r9) ∧ MV L set H o mi9 ∧ (∀ a, a < 473 → mi9 a = mi a) ∧ mr = mr9) G n0 5 m0 mr 22 [some (.ref (n0 + 473)), some (.int (jI r)), some (.int (jI (b : Int))), x3, x4] [] := by
      intro n
      induction n using Nat.strongRecOn with
      | ind n ih_bloop =>
        intro b r x3 x4 hb hrl hrb hn
        have hr9 := LSn_b hrl
        refine w_iload_n X dX8_least_22 rfl ?_
        refine w_aload_n X dX8_least_23 rfl ?_
        refine w_get X (by decide) (σ_473 G n0 _ _) rfl gW_X8 16 (by decide) gF_X8_128 rfl dX8_least_24 ?_
        refine w_icmp_ge X 125 dX8_least_27 (by decide) (fun c27_2 => ?_) (fun c27_2 => ?_)
        ·
          refine w_iload_n X dX8_least_125 rfl ?_
          refine s_iret X hr dX8_least_126 ?_
          exact ⟨Or.inr ⟨ho0, LSn_P hSB (by rw [show (m0 473 16).toNat = b by omega]; exact hrl)⟩, hV1, hfr0, rfl⟩
        ·
          refine w_iconst X dX8_least_30 ?_
          refine w_ist5_3 X dX8_least_31 ?_
          refine w_iconst X dX8_least_32 ?_
          refine w_ist5_4 X dX8_least_33 ?_
          have iloop : ∀ (n : Nat) (i : Nat) (w3 : Int), (i ≤ 5) → (FLg w3 (fun j => m0 483 (5 * b + j) = 0 ∨ btz (m0 473 2) j = 1) i) → n = 5 - i → WSi p l e s m args below meth c9 3 (fun r9 mi9 mr9 => (o < 0 ∧ r9 = o ∨ 0 ≤ o ∧ LSP L set o r9) ∧ MV L set H o mi9 ∧ (∀ a, a < 473 → mi9 a = mi a) ∧ mr = mr9) G n0 5 m0 mr 35 [some (.ref (n0 + 473)), some (.int (jI r)), some (.int (jI (b : Int))), some (.int (jI w3)), some (.int (jI (i : Int)))] [] := by
            intro n
            induction n using Nat.strongRecOn with
            | ind n ih_iloop =>
              intro i w3 hi hf hn
              have hw3 := FL_b hf
              refine w_iload X dX8_least_35 rfl ?_
              refine w_iconst X dX8_least_37 ?_
              refine w_icmp_ge X 84 dX8_least_38 (by decide) (fun c38_3 => ?_) (fun c38_3 => ?_)
              ·
                refine w_aload_n X dX8_least_84 rfl ?_
                refine w_get X (by decide) (σ_473 G n0 _ _) rfl gW_X8 17 (by decide) gF_X8_44 rfl dX8_least_85 ?_
                refine w_iconst X dX8_least_88 ?_
                refine w_iload_n X dX8_least_89 rfl ?_
                refine w_imul X dX8_least_90 ?_
                refine s_callSi X _ (c_X8_sum (b := 5 * b) (l := l) (G := G) (n0 := n0) IA_483 (by decide) (by omega)) gM_X8_116 gT_yX8_sum gN_X8 gC_yX8_sum dX8_least_91 hl_yX8_sum ⟨Nat.le_of_ble_eq_true rfl, Nat.le_of_ble_eq_true rfl⟩ (Nat.le_of_ble_eq_true rfl) rfl (fun r2 mi2 mr2 h2 => ?_)
                obtain ⟨rfl, rfl, h2⟩ := h2
                have hsb : r2 = sm (BR m0 b) := by rw [h2]; rfl
                have hs0 : 0 ≤ sm (BR m0 b) := by have := ((hSB.2.2.1 (BR m0 b)).mpr ⟨b, by omega, rfl⟩).1; have := (Dk_z hA.1.1 _ this).2.2; omega
                have hs1k := hSB.2.2.2 b (by omega)
                refine w_ist5_4 X dX8_least_94 ?_
                refine w_iload_n X dX8_least_96 rfl ?_
                refine w_if_eq X 117 dX8_least_97 (by decide) (fun c97_4 => ?_) (fun c97_4 => ?_)
                ·
                  refine w_iload_n X dX8_least_117 rfl ?_
                  refine w_ist5_1 X dX8_least_118 ?_
                  refine w_iinc5_2 X dX8_least_119 ?_
                  refine w_goto X 22 dX8_least_122 (by decide) ?_
                  have h5 : i = 5 := by omega
                  subst h5
                  first
                  | exact ih_bloop _ (by omega) (b + 1) _ _ _ (by omega) (LSn_n hrl (fun w => flg_0 hf (by omega) ((hin b).mpr w))) (by omega) rfl
                  | exact ih_bloop _ (by omega) (b + 1) _ _ _ (by omega) (LSn_k hrl (by omega) (by omega)) (by omega) rfl
                ·
                  refine w_iload_n X dX8_least_100 rfl ?_
                  refine w_bipush X dX8_least_101 rfl ?_
                  refine w_icmp_eq X 112 dX8_least_103 (by decide) (fun c103_5 => ?_) (fun c103_5 => ?_)
                  ·
                    refine w_iload X dX8_least_112 rfl ?_
                    refine w_goto X 118 dX8_least_114 (by decide) ?_
                    refine w_ist5_1 X dX8_least_118 ?_
                    refine w_iinc5_2 X dX8_least_119 ?_
                    refine w_goto X 22 dX8_least_122 (by decide) ?_
                    have h5 : i = 5 := by omega
                    subst h5
                    exact ih_bloop _ (by omega) (b + 1) _ _ _ (by omega) (LSn_t hrl ((hin b).mp (flg_1 hf (by omega))) hsb (by omega) (by omega)) (by omega) rfl
                  ·
                    refine w_iload X dX8_least_106 rfl ?_
                    refine w_iload_n X dX8_least_108 rfl ?_
                    refine w_icmp_ge X 117 dX8_least_109 (by decide) (fun c109_6 => ?_) (fun c109_6 => ?_)
                    ·
                      refine w_iload_n X dX8_least_117 rfl ?_
                      refine w_ist5_1 X dX8_least_118 ?_
                      refine w_iinc5_2 X dX8_least_119 ?_
                      refine w_goto X 22 dX8_least_122 (by decide) ?_
                      have h5 : i = 5 := by omega
                      subst h5
                      first
                      | exact ih_bloop _ (by omega) (b + 1) _ _ _ (by omega) (LSn_n hrl (fun w => flg_0 hf (by omega) ((hin b).mpr w))) (by omega) rfl
                      | exact ih_bloop _ (by omega) (b + 1) _ _ _ (by omega) (LSn_k hrl (by omega) (by omega)) (by omega) rfl
                    ·
                      refine w_iload X dX8_least_112 rfl ?_
                      refine w_goto X 118 dX8_least_114 (by decide) ?_
                      refine w_ist5_1 X dX8_least_118 ?_
                      refine w_iinc5_2 X dX8_least_119 ?_
                      refine w_goto X 22 dX8_least_122 (by decide) ?_
                      have h5 : i = 5 := by omega
                      subst h5
                      exact ih_bloop _ (by omega) (b + 1) _ _ _ (by omega) (LSn_t hrl ((hin b).mp (flg_1 hf (by omega))) hsb (by omega) (by omega)) (by omega) rfl
              ·
                refine w_iload_n X dX8_least_41 rfl ?_
                refine w_if_eq X 76 dX8_least_42 (by decide) (fun c42_7 => ?_) (fun c42_7 => ?_)
                ·
                  refine w_iconst X dX8_least_76 ?_
                  refine w_ist5_3 X dX8_least_77 ?_
                  refine w_iinc5_4 X dX8_least_78 ?_
                  refine w_goto X 35 dX8_least_81 (by decide) ?_
                  first
                  | exact ih_iloop _ (by omega) (i + 1) 0 (by omega) (FL_k hf (by omega)) rfl
                  | exact ih_iloop _ (by omega) (i + 1) 0 (by omega) (FL_f (fun w => by unfold btz at w; rw [Int.toNat_natCast] at *; omega)) rfl
                ·
                  have q1 := (SB_rb hA.1.1 hSB (i := b) (by omega)).2 i (by omega)
                  refine w_aload_n X dX8_least_45 rfl ?_
                  refine w_get X (by decide) (σ_473 G n0 _ _) rfl gW_X8 17 (by decide) gF_X8_44 rfl dX8_least_46 ?_
                  refine w_iconst X dX8_least_49 ?_
                  refine w_iload_n X dX8_least_50 rfl ?_
                  refine w_imul X dX8_least_51 ?_
                  refine w_iload X dX8_least_52 rfl ?_
                  refine w_iadd X dX8_least_54 ?_
                  refine s_iald X ((5 * b + i)) (by decide) (fun _ => σ_m505 G n0 _ _ (by decide)) dX8_least_55 ?_
                  refine w_if_eq X 72 dX8_least_56 (by decide) (fun c56_8 => ?_) (fun c56_8 => ?_)
                  ·
                    refine w_iconst X dX8_least_72 ?_
                    refine w_goto X 77 dX8_least_73 (by decide) ?_
                    refine w_ist5_3 X dX8_least_77 ?_
                    refine w_iinc5_4 X dX8_least_78 ?_
                    refine w_goto X 35 dX8_least_81 (by decide) ?_
                    have q8 : m0 483 (5 * b + i) = 0 ∨ btz (m0 473 2) i = 1 := by
                      first
                      | (left; omega)
                      | (right; unfold btz; rw [Int.toNat_natCast] at *; omega)
                    exact ih_iloop _ (by omega) (i + 1) 1 (by omega) (FL_t hf (by omega) q8) rfl
                  ·
                    have hst2 : 1 ≤ m0 473 2 ∧ m0 473 2 < 32 := by rw [hset]; exact hset2
                    have hd0 := Int.ediv_nonneg (show 0 ≤ m0 473 2 by omega) (show (0:Int) ≤ 2 ^ (i : Int).toNat from Int.le_of_lt (Int.pow_pos (by decide)))
                    have hd1 := Int.ediv_le_self (2 ^ (i : Int).toNat) (show 0 ≤ m0 473 2 by omega)
                    refine w_aload_n X dX8_least_59 rfl ?_
                    refine w_get X (by decide) (σ_473 G n0 _ _) rfl gW_X8 2 (by decide) gF_X8_13 rfl dX8_least_60 ?_
                    refine w_iload X dX8_least_63 rfl ?_
                    refine w_ishr X dX8_least_65 ?_
                    refine w_iconst X dX8_least_66 ?_
                    refine w_iand1 X dX8_least_67 ?_
                    refine w_iconst X dX8_least_68 ?_
                    refine w_icmp_ne X 76 dX8_least_69 (by decide) (fun c69_9 => ?_) (fun c69_9 => ?_)
                    ·
                      refine w_iconst X dX8_least_76 ?_
                      refine w_ist5_3 X dX8_least_77 ?_
                      refine w_iinc5_4 X dX8_least_78 ?_
                      refine w_goto X 35 dX8_least_81 (by decide) ?_
                      first
                      | exact ih_iloop _ (by omega) (i + 1) 0 (by omega) (FL_k hf (by omega)) rfl
                      | exact ih_iloop _ (by omega) (i + 1) 0 (by omega) (FL_f (fun w => by unfold btz at w; rw [Int.toNat_natCast] at *; omega)) rfl
                    ·
                      refine w_iconst X dX8_least_72 ?_
                      refine w_goto X 77 dX8_least_73 (by decide) ?_
                      refine w_ist5_3 X dX8_least_77 ?_
                      refine w_iinc5_4 X dX8_least_78 ?_
                      refine w_goto X 35 dX8_least_81 (by decide) ?_
                      have q8 : m0 483 (5 * b + i) = 0 ∨ btz (m0 473 2) i = 1 := by
                        first
                        | (left; omega)
                        | (right; unfold btz; rw [Int.toNat_natCast] at *; omega)
                      exact ih_iloop _ (by omega) (i + 1) 1 (by omega) (FL_t hf (by omega) q8) rfl
          exact iloop _ 0 1 (by omega) FL_0 rfl
    exact bloop _ 0 (-9) _ _ (by omega) (Or.inl ⟨rfl, fun i hi => absurd hi (by omega)⟩) (by omega) rfl
  ·
    refine w_aload_n X dX8_least_12 rfl ?_
    refine s_callVi X _ (c_X8_noSearch (l := l) (G := G) (n0 := n0) hsr.1 hsr.2) gM_X8_138 gI_yX8_noSearch gS_yX8_noSearch gN_X8 gC_yX8_noSearch (by decide) (σ_473 G n0 _ _) rfl dX8_least_13 hl_yX8_noSearch ⟨Nat.le_of_ble_eq_true rfl, Nat.le_of_ble_eq_true rfl⟩ (Nat.le_of_ble_eq_true rfl) rfl (fun r2 mi2 mr2 h2 => ?_)
    obtain ⟨rfl, rfl, h2⟩ := h2
    refine s_iret X hr dX8_least_16 ?_
    exact ⟨Or.inl ⟨by omega, by omega⟩, hV1, hfr0, rfl⟩
