theorem dX8_need_0 : decode cX8_need 0 = .ok (.aload_n 0, 1) := by decide +kernel
theorem dX8_need_1 : decode cX8_need 1 = .ok (.iconst 0, 1) := by decide +kernel
theorem dX8_need_2 : decode cX8_need 2 = .ok (.putfield 73, 3) := by decide +kernel
theorem dX8_need_5 : decode cX8_need 5 = .ok (.aload_n 0, 1) := by decide +kernel
theorem dX8_need_6 : decode cX8_need 6 = .ok (.iload_n 1, 1) := by decide +kernel
theorem dX8_need_7 : decode cX8_need 7 = .ok (.invokevirtual 103, 3) := by decide +kernel
theorem dX8_need_10 : decode cX8_need 10 = .ok (.ifCond .ne 17, 3) := by decide +kernel
theorem dX8_need_13 : decode cX8_need 13 = .ok (.iload_n 2, 1) := by decide +kernel
theorem dX8_need_14 : decode cX8_need 14 = .ok (.bipush (-9), 2) := by decide +kernel
theorem dX8_need_16 : decode cX8_need 16 = .ok (.if_icmp .eq 13, 3) := by decide +kernel
theorem dX8_need_19 : decode cX8_need 19 = .ok (.aload_n 0, 1) := by decide +kernel
theorem dX8_need_20 : decode cX8_need 20 = .ok (.iload_n 2, 1) := by decide +kernel
theorem dX8_need_21 : decode cX8_need 21 = .ok (.invokevirtual 92, 3) := by decide +kernel
theorem dX8_need_24 : decode cX8_need 24 = .ok (.ifCond .eq 5, 3) := by decide +kernel
theorem dX8_need_27 : decode cX8_need 27 = .ok (.iconst (-1), 1) := by decide +kernel
theorem dX8_need_28 : decode cX8_need 28 = .ok (.ireturn, 1) := by decide +kernel
theorem dX8_need_29 : decode cX8_need 29 = .ok (.aload_n 0, 1) := by decide +kernel
theorem dX8_need_30 : decode cX8_need 30 = .ok (.getfield 35, 3) := by decide +kernel
theorem dX8_need_33 : decode cX8_need 33 = .ok (.iload_n 1, 1) := by decide +kernel
theorem dX8_need_34 : decode cX8_need 34 = .ok (.iaload, 1) := by decide +kernel
theorem dX8_need_35 : decode cX8_need 35 = .ok (.istore_n 3, 1) := by decide +kernel
theorem dX8_need_36 : decode cX8_need 36 = .ok (.aload_n 0, 1) := by decide +kernel
theorem dX8_need_37 : decode cX8_need 37 = .ok (.getfield 35, 3) := by decide +kernel
theorem dX8_need_40 : decode cX8_need 40 = .ok (.iload_n 1, 1) := by decide +kernel
theorem dX8_need_41 : decode cX8_need 41 = .ok (.iload_n 2, 1) := by decide +kernel
theorem dX8_need_42 : decode cX8_need 42 = .ok (.iastore, 1) := by decide +kernel
theorem dX8_need_43 : decode cX8_need 43 = .ok (.aload_n 0, 1) := by decide +kernel
theorem dX8_need_44 : decode cX8_need 44 = .ok (.iconst 0, 1) := by decide +kernel
theorem dX8_need_45 : decode cX8_need 45 = .ok (.putfield 88, 3) := by decide +kernel
theorem dX8_need_48 : decode cX8_need 48 = .ok (.iload_n 3, 1) := by decide +kernel
theorem dX8_need_49 : decode cX8_need 49 = .ok (.ireturn, 1) := by decide +kernel
theorem hl_yX8_need : (yX8_need.cls ≠ "java/lang/invoke/MethodHandle" ∧ yX8_need.cls ≠ "java/lang/invoke/VarHandle") ∧ (parseMethodDescriptor yX8_need.desc).map (fun d => d.parameters.length) = some 2 := by decide +kernel
set_option maxRecDepth 20000 in
set_option maxHeartbeats 4000000 in
theorem c_X8_need {l : Launch} {G : Gt} {n0 : Nat} {mi : Nat → Nat → Int} {mr : Nat → Nat → Nat} {L : Lws} {set : Int} {H : V5} {o : Int} (hA : AV L set H) (hV : MV L set H o mi) {i z : Int} (hi : rg i) (hz : rg z) : Ci l yX8_need cX8_need 4 .int 3 G n0 [.ref (n0 + 473), .int (jI i), .int (jI z)] mi mr (fun r9 mi9 mr9 => ((¬ ((0 ≤ i ∧ i < L.2.1) ∧ (z = -9 ∨ 0 ≤ z ∧ z < L.1)) ∧ r9 = -1 ∧ MV L set H o mi9) ∨ ((0 ≤ i ∧ i < L.2.1) ∧ (z = -9 ∨ 0 ≤ z ∧ z < L.1) ∧ r9 = L.2.2.2.1 i.toNat 7 ∧ ∀ ρ : Nat → Int, (∀ j : Nat, j ≠ 7 → ρ j = L.2.2.2.1 i.toNat j) → ρ 7 = z → MV (L.1, L.2.1, L.2.2.1, fun j => if j = i.toNat then ρ else L.2.2.2.1 j, L.2.2.2.2) set H (-3) mi9)) ∧ (∀ a, a < 473 → mi9 a = mi a) ∧ mr = mr9) := by
  refine Ct_of (by decide +kernel) (by intro v hv; simp at hv; rcases hv with rfl | rfl | rfl <;> rfl) (Nat.le_of_ble_eq_true rfl) ?_
  intro p e s m args below meth c9 X hr hname
  show WW _ _ _ _ _ _ _ _ _ _ _ _ _ _ _ _ _ _ _ [some (.ref (n0 + 473)), some (.int (jI i)), some (.int (jI z)), none] _
  refine w_aload_n X dX8_need_0 rfl ?_
  refine w_iconst X dX8_need_1 ?_
  refine w_put X (by decide) (σ_473 G n0 _ _) rfl gW_X8 tyX8 tyX8_ok nmX8 0 (by decide) gF_X8_73 rfl rfl rfl (Nat.le_of_ble_eq_true rfl) dX8_need_2 (WW.eqf (sp_473_0 _) ?_)
  have hV1 := MV_t hV
  have hfr0 : ∀ a, a < 473 → up2 mi 473 0 0 a = mi a := fun a ha => up2_k _ _ _ _ (by omega)
  generalize up2 mi 473 0 0 = m0 at *
  obtain ⟨hM, hset, hH, hS⟩ := id hV1
  have hM1 := hM.1
  have hM2 := hM.2.1
  have hM3 := hM.2.2.1
  have hsc : 1 ≤ m0 473 1 ∧ m0 473 1 ≤ 5 := by rw [hM1]; exact hA.1.1.1
  have hrc : 0 ≤ m0 473 3 ∧ m0 473 3 ≤ 12 := by rw [hM2]; exact hA.1.2.1
  have hset2 := hA.2.1
  refine w_aload_n X dX8_need_5 rfl ?_
  refine w_iload_n X dX8_need_6 rfl ?_
  refine s_callVi X _ (c_X8_noRule (l := l) (G := G) (n0 := n0) hrc (by first | assumption | (refine ⟨?_, ?_⟩ <;> omega))) gM_X8_103 gI_yX8_noRule gS_yX8_noRule gN_X8 gC_yX8_noRule (by decide) (σ_473 G n0 _ _) rfl dX8_need_7 hl_yX8_noRule ⟨Nat.le_of_ble_eq_true rfl, Nat.le_of_ble_eq_true rfl⟩ (Nat.le_of_ble_eq_true rfl) rfl (fun r1 mi1 mr1 h1 => ?_)
  obtain ⟨rfl, rfl, h1⟩ := h1
  refine w_if_ne X 27 dX8_need_10 (by decide) (fun c10_1 => ?_) (fun c10_1 => ?_)
  ·
    refine w_iconst X dX8_need_27 ?_
    refine s_iret X hr dX8_need_28 ?_
    exact ⟨Or.inl ⟨by rintro ⟨w1, w2⟩; omega, rfl, hV1⟩, hfr0, rfl⟩
  ·
    refine w_iload_n X dX8_need_13 rfl ?_
    refine w_bipush X dX8_need_14 rfl ?_
    refine w_icmp_eq X 29 dX8_need_16 (by decide) (fun c16_2 => ?_) (fun c16_2 => ?_)
    ·
      obtain ⟨k, rfl⟩ := Int.eq_ofNat_of_zero_le (show 0 ≤ i by omega)
      refine w_aload_n X dX8_need_29 rfl ?_
      refine w_get X (by decide) (σ_473 G n0 _ _) rfl gW_X8 10 (by decide) gF_X8_35 rfl dX8_need_30 ?_
      refine w_iload_n X dX8_need_33 rfl ?_
      refine s_iald X (k) (by decide) (fun _ => σ_m12 G n0 _ _ (by decide)) dX8_need_34 ?_
      refine w_ist4_3 X dX8_need_35 ?_
      refine w_aload_n X dX8_need_36 rfl ?_
      refine w_get X (by decide) (σ_473 G n0 _ _) rfl gW_X8 10 (by decide) gF_X8_35 rfl dX8_need_37 ?_
      refine w_iload_n X dX8_need_40 rfl ?_
      refine w_iload_n X dX8_need_41 rfl ?_
      refine s_iast X (k) (by decide) (fun _ => σ_m12 G n0 _ _ (by decide)) dX8_need_42 ?_
      refine w_aload_n X dX8_need_43 rfl ?_
      refine w_iconst X dX8_need_44 ?_
      refine w_put X (by decide) (σ_473 G n0 _ _) rfl gW_X8 tyX8 tyX8_ok nmX8 14 (by decide) gF_X8_88 rfl rfl rfl (Nat.le_of_ble_eq_true rfl) dX8_need_45 (WW.eqf (sp_473_14 _) ?_)
      refine w_iload_n X dX8_need_48 rfl ?_
      refine s_iret X hr dX8_need_49 ?_
      have g14 : up2 (up2 m0 480 k z) 473 14 0 473 14 = 0 := up2_s _ _ _ _
      have gj : ∀ j : Nat, j ≠ 14 → up2 (up2 m0 480 k z) 473 14 0 473 j = m0 473 j := fun j h1 => by rw [up2_j _ _ _ _ h1, up2_k _ _ _ _ (show (473 : Nat) ≠ 480 by decide)]
      have ga : ∀ a, a ≠ 473 → a ≠ 480 → up2 (up2 m0 480 k z) 473 14 0 a = m0 a := fun a h1 h2 => by rw [up2_k _ _ _ _ h1, up2_k _ _ _ _ h2]
      have gr : ∀ j : Nat, up2 (up2 m0 480 k z) 473 14 0 480 j = if j = k then z else m0 480 j := fun j => by simp [up2]
      generalize up2 (up2 m0 480 k z) 473 14 0 = m8 at *
      refine ⟨Or.inr ⟨by omega, by omega, (ML_rule hM (k := k) (by omega)).2.2.2.2.2.2, fun ρ hρ h7 => ⟨⟨by rw [gj 1 (by decide)]; exact hM1, by rw [gj 3 (by decide)]; exact hM2, by rw [gj 11 (by decide)]; exact hM3, fun j hj w w1 w2 => ?_, fun b hb i hi => by rw [ga 481 (by decide) (by decide)]; exact hM.2.2.2.2 b hb i hi⟩, by rw [gj 2 (by decide)]; exact hset, fun j hj => by rw [ga 482 (by decide) (by decide)]; exact hH j hj, Or.inl ⟨rfl, g14⟩⟩⟩, fun a ha => (ga a (by omega) (by omega)).trans (hfr0 a ha), rfl⟩
      show m8 (473 + w) j = (if j = k then ρ else L.2.2.2.1 j) w
      have hj2 : (j : Int) < L.2.1 := hj
      have hold := hM.2.2.2.1 j hj2 w w1 w2
      by_cases q : j = k
      · rw [if_pos q]
        by_cases q7 : w = 7
        · rw [q7, show 473 + 7 = 480 from rfl, gr j, if_pos q, h7]
        · rw [ga (473 + w) (by omega) (by omega), hold, q]; exact (hρ w q7).symm
      · rw [if_neg q]
        by_cases q7 : w = 7
        · rw [q7] at hold
          rw [q7, show 473 + 7 = 480 from rfl, gr j, if_neg q]; exact hold
        · rw [ga (473 + w) (by omega) (by omega)]; exact hold
    ·
      refine w_aload_n X dX8_need_19 rfl ?_
      refine w_iload_n X dX8_need_20 rfl ?_
      refine s_callVi X _ (c_X8_noState (l := l) (G := G) (n0 := n0) hsc (by first | assumption | (refine ⟨?_, ?_⟩ <;> omega))) gM_X8_92 gI_yX8_noState gS_yX8_noState gN_X8 gC_yX8_noState (by decide) (σ_473 G n0 _ _) rfl dX8_need_21 hl_yX8_noState ⟨Nat.le_of_ble_eq_true rfl, Nat.le_of_ble_eq_true rfl⟩ (Nat.le_of_ble_eq_true rfl) rfl (fun r2 mi2 mr2 h2 => ?_)
      obtain ⟨rfl, rfl, h2⟩ := h2
      refine w_if_eq X 29 dX8_need_24 (by decide) (fun c24_3 => ?_) (fun c24_3 => ?_)
      ·
        obtain ⟨k, rfl⟩ := Int.eq_ofNat_of_zero_le (show 0 ≤ i by omega)
        refine w_aload_n X dX8_need_29 rfl ?_
        refine w_get X (by decide) (σ_473 G n0 _ _) rfl gW_X8 10 (by decide) gF_X8_35 rfl dX8_need_30 ?_
        refine w_iload_n X dX8_need_33 rfl ?_
        refine s_iald X (k) (by decide) (fun _ => σ_m12 G n0 _ _ (by decide)) dX8_need_34 ?_
        refine w_ist4_3 X dX8_need_35 ?_
        refine w_aload_n X dX8_need_36 rfl ?_
        refine w_get X (by decide) (σ_473 G n0 _ _) rfl gW_X8 10 (by decide) gF_X8_35 rfl dX8_need_37 ?_
        refine w_iload_n X dX8_need_40 rfl ?_
        refine w_iload_n X dX8_need_41 rfl ?_
        refine s_iast X (k) (by decide) (fun _ => σ_m12 G n0 _ _ (by decide)) dX8_need_42 ?_
        refine w_aload_n X dX8_need_43 rfl ?_
        refine w_iconst X dX8_need_44 ?_
        refine w_put X (by decide) (σ_473 G n0 _ _) rfl gW_X8 tyX8 tyX8_ok nmX8 14 (by decide) gF_X8_88 rfl rfl rfl (Nat.le_of_ble_eq_true rfl) dX8_need_45 (WW.eqf (sp_473_14 _) ?_)
        refine w_iload_n X dX8_need_48 rfl ?_
        refine s_iret X hr dX8_need_49 ?_
        have g14 : up2 (up2 m0 480 k z) 473 14 0 473 14 = 0 := up2_s _ _ _ _
        have gj : ∀ j : Nat, j ≠ 14 → up2 (up2 m0 480 k z) 473 14 0 473 j = m0 473 j := fun j h1 => by rw [up2_j _ _ _ _ h1, up2_k _ _ _ _ (show (473 : Nat) ≠ 480 by decide)]
        have ga : ∀ a, a ≠ 473 → a ≠ 480 → up2 (up2 m0 480 k z) 473 14 0 a = m0 a := fun a h1 h2 => by rw [up2_k _ _ _ _ h1, up2_k _ _ _ _ h2]
        have gr : ∀ j : Nat, up2 (up2 m0 480 k z) 473 14 0 480 j = if j = k then z else m0 480 j := fun j => by simp [up2]
        generalize up2 (up2 m0 480 k z) 473 14 0 = m8 at *
        refine ⟨Or.inr ⟨by omega, by omega, (ML_rule hM (k := k) (by omega)).2.2.2.2.2.2, fun ρ hρ h7 => ⟨⟨by rw [gj 1 (by decide)]; exact hM1, by rw [gj 3 (by decide)]; exact hM2, by rw [gj 11 (by decide)]; exact hM3, fun j hj w w1 w2 => ?_, fun b hb i hi => by rw [ga 481 (by decide) (by decide)]; exact hM.2.2.2.2 b hb i hi⟩, by rw [gj 2 (by decide)]; exact hset, fun j hj => by rw [ga 482 (by decide) (by decide)]; exact hH j hj, Or.inl ⟨rfl, g14⟩⟩⟩, fun a ha => (ga a (by omega) (by omega)).trans (hfr0 a ha), rfl⟩
        show m8 (473 + w) j = (if j = k then ρ else L.2.2.2.1 j) w
        have hj2 : (j : Int) < L.2.1 := hj
        have hold := hM.2.2.2.1 j hj2 w w1 w2
        by_cases q : j = k
        · rw [if_pos q]
          by_cases q7 : w = 7
          · rw [q7, show 473 + 7 = 480 from rfl, gr j, if_pos q, h7]
          · rw [ga (473 + w) (by omega) (by omega), hold, q]; exact (hρ w q7).symm
        · rw [if_neg q]
          by_cases q7 : w = 7
          · rw [q7] at hold
            rw [q7, show 473 + 7 = 480 from rfl, gr j, if_neg q]; exact hold
          · rw [ga (473 + w) (by omega) (by omega)]; exact hold
      ·
        refine w_iconst X dX8_need_27 ?_
        refine s_iret X hr dX8_need_28 ?_
        exact ⟨Or.inl ⟨by rintro ⟨w1, w2⟩; omega, rfl, hV1⟩, hfr0, rfl⟩
theorem dX8_bad_0 : decode cX8_bad 0 = .ok (.aload_n 0, 1) := by decide +kernel
theorem dX8_bad_1 : decode cX8_bad 1 = .ok (.iconst 0, 1) := by decide +kernel
theorem dX8_bad_2 : decode cX8_bad 2 = .ok (.putfield 73, 3) := by decide +kernel
theorem dX8_bad_5 : decode cX8_bad 5 = .ok (.iload_n 1, 1) := by decide +kernel
theorem dX8_bad_6 : decode cX8_bad 6 = .ok (.iconst 1, 1) := by decide +kernel
theorem dX8_bad_7 : decode cX8_bad 7 = .ok (.if_icmp .lt 11, 3) := by decide +kernel
theorem dX8_bad_10 : decode cX8_bad 10 = .ok (.aload_n 0, 1) := by decide +kernel
theorem dX8_bad_11 : decode cX8_bad 11 = .ok (.iload_n 1, 1) := by decide +kernel
theorem dX8_bad_12 : decode cX8_bad 12 = .ok (.invokevirtual 100, 3) := by decide +kernel
theorem dX8_bad_15 : decode cX8_bad 15 = .ok (.ifCond .ne 6, 3) := by decide +kernel
theorem dX8_bad_18 : decode cX8_bad 18 = .ok (.bipush (-2), 2) := by decide +kernel
theorem dX8_bad_20 : decode cX8_bad 20 = .ok (.ireturn, 1) := by decide +kernel
theorem dX8_bad_21 : decode cX8_bad 21 = .ok (.aload_n 0, 1) := by decide +kernel
theorem dX8_bad_22 : decode cX8_bad 22 = .ok (.getfield 85, 3) := by decide +kernel
theorem dX8_bad_25 : decode cX8_bad 25 = .ok (.bipush 6, 2) := by decide +kernel
theorem dX8_bad_27 : decode cX8_bad 27 = .ok (.if_icmp .ne 6, 3) := by decide +kernel
theorem dX8_bad_30 : decode cX8_bad 30 = .ok (.bipush (-4), 2) := by decide +kernel
theorem dX8_bad_32 : decode cX8_bad 32 = .ok (.ireturn, 1) := by decide +kernel
theorem dX8_bad_33 : decode cX8_bad 33 = .ok (.iload_n 1, 1) := by decide +kernel
theorem dX8_bad_34 : decode cX8_bad 34 = .ok (.istore_n 2, 1) := by decide +kernel
theorem dX8_bad_35 : decode cX8_bad 35 = .ok (.iconst 0, 1) := by decide +kernel
theorem dX8_bad_36 : decode cX8_bad 36 = .ok (.istore_n 3, 1) := by decide +kernel
theorem dX8_bad_37 : decode cX8_bad 37 = .ok (.iload_n 3, 1) := by decide +kernel
theorem dX8_bad_38 : decode cX8_bad 38 = .ok (.iconst 5, 1) := by decide +kernel
theorem dX8_bad_39 : decode cX8_bad 39 = .ok (.if_icmp .ge 31, 3) := by decide +kernel
theorem dX8_bad_42 : decode cX8_bad 42 = .ok (.aload_n 0, 1) := by decide +kernel
theorem dX8_bad_43 : decode cX8_bad 43 = .ok (.getfield 38, 3) := by decide +kernel
theorem dX8_bad_46 : decode cX8_bad 46 = .ok (.iconst 5, 1) := by decide +kernel
theorem dX8_bad_47 : decode cX8_bad 47 = .ok (.aload_n 0, 1) := by decide +kernel
theorem dX8_bad_48 : decode cX8_bad 48 = .ok (.getfield 85, 3) := by decide +kernel
theorem dX8_bad_51 : decode cX8_bad 51 = .ok (.imul, 1) := by decide +kernel
theorem dX8_bad_52 : decode cX8_bad 52 = .ok (.iload_n 3, 1) := by decide +kernel
theorem dX8_bad_53 : decode cX8_bad 53 = .ok (.iadd, 1) := by decide +kernel
theorem dX8_bad_54 : decode cX8_bad 54 = .ok (.iload_n 2, 1) := by decide +kernel
theorem dX8_bad_55 : decode cX8_bad 55 = .ok (.bipush 10, 2) := by decide +kernel
theorem dX8_bad_57 : decode cX8_bad 57 = .ok (.irem, 1) := by decide +kernel
theorem dX8_bad_58 : decode cX8_bad 58 = .ok (.iastore, 1) := by decide +kernel
theorem dX8_bad_59 : decode cX8_bad 59 = .ok (.iload_n 2, 1) := by decide +kernel
theorem dX8_bad_60 : decode cX8_bad 60 = .ok (.bipush 10, 2) := by decide +kernel
theorem dX8_bad_62 : decode cX8_bad 62 = .ok (.idiv, 1) := by decide +kernel
theorem dX8_bad_63 : decode cX8_bad 63 = .ok (.istore_n 2, 1) := by decide +kernel
theorem dX8_bad_64 : decode cX8_bad 64 = .ok (.iinc 3 1, 3) := by decide +kernel
theorem dX8_bad_67 : decode cX8_bad 67 = .ok (.goto (-30), 3) := by decide +kernel
theorem dX8_bad_70 : decode cX8_bad 70 = .ok (.aload_n 0, 1) := by decide +kernel
theorem dX8_bad_71 : decode cX8_bad 71 = .ok (.dup, 1) := by decide +kernel
theorem dX8_bad_72 : decode cX8_bad 72 = .ok (.getfield 85, 3) := by decide +kernel
theorem dX8_bad_75 : decode cX8_bad 75 = .ok (.iconst 1, 1) := by decide +kernel
theorem dX8_bad_76 : decode cX8_bad 76 = .ok (.iadd, 1) := by decide +kernel
theorem dX8_bad_77 : decode cX8_bad 77 = .ok (.putfield 85, 3) := by decide +kernel
theorem dX8_bad_80 : decode cX8_bad 80 = .ok (.aload_n 0, 1) := by decide +kernel
theorem dX8_bad_81 : decode cX8_bad 81 = .ok (.iconst 0, 1) := by decide +kernel
theorem dX8_bad_82 : decode cX8_bad 82 = .ok (.putfield 88, 3) := by decide +kernel
theorem dX8_bad_85 : decode cX8_bad 85 = .ok (.aload_n 0, 1) := by decide +kernel
theorem dX8_bad_86 : decode cX8_bad 86 = .ok (.getfield 85, 3) := by decide +kernel
theorem dX8_bad_89 : decode cX8_bad 89 = .ok (.ireturn, 1) := by decide +kernel
theorem hl_yX8_bad : (yX8_bad.cls ≠ "java/lang/invoke/MethodHandle" ∧ yX8_bad.cls ≠ "java/lang/invoke/VarHandle") ∧ (parseMethodDescriptor yX8_bad.desc).map (fun d => d.parameters.length) = some 1 := by decide +kernel
set_option maxRecDepth 20000 in
set_option maxHeartbeats 4000000 in
theorem c_X8_bad {l : Launch} {G : Gt} {n0 : Nat} {mi : Nat → Nat → Int} {mr : Nat → Nat → Nat} {L : Lws} {set : Int} {H : V5} {o : Int} (hA : AV L set H) (hV : MV L set H o mi) {z : Int} (hz : rg z) : Ci l yX8_bad cX8_bad 4 .int 3 G n0 [.ref (n0 + 473), .int (jI z)] mi mr (fun r9 mi9 mr9 => ((¬ (1 ≤ z ∧ z < p10 L.1) ∧ r9 = -2 ∧ MV L set H o mi9) ∨ ((1 ≤ z ∧ z < p10 L.1) ∧ 6 ≤ L.2.2.1 ∧ r9 = -4 ∧ MV L set H o mi9) ∨ ((1 ≤ z ∧ z < p10 L.1) ∧ L.2.2.1 < 6 ∧ r9 = L.2.2.1 + 1 ∧ MV (L.1, L.2.1, L.2.2.1 + 1, L.2.2.2.1, fun b => if (b : Int) = L.2.2.1 then (T5 (fun j => z / 10 ^ j % 10)) else L.2.2.2.2 b) set H (-3) mi9)) ∧ (∀ a, a < 473 → mi9 a = mi a) ∧ mr = mr9) := by
  refine Ct_of (by decide +kernel) (by intro v hv; simp at hv; rcases hv with rfl | rfl <;> rfl) (Nat.le_of_ble_eq_true rfl) ?_
  intro p e s m args below meth c9 X hr hname
  show WW _ _ _ _ _ _ _ _ _ _ _ _ _ _ _ _ _ _ _ [some (.ref (n0 + 473)), some (.int (jI z)), none, none] _
  refine w_aload_n X dX8_bad_0 rfl ?_
  refine w_iconst X dX8_bad_1 ?_
  refine w_put X (by decide) (σ_473 G n0 _ _) rfl gW_X8 tyX8 tyX8_ok nmX8 0 (by decide) gF_X8_73 rfl rfl rfl (Nat.le_of_ble_eq_true rfl) dX8_bad_2 (WW.eqf (sp_473_0 _) ?_)
  have hV1 := MV_t hV
  have hfr0 : ∀ a, a < 473 → up2 mi 473 0 0 a = mi a := fun a ha => up2_k _ _ _ _ (by omega)
  generalize up2 mi 473 0 0 = m0 at *
  obtain ⟨hM, hset, hH, hS⟩ := id hV1
  have hM1 := hM.1
  have hM2 := hM.2.1
  have hM3 := hM.2.2.1
  have hsc : 1 ≤ m0 473 1 ∧ m0 473 1 ≤ 5 := by rw [hM1]; exact hA.1.1.1
  have hrc : 0 ≤ m0 473 3 ∧ m0 473 3 ≤ 12 := by rw [hM2]; exact hA.1.2.1
  have hset2 := hA.2.1
  have hbc := hA.1.2.2
  refine w_iload_n X dX8_bad_5 rfl ?_
  refine w_iconst X dX8_bad_6 ?_
  refine w_icmp_lt X 18 dX8_bad_7 (by decide) (fun c7_1 => ?_) (fun c7_1 => ?_)
  ·
    refine w_bipush X dX8_bad_18 rfl ?_
    refine s_iret X hr dX8_bad_20 ?_
    exact ⟨Or.inl ⟨by rw [← hM1]; omega, rfl, hV1⟩, hfr0, rfl⟩
  ·
    refine w_aload_n X dX8_bad_10 rfl ?_
    refine w_iload_n X dX8_bad_11 rfl ?_
    refine s_callVi X _ (c_X8_isShort (l := l) (G := G) (n0 := n0) hsc (by first | assumption | (refine ⟨?_, ?_⟩ <;> omega))) gM_X8_100 gI_yX8_isShort gS_yX8_isShort gN_X8 gC_yX8_isShort (by decide) (σ_473 G n0 _ _) rfl dX8_bad_12 hl_yX8_isShort ⟨Nat.le_of_ble_eq_true rfl, Nat.le_of_ble_eq_true rfl⟩ (Nat.le_of_ble_eq_true rfl) rfl (fun r1 mi1 mr1 h1 => ?_)
    obtain ⟨rfl, rfl, h1⟩ := h1
    refine w_if_ne X 21 dX8_bad_15 (by decide) (fun c15_2 => ?_) (fun c15_2 => ?_)
    ·
      refine w_aload_n X dX8_bad_21 rfl ?_
      refine w_get X (by decide) (σ_473 G n0 _ _) rfl gW_X8 11 (by decide) gF_X8_85 rfl dX8_bad_22 ?_
      refine w_bipush X dX8_bad_25 rfl ?_
      refine w_icmp_ne X 33 dX8_bad_27 (by decide) (fun c27_3 => ?_) (fun c27_3 => ?_)
      ·
        obtain ⟨b, hb⟩ := Int.eq_ofNat_of_zero_le (show 0 ≤ m0 473 11 by have := hA.1.2.2; omega)
        have hz1 : 1 ≤ z ∧ z < 100000 := by
          have w2 : z < p10 (m0 473 1) := by rcases h1 with ⟨q, q2⟩ | ⟨q, q2⟩; exact q2.2; omega
          refine ⟨by omega, ?_⟩
          unfold p10 at w2
          split at w2 <;> (try split at w2) <;> (try split at w2) <;> (try split at w2) <;> omega
        refine w_iload_n X dX8_bad_33 rfl ?_
        refine w_ist4_2 X dX8_bad_34 ?_
        refine w_iconst X dX8_bad_35 ?_
        refine w_ist4_3 X dX8_bad_36 ?_
        have loop : ∀ (n : Nat) (m1 : Nat → Nat → Int) (i : Nat) (x2 : Int), (i ≤ 5) → (x2 = z / 10 ^ i ∧ 0 ≤ x2 ∧ x2 < 100000) → (∀ a, a ≠ 481 → m1 a = m0 a) → (∀ j : Nat, m1 481 j = if 5 * b ≤ j ∧ j < 5 * b + i then z / 10 ^ (j - 5 * b) % 10 else m0 481 j) → n = 5 - i → WSi p l e s m args below meth c9 3 (fun r9 mi9 mr9 => ((¬ (1 ≤ z ∧ z < p10 L.1) ∧ r9 = -2 ∧ MV L set H o mi9) ∨ ((1 ≤ z ∧ z < p10 L.1) ∧ 6 ≤ L.2.2.1 ∧ r9 = -4 ∧ MV L set H o mi9) ∨ ((1 ≤ z ∧ z < p10 L.1) ∧ L.2.2.1 < 6 ∧ r9 = L.2.2.1 + 1 ∧ MV (L.1, L.2.1, L.2.2.1 + 1, L.2.2.2.1, fun b => if (b : Int) = L.2.2.1 then (T5 (fun j => z / 10 ^ j % 10)) else L.2.2.2.2 b) set H (-3) mi9)) ∧ (∀ a, a < 473 → mi9 a = mi a) ∧ mr = mr9) G n0 4 m1 mr 37 [some (.ref (n0 + 473)), some (.int (jI z)), some (.int (jI x2)), some (.int (jI (i : Int)))] [] := by
          intro n
          induction n using Nat.strongRecOn with
          | ind n ih_loop =>
            intro m1 i x2 hi hx hm hF hn
            refine w_iload_n X dX8_bad_37 rfl ?_
            refine w_iconst X dX8_bad_38 ?_
            refine w_icmp_ge X 70 dX8_bad_39 (by decide) (fun c39_4 => ?_) (fun c39_4 => ?_)
            ·
              have h5 : i = 5 := by omega
              subst h5
              have hb1 : m1 473 11 = (b : Int) := by rw [hm 473 (by decide)]; exact hb
              refine w_aload_n X dX8_bad_70 rfl ?_
              refine w_dup X dX8_bad_71 rfl ?_
              refine w_get X (by decide) (σ_473 G n0 _ _) rfl gW_X8 11 (by decide) gF_X8_85 rfl dX8_bad_72 ?_
              refine w_iconst X dX8_bad_75 ?_
              refine w_iadd X dX8_bad_76 ?_
              refine w_put X (by decide) (σ_473 G n0 _ _) rfl gW_X8 tyX8 tyX8_ok nmX8 11 (by decide) gF_X8_85 rfl rfl rfl (Nat.le_of_ble_eq_true rfl) dX8_bad_77 (WW.eqf (sp_473_11 _) ?_)
              refine w_aload_n X dX8_bad_80 rfl ?_
              refine w_iconst X dX8_bad_81 ?_
              refine w_put X (by decide) (σ_473 G n0 _ _) rfl gW_X8 tyX8 tyX8_ok nmX8 14 (by decide) gF_X8_88 rfl rfl rfl (Nat.le_of_ble_eq_true rfl) dX8_bad_82 (WW.eqf (sp_473_14 _) ?_)
              refine w_aload_n X dX8_bad_85 rfl ?_
              refine w_get X (by decide) (σ_473 G n0 _ _) rfl gW_X8 11 (by decide) gF_X8_85 rfl dX8_bad_86 ?_
              refine s_iret X hr dX8_bad_89 ?_
              have g14 : up2 (up2 m1 473 11 (m1 473 11 + 1)) 473 14 0 473 14 = 0 := up2_s _ _ _ _
              have g11 : up2 (up2 m1 473 11 (m1 473 11 + 1)) 473 14 0 473 11 = (b : Int) + 1 := by rw [up2_j _ _ _ _ (by decide), up2_s, hb1]
              have gj : ∀ j : Nat, j ≠ 14 → j ≠ 11 → up2 (up2 m1 473 11 (m1 473 11 + 1)) 473 14 0 473 j = m0 473 j := fun j h1 h2 => by rw [up2_j _ _ _ _ h1, up2_j _ _ _ _ h2, hm 473 (by decide)]
              have ga : ∀ a, a ≠ 473 → up2 (up2 m1 473 11 (m1 473 11 + 1)) 473 14 0 a = m1 a := fun a h1 => by rw [up2_k _ _ _ _ h1, up2_k _ _ _ _ h1]
              generalize up2 (up2 m1 473 11 (m1 473 11 + 1)) 473 14 0 = m8 at *
              refine ⟨Or.inr (Or.inr ⟨by rw [← hM1]; exact ⟨by omega, by omega⟩, by have := hA.1.2.2; omega, by omega, ⟨by rw [gj 1 (by decide) (by decide)]; exact hM1, by rw [gj 3 (by decide) (by decide)]; exact hM2, by rw [g11, ← hb, hM3], fun j hj w w1 w2 => by rw [ga (473 + w) (by omega), hm (473 + w) (by omega)]; exact hM.2.2.2.1 j hj w w1 w2, fun c hc i hi => ?_⟩, by rw [gj 2 (by decide) (by decide)]; exact hset, fun j hj => by rw [ga 482 (by decide), hm 482 (by decide)]; exact hH j hj, Or.inl ⟨rfl, g14⟩⟩), fun a ha => by rw [ga a (by omega), hm a (by omega)]; exact hfr0 a ha, rfl⟩
              show m8 481 (5 * c + i) = F5 (if (c : Int) = L.2.2.1 then (T5 (fun j => z / 10 ^ j % 10)) else L.2.2.2.2 c) i
              have hc2 : (c : Int) < L.2.2.1 + 1 := hc
              rw [ga 481 (by decide), hF]
              by_cases q : (c : Int) = L.2.2.1
              · have q2 : c = b := by omega
                rw [if_pos q, if_pos (by omega), F5_T5 _ hi, q2, show 5 * b + i - 5 * b = i by omega]
              · rw [if_neg q, if_neg (by omega)]
                exact hM.2.2.2.2 c (by omega) i hi
            ·
              refine w_aload_n X dX8_bad_42 rfl ?_
              refine w_get X (by decide) (σ_473 G n0 _ _) rfl gW_X8 12 (by decide) gF_X8_38 rfl dX8_bad_43 ?_
              refine w_iconst X dX8_bad_46 ?_
              refine w_aload_n X dX8_bad_47 rfl ?_
              refine w_get X (by decide) (σ_473 G n0 _ _) rfl gW_X8 11 (by decide) gF_X8_85 rfl dX8_bad_48 ?_
              rw [show m1 473 11 = (b : Int) by rw [hm 473 (by decide)]; exact hb]
              refine w_imul X dX8_bad_51 ?_
              refine w_iload_n X dX8_bad_52 rfl ?_
              refine w_iadd X dX8_bad_53 ?_
              refine w_iload_n X dX8_bad_54 rfl ?_
              refine w_bipush X dX8_bad_55 rfl ?_
              refine w_irem X dX8_bad_57 ?_
              refine s_iast X ((5 * b + i)) (by decide) (fun _ => σ_481 G n0 _ _) dX8_bad_58 ?_
              refine w_iload_n X dX8_bad_59 rfl ?_
              refine w_bipush X dX8_bad_60 rfl ?_
              refine w_idiv X dX8_bad_62 ?_
              refine w_ist4_2 X dX8_bad_63 ?_
              refine w_iinc4_3 X dX8_bad_64 ?_
              refine w_goto X 37 dX8_bad_67 (by decide) ?_
              have e8 : z / 10 ^ (i + 1) = x2 / 10 := by rw [Int.pow_succ, ← Int.ediv_ediv_of_nonneg (Int.le_of_lt (Int.pow_pos (by decide))), ← hx.1]
              refine ih_loop _ (by omega) _ (i + 1) _ (by omega) ⟨e8.symm, by omega, by omega⟩ (fun a ha => (up2_k _ _ _ _ ha).trans (hm a ha)) (fun j => ?_) rfl
              by_cases q : j = 5 * b + i
              · rw [q, up2_s, if_pos (by omega), show 5 * b + i - 5 * b = i by omega, ← hx.1]
              · rw [up2_j _ _ _ _ q, hF j]
                by_cases q2 : 5 * b ≤ j ∧ j < 5 * b + i
                · rw [if_pos q2, if_pos (by omega)]
                · rw [if_neg q2, if_neg (by omega)]
        exact loop _ m0 0 _ (by omega) ⟨by simp, by omega, by omega⟩ (fun a _ => rfl) (fun j => by rw [if_neg (by omega)]) rfl
      ·
        refine w_bipush X dX8_bad_30 rfl ?_
        refine s_iret X hr dX8_bad_32 ?_
        exact ⟨Or.inr (Or.inl ⟨by rw [← hM1]; exact ⟨by omega, by omega⟩, by omega, rfl, hV1⟩), hfr0, rfl⟩
    ·
      refine w_bipush X dX8_bad_18 rfl ?_
      refine s_iret X hr dX8_bad_20 ?_
      exact ⟨Or.inl ⟨by rw [← hM1]; omega, rfl, hV1⟩, hfr0, rfl⟩
theorem dX8_step_0 : decode cX8_step 0 = .ok (.aload_n 0, 1) := by decide +kernel
theorem dX8_step_1 : decode cX8_step 1 = .ok (.iconst 0, 1) := by decide +kernel
theorem dX8_step_2 : decode cX8_step 2 = .ok (.putfield 73, 3) := by decide +kernel
theorem dX8_step_5 : decode cX8_step 5 = .ok (.aload_n 0, 1) := by decide +kernel
theorem dX8_step_6 : decode cX8_step 6 = .ok (.iload_n 1, 1) := by decide +kernel
theorem dX8_step_7 : decode cX8_step 7 = .ok (.invokevirtual 103, 3) := by decide +kernel
theorem dX8_step_10 : decode cX8_step 10 = .ok (.ifCond .eq 5, 3) := by decide +kernel
theorem dX8_step_13 : decode cX8_step 13 = .ok (.iconst (-1), 1) := by decide +kernel
theorem dX8_step_14 : decode cX8_step 14 = .ok (.ireturn, 1) := by decide +kernel
theorem dX8_step_15 : decode cX8_step 15 = .ok (.aload_n 0, 1) := by decide +kernel
theorem dX8_step_16 : decode cX8_step 16 = .ok (.aload_n 0, 1) := by decide +kernel
theorem dX8_step_17 : decode cX8_step 17 = .ok (.getfield 41, 3) := by decide +kernel
theorem dX8_step_20 : decode cX8_step 20 = .ok (.iload_n 1, 1) := by decide +kernel
theorem dX8_step_21 : decode cX8_step 21 = .ok (.invokevirtual 106, 3) := by decide +kernel
theorem dX8_step_24 : decode cX8_step 24 = .ok (.ifCond .ne 6, 3) := by decide +kernel
theorem dX8_step_27 : decode cX8_step 27 = .ok (.bipush (-3), 2) := by decide +kernel
theorem dX8_step_29 : decode cX8_step 29 = .ok (.ireturn, 1) := by decide +kernel
theorem dX8_step_30 : decode cX8_step 30 = .ok (.aload_n 0, 1) := by decide +kernel
theorem dX8_step_31 : decode cX8_step 31 = .ok (.aload_n 0, 1) := by decide +kernel
theorem dX8_step_32 : decode cX8_step 32 = .ok (.getfield 41, 3) := by decide +kernel
theorem dX8_step_35 : decode cX8_step 35 = .ok (.iload_n 1, 1) := by decide +kernel
theorem dX8_step_36 : decode cX8_step 36 = .ok (.invokevirtual 120, 3) := by decide +kernel
theorem dX8_step_39 : decode cX8_step 39 = .ok (.iconst 0, 1) := by decide +kernel
theorem dX8_step_40 : decode cX8_step 40 = .ok (.istore_n 2, 1) := by decide +kernel
theorem dX8_step_41 : decode cX8_step 41 = .ok (.iload_n 2, 1) := by decide +kernel
theorem dX8_step_42 : decode cX8_step 42 = .ok (.iconst 5, 1) := by decide +kernel
theorem dX8_step_43 : decode cX8_step 43 = .ok (.if_icmp .ge 21, 3) := by decide +kernel
theorem dX8_step_46 : decode cX8_step 46 = .ok (.aload_n 0, 1) := by decide +kernel
theorem dX8_step_47 : decode cX8_step 47 = .ok (.getfield 41, 3) := by decide +kernel
theorem dX8_step_50 : decode cX8_step 50 = .ok (.iload_n 2, 1) := by decide +kernel
theorem dX8_step_51 : decode cX8_step 51 = .ok (.aload_n 0, 1) := by decide +kernel
theorem dX8_step_52 : decode cX8_step 52 = .ok (.getfield 56, 3) := by decide +kernel
theorem dX8_step_55 : decode cX8_step 55 = .ok (.iload_n 2, 1) := by decide +kernel
theorem dX8_step_56 : decode cX8_step 56 = .ok (.iaload, 1) := by decide +kernel
theorem dX8_step_57 : decode cX8_step 57 = .ok (.iastore, 1) := by decide +kernel
theorem dX8_step_58 : decode cX8_step 58 = .ok (.iinc 2 1, 3) := by decide +kernel
theorem dX8_step_61 : decode cX8_step 61 = .ok (.goto (-20), 3) := by decide +kernel
theorem dX8_step_64 : decode cX8_step 64 = .ok (.iconst 0, 1) := by decide +kernel
theorem dX8_step_65 : decode cX8_step 65 = .ok (.istore_n 2, 1) := by decide +kernel
theorem dX8_step_66 : decode cX8_step 66 = .ok (.iconst 0, 1) := by decide +kernel
theorem dX8_step_67 : decode cX8_step 67 = .ok (.istore_n 3, 1) := by decide +kernel
theorem dX8_step_68 : decode cX8_step 68 = .ok (.iload_n 3, 1) := by decide +kernel
theorem dX8_step_69 : decode cX8_step 69 = .ok (.aload_n 0, 1) := by decide +kernel
theorem dX8_step_70 : decode cX8_step 70 = .ok (.getfield 80, 3) := by decide +kernel
theorem dX8_step_73 : decode cX8_step 73 = .ok (.if_icmp .ge 29, 3) := by decide +kernel
theorem dX8_step_76 : decode cX8_step 76 = .ok (.iload_n 2, 1) := by decide +kernel
theorem dX8_step_77 : decode cX8_step 77 = .ok (.aload_n 0, 1) := by decide +kernel
theorem dX8_step_78 : decode cX8_step 78 = .ok (.aload_n 0, 1) := by decide +kernel
theorem dX8_step_79 : decode cX8_step 79 = .ok (.getfield 41, 3) := by decide +kernel
theorem dX8_step_82 : decode cX8_step 82 = .ok (.iload_n 3, 1) := by decide +kernel
theorem dX8_step_83 : decode cX8_step 83 = .ok (.invokevirtual 106, 3) := by decide +kernel
theorem dX8_step_86 : decode cX8_step 86 = .ok (.ifCond .eq 7, 3) := by decide +kernel
theorem dX8_step_89 : decode cX8_step 89 = .ok (.iconst 1, 1) := by decide +kernel
theorem dX8_step_90 : decode cX8_step 90 = .ok (.goto 4, 3) := by decide +kernel
theorem dX8_step_93 : decode cX8_step 93 = .ok (.iconst 0, 1) := by decide +kernel
theorem dX8_step_94 : decode cX8_step 94 = .ok (.iadd, 1) := by decide +kernel
theorem dX8_step_95 : decode cX8_step 95 = .ok (.istore_n 2, 1) := by decide +kernel
theorem dX8_step_96 : decode cX8_step 96 = .ok (.iinc 3 1, 3) := by decide +kernel
theorem dX8_step_99 : decode cX8_step 99 = .ok (.goto (-31), 3) := by decide +kernel
theorem dX8_step_102 : decode cX8_step 102 = .ok (.iload_n 2, 1) := by decide +kernel
theorem dX8_step_103 : decode cX8_step 103 = .ok (.ireturn, 1) := by decide +kernel
theorem hl_yX8_step : (yX8_step.cls ≠ "java/lang/invoke/MethodHandle" ∧ yX8_step.cls ≠ "java/lang/invoke/VarHandle") ∧ (parseMethodDescriptor yX8_step.desc).map (fun d => d.parameters.length) = some 1 := by decide +kernel
set_option maxRecDepth 20000 in
set_option maxHeartbeats 4000000 in
theorem c_X8_step {l : Launch} {G : Gt} {n0 : Nat} {mi : Nat → Nat → Int} {mr : Nat → Nat → Nat} {L : Lws} {set : Int} {H : V5} {o : Int} (hA : AV L set H) (hV : MV L set H o mi) {z : Int} (hz : rg z) : Ci l yX8_step cX8_step 4 .int 4 G n0 [.ref (n0 + 473), .int (jI z)] mi mr (fun r9 mi9 mr9 => ((¬ (0 ≤ z ∧ z < L.2.1) ∧ r9 = -1 ∧ MV L set H o mi9) ∨ ((0 ≤ z ∧ z < L.2.1) ∧ ¬ fit (L.2.2.2.1 z.toNat) (F5 H) ∧ r9 = -3 ∧ MV L set H o mi9) ∨ ((0 ≤ z ∧ z < L.2.1) ∧ fit (L.2.2.2.1 z.toNat) (F5 H) ∧ r9 = cnt (fun j => fit (L.2.2.2.1 j) (F5 (T5 (led (L.2.2.2.1 z.toNat) (F5 H))))) L.2.1.toNat ∧ MV L set (T5 (led (L.2.2.2.1 z.toNat) (F5 H))) o mi9)) ∧ (∀ a, a < 473 → mi9 a = mi a) ∧ mr = mr9) := by
  refine Ct_of (by decide +kernel) (by intro v hv; simp at hv; rcases hv with rfl | rfl <;> rfl) (Nat.le_of_ble_eq_true rfl) ?_
  intro p e s m args below meth c9 X hr hname
  show WW _ _ _ _ _ _ _ _ _ _ _ _ _ _ _ _ _ _ _ [some (.ref (n0 + 473)), some (.int (jI z)), none, none] _
  refine w_aload_n X dX8_step_0 rfl ?_
  refine w_iconst X dX8_step_1 ?_
  refine w_put X (by decide) (σ_473 G n0 _ _) rfl gW_X8 tyX8 tyX8_ok nmX8 0 (by decide) gF_X8_73 rfl rfl rfl (Nat.le_of_ble_eq_true rfl) dX8_step_2 (WW.eqf (sp_473_0 _) ?_)
  have hV1 := MV_t hV
  have hfr0 : ∀ a, a < 473 → up2 mi 473 0 0 a = mi a := fun a ha => up2_k _ _ _ _ (by omega)
  generalize up2 mi 473 0 0 = m0 at *
  obtain ⟨hM, hset, hH, hS⟩ := id hV1
  have hM1 := hM.1
  have hM2 := hM.2.1
  have hM3 := hM.2.2.1
  have hsc : 1 ≤ m0 473 1 ∧ m0 473 1 ≤ 5 := by rw [hM1]; exact hA.1.1.1
  have hrc : 0 ≤ m0 473 3 ∧ m0 473 3 ≤ 12 := by rw [hM2]; exact hA.1.2.1
  have hset2 := hA.2.1
  refine w_aload_n X dX8_step_5 rfl ?_
  refine w_iload_n X dX8_step_6 rfl ?_
  refine s_callVi X _ (c_X8_noRule (l := l) (G := G) (n0 := n0) hrc (by first | assumption | (refine ⟨?_, ?_⟩ <;> omega))) gM_X8_103 gI_yX8_noRule gS_yX8_noRule gN_X8 gC_yX8_noRule (by decide) (σ_473 G n0 _ _) rfl dX8_step_7 hl_yX8_noRule ⟨Nat.le_of_ble_eq_true rfl, Nat.le_of_ble_eq_true rfl⟩ (Nat.le_of_ble_eq_true rfl) rfl (fun r1 mi1 mr1 h1 => ?_)
  obtain ⟨rfl, rfl, h1⟩ := h1
  refine w_if_eq X 15 dX8_step_10 (by decide) (fun c10_1 => ?_) (fun c10_1 => ?_)
  ·
    obtain ⟨k, rfl⟩ := Int.eq_ofNat_of_zero_le (show 0 ≤ z by omega)
    have hhb : ∀ j : Nat, j < 5 → 0 ≤ m0 482 j ∧ m0 482 j ≤ 1000 := fun j hj => by have := AV_h hA hj; rw [hH j hj]; omega
    have hff := fit_c (ρ := L.2.2.2.1 k) (f := m0 482) (g := F5 H) hH
    refine w_aload_n X dX8_step_15 rfl ?_
    refine w_aload_n X dX8_step_16 rfl ?_
    refine w_get X (by decide) (σ_473 G n0 _ _) rfl gW_X8 13 (by decide) gF_X8_41 rfl dX8_step_17 ?_
    refine w_iload_n X dX8_step_20 rfl ?_
    refine s_callVi X _ (c_X8_leaves (l := l) (G := G) (n0 := n0) hA.1 hM IA_482 (by decide) hhb (k := k) (by omega)) gM_X8_106 gI_yX8_leaves gS_yX8_leaves gN_X8 gC_yX8_leaves (by decide) (σ_473 G n0 _ _) rfl dX8_step_21 hl_yX8_leaves ⟨Nat.le_of_ble_eq_true rfl, Nat.le_of_ble_eq_true rfl⟩ (Nat.le_of_ble_eq_true rfl) rfl (fun r2 mi2 mr2 h2 => ?_)
    obtain ⟨hg2, hF2, hm2, rfl⟩ := h2
    have hb2 := flg_b hg2
    refine w_if_ne X 30 dX8_step_24 (by decide) (fun c24_2 => ?_) (fun c24_2 => ?_)
    ·
      have hfit : fit (L.2.2.2.1 k) (mi2 482) := by rw [hm2 482 (by decide)]; exact flg_1 hg2 (by omega)
      have hV2 := MV_486 hV1 (fun a _ h _ => hm2 a h)
      have hM2x := hV2.1
      have hhb2 : ∀ j : Nat, j < 5 → 0 ≤ mi2 482 j ∧ mi2 482 j ≤ 1000 := fun j hj => by rw [hm2 482 (by decide)]; exact hhb j hj
      refine w_aload_n X dX8_step_30 rfl ?_
      refine w_aload_n X dX8_step_31 rfl ?_
      refine w_get X (by decide) (σ_473 G n0 _ _) rfl gW_X8 13 (by decide) gF_X8_41 rfl dX8_step_32 ?_
      refine w_iload_n X dX8_step_35 rfl ?_
      refine s_callVv X _ (c_X8_goBy (l := l) (G := G) (n0 := n0) hA.1 hM2x IA_482 (by decide) hhb2 (k := k) (by omega) (by decide) hfit) gM_X8_120 gI_yX8_goBy gS_yX8_goBy gN_X8 gC_yX8_goBy (by decide) (σ_473 G n0 _ _) rfl dX8_step_36 hl_yX8_goBy ⟨Nat.le_of_ble_eq_true rfl, Nat.le_of_ble_eq_true rfl⟩ (Nat.le_of_ble_eq_true rfl) rfl (fun mi3 mr3 h3 => ?_)
      obtain ⟨hF3, hm3, rfl⟩ := h3
      refine w_iconst X dX8_step_39 ?_
      refine w_ist4_2 X dX8_step_40 ?_
      have copy : ∀ (n : Nat) (m1 : Nat → Nat → Int) (i : Nat) (x3 : Option Value), (i ≤ 5) → (∀ b, b ≠ 482 → m1 b = mi3 b) → (∀ j : Nat, j < i → m1 482 j = mi3 487 j) → n = 5 - i → WSi p l e s m args below meth c9 4 (fun r9 mi9 mr9 => ((¬ (0 ≤ (k : Int) ∧ (k : Int) < L.2.1) ∧ r9 = -1 ∧ MV L set H o mi9) ∨ ((0 ≤ (k : Int) ∧ (k : Int) < L.2.1) ∧ ¬ fit (L.2.2.2.1 (k : Int).toNat) (F5 H) ∧ r9 = -3 ∧ MV L set H o mi9) ∨ ((0 ≤ (k : Int) ∧ (k : Int) < L.2.1) ∧ fit (L.2.2.2.1 (k : Int).toNat) (F5 H) ∧ r9 = cnt (fun j => fit (L.2.2.2.1 j) (F5 (T5 (led (L.2.2.2.1 (k : Int).toNat) (F5 H))))) L.2.1.toNat ∧ MV L set (T5 (led (L.2.2.2.1 (k : Int).toNat) (F5 H))) o mi9)) ∧ (∀ a, a < 473 → mi9 a = mi a) ∧ mr = mr9) G n0 4 m1 mr 41 [some (.ref (n0 + 473)), some (.int (jI (k : Int))), some (.int (jI (i : Int))), x3] [] := by
        intro n
        induction n using Nat.strongRecOn with
        | ind n ih_copy =>
          intro m1 i x3 hi hm hF hn
          refine w_iload_n X dX8_step_41 rfl ?_
          refine w_iconst X dX8_step_42 ?_
          refine w_icmp_ge X 64 dX8_step_43 (by decide) (fun c43_3 => ?_) (fun c43_3 => ?_)
          ·
            have h5 : i = 5 := by omega
            subst h5
            have hm1a : ∀ b, b ≠ 482 → b ≠ 486 → b ≠ 487 → m1 b = m0 b := fun b h1 h2 h3 => by rw [hm b h1, hm3 b h2 h3, hm2 b h2]
            have h482 : ∀ j : Nat, j < 5 → m1 482 j = F5 (T5 (led (L.2.2.2.1 k) (F5 H))) j := fun j hj => by rw [hF j hj, hF3 j hj, F5_T5 _ hj]; exact led_c (fun a ha => by rw [hm2 482 (by decide)]; exact hH a ha) j
            have hRk := hA.1.1.2.1 k (by omega)
            have hfitH : fit (L.2.2.2.1 k) (F5 H) := hff.mp (flg_1 hg2 (by omega))
            have hcr := led_cro hRk hA.2.2.1 hfitH
            have hVn : MV L set (T5 (led (L.2.2.2.1 k) (F5 H))) o m1 := ⟨ML_fr hM (by rw [hm1a 473 (by decide) (by decide) (by decide)]) (by rw [hm1a 473 (by decide) (by decide) (by decide)]) (by rw [hm1a 473 (by decide) (by decide) (by decide)]) (fun a h1 h2 => hm1a a (by omega) (by omega) (by omega)), by rw [hm1a 473 (by decide) (by decide) (by decide)]; exact hset, h482, SO_fr hS (by rw [hm1a 473 (by decide) (by decide) (by decide)]) (by rw [hm1a 473 (by decide) (by decide) (by decide)]) (by rw [hm1a 473 (by decide) (by decide) (by decide)]) (hm1a 483 (by decide) (by decide) (by decide))⟩
            have hAn : AV L set (T5 (led (L.2.2.2.1 k) (F5 H))) := ⟨hA.1, hA.2.1, by rw [hcr.2.2]; exact hcr, by rw [hcr.2.2]; exact hA.2.2.2⟩
            refine w_iconst X dX8_step_64 ?_
            refine w_ist4_2 X dX8_step_65 ?_
            refine w_iconst X dX8_step_66 ?_
            refine w_ist4_3 X dX8_step_67 ?_
            have loop : ∀ (n : Nat) (m2 : Nat → Nat → Int) (x : Nat) (t : Int), ((x : Int) ≤ L.2.1) → (0 ≤ t ∧ t ≤ 12 ∧ t = cnt (fun j => fit (L.2.2.2.1 j) (F5 (T5 (led (L.2.2.2.1 k) (F5 H))))) x) → (∀ b, b ≠ 486 → m2 b = m1 b) → n = 12 - x → WSi p l e s m args below meth c9 4 (fun r9 mi9 mr9 => ((¬ (0 ≤ (k : Int) ∧ (k : Int) < L.2.1) ∧ r9 = -1 ∧ MV L set H o mi9) ∨ ((0 ≤ (k : Int) ∧ (k : Int) < L.2.1) ∧ ¬ fit (L.2.2.2.1 (k : Int).toNat) (F5 H) ∧ r9 = -3 ∧ MV L set H o mi9) ∨ ((0 ≤ (k : Int) ∧ (k : Int) < L.2.1) ∧ fit (L.2.2.2.1 (k : Int).toNat) (F5 H) ∧ r9 = cnt (fun j => fit (L.2.2.2.1 j) (F5 (T5 (led (L.2.2.2.1 (k : Int).toNat) (F5 H))))) L.2.1.toNat ∧ MV L set (T5 (led (L.2.2.2.1 (k : Int).toNat) (F5 H))) o mi9)) ∧ (∀ a, a < 473 → mi9 a = mi a) ∧ mr = mr9) G n0 4 m2 mr 68 [some (.ref (n0 + 473)), some (.int (jI (k : Int))), some (.int (jI t)), some (.int (jI (x : Int)))] [] := by
              intro n
              induction n using Nat.strongRecOn with
              | ind n ih_loop =>
                intro m2 x t hx ht hmx hn
                refine w_iload_n X dX8_step_68 rfl ?_
                refine w_aload_n X dX8_step_69 rfl ?_
                refine w_get X (by decide) (σ_473 G n0 _ _) rfl gW_X8 3 (by decide) gF_X8_80 rfl dX8_step_70 ?_
                rw [show m2 473 3 = L.2.1 by rw [hmx 473 (by decide), hm1a 473 (by decide) (by decide) (by decide)]; exact hM2]
                have hrc12 := hA.1.2.1
                refine w_icmp_ge X 102 dX8_step_73 (by decide) (fun c73_4 => ?_) (fun c73_4 => ?_)
                ·
                  refine w_iload_n X dX8_step_102 rfl ?_
                  refine s_iret X hr dX8_step_103 ?_
                  refine ⟨Or.inr (Or.inr ⟨by omega, hfitH, ?_, MV_486 hVn (fun a _ h _ => hmx a h)⟩), fun a ha => by rw [hmx a (by omega), hm1a a (by omega) (by omega) (by omega)]; exact hfr0 a ha, rfl⟩
                  rw [ht.2.2, show L.2.1.toNat = x by omega]; rfl
                ·
                  have hMx : ML L m2 := ML_fr hVn.1 (by rw [hmx 473 (by decide)]) (by rw [hmx 473 (by decide)]) (by rw [hmx 473 (by decide)]) (fun a h1 h2 => hmx a (by omega))
                  have hhx : ∀ j : Nat, j < 5 → 0 ≤ m2 482 j ∧ m2 482 j ≤ 1000 := fun j hj => by rw [hmx 482 (by decide), h482 j hj]; have := AV_h hAn hj; omega
                  refine w_iload_n X dX8_step_76 rfl ?_
                  refine w_aload_n X dX8_step_77 rfl ?_
                  refine w_aload_n X dX8_step_78 rfl ?_
                  refine w_get X (by decide) (σ_473 G n0 _ _) rfl gW_X8 13 (by decide) gF_X8_41 rfl dX8_step_79 ?_
                  refine w_iload_n X dX8_step_82 rfl ?_
                  refine s_callVi X _ (c_X8_leaves (l := l) (G := G) (n0 := n0) hA.1 hMx IA_482 (by decide) hhx (k := x) (by omega)) gM_X8_106 gI_yX8_leaves gS_yX8_leaves gN_X8 gC_yX8_leaves (by decide) (σ_473 G n0 _ _) rfl dX8_step_83 hl_yX8_leaves ⟨Nat.le_of_ble_eq_true rfl, Nat.le_of_ble_eq_true rfl⟩ (Nat.le_of_ble_eq_true rfl) rfl (fun r4 mi4 mr4 h4 => ?_)
                  obtain ⟨hg5, hF5, hm5, rfl⟩ := h4
                  have hb5 := flg_b hg5
                  refine w_if_eq X 93 dX8_step_86 (by decide) (fun c86_5 => ?_) (fun c86_5 => ?_)
                  ·
                    refine w_iconst X dX8_step_93 ?_
                    refine w_iadd X dX8_step_94 ?_
                    refine w_ist4_2 X dX8_step_95 ?_
                    refine w_iinc4_3 X dX8_step_96 ?_
                    refine w_goto X 68 dX8_step_99 (by decide) ?_
                    have hffx := fit_c (ρ := L.2.2.2.1 x) (f := m2 482) (g := F5 (T5 (led (L.2.2.2.1 k) (F5 H)))) (fun j hj => by rw [hmx 482 (by decide)]; exact h482 j hj)
                    have hcb := cnt_b (fun j => fit (L.2.2.2.1 j) (F5 (T5 (led (L.2.2.2.1 k) (F5 H))))) (x + 1)
                    have hct := cnt_f (P := fun j => fit (L.2.2.2.1 j) (F5 (T5 (led (L.2.2.2.1 k) (F5 H))))) (n := x) (fun w => flg_0 hg5 (by omega) (hffx.mpr w))
                    exact ih_loop _ (by omega) _ (x + 1) _ (by omega) ⟨by omega, by omega, by omega⟩ (fun b hb => (hm5 b hb).trans (hmx b hb)) rfl
                  ·
                    refine w_iconst X dX8_step_89 ?_
                    refine w_goto X 94 dX8_step_90 (by decide) ?_
                    refine w_iadd X dX8_step_94 ?_
                    refine w_ist4_2 X dX8_step_95 ?_
                    refine w_iinc4_3 X dX8_step_96 ?_
                    refine w_goto X 68 dX8_step_99 (by decide) ?_
                    have hffx := fit_c (ρ := L.2.2.2.1 x) (f := m2 482) (g := F5 (T5 (led (L.2.2.2.1 k) (F5 H)))) (fun j hj => by rw [hmx 482 (by decide)]; exact h482 j hj)
                    have hcb := cnt_b (fun j => fit (L.2.2.2.1 j) (F5 (T5 (led (L.2.2.2.1 k) (F5 H))))) (x + 1)
                    have hct := cnt_t (P := fun j => fit (L.2.2.2.1 j) (F5 (T5 (led (L.2.2.2.1 k) (F5 H))))) (n := x) (hffx.mp (flg_1 hg5 (by omega)))
                    exact ih_loop _ (by omega) _ (x + 1) _ (by omega) ⟨by omega, by omega, by omega⟩ (fun b hb => (hm5 b hb).trans (hmx b hb)) rfl
            exact loop _ m1 0 0 (by have := hA.1.2.1; omega) ⟨by decide, by decide, rfl⟩ (fun b _ => rfl) rfl
          ·
            refine w_aload_n X dX8_step_46 rfl ?_
            refine w_get X (by decide) (σ_473 G n0 _ _) rfl gW_X8 13 (by decide) gF_X8_41 rfl dX8_step_47 ?_
            refine w_iload_n X dX8_step_50 rfl ?_
            refine w_aload_n X dX8_step_51 rfl ?_
            refine w_get X (by decide) (σ_473 G n0 _ _) rfl gW_X8 22 (by decide) gF_X8_56 rfl dX8_step_52 ?_
            refine w_iload_n X dX8_step_55 rfl ?_
            refine s_iald X (i) (by decide) (fun _ => σ_m5 G n0 _ _ (by decide)) dX8_step_56 ?_
            refine s_iast X (i) (by decide) (fun _ => σ_m5 G n0 _ _ (by decide)) dX8_step_57 ?_
            refine w_iinc4_2 X dX8_step_58 ?_
            refine w_goto X 41 dX8_step_61 (by decide) ?_
            rw [hm 487 (by decide)]
            exact ih_copy _ (by omega) _ (i + 1) _ (by omega) (fun b hb => (up2_k _ _ _ _ hb).trans (hm b hb)) (fun j hj => by
              rcases (show j < i ∨ j = i by omega) with q | q
              · rw [up2_j _ _ _ _ (by omega)]; exact hF j q
              · subst q; rw [up2_s]) rfl
      exact copy _ mi3 0 none (by omega) (fun b _ => rfl) (fun j hj => absurd hj (by omega)) rfl
    ·
      refine w_bipush X dX8_step_27 rfl ?_
      refine s_iret X hr dX8_step_29 ?_
      exact ⟨Or.inr (Or.inl ⟨by omega, fun w => flg_0 hg2 (by omega) (hff.mpr w), rfl, MV_486 hV1 (fun a _ h _ => hm2 a h)⟩), fun a ha => (hm2 a (by omega)).trans (hfr0 a ha), rfl⟩
  ·
    refine w_iconst X dX8_step_13 ?_
    refine s_iret X hr dX8_step_14 ?_
    exact ⟨Or.inl ⟨by omega, rfl, hV1⟩, hfr0, rfl⟩
