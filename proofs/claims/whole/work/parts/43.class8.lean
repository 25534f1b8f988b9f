theorem bad_d {sc z : Int} (hs : 1 ≤ sc ∧ sc ≤ 5) (hz : 1 ≤ z ∧ z < p10 sc) : zf sc (F5 (T5 (fun j => z / 10 ^ j % 10))) ∧ (∀ j : Nat, j < 5 → 0 ≤ F5 (T5 (fun j => z / 10 ^ j % 10)) j) ∧ 1 ≤ sm (T5 (fun j => z / 10 ^ j % 10)) ∧ sm (T5 (fun j => z / 10 ^ j % 10)) ≤ 45 := by
  obtain ⟨h1, h2⟩ := hz
  have e : sm (T5 (fun j => z / 10 ^ j % 10)) = z / 1 % 10 + z / 10 % 10 + z / 100 % 10 + z / 1000 % 10 + z / 10000 % 10 := rfl
  refine ⟨fun j hj hj2 => ?_, fun j hj => ?_, ?_⟩
  · rw [F5_T5 _ hj]
    unfold p10 at h2
    rcases (show j = 0 ∨ j = 1 ∨ j = 2 ∨ j = 3 ∨ j = 4 by omega) with rfl | rfl | rfl | rfl | rfl
    · omega
    · show z / 10 % 10 = 0; rw [if_pos (by omega)] at h2; omega
    · show z / 100 % 10 = 0; split at h2 <;> (try split at h2) <;> omega
    · show z / 1000 % 10 = 0; split at h2 <;> (try split at h2) <;> (try split at h2) <;> omega
    · show z / 10000 % 10 = 0; split at h2 <;> (try split at h2) <;> (try split at h2) <;> (try split at h2) <;> omega
  · rw [F5_T5 _ hj]; exact Int.emod_nonneg _ (by decide)
  · have h3 : z < 100000 := by
      unfold p10 at h2
      split at h2 <;> (try split at h2) <;> (try split at h2) <;> (try split at h2) <;> omega
    have a1 : z / 100 = z / 10 / 10 := by omega
    have a2 : z / 1000 = z / 10 / 10 / 10 := by omega
    have a3 : z / 10000 = z / 10 / 10 / 10 / 10 := by omega
    rw [e, Int.ediv_one, a1, a2, a3]
    clear a1 a2 a3 e h2
    have b0 : z = 10 * (z / 10) + z % 10 := by omega
    have b4 : z / 10 / 10 / 10 / 10 ≤ 9 ∧ 0 ≤ z / 10 / 10 / 10 / 10 := by omega
    generalize z / 10 = a at *
    have b1 : a = 10 * (a / 10) + a % 10 := by omega
    generalize a / 10 = b at *
    have b2 : b = 10 * (b / 10) + b % 10 := by omega
    generalize b / 10 = c at *
    have b3 : c = 10 * (c / 10) + c % 10 := by omega
    generalize c / 10 = d at *
    have := Int.emod_nonneg z (show (10 : Int) ≠ 0 by decide)
    have := Int.emod_nonneg a (show (10 : Int) ≠ 0 by decide)
    have := Int.emod_nonneg b (show (10 : Int) ≠ 0 by decide)
    have := Int.emod_nonneg c (show (10 : Int) ≠ 0 by decide)
    omega
theorem dX7_bad_0 : decode cX7_bad 0 = .ok (.iload_n 1, 1) := by decide +kernel
theorem dX7_bad_1 : decode cX7_bad 1 = .ok (.ifCond .le 14, 3) := by decide +kernel
theorem dX7_bad_4 : decode cX7_bad 4 = .ok (.aload_n 0, 1) := by decide +kernel
theorem dX7_bad_5 : decode cX7_bad 5 = .ok (.getfield 10, 3) := by decide +kernel
theorem dX7_bad_8 : decode cX7_bad 8 = .ok (.iload_n 1, 1) := by decide +kernel
theorem dX7_bad_9 : decode cX7_bad 9 = .ok (.invokevirtual 100, 3) := by decide +kernel
theorem dX7_bad_12 : decode cX7_bad 12 = .ok (.ifCond .ne 6, 3) := by decide +kernel
theorem dX7_bad_15 : decode cX7_bad 15 = .ok (.bipush (-2), 2) := by decide +kernel
theorem dX7_bad_17 : decode cX7_bad 17 = .ok (.ireturn, 1) := by decide +kernel
theorem dX7_bad_18 : decode cX7_bad 18 = .ok (.aload_n 0, 1) := by decide +kernel
theorem dX7_bad_19 : decode cX7_bad 19 = .ok (.getfield 10, 3) := by decide +kernel
theorem dX7_bad_22 : decode cX7_bad 22 = .ok (.getfield 103, 3) := by decide +kernel
theorem dX7_bad_25 : decode cX7_bad 25 = .ok (.bipush 6, 2) := by decide +kernel
theorem dX7_bad_27 : decode cX7_bad 27 = .ok (.if_icmp .lt 6, 3) := by decide +kernel
theorem dX7_bad_30 : decode cX7_bad 30 = .ok (.bipush (-4), 2) := by decide +kernel
theorem dX7_bad_32 : decode cX7_bad 32 = .ok (.ireturn, 1) := by decide +kernel
theorem dX7_bad_33 : decode cX7_bad 33 = .ok (.aload_n 0, 1) := by decide +kernel
theorem dX7_bad_34 : decode cX7_bad 34 = .ok (.getfield 10, 3) := by decide +kernel
theorem dX7_bad_37 : decode cX7_bad 37 = .ok (.iload_n 1, 1) := by decide +kernel
theorem dX7_bad_38 : decode cX7_bad 38 = .ok (.invokevirtual 106, 3) := by decide +kernel
theorem dX7_bad_41 : decode cX7_bad 41 = .ok (.aload_n 0, 1) := by decide +kernel
theorem dX7_bad_42 : decode cX7_bad 42 = .ok (.invokevirtual 50, 3) := by decide +kernel
theorem dX7_bad_45 : decode cX7_bad 45 = .ok (.aload_n 0, 1) := by decide +kernel
theorem dX7_bad_46 : decode cX7_bad 46 = .ok (.getfield 10, 3) := by decide +kernel
theorem dX7_bad_49 : decode cX7_bad 49 = .ok (.getfield 103, 3) := by decide +kernel
theorem dX7_bad_52 : decode cX7_bad 52 = .ok (.ireturn, 1) := by decide +kernel
theorem hl_yX7_bad : (yX7_bad.cls ≠ "java/lang/invoke/MethodHandle" ∧ yX7_bad.cls ≠ "java/lang/invoke/VarHandle") ∧ (parseMethodDescriptor yX7_bad.desc).map (fun d => d.parameters.length) = some 1 := by decide +kernel
set_option maxRecDepth 20000 in
set_option maxHeartbeats 4000000 in
theorem c_X7_bad {l : Launch} {G : Gt} {n0 : Nat} {mi : Nat → Nat → Int} {mr : Nat → Nat → Nat} {K : Nat → Nat → Int} {L : Lws} {set : Int} {H : V5} {o : Int} (hV : CV K L set H o mi mr) {z : Int} (hz : rg z) : Ci l yX7_bad cX7_bad 2 .int 4 G n0 [.ref (n0 + 0), .int (jI z)] mi mr (fun r9 mi9 mr9 => (¬ (1 ≤ z ∧ z < p10 L.1) ∧ r9 = -2 ∧ mi = mi9 ∧ mr = mr9) ∨ ((1 ≤ z ∧ z < p10 L.1) ∧ 6 ≤ L.2.2.1 ∧ r9 = -4 ∧ mi = mi9 ∧ mr = mr9) ∨ ((1 ≤ z ∧ z < p10 L.1) ∧ L.2.2.1 < 6 ∧ r9 = L.2.2.1 + 1 ∧ CV K (L.1, L.2.1, L.2.2.1 + 1, L.2.2.2.1, fun b => if (b : Int) = L.2.2.1 then (T5 (fun j => z / 10 ^ j % 10)) else L.2.2.2.2 b) set H (-3) mi9 mr9)) := by
  refine Ct_of (by decide +kernel) (by intro v hv; simp at hv; rcases hv with rfl | rfl <;> rfl) (Nat.le_of_ble_eq_true rfl) ?_
  intro p e s m args below meth c9 X hr hname
  show WW _ _ _ _ _ _ _ _ _ _ _ _ _ _ _ _ _ _ _ [some (.ref (n0 + 0)), some (.int (jI z))] _
  have hW := hV.1
  have hO := hV.2.1
  have hC := hV.2.2.1
  have hH := hV.2.2.2.2.1
  have hHb := HA_b hH
  have hVo := CV_o hV
  have hoo : mi 44 6 = o := hV.2.2.2.2.2.2.1
  have hsc := hW.1
  have hC1 := hC.1
  obtain ⟨hz1, hz2⟩ := id hz
  have hbc := hW.2.2.2.1
  refine w_iload_n X dX7_bad_0 rfl ?_
  refine w_if_le X 15 dX7_bad_1 (by decide) (fun c1_1 => ?_) (fun c1_1 => ?_)
  ·
    refine w_bipush X dX7_bad_15 rfl ?_
    refine s_iret X hr dX7_bad_17 ?_
    exact Or.inl ⟨by rw [hC1]; omega, rfl, rfl, rfl⟩
  ·
    refine w_aload_n X dX7_bad_4 rfl ?_
    refine w_get X (by decide) (σ_0 G n0 _ _) rfl gW_X7 0 (by decide) gF_X7_10 rfl dX7_bad_5 ?_
    refine w_iload_n X dX7_bad_8 rfl ?_
    refine s_callVi X _ (c_X5_hasFewDigits (l := l) (G := G) (n0 := n0) hsc (by omega)) gM_X7_100 gI_yX5_hasFewDigits gS_yX5_hasFewDigits gN_X5 gC_yX5_hasFewDigits (by decide) (σ_1 G n0 _ _) rfl dX7_bad_9 hl_yX5_hasFewDigits ⟨Nat.le_of_ble_eq_true rfl, Nat.le_of_ble_eq_true rfl⟩ (Nat.le_of_ble_eq_true rfl) rfl (fun r1 mi1 mr1 h1 => ?_)
    obtain ⟨rfl, rfl, h1⟩ := h1
    refine w_if_ne X 18 dX7_bad_12 (by decide) (fun c12_2 => ?_) (fun c12_2 => ?_)
    ·
      refine w_aload_n X dX7_bad_18 rfl ?_
      refine w_get X (by decide) (σ_0 G n0 _ _) rfl gW_X7 0 (by decide) gF_X7_10 rfl dX7_bad_19 ?_
      refine w_getN X (by decide) (σ_1 G n0 _ _) rfl gW_X5 6 (by decide) gF_X7_103 rfl dX7_bad_22 ?_
      refine w_bipush X dX7_bad_25 rfl ?_
      refine w_icmp_lt X 33 dX7_bad_27 (by decide) (fun c27_3 => ?_) (fun c27_3 => ?_)
      ·
        refine w_aload_n X dX7_bad_33 rfl ?_
        refine w_get X (by decide) (σ_0 G n0 _ _) rfl gW_X7 0 (by decide) gF_X7_10 rfl dX7_bad_34 ?_
        refine w_iload_n X dX7_bad_37 rfl ?_
        refine s_callVv X _ (c_X5_addBad (l := l) (G := G) (n0 := n0) (by omega) (by omega)) gM_X7_106 gI_yX5_addBad gS_yX5_addBad gN_X5 gC_yX5_addBad (by decide) (σ_1 G n0 _ _) rfl dX7_bad_38 hl_yX5_addBad ⟨Nat.le_of_ble_eq_true rfl, Nat.le_of_ble_eq_true rfl⟩ (Nat.le_of_ble_eq_true rfl) rfl (fun mi2 mr2 h2 => ?_)
        obtain ⟨rfl, rfl⟩ := h2
        refine w_aload_n X dX7_bad_41 rfl ?_
        refine s_callVv X _ (c_X7_forgetFindings (l := l) (G := G) (n0 := n0)) gM_X7_50 gI_yX7_forgetFindings gS_yX7_forgetFindings gN_X7 gC_yX7_forgetFindings (by decide) (σ_0 G n0 _ _) rfl dX7_bad_42 hl_yX7_forgetFindings ⟨Nat.le_of_ble_eq_true rfl, Nat.le_of_ble_eq_true rfl⟩ (Nat.le_of_ble_eq_true rfl) rfl (fun mi3 mr3 h3 => ?_)
        obtain ⟨rfl, rfl⟩ := h3
        refine w_aload_n X dX7_bad_45 rfl ?_
        refine w_get X (by decide) (σ_0 G n0 _ _) rfl gW_X7 0 (by decide) gF_X7_10 rfl dX7_bad_46 ?_
        refine w_getN X (by decide) (σ_1 G n0 _ _) rfl gW_X5 6 (by decide) gF_X7_103 rfl dX7_bad_49 ?_
        refine s_iret X hr dX7_bad_52 ?_
        have g1 : ∀ a, a ≠ 1 → a ≠ 44 → a ≠ 461 → a ≠ 30 + 2 * (mi 1 6).toNat + 1 → up2 (up2 (up2 (row5 mi (30 + 2 * (mi 1 6).toNat + 1) (fun j => z / 10 ^ j % 10)) 1 6 (mi 1 6 + 1)) 44 6 (-3)) 461 9 (-9) a = mi a := fun a h1 h2 h3 h4 => by rw [up2_k _ _ _ _ h3, up2_k _ _ _ _ h2, up2_k _ _ _ _ h1, row5_k h4]
        have gj : ∀ j : Nat, j ≠ 6 → up2 (up2 (up2 (row5 mi (30 + 2 * (mi 1 6).toNat + 1) (fun j => z / 10 ^ j % 10)) 1 6 (mi 1 6 + 1)) 44 6 (-3)) 461 9 (-9) 1 j = mi 1 j := fun j hj => by rw [up2_k _ _ _ _ (by decide), up2_k _ _ _ _ (by decide), up2_j _ _ _ _ hj, row5_k (by omega)]
        have g6 : up2 (up2 (up2 (row5 mi (30 + 2 * (mi 1 6).toNat + 1) (fun j => z / 10 ^ j % 10)) 1 6 (mi 1 6 + 1)) 44 6 (-3)) 461 9 (-9) 1 6 = mi 1 6 + 1 := by rw [up2_k _ _ _ _ (by decide), up2_k _ _ _ _ (by decide), up2_s]
        have gb : ∀ j : Nat, j < 5 → up2 (up2 (up2 (row5 mi (30 + 2 * (mi 1 6).toNat + 1) (fun j => z / 10 ^ j % 10)) 1 6 (mi 1 6 + 1)) 44 6 (-3)) 461 9 (-9) (30 + 2 * (mi 1 6).toNat + 1) j = z / 10 ^ j % 10 := fun j hj => by rw [up2_k _ _ _ _ (by omega), up2_k _ _ _ _ (by omega), up2_k _ _ _ _ (by omega)]; exact row5_s hj
        have g44 : up2 (up2 (up2 (row5 mi (30 + 2 * (mi 1 6).toNat + 1) (fun j => z / 10 ^ j % 10)) 1 6 (mi 1 6 + 1)) 44 6 (-3)) 461 9 (-9) 44 6 = -3 := by rw [up2_k _ _ _ _ (by decide), up2_s]
        have g461 : up2 (up2 (up2 (row5 mi (30 + 2 * (mi 1 6).toNat + 1) (fun j => z / 10 ^ j % 10)) 1 6 (mi 1 6 + 1)) 44 6 (-3)) 461 9 (-9) 461 9 = -9 := up2_s _ _ _ _
        generalize up2 (up2 (up2 (row5 mi (30 + 2 * (mi 1 6).toNat + 1) (fun j => z / 10 ^ j % 10)) 1 6 (mi 1 6 + 1)) 44 6 (-3)) 461 9 (-9) = M at *
        have hd9 : ∀ j : Nat, 0 ≤ z / 10 ^ j % 10 ∧ z / 10 ^ j % 10 ≤ 9 := fun j => by omega
        have hL4 := hW.2.2.2.1
        have hL3 := hW.2.2.1
        refine Or.inr (Or.inr ⟨by rw [hC1]; exact ⟨by omega, by omega⟩, by rw [hC.2.2.1]; omega, by rw [g6, hC.2.2.1], ⟨by rw [gj 3 (by decide)]; exact hW.1, by rw [gj 4 (by decide)]; exact hW.2.1, by rw [gj 5 (by decide)]; exact hW.2.2.1, by omega, fun i hi => ?_, fun i hi => ?_⟩, ⟨hO.1, hO.2.1, fun b hb => ?_⟩, ⟨by rw [gj 3 (by decide)]; exact hC.1, by rw [gj 5 (by decide)]; exact hC.2.1, by rw [g6, ← hC.2.2.1], fun j hj => ?_, fun b hb => ?_⟩, by rw [gj 4 (by decide)]; exact hV.2.2.2.1, ⟨hH.1, hH.2.1, by rw [g1 43 (by omega) (by omega) (by omega) (by omega)]; exact hH.2.2⟩, SkP_3 hV.2.2.2.2.2.1 (fun a h1 h2 => g1 a (by omega) (by omega) (by omega) (by omega)) g44, g44, fun a ha => (g1 a (by omega) (by omega) (by omega) (by omega)).trans (hV.2.2.2.2.2.2.2.1 a ha), Or.inl g461, fun z' h1 h2 h3 => by omega⟩)
        · rw [gj 5 (by decide)] at hi
          rw [gj 3 (by decide)]
          exact RV_fr (hW.2.2.2.2.1 i hi) (g1 _ (by omega) (by omega) (by omega) (by omega)) (g1 _ (by omega) (by omega) (by omega) (by omega))
        · by_cases q : (i : Int) = mi 1 6
          · rw [show i = (mi 1 6).toNat by omega]
            exact CB_of (fun j hj => by have := hd9 j; rw [gb j hj]; omega)
          · exact CB_fr (hW.2.2.2.2.2 i (by omega)) (g1 _ (by omega) (by omega) (by omega) (by omega))
        · show zf L.1 (F5 (if (b : Int) = L.2.2.1 then (T5 (fun j => z / 10 ^ j % 10)) else L.2.2.2.2 b)) ∧ (∀ j : Nat, j < 5 → 0 ≤ F5 (if (b : Int) = L.2.2.1 then (T5 (fun j => z / 10 ^ j % 10)) else L.2.2.2.2 b) j) ∧ 1 ≤ sm (if (b : Int) = L.2.2.1 then (T5 (fun j => z / 10 ^ j % 10)) else L.2.2.2.2 b) ∧ sm (if (b : Int) = L.2.2.1 then (T5 (fun j => z / 10 ^ j % 10)) else L.2.2.2.2 b) ≤ 45
          by_cases q : (b : Int) = L.2.2.1
          · rw [if_pos q]
            have hzz : 1 ≤ z ∧ z < p10 (mi 1 3) := by omega
            exact bad_d (by rw [hC1]; exact hsc) (by rw [hC1]; exact hzz)
          · rw [if_neg q]
            exact hO.2.2 b (by have : (b : Int) < L.2.2.1 + 1 := hb; omega)
        · rw [gj 5 (by decide)] at hj
          rw [g1 _ (by omega) (by omega) (by omega) (by omega)]
          exact hC.2.2.2.1 j hj
        · show (if (b : Int) = L.2.2.1 then (T5 (fun j => z / 10 ^ j % 10)) else L.2.2.2.2 b) = _
          rw [g6] at hb
          by_cases q : (b : Int) = L.2.2.1
          · rw [if_pos q, show b = (mi 1 6).toNat by rw [hC.2.2.1] at q; omega]
            exact (T5_c gb).symm
          · rw [if_neg q, g1 _ (by omega) (by omega) (by omega) (by rw [hC.2.2.1] at q; omega)]
            exact hC.2.2.2.2 b (by rw [hC.2.2.1] at q; omega)
      ·
        refine w_bipush X dX7_bad_30 rfl ?_
        refine s_iret X hr dX7_bad_32 ?_
        exact Or.inr (Or.inl ⟨by rw [hC1]; exact ⟨by omega, by omega⟩, by rw [hC.2.2.1]; omega, rfl, rfl, rfl⟩)
    ·
      refine w_bipush X dX7_bad_15 rfl ?_
      refine s_iret X hr dX7_bad_17 ?_
      exact Or.inl ⟨by rw [hC1]; omega, rfl, rfl, rfl⟩
