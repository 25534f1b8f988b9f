/-- what a new rule may be -/
def NR (sc z1 z2 z3 z4 z5 z6 : Int) : Prop := (0 ≤ z1 ∧ z1 ≤ 2) ∧ (0 ≤ z2 ∧ z2 < sc) ∧ (0 ≤ z3 ∧ z3 < sc) ∧ (z1 = 1 ∧ (0 ≤ z4 ∧ z4 < sc) ∧ (0 ≤ z5 ∧ z5 < sc) ∨ z1 ≠ 1 ∧ z4 = -9 ∧ z5 = -9) ∧ (z1 = 2 ∧ mapok sc z6 ∨ z1 ≠ 2 ∧ z6 = -9)
theorem map_d {sc z : Int} (hs : 1 ≤ sc ∧ sc ≤ 5) (h : mapok sc z) (j : Nat) (hj : j < 5) : 0 ≤ z / 10 ^ j % 10 ∧ z / 10 ^ j % 10 < 5 ∧ ((j : Int) < sc → z / 10 ^ j % 10 < sc) := by
  have h0 : 0 ≤ z / 10 ^ j % 10 := Int.emod_nonneg _ (by decide)
  by_cases q : (j : Int) < sc
  · have := h.2.2 j q
    exact ⟨h0, by omega, fun _ => this⟩
  · refine ⟨h0, ?_, fun w => absurd w q⟩
    by_cases q0 : z = 0
    · subst q0; rw [Int.zero_ediv]; decide
    · have h1 := h.1
      have h2 := bad_d hs (z := z) ⟨by omega, h.2.1⟩
      have := h2.1 j hj (by omega)
      rw [F5_T5 _ hj] at this
      omega
theorem dX7_addRule_0 : decode cX7_addRule 0 = .ok (.aload_n 0, 1) := by decide +kernel
theorem dX7_addRule_1 : decode cX7_addRule 1 = .ok (.getfield 10, 3) := by decide +kernel
theorem dX7_addRule_4 : decode cX7_addRule 4 = .ok (.getfield 188, 3) := by decide +kernel
theorem dX7_addRule_7 : decode cX7_addRule 7 = .ok (.bipush 12, 2) := by decide +kernel
theorem dX7_addRule_9 : decode cX7_addRule 9 = .ok (.if_icmp .lt 6, 3) := by decide +kernel
theorem dX7_addRule_12 : decode cX7_addRule 12 = .ok (.bipush (-4), 2) := by decide +kernel
theorem dX7_addRule_14 : decode cX7_addRule 14 = .ok (.ireturn, 1) := by decide +kernel
theorem dX7_addRule_15 : decode cX7_addRule 15 = .ok (.aload_n 0, 1) := by decide +kernel
theorem dX7_addRule_16 : decode cX7_addRule 16 = .ok (.getfield 10, 3) := by decide +kernel
theorem dX7_addRule_19 : decode cX7_addRule 19 = .ok (.getfield 73, 3) := by decide +kernel
theorem dX7_addRule_22 : decode cX7_addRule 22 = .ok (.aload_n 0, 1) := by decide +kernel
theorem dX7_addRule_23 : decode cX7_addRule 23 = .ok (.getfield 10, 3) := by decide +kernel
theorem dX7_addRule_26 : decode cX7_addRule 26 = .ok (.getfield 188, 3) := by decide +kernel
theorem dX7_addRule_29 : decode cX7_addRule 29 = .ok (.aaload, 1) := by decide +kernel
theorem dX7_addRule_30 : decode cX7_addRule 30 = .ok (.iload_n 1, 1) := by decide +kernel
theorem dX7_addRule_31 : decode cX7_addRule 31 = .ok (.iload_n 2, 1) := by decide +kernel
theorem dX7_addRule_32 : decode cX7_addRule 32 = .ok (.iload_n 3, 1) := by decide +kernel
theorem dX7_addRule_33 : decode cX7_addRule 33 = .ok (.iload 4, 2) := by decide +kernel
theorem dX7_addRule_35 : decode cX7_addRule 35 = .ok (.iload 5, 2) := by decide +kernel
theorem dX7_addRule_37 : decode cX7_addRule 37 = .ok (.iload 6, 2) := by decide +kernel
theorem dX7_addRule_39 : decode cX7_addRule 39 = .ok (.invokevirtual 191, 3) := by decide +kernel
theorem dX7_addRule_42 : decode cX7_addRule 42 = .ok (.aload_n 0, 1) := by decide +kernel
theorem dX7_addRule_43 : decode cX7_addRule 43 = .ok (.getfield 10, 3) := by decide +kernel
theorem dX7_addRule_46 : decode cX7_addRule 46 = .ok (.dup, 1) := by decide +kernel
theorem dX7_addRule_47 : decode cX7_addRule 47 = .ok (.getfield 188, 3) := by decide +kernel
theorem dX7_addRule_50 : decode cX7_addRule 50 = .ok (.iconst 1, 1) := by decide +kernel
theorem dX7_addRule_51 : decode cX7_addRule 51 = .ok (.iadd, 1) := by decide +kernel
theorem dX7_addRule_52 : decode cX7_addRule 52 = .ok (.putfield 188, 3) := by decide +kernel
theorem dX7_addRule_55 : decode cX7_addRule 55 = .ok (.aload_n 0, 1) := by decide +kernel
theorem dX7_addRule_56 : decode cX7_addRule 56 = .ok (.invokevirtual 50, 3) := by decide +kernel
theorem dX7_addRule_59 : decode cX7_addRule 59 = .ok (.aload_n 0, 1) := by decide +kernel
theorem dX7_addRule_60 : decode cX7_addRule 60 = .ok (.getfield 10, 3) := by decide +kernel
theorem dX7_addRule_63 : decode cX7_addRule 63 = .ok (.getfield 188, 3) := by decide +kernel
theorem dX7_addRule_66 : decode cX7_addRule 66 = .ok (.iconst 1, 1) := by decide +kernel
theorem dX7_addRule_67 : decode cX7_addRule 67 = .ok (.isub, 1) := by decide +kernel
theorem dX7_addRule_68 : decode cX7_addRule 68 = .ok (.ireturn, 1) := by decide +kernel
theorem hl_yX7_addRule : (yX7_addRule.cls ≠ "java/lang/invoke/MethodHandle" ∧ yX7_addRule.cls ≠ "java/lang/invoke/VarHandle") ∧ (parseMethodDescriptor yX7_addRule.desc).map (fun d => d.parameters.length) = some 6 := by decide +kernel
set_option maxRecDepth 20000 in
set_option maxHeartbeats 4000000 in
theorem c_X7_addRule {l : Launch} {G : Gt} {n0 : Nat} {mi : Nat → Nat → Int} {mr : Nat → Nat → Nat} {K : Nat → Nat → Int} {L : Lws} {set : Int} {H : V5} {o : Int} (hV : CV K L set H o mi mr) {z1 z2 z3 z4 z5 z6 : Int} (hN : NR (mi 1 3) z1 z2 z3 z4 z5 z6) : Ci l yX7_addRule cX7_addRule 7 .int 4 G n0 [.ref (n0 + 0), .int (jI z1), .int (jI z2), .int (jI z3), .int (jI z4), .int (jI z5), .int (jI z6)] mi mr (fun r9 mi9 mr9 => (12 ≤ L.2.1 ∧ r9 = -4 ∧ mi = mi9 ∧ mr = mr9) ∨ (L.2.1 < 12 ∧ r9 = L.2.1 ∧ ∃ ρ : Nat → Int, (ρ 1 = z1 ∧ ρ 2 = z2 ∧ ρ 3 = z3 ∧ ρ 4 = z4 ∧ ρ 5 = z5 ∧ ρ 6 = z6 ∧ ρ 7 = -9) ∧ CV K (L.1, L.2.1 + 1, L.2.2.1, fun j => if (j : Int) = L.2.1 then ρ else L.2.2.2.1 j, L.2.2.2.2) set H (-3) mi9 mr9)) := by
  refine Ct_of (by decide +kernel) (by intro v hv; simp at hv; rcases hv with rfl | rfl | rfl | rfl | rfl | rfl | rfl <;> rfl) (Nat.le_of_ble_eq_true rfl) ?_
  intro p e s m args below meth c9 X hr hname
  show WW _ _ _ _ _ _ _ _ _ _ _ _ _ _ _ _ _ _ _ [some (.ref (n0 + 0)), some (.int (jI z1)), some (.int (jI z2)), some (.int (jI z3)), some (.int (jI z4)), some (.int (jI z5)), some (.int (jI z6))] _
  have hW := hV.1
  have hO := hV.2.1
  have hC := hV.2.2.1
  have hH := hV.2.2.2.2.1
  have hHb := HA_b hH
  have hVo := CV_o hV
  have hoo : mi 44 6 = o := hV.2.2.2.2.2.2.1
  have hsc := hW.1
  have hC1 := hC.1
  have hbc := hW.2.2.1
  have hn1 := hN.1
  have hz6b : -9 ≤ z6 ∧ z6 < 100000 := by
    rcases hN.2.2.2.2 with ⟨-, q, q2, -⟩ | ⟨-, q⟩
    · unfold p10 at q2
      refine ⟨by omega, ?_⟩
      split at q2 <;> (try split at q2) <;> (try split at q2) <;> (try split at q2) <;> omega
    · omega
  have hz6r : rg z6 := ⟨by omega, by omega⟩
  have hz6p : z1 = 2 → 0 ≤ z6 := fun q => by
    rcases hN.2.2.2.2 with ⟨-, q2, -⟩ | ⟨q2, -⟩
    · exact q2
    · exact absurd q q2
  refine w_aload_n X dX7_addRule_0 rfl ?_
  refine w_get X (by decide) (σ_0 G n0 _ _) rfl gW_X7 0 (by decide) gF_X7_10 rfl dX7_addRule_1 ?_
  refine w_getN X (by decide) (σ_1 G n0 _ _) rfl gW_X5 5 (by decide) gF_X7_188 rfl dX7_addRule_4 ?_
  refine w_bipush X dX7_addRule_7 rfl ?_
  refine w_icmp_lt X 15 dX7_addRule_9 (by decide) (fun c9_1 => ?_) (fun c9_1 => ?_)
  ·
    have hk12 : mi 1 5 < 12 := by omega
    refine w_aload_n X dX7_addRule_15 rfl ?_
    refine w_get X (by decide) (σ_0 G n0 _ _) rfl gW_X7 0 (by decide) gF_X7_10 rfl dX7_addRule_16 ?_
    refine w_getN X (by decide) (σ_1 G n0 _ _) rfl gW_X5 0 (by decide) gF_X7_73 rfl dX7_addRule_19 ?_
    refine w_aload_n X dX7_addRule_22 rfl ?_
    refine w_get X (by decide) (σ_0 G n0 _ _) rfl gW_X7 0 (by decide) gF_X7_10 rfl dX7_addRule_23 ?_
    refine w_getN X (by decide) (σ_1 G n0 _ _) rfl gW_X5 5 (by decide) gF_X7_188 rfl dX7_addRule_26 ?_
    refine s_aald X (t := 3) ((mi 1 5).toNat) (by decide) (σ_2 G n0 _ _) rfl dX7_addRule_29 ?_
    refine w_iload_n X dX7_addRule_30 rfl ?_
    refine w_iload_n X dX7_addRule_31 rfl ?_
    refine w_iload_n X dX7_addRule_32 rfl ?_
    refine w_iload X dX7_addRule_33 rfl ?_
    refine w_iload X dX7_addRule_35 rfl ?_
    refine w_iload X dX7_addRule_37 rfl ?_
    refine s_callVv X _ (c_X6_become (l := l) (G := G) (n0 := n0) (ru_2 (by omega)) ⟨by omega, by omega⟩ hz6r hz6p) gM_X7_191 gI_yX6_become gS_yX6_become gN_X6 gC_yX6_become (isRu_k (ru_2 (by omega))) (σ_ru G n0 _ _ (ru_2 (by omega))) rfl dX7_addRule_39 hl_yX6_become ⟨Nat.le_of_ble_eq_true rfl, Nat.le_of_ble_eq_true rfl⟩ (Nat.le_of_ble_eq_true rfl) rfl (fun mi1 mr1 h1 => ?_)
    obtain ⟨hbX, hgX, hfX, rfl⟩ := h1
    have e15 : mi1 1 = mi 1 := hfX 1 (by omega) (by omega)
    refine w_aload_n X dX7_addRule_42 rfl ?_
    refine w_get X (by decide) (σ_0 G n0 _ _) rfl gW_X7 0 (by decide) gF_X7_10 rfl dX7_addRule_43 ?_
    refine w_dup X dX7_addRule_46 rfl ?_
    refine w_getN X (by decide) (σ_1 G n0 _ _) rfl gW_X5 5 (by decide) gF_X7_188 rfl dX7_addRule_47 ?_
    rw [e15]
    refine w_iconst X dX7_addRule_50 ?_
    refine w_iadd X dX7_addRule_51 ?_
    refine w_putN X (by decide) (σ_1 G n0 _ _) rfl gW_X5 tyX5 tyX5_ok nmX5 5 (by decide) gF_X7_188 rfl rfl rfl (Nat.le_of_ble_eq_true rfl) dX7_addRule_52 (WW.eqf (sp_1_5 _) ?_)
    refine w_aload_n X dX7_addRule_55 rfl ?_
    refine s_callVv X _ (c_X7_forgetFindings (l := l) (G := G) (n0 := n0)) gM_X7_50 gI_yX7_forgetFindings gS_yX7_forgetFindings gN_X7 gC_yX7_forgetFindings (by decide) (σ_0 G n0 _ _) rfl dX7_addRule_56 hl_yX7_forgetFindings ⟨Nat.le_of_ble_eq_true rfl, Nat.le_of_ble_eq_true rfl⟩ (Nat.le_of_ble_eq_true rfl) rfl (fun mi2 mr2 h2 => ?_)
    obtain ⟨rfl, rfl⟩ := h2
    refine w_aload_n X dX7_addRule_59 rfl ?_
    refine w_get X (by decide) (σ_0 G n0 _ _) rfl gW_X7 0 (by decide) gF_X7_10 rfl dX7_addRule_60 ?_
    refine w_getN X (by decide) (σ_1 G n0 _ _) rfl gW_X5 5 (by decide) gF_X7_188 rfl dX7_addRule_63 ?_
    refine w_iconst X dX7_addRule_66 ?_
    refine w_isub X dX7_addRule_67 ?_
    refine s_iret X hr dX7_addRule_68 ?_
    have g1 : ∀ a, a ≠ 1 → a ≠ 44 → a ≠ 461 → a ≠ 6 + 2 * (mi 1 5).toNat → a ≠ 6 + 2 * (mi 1 5).toNat + 1 → up2 (up2 (up2 mi1 1 5 (mi 1 5 + 1)) 44 6 (-3)) 461 9 (-9) a = mi a := fun a h1 h2 h3 h4 h5 => by rw [up2_k _ _ _ _ h3, up2_k _ _ _ _ h2, up2_k _ _ _ _ h1]; exact hfX a h4 h5
    have gj : ∀ j : Nat, j ≠ 5 → up2 (up2 (up2 mi1 1 5 (mi 1 5 + 1)) 44 6 (-3)) 461 9 (-9) 1 j = mi 1 j := fun j hj => by rw [up2_k _ _ _ _ (by decide), up2_k _ _ _ _ (by decide), up2_j _ _ _ _ hj, e15]
    have g5 : up2 (up2 (up2 mi1 1 5 (mi 1 5 + 1)) 44 6 (-3)) 461 9 (-9) 1 5 = mi 1 5 + 1 := by rw [up2_k _ _ _ _ (by decide), up2_k _ _ _ _ (by decide), up2_s]
    have gk : up2 (up2 (up2 mi1 1 5 (mi 1 5 + 1)) 44 6 (-3)) 461 9 (-9) (6 + 2 * (mi 1 5).toNat) = mi1 (6 + 2 * (mi 1 5).toNat) := by rw [up2_k _ _ _ _ (by omega), up2_k _ _ _ _ (by omega), up2_k _ _ _ _ (by omega)]
    have gk1 : up2 (up2 (up2 mi1 1 5 (mi 1 5 + 1)) 44 6 (-3)) 461 9 (-9) (6 + 2 * (mi 1 5).toNat + 1) = mi1 (6 + 2 * (mi 1 5).toNat + 1) := by rw [up2_k _ _ _ _ (by omega), up2_k _ _ _ _ (by omega), up2_k _ _ _ _ (by omega)]
    have g44 : up2 (up2 (up2 mi1 1 5 (mi 1 5 + 1)) 44 6 (-3)) 461 9 (-9) 44 6 = -3 := by rw [up2_k _ _ _ _ (by decide), up2_s]
    have g461 : up2 (up2 (up2 mi1 1 5 (mi 1 5 + 1)) 44 6 (-3)) 461 9 (-9) 461 9 = -9 := up2_s _ _ _ _
    generalize up2 (up2 (up2 mi1 1 5 (mi 1 5 + 1)) 44 6 (-3)) 461 9 (-9) = M at *
    obtain ⟨b1, b2, b3, b4, b5, b6, b7⟩ := hbX
    obtain ⟨n1, n2, n3, n4, n6⟩ := id hN
    have hgol : ∀ j : Nat, j < 5 → 0 ≤ gol (mi1 (6 + 2 * (mi 1 5).toNat)) j ∧ gol (mi1 (6 + 2 * (mi 1 5).toNat)) j < 5 ∧ ((j : Int) < mi 1 3 → gol (mi1 (6 + 2 * (mi 1 5).toNat)) j < mi 1 3) := fun j hj => by
      unfold gol
      rw [b1, b6]
      rcases n6 with ⟨q, q2⟩ | ⟨q, -⟩
      · rw [if_pos q]; exact map_d hsc q2 j hj
      · rw [if_neg q]; omega
    have hRV : RV (mi 1 3) mi1 (6 + 2 * (mi 1 5).toNat) := ⟨by rw [b1]; exact n1, by rw [b2]; exact n2, by rw [b3]; exact n3, by rw [b1, b4, b5]; exact n4, by rw [b6]; exact hz6b, Or.inl b7, hsc, fun j hj => ⟨hgX j hj, hgol j hj⟩⟩
    have hL4 := hW.2.2.2.1
    refine Or.inr ⟨by rw [hC.2.1]; exact hk12, by rw [hC.2.1, g5]; omega, mi1 (6 + 2 * (mi 1 5).toNat), ⟨b1, b2, b3, b4, b5, b6, b7⟩, ⟨by rw [gj 3 (by decide)]; exact hW.1, by rw [gj 4 (by decide)]; exact hW.2.1, by omega, by rw [gj 6 (by decide)]; exact hW.2.2.2.1, fun i hi => ?_, fun i hi => ?_⟩, ⟨hO.1, fun j hj => ?_, hO.2.2⟩, ⟨by rw [gj 3 (by decide)]; exact hC.1, by rw [g5, ← hC.2.1], by rw [gj 6 (by decide)]; exact hC.2.2.1, fun j hj => ?_, fun b hb => ?_⟩, by rw [gj 4 (by decide)]; exact hV.2.2.2.1, ⟨hH.1, hH.2.1, by rw [g1 43 (by omega) (by omega) (by omega) (by omega) (by omega)]; exact hH.2.2⟩, SkP_3 hV.2.2.2.2.2.1 (fun a h1 h2 => g1 a (by omega) (by omega) (by omega) (by omega) (by omega)) g44, g44, fun a ha => (g1 a (by omega) (by omega) (by omega) (by omega) (by omega)).trans (hV.2.2.2.2.2.2.2.1 a ha), Or.inl g461, fun z' h1 h2 h3 => by omega⟩
    · rw [gj 3 (by decide)]
      by_cases q : (i : Int) = mi 1 5
      · rw [show i = (mi 1 5).toNat by omega]
        exact RV_fr hRV gk gk1
      · exact RV_fr (hW.2.2.2.2.1 i (by omega)) (g1 _ (by omega) (by omega) (by omega) (by omega) (by omega)) (g1 _ (by omega) (by omega) (by omega) (by omega) (by omega))
    · rw [gj 6 (by decide)] at hi
      exact CB_fr (hW.2.2.2.2.2 i hi) (g1 _ (by omega) (by omega) (by omega) (by omega) (by omega))
    · show RO L.1 (if (j : Int) = L.2.1 then mi1 (6 + 2 * (mi 1 5).toNat) else L.2.2.2.1 j)
      by_cases q : (j : Int) = L.2.1
      · rw [if_pos q, hC1]; exact RV_o hRV
      · rw [if_neg q]
        exact hO.2.1 j (by have : (j : Int) < L.2.1 + 1 := hj; omega)
    · show (if (j : Int) = L.2.1 then mi1 (6 + 2 * (mi 1 5).toNat) else L.2.2.2.1 j) = _
      rw [g5] at hj
      by_cases q : (j : Int) = L.2.1
      · rw [if_pos q, show j = (mi 1 5).toNat by rw [hC.2.1] at q; omega]
        exact gk.symm
      · rw [hC.2.1] at q
        rw [if_neg (by rw [hC.2.1]; exact q), g1 _ (by omega) (by omega) (by omega) (by omega) (by omega)]
        exact hC.2.2.2.1 j (by omega)
    · rw [gj 6 (by decide)] at hb
      rw [g1 _ (by omega) (by omega) (by omega) (by omega) (by omega)]
      exact hC.2.2.2.2 b hb
  ·
    refine w_bipush X dX7_addRule_12 rfl ?_
    refine s_iret X hr dX7_addRule_14 ?_
    exact Or.inl ⟨by rw [hC.2.1]; omega, rfl, rfl, rfl⟩
