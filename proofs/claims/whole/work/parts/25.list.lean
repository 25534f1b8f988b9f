theorem T5_row {f : Nat → Int} {j : Nat} (hj : j < 5) : F5 (T5 f) j = f j := F5_T5 f hj
theorem Inc_s {sc n : Int} {k : Nat} {P : Nat → V5} {v : V5} (h : Inc sc n k P) (hv : Cro sc n v) (hl : ∀ i : Nat, i < k → lx (P i) v) : Inc sc n (k + 1) (fun i => if i = k then v else P i) := by
  refine ⟨fun i hi => ?_, fun i j hij hj => ?_⟩
  · dsimp only
    by_cases q : i = k
    · rw [if_pos q]; exact hv
    · rw [if_neg q]; exact h.1 i (by omega)
  · dsimp only
    by_cases q : j = k
    · rw [if_pos q, if_neg (by omega)]; exact hl i (by omega)
    · rw [if_neg q, if_neg (by omega)]; exact h.2 i j hij (by omega)
theorem dX4_listCrowds_0 : decode cX4_listCrowds 0 = .ok (.aload_n 0, 1) := by decide +kernel
theorem dX4_listCrowds_1 : decode cX4_listCrowds 1 = .ok (.getfield 12, 3) := by decide +kernel
theorem dX4_listCrowds_4 : decode cX4_listCrowds 4 = .ok (.invokevirtual 99, 3) := by decide +kernel
theorem dX4_listCrowds_7 : decode cX4_listCrowds 7 = .ok (.aload_n 0, 1) := by decide +kernel
theorem dX4_listCrowds_8 : decode cX4_listCrowds 8 = .ok (.getfield 12, 3) := by decide +kernel
theorem dX4_listCrowds_11 : decode cX4_listCrowds 11 = .ok (.aload_n 0, 1) := by decide +kernel
theorem dX4_listCrowds_12 : decode cX4_listCrowds 12 = .ok (.getfield 60, 3) := by decide +kernel
theorem dX4_listCrowds_15 : decode cX4_listCrowds 15 = .ok (.getfield 102, 3) := by decide +kernel
theorem dX4_listCrowds_18 : decode cX4_listCrowds 18 = .ok (.iconst 1, 1) := by decide +kernel
theorem dX4_listCrowds_19 : decode cX4_listCrowds 19 = .ok (.isub, 1) := by decide +kernel
theorem dX4_listCrowds_20 : decode cX4_listCrowds 20 = .ok (.iload_n 1, 1) := by decide +kernel
theorem dX4_listCrowds_21 : decode cX4_listCrowds 21 = .ok (.invokevirtual 107, 3) := by decide +kernel
theorem dX4_listCrowds_24 : decode cX4_listCrowds 24 = .ok (.aload_n 0, 1) := by decide +kernel
theorem dX4_listCrowds_25 : decode cX4_listCrowds 25 = .ok (.iconst 0, 1) := by decide +kernel
theorem dX4_listCrowds_26 : decode cX4_listCrowds 26 = .ok (.putfield 51, 3) := by decide +kernel
theorem dX4_listCrowds_29 : decode cX4_listCrowds 29 = .ok (.iconst 1, 1) := by decide +kernel
theorem dX4_listCrowds_30 : decode cX4_listCrowds 30 = .ok (.istore_n 2, 1) := by decide +kernel
theorem dX4_listCrowds_31 : decode cX4_listCrowds 31 = .ok (.iload_n 2, 1) := by decide +kernel
theorem dX4_listCrowds_32 : decode cX4_listCrowds 32 = .ok (.ifCond .eq 69, 3) := by decide +kernel
theorem dX4_listCrowds_35 : decode cX4_listCrowds 35 = .ok (.aload_n 0, 1) := by decide +kernel
theorem dX4_listCrowds_36 : decode cX4_listCrowds 36 = .ok (.getfield 51, 3) := by decide +kernel
theorem dX4_listCrowds_39 : decode cX4_listCrowds 39 = .ok (.sipush 495, 3) := by decide +kernel
theorem dX4_listCrowds_42 : decode cX4_listCrowds 42 = .ok (.if_icmp .ge 59, 3) := by decide +kernel
theorem dX4_listCrowds_45 : decode cX4_listCrowds 45 = .ok (.aload_n 0, 1) := by decide +kernel
theorem dX4_listCrowds_46 : decode cX4_listCrowds 46 = .ok (.getfield 21, 3) := by decide +kernel
theorem dX4_listCrowds_49 : decode cX4_listCrowds 49 = .ok (.aload_n 0, 1) := by decide +kernel
theorem dX4_listCrowds_50 : decode cX4_listCrowds 50 = .ok (.getfield 51, 3) := by decide +kernel
theorem dX4_listCrowds_53 : decode cX4_listCrowds 53 = .ok (.aload_n 0, 1) := by decide +kernel
theorem dX4_listCrowds_54 : decode cX4_listCrowds 54 = .ok (.aload_n 0, 1) := by decide +kernel
theorem dX4_listCrowds_55 : decode cX4_listCrowds 55 = .ok (.getfield 12, 3) := by decide +kernel
theorem dX4_listCrowds_58 : decode cX4_listCrowds 58 = .ok (.invokevirtual 111, 3) := by decide +kernel
theorem dX4_listCrowds_61 : decode cX4_listCrowds 61 = .ok (.iastore, 1) := by decide +kernel
theorem dX4_listCrowds_62 : decode cX4_listCrowds 62 = .ok (.aload_n 0, 1) := by decide +kernel
theorem dX4_listCrowds_63 : decode cX4_listCrowds 63 = .ok (.getfield 25, 3) := by decide +kernel
theorem dX4_listCrowds_66 : decode cX4_listCrowds 66 = .ok (.aload_n 0, 1) := by decide +kernel
theorem dX4_listCrowds_67 : decode cX4_listCrowds 67 = .ok (.getfield 51, 3) := by decide +kernel
theorem dX4_listCrowds_70 : decode cX4_listCrowds 70 = .ok (.bipush (-9), 2) := by decide +kernel
theorem dX4_listCrowds_72 : decode cX4_listCrowds 72 = .ok (.iastore, 1) := by decide +kernel
theorem dX4_listCrowds_73 : decode cX4_listCrowds 73 = .ok (.aload_n 0, 1) := by decide +kernel
theorem dX4_listCrowds_74 : decode cX4_listCrowds 74 = .ok (.getfield 40, 3) := by decide +kernel
theorem dX4_listCrowds_77 : decode cX4_listCrowds 77 = .ok (.aload_n 0, 1) := by decide +kernel
theorem dX4_listCrowds_78 : decode cX4_listCrowds 78 = .ok (.getfield 51, 3) := by decide +kernel
theorem dX4_listCrowds_81 : decode cX4_listCrowds 81 = .ok (.iconst 0, 1) := by decide +kernel
theorem dX4_listCrowds_82 : decode cX4_listCrowds 82 = .ok (.bastore, 1) := by decide +kernel
theorem dX4_listCrowds_83 : decode cX4_listCrowds 83 = .ok (.aload_n 0, 1) := by decide +kernel
theorem dX4_listCrowds_84 : decode cX4_listCrowds 84 = .ok (.dup, 1) := by decide +kernel
theorem dX4_listCrowds_85 : decode cX4_listCrowds 85 = .ok (.getfield 51, 3) := by decide +kernel
theorem dX4_listCrowds_88 : decode cX4_listCrowds 88 = .ok (.iconst 1, 1) := by decide +kernel
theorem dX4_listCrowds_89 : decode cX4_listCrowds 89 = .ok (.iadd, 1) := by decide +kernel
theorem dX4_listCrowds_90 : decode cX4_listCrowds 90 = .ok (.putfield 51, 3) := by decide +kernel
theorem dX4_listCrowds_93 : decode cX4_listCrowds 93 = .ok (.aload_n 0, 1) := by decide +kernel
theorem dX4_listCrowds_94 : decode cX4_listCrowds 94 = .ok (.invokevirtual 115, 3) := by decide +kernel
theorem dX4_listCrowds_97 : decode cX4_listCrowds 97 = .ok (.istore_n 2, 1) := by decide +kernel
theorem dX4_listCrowds_98 : decode cX4_listCrowds 98 = .ok (.goto (-67), 3) := by decide +kernel
theorem dX4_listCrowds_101 : decode cX4_listCrowds 101 = .ok (.return_, 1) := by decide +kernel
theorem hl_yX4_listCrowds : (yX4_listCrowds.cls ≠ "java/lang/invoke/MethodHandle" ∧ yX4_listCrowds.cls ≠ "java/lang/invoke/VarHandle") ∧ (parseMethodDescriptor yX4_listCrowds.desc).map (fun d => d.parameters.length) = some 1 := by decide +kernel
set_option maxRecDepth 20000 in
set_option maxHeartbeats 4000000 in
theorem c_X4_advance {l : Launch} {G : Gt} {n0 : Nat} {mi : Nat → Nat → Int} {mr : Nat → Nat → Nat} (hsc : 1 ≤ mi 1 3 ∧ mi 1 3 ≤ 5) (h09 : ∀ j : Nat, j < 5 → 0 ≤ mi 463 j ∧ mi 463 j ≤ 9) (hz : zf (mi 1 3) (mi 463)) : Ci l yX4_advance cX4_advance 4 .boolean 2 G n0 [.ref (n0 + 461)] mi mr (fun r9 mi9 mr9 => (r9 = 1 ∧ (∃ i : Nat, nxt (mi 1 3) (T5 (mi 463)) i (T5 (mi9 463))) ∨ r9 = 0 ∧ ∀ j : Nat, 1 ≤ j → j < 5 → mi 463 j = 0) ∧ (∀ a, a ≠ 463 → mi9 a = mi a) ∧ mr = mr9) := by
  refine Ct_of (by decide +kernel) (by intro v hv; simp at hv; rcases hv with rfl <;> rfl) (Nat.le_of_ble_eq_true rfl) ?_
  intro p e s m args below meth c9 X hr hname
  show WW _ _ _ _ _ _ _ _ _ _ _ _ _ _ _ _ _ _ _ [some (.ref (n0 + 461)), none, none, none] _
  refine w_aload_n X dX4_advance_0 rfl ?_
  refine w_get X (by decide) (σ_461 G n0 _ _) rfl gW_X4 0 (by decide) gF_X4_60 rfl dX4_advance_1 ?_
  refine w_getN X (by decide) (σ_1 G n0 _ _) rfl gW_X5 3 (by decide) gF_X4_102 rfl dX4_advance_4 ?_
  refine w_iconst X dX4_advance_7 ?_
  refine w_isub X dX4_advance_8 ?_
  refine w_ist4_1 X dX4_advance_9 ?_
  refine w_iconst X dX4_advance_10 ?_
  refine w_ist4_2 X dX4_advance_11 ?_
  refine w_iload_n X dX4_advance_12 rfl ?_
  refine w_ist4_3 X dX4_advance_13 ?_
  have loop : ∀ (n : Nat) (mi' : Nat → Nat → Int) (k : Nat) (x : Int), ((k : Int) < mi 1 3) → (x = 0) → (∀ a, a ≠ 463 → mi' a = mi a) → (∀ j : Nat, j < 5 → mi' 463 j = mi 463 j) → (∀ j : Nat, k < j → j < 5 → mi 463 j = 0) → n = k → WSi p l e s m args below meth c9 2 (fun r9 mi9 mr9 => (r9 = 1 ∧ (∃ i : Nat, nxt (mi 1 3) (T5 (mi 463)) i (T5 (mi9 463))) ∨ r9 = 0 ∧ ∀ j : Nat, 1 ≤ j → j < 5 → mi 463 j = 0) ∧ (∀ a, a ≠ 463 → mi9 a = mi a) ∧ mr = mr9) G n0 4 mi' mr 14 [some (.ref (n0 + 461)), some (.int (jI (mi 1 3 - 1))), some (.int (jI x)), some (.int (jI (k : Int)))] [] := by
    intro n
    induction n using Nat.strongRecOn with
    | ind n ih_loop =>
      intro mi' k x hk hx hm hv h0 hn
      refine w_iload_n X dX4_advance_14 rfl ?_
      refine w_if_le X 72 dX4_advance_15 (by decide) (fun c15_1 => ?_) (fun c15_1 => ?_)
      ·
        refine w_iconst X dX4_advance_72 ?_
        refine s_zret X hr dX4_advance_73 (by omega) ?_
        exact ⟨Or.inr ⟨rfl, fun j hj hj2 => h0 j (by omega) hj2⟩, hm, rfl⟩
      ·
        refine w_iload_n X dX4_advance_18 rfl ?_
        refine w_aload_n X dX4_advance_19 rfl ?_
        refine w_get X (by decide) (σ_461 G n0 _ _) rfl gW_X4 1 (by decide) gF_X4_12 rfl dX4_advance_20 ?_
        refine w_iload_n X dX4_advance_23 rfl ?_
        refine s_callVi X _ (c_X3_of (l := l) (G := G) (n0 := n0) cr_462 (by first | assumption | (refine ⟨?_, ?_⟩ <;> omega))) gM_X4_90 gI_yX3_of gS_yX3_of gN_X3 gC_yX3_of (isCr_k cr_462) (σ_cr G n0 _ _ cr_462) rfl dX4_advance_24 hl_yX3_of ⟨Nat.le_of_ble_eq_true rfl, Nat.le_of_ble_eq_true rfl⟩ (Nat.le_of_ble_eq_true rfl) rfl (fun r1 mi1 mr1 h1 => ?_)
        obtain ⟨rfl, rfl, h1⟩ := h1
        rw [if_pos ⟨by omega, by omega⟩, Int.toNat_natCast] at h1
        simp only [Nat.reduceAdd] at h1
        refine w_iadd X dX4_advance_27 ?_
        refine w_ist4_2 X dX4_advance_28 ?_
        have hvk := hv k (by omega)
        have h9k := h09 k (by omega)
        refine w_aload_n X dX4_advance_29 rfl ?_
        refine w_get X (by decide) (σ_461 G n0 _ _) rfl gW_X4 1 (by decide) gF_X4_12 rfl dX4_advance_30 ?_
        refine w_iload_n X dX4_advance_33 rfl ?_
        refine w_iconst X dX4_advance_34 ?_
        refine s_callVv X _ (c_X3_set (l := l) (G := G) (n0 := n0) cr_462 (by first | assumption | (refine ⟨?_, ?_⟩ <;> omega))) gM_X4_107 gI_yX3_set gS_yX3_set gN_X3 gC_yX3_set (isCr_k cr_462) (σ_cr G n0 _ _ cr_462) rfl dX4_advance_35 hl_yX3_set ⟨Nat.le_of_ble_eq_true rfl, Nat.le_of_ble_eq_true rfl⟩ (Nat.le_of_ble_eq_true rfl) rfl (fun mi2 mr2 h2 => ?_)
        obtain ⟨e35, rfl⟩ := h2
        rw [if_pos ⟨by omega, by omega⟩] at e35
        simp only [Nat.reduceAdd] at e35
        refine w_iload_n X dX4_advance_38 rfl ?_
        refine w_if_le X 66 dX4_advance_39 (by decide) (fun c39_2 => ?_) (fun c39_2 => ?_)
        ·
          refine w_iinc4_3 X dX4_advance_66 ?_
          refine w_goto X 14 dX4_advance_69 (by decide) ?_
          have hvk := hv k (by omega)
          have h9k := h09 k (by omega)
          obtain ⟨k', rfl⟩ : ∃ k', k = k' + 1 := ⟨k - 1, by omega⟩
          rw [show ((k' + 1 : Nat) : Int) + -1 = (k' : Int) by omega]
          rw [Int.toNat_natCast] at e35
          exact ih_loop _ (by omega) mi2 k' _ (by omega) (by omega) (fun a ha => by rw [← e35, up2_k _ _ _ _ ha]; exact hm a ha) (fun j hj => by
            rw [← e35]
            by_cases q : j = k' + 1
            · subst q
              rw [up2_s]; omega
            · rw [up2_j _ _ _ _ q]; exact hv j hj) (fun j hj hj2 => by
            by_cases q : j = k' + 1
            · subst q; omega
            · exact h0 j (by omega) hj2) rfl
        ·
          refine w_aload_n X dX4_advance_42 rfl ?_
          refine w_get X (by decide) (σ_461 G n0 _ _) rfl gW_X4 1 (by decide) gF_X4_12 rfl dX4_advance_43 ?_
          refine w_iload_n X dX4_advance_46 rfl ?_
          refine w_iconst X dX4_advance_47 ?_
          refine w_isub X dX4_advance_48 ?_
          refine w_iconst X dX4_advance_49 ?_
          refine s_callVv X _ (c_X3_add (l := l) (G := G) (n0 := n0) cr_462 (by first | assumption | (refine ⟨?_, ?_⟩ <;> omega))) gM_X4_119 gI_yX3_add gS_yX3_add gN_X3 gC_yX3_add (isCr_k cr_462) (σ_cr G n0 _ _ cr_462) rfl dX4_advance_50 hl_yX3_add ⟨Nat.le_of_ble_eq_true rfl, Nat.le_of_ble_eq_true rfl⟩ (Nat.le_of_ble_eq_true rfl) rfl (fun mi3 mr3 h3 => ?_)
          obtain ⟨e50, rfl⟩ := h3
          rw [if_pos ⟨by omega, by omega⟩] at e50
          simp only [Nat.reduceAdd] at e50
          refine w_aload_n X dX4_advance_53 rfl ?_
          refine w_get X (by decide) (σ_461 G n0 _ _) rfl gW_X4 1 (by decide) gF_X4_12 rfl dX4_advance_54 ?_
          refine w_iload_n X dX4_advance_57 rfl ?_
          refine w_iload_n X dX4_advance_58 rfl ?_
          refine w_iconst X dX4_advance_59 ?_
          refine w_isub X dX4_advance_60 ?_
          refine s_callVv X _ (c_X3_set (l := l) (G := G) (n0 := n0) cr_462 (by first | assumption | (refine ⟨?_, ?_⟩ <;> omega))) gM_X4_107 gI_yX3_set gS_yX3_set gN_X3 gC_yX3_set (isCr_k cr_462) (σ_cr G n0 _ _ cr_462) rfl dX4_advance_61 hl_yX3_set ⟨Nat.le_of_ble_eq_true rfl, Nat.le_of_ble_eq_true rfl⟩ (Nat.le_of_ble_eq_true rfl) rfl (fun mi4 mr4 h4 => ?_)
          obtain ⟨e61, rfl⟩ := h4
          rw [if_pos ⟨by omega, by omega⟩] at e61
          simp only [Nat.reduceAdd] at e61
          refine w_iconst X dX4_advance_64 ?_
          refine s_zret X hr dX4_advance_65 (by omega) ?_
          refine ⟨Or.inl ⟨rfl, k, ⟨by omega, by omega⟩, by rw [T5_row (by omega)]; omega, fun j hj hj2 => by rw [T5_row hj2]; exact h0 j hj hj2, fun j hj => ?_⟩, fun a ha => by rw [← e61, up2_k _ _ _ _ ha, ← e50, up2_k _ _ _ _ ha, ← e35, up2_k _ _ _ _ ha]; exact hm a ha, rfl⟩
          rw [T5_row hj, T5_row hj, T5_row (show k < 5 by omega), ← e61, up2_a, ← e50, up2_a, ← e35, up2_a, up2_a]
          have hvj := hv j hj
          have hkk := hv (((k : Int) - 1).toNat) (by omega)
          by_cases q1 : j + 1 = k
          · rw [if_pos q1, if_neg (by omega), if_pos ⟨rfl, by omega⟩, if_neg (by omega), hkk, show ((k : Int) - 1).toNat = j by omega]
          · rw [if_neg q1]
            by_cases q2 : (j : Int) = mi 1 3 - 1
            · rw [if_pos q2, if_pos ⟨rfl, by omega⟩]; omega
            · rw [if_neg q2, if_neg (by omega), if_neg (by omega)]
              by_cases q3 : j = k
              · rw [if_pos ⟨rfl, by omega⟩, if_pos q3]
              · rw [if_neg (by omega), if_neg q3]; exact hvj
  have e0 : mi 1 3 - 1 = (((mi 1 3 - 1).toNat : Nat) : Int) := by omega
  have lp := loop _ mi (mi 1 3 - 1).toNat 0 (by omega) rfl (fun _ _ => rfl) (fun _ _ => rfl) (fun j hj hj2 => hz j hj2 (by omega)) rfl
  rw [← e0] at lp
  exact lp
set_option maxRecDepth 20000 in
set_option maxHeartbeats 4000000 in
theorem c_X4_listCrowds {l : Launch} {G : Gt} {n0 : Nat} {mi : Nat → Nat → Int} {mr : Nat → Nat → Nat} (hsc : 1 ≤ mi 1 3 ∧ mi 1 3 ≤ 5) {z : Int} (hz : 1 ≤ z ∧ z ≤ 8) : Cv l yX4_listCrowds cX4_listCrowds 3 3 G n0 [.ref (n0 + 461), .int (jI z)] mi mr (fun mi9 mr9 => ∃ (k : Nat) (P : Nat → V5), mi9 461 10 = (k : Int) ∧ Lst (mi 1 3) z k P ∧ (∀ i : Nat, i < k → mi9 466 i = cdn (F5 (P i)) (mi 1 3).toNat ∧ mi9 467 i = -9 ∧ mi9 471 i = 0) ∧ (∀ a, a ≠ 461 → a ≠ 463 → a ≠ 466 → a ≠ 467 → a ≠ 471 → mi9 a = mi a) ∧ (∀ j : Nat, j ≠ 10 → mi9 461 j = mi 461 j) ∧ mr = mr9) := by
  refine Ct_of (by decide +kernel) (by intro v hv; simp at hv; rcases hv with rfl | rfl <;> rfl) (Nat.le_of_ble_eq_true rfl) ?_
  intro p e s m args below meth c9 X hr hname
  show WW _ _ _ _ _ _ _ _ _ _ _ _ _ _ _ _ _ _ _ [some (.ref (n0 + 461)), some (.int (jI z)), none] _
  refine w_aload_n X dX4_listCrowds_0 rfl ?_
  refine w_get X (by decide) (σ_461 G n0 _ _) rfl gW_X4 1 (by decide) gF_X4_12 rfl dX4_listCrowds_1 ?_
  refine s_callVv X _ (c_X3_clear (l := l) (G := G) (n0 := n0) cr_462) gM_X4_99 gI_yX3_clear gS_yX3_clear gN_X3 gC_yX3_clear (isCr_k cr_462) (σ_cr G n0 _ _ cr_462) rfl dX4_listCrowds_4 hl_yX3_clear ⟨Nat.le_of_ble_eq_true rfl, Nat.le_of_ble_eq_true rfl⟩ (Nat.le_of_ble_eq_true rfl) rfl (fun mi1 mr1 h1 => ?_)
  obtain ⟨rfl, rfl⟩ := h1
  refine w_aload_n X dX4_listCrowds_7 rfl ?_
  refine w_get X (by decide) (σ_461 G n0 _ _) rfl gW_X4 1 (by decide) gF_X4_12 rfl dX4_listCrowds_8 ?_
  refine w_aload_n X dX4_listCrowds_11 rfl ?_
  refine w_get X (by decide) (σ_461 G n0 _ _) rfl gW_X4 0 (by decide) gF_X4_60 rfl dX4_listCrowds_12 ?_
  refine w_getN X (by decide) (σ_1 G n0 _ _) rfl gW_X5 3 (by decide) gF_X4_102 rfl dX4_listCrowds_15 ?_
  rw [row5_k (show (1 : Nat) ≠ 463 by decide)]
  refine w_iconst X dX4_listCrowds_18 ?_
  refine w_isub X dX4_listCrowds_19 ?_
  refine w_iload_n X dX4_listCrowds_20 rfl ?_
  refine s_callVv X _ (c_X3_set (l := l) (G := G) (n0 := n0) cr_462 (by first | assumption | (refine ⟨?_, ?_⟩ <;> omega))) gM_X4_107 gI_yX3_set gS_yX3_set gN_X3 gC_yX3_set (isCr_k cr_462) (σ_cr G n0 _ _ cr_462) rfl dX4_listCrowds_21 hl_yX3_set ⟨Nat.le_of_ble_eq_true rfl, Nat.le_of_ble_eq_true rfl⟩ (Nat.le_of_ble_eq_true rfl) rfl (fun mi2 mr2 h2 => ?_)
  obtain ⟨e21, rfl⟩ := h2
  rw [if_pos ⟨by omega, by omega⟩] at e21
  simp only [Nat.reduceAdd] at e21
  refine w_aload_n X dX4_listCrowds_24 rfl ?_
  refine w_iconst X dX4_listCrowds_25 ?_
  refine w_put X (by decide) (σ_461 G n0 _ _) rfl gW_X4 tyX4 tyX4_ok nmX4 10 (by decide) gF_X4_51 rfl rfl rfl (Nat.le_of_ble_eq_true rfl) dX4_listCrowds_26 (WW.eqf (sp_461_10 _) ?_)
  refine w_iconst X dX4_listCrowds_29 ?_
  refine w_ist3_2 X dX4_listCrowds_30 ?_
  have loop : ∀ (n : Nat) (mi' : Nat → Nat → Int) (k : Nat) (P : Nat → V5) (x : Int), (mi' 461 10 = (k : Int)) → (Inc (mi 1 3) z k P) → (x = 1 ∧ Cro (mi 1 3) z (T5 (mi' 463)) ∧ (∀ i : Nat, i < k → lx (P i) (T5 (mi' 463))) ∧ (∀ w, Cro (mi 1 3) z w → lx w (T5 (mi' 463)) → ∃ i : Nat, i < k ∧ P i = w) ∨ x = 0 ∧ Lst (mi 1 3) z k P) → (∀ i : Nat, i < k → mi' 466 i = cdn (F5 (P i)) (mi 1 3).toNat ∧ mi' 467 i = -9 ∧ mi' 471 i = 0) → (∀ a, a ≠ 461 → a ≠ 463 → a ≠ 466 → a ≠ 467 → a ≠ 471 → mi' a = mi a) → (∀ j : Nat, j ≠ 10 → mi' 461 j = mi 461 j) → n = 496 - k → WSv p l e s m args below meth c9 3 (fun mi9 mr9 => ∃ (k : Nat) (P : Nat → V5), mi9 461 10 = (k : Int) ∧ Lst (mi 1 3) z k P ∧ (∀ i : Nat, i < k → mi9 466 i = cdn (F5 (P i)) (mi 1 3).toNat ∧ mi9 467 i = -9 ∧ mi9 471 i = 0) ∧ (∀ a, a ≠ 461 → a ≠ 463 → a ≠ 466 → a ≠ 467 → a ≠ 471 → mi9 a = mi a) ∧ (∀ j : Nat, j ≠ 10 → mi9 461 j = mi 461 j) ∧ mr = mr9) G n0 3 mi' mr 31 [some (.ref (n0 + 461)), some (.int (jI z)), some (.int (jI x))] [] := by
    intro n
    induction n using Nat.strongRecOn with
    | ind n ih_loop =>
      intro mi' k P x hk hI hcs hro hfr h461 hn
      refine w_iload_n X dX4_listCrowds_31 rfl ?_
      refine w_if_eq X 101 dX4_listCrowds_32 (by decide) (fun c32_1 => ?_) (fun c32_1 => ?_)
      ·
        refine s_vret X hr dX4_listCrowds_101 ?_
        have hcs2 : Lst (mi 1 3) z k P := by
          rcases hcs with q | q
          · exact absurd q.1 (by omega)
          · exact q.2
        exact ⟨k, P, hk, hcs2, hro, hfr, h461, rfl⟩
      ·
        obtain ⟨hx1, hCr, hLt, hLs⟩ : x = 1 ∧ Cro (mi 1 3) z (T5 (mi' 463)) ∧ (∀ i : Nat, i < k → lx (P i) (T5 (mi' 463))) ∧ (∀ w, Cro (mi 1 3) z w → lx w (T5 (mi' 463)) → ∃ i : Nat, i < k ∧ P i = w) := by
          rcases hcs with q | q
          · exact q
          · exact absurd q.1 (by assumption)
        have hI1 := Inc_s hI hCr hLt
        have hk1 := Inc_l hI1 (by omega)
        have e1' : mi' 1 = mi 1 := hfr 1 (by decide) (by decide) (by decide) (by decide) (by decide)
        have hsc' : 1 ≤ mi' 1 3 ∧ mi' 1 3 ≤ 5 := by rw [e1']; exact hsc
        have h09' : ∀ j : Nat, j < 5 → 0 ≤ mi' 463 j ∧ mi' 463 j ≤ 9 := fun j hj => by have := Cro_9 hCr (by omega) j hj; rw [T5_row hj] at this; exact this
        refine w_aload_n X dX4_listCrowds_35 rfl ?_
        refine w_get X (by decide) (σ_461 G n0 _ _) rfl gW_X4 10 (by decide) gF_X4_51 rfl dX4_listCrowds_36 ?_
        refine w_sipush X dX4_listCrowds_39 rfl ?_
        refine w_icmp_ge X 101 dX4_listCrowds_42 (by decide) (fun h9 => absurd h9 (by omega)) (fun h42_ => ?_)
        refine w_aload_n X dX4_listCrowds_45 rfl ?_
        refine w_get X (by decide) (σ_461 G n0 _ _) rfl gW_X4 3 (by decide) gF_X4_21 rfl dX4_listCrowds_46 ?_
        refine w_aload_n X dX4_listCrowds_49 rfl ?_
        refine w_get X (by decide) (σ_461 G n0 _ _) rfl gW_X4 10 (by decide) gF_X4_51 rfl dX4_listCrowds_50 ?_
        refine w_aload_n X dX4_listCrowds_53 rfl ?_
        refine w_aload_n X dX4_listCrowds_54 rfl ?_
        refine w_get X (by decide) (σ_461 G n0 _ _) rfl gW_X4 1 (by decide) gF_X4_12 rfl dX4_listCrowds_55 ?_
        refine s_callVi X _ (c_X4_codeOf (l := l) (G := G) (n0 := n0) hsc' cr_462 h09') gM_X4_111 gI_yX4_codeOf gS_yX4_codeOf gN_X4 gC_yX4_codeOf (by decide) (σ_461 G n0 _ _) rfl dX4_listCrowds_58 hl_yX4_codeOf ⟨Nat.le_of_ble_eq_true rfl, Nat.le_of_ble_eq_true rfl⟩ (Nat.le_of_ble_eq_true rfl) rfl (fun r3 mi3 mr3 h3 => ?_)
        obtain ⟨rfl, rfl, h3⟩ := h3
        simp only [Nat.reduceAdd] at h3
        refine s_iast X (k) (by decide) (fun _ => σ_f4 G n0 _ _ (by decide)) dX4_listCrowds_61 ?_
        refine w_aload_n X dX4_listCrowds_62 rfl ?_
        refine w_get X (by decide) (σ_461 G n0 _ _) rfl gW_X4 4 (by decide) gF_X4_25 rfl dX4_listCrowds_63 ?_
        refine w_aload_n X dX4_listCrowds_66 rfl ?_
        refine w_get X (by decide) (σ_461 G n0 _ _) rfl gW_X4 10 (by decide) gF_X4_51 rfl dX4_listCrowds_67 ?_
        rw [up2_k _ _ _ _ (show (461 : Nat) ≠ 466 by decide)]
        refine w_bipush X dX4_listCrowds_70 rfl ?_
        refine s_iast X (k) (by decide) (fun _ => σ_f4 G n0 _ _ (by decide)) dX4_listCrowds_72 ?_
        refine w_aload_n X dX4_listCrowds_73 rfl ?_
        refine w_get X (by decide) (σ_461 G n0 _ _) rfl gW_X4 7 (by decide) gF_X4_40 rfl dX4_listCrowds_74 ?_
        refine w_aload_n X dX4_listCrowds_77 rfl ?_
        refine w_get X (by decide) (σ_461 G n0 _ _) rfl gW_X4 10 (by decide) gF_X4_51 rfl dX4_listCrowds_78 ?_
        rw [up2_k _ _ _ _ (show (461 : Nat) ≠ 467 by decide), up2_k _ _ _ _ (show (461 : Nat) ≠ 466 by decide)]
        refine w_iconst X dX4_listCrowds_81 ?_
        refine s_zast X (k) (by decide) (fun _ => σ_471 G n0 _ _) (by omega) dX4_listCrowds_82 ?_
        refine w_aload_n X dX4_listCrowds_83 rfl ?_
        refine w_dup X dX4_listCrowds_84 rfl ?_
        refine w_get X (by decide) (σ_461 G n0 _ _) rfl gW_X4 10 (by decide) gF_X4_51 rfl dX4_listCrowds_85 ?_
        rw [up2_k _ _ _ _ (show (461 : Nat) ≠ 471 by decide), up2_k _ _ _ _ (show (461 : Nat) ≠ 467 by decide), up2_k _ _ _ _ (show (461 : Nat) ≠ 466 by decide)]
        refine w_iconst X dX4_listCrowds_88 ?_
        refine w_iadd X dX4_listCrowds_89 ?_
        refine w_put X (by decide) (σ_461 G n0 _ _) rfl gW_X4 tyX4 tyX4_ok nmX4 10 (by decide) gF_X4_51 rfl rfl rfl (Nat.le_of_ble_eq_true rfl) dX4_listCrowds_90 (WW.eqf (sp_461_10 _) ?_)
        have gM : ∀ a, a ≠ 461 → a ≠ 466 → a ≠ 467 → a ≠ 471 → up2 (up2 (up2 (up2 mi' 466 k r3) 467 k (-9)) 471 k 0) 461 10 (mi' 461 10 + 1) a = mi' a := fun a h1 h2 h3 h4 => by rw [up2_k _ _ _ _ h1, up2_k _ _ _ _ h4, up2_k _ _ _ _ h3, up2_k _ _ _ _ h2]
        have gM466 : ∀ i : Nat, up2 (up2 (up2 (up2 mi' 466 k r3) 467 k (-9)) 471 k 0) 461 10 (mi' 461 10 + 1) 466 i = if i = k then r3 else mi' 466 i := fun i => by simp [up2_a]
        have gM467 : ∀ i : Nat, up2 (up2 (up2 (up2 mi' 466 k r3) 467 k (-9)) 471 k 0) 461 10 (mi' 461 10 + 1) 467 i = if i = k then -9 else mi' 467 i := fun i => by simp [up2_a]
        have gM471 : ∀ i : Nat, up2 (up2 (up2 (up2 mi' 466 k r3) 467 k (-9)) 471 k 0) 461 10 (mi' 461 10 + 1) 471 i = if i = k then 0 else mi' 471 i := fun i => by simp [up2_a]
        have gM10 : up2 (up2 (up2 (up2 mi' 466 k r3) 467 k (-9)) 471 k 0) 461 10 (mi' 461 10 + 1) 461 10 = mi' 461 10 + 1 := up2_s _ _ _ _
        have gM461 : ∀ j : Nat, j ≠ 10 → up2 (up2 (up2 (up2 mi' 466 k r3) 467 k (-9)) 471 k 0) 461 10 (mi' 461 10 + 1) 461 j = mi' 461 j := fun j hj => by rw [up2_j _ _ _ _ hj, up2_k _ _ _ _ (by decide), up2_k _ _ _ _ (by decide), up2_k _ _ _ _ (by decide)]
        generalize up2 (up2 (up2 (up2 mi' 466 k r3) 467 k (-9)) 471 k 0) 461 10 (mi' 461 10 + 1) = M at *
        have gM1 : M 1 = mi 1 := by rw [gM 1 (by decide) (by decide) (by decide) (by decide)]; exact e1'
        have gM463 : M 463 = mi' 463 := gM 463 (by decide) (by decide) (by decide) (by decide)
        have hM1 : 1 ≤ M 1 3 ∧ M 1 3 ≤ 5 := by rw [gM1]; exact hsc
        have hM9 : ∀ j : Nat, j < 5 → 0 ≤ M 463 j ∧ M 463 j ≤ 9 := by rw [gM463]; exact h09'
        have hMz : zf (M 1 3) (M 463) := fun j hj hj2 => by rw [gM1] at hj2; rw [gM463]; have := hCr.1 j hj hj2; rw [T5_row hj] at this; exact this
        refine w_aload_n X dX4_listCrowds_93 rfl ?_
        refine s_callVi X _ (c_X4_advance (l := l) (G := G) (n0 := n0) hM1 hM9 hMz) gM_X4_115 gI_yX4_advance gS_yX4_advance gN_X4 gC_yX4_advance (by decide) (σ_461 G n0 _ _) rfl dX4_listCrowds_94 hl_yX4_advance ⟨Nat.le_of_ble_eq_true rfl, Nat.le_of_ble_eq_true rfl⟩ (Nat.le_of_ble_eq_true rfl) rfl (fun r4 mi4 mr4 h4 => ?_)
        obtain ⟨hAd, hAf, rfl⟩ := h4
        refine w_ist3_2 X dX4_listCrowds_97 ?_
        refine w_goto X 31 dX4_listCrowds_98 (by decide) ?_
        have hP0 : ∀ i : Nat, i < k + 1 → mi4 466 i = cdn (F5 (if i = k then T5 (mi' 463) else P i)) (mi 1 3).toNat ∧ mi4 467 i = -9 ∧ mi4 471 i = 0 := fun i hi => by
          rw [hAf 466 (by decide), hAf 467 (by decide), hAf 471 (by decide), gM466, gM467, gM471]
          by_cases q : i = k
          · rw [if_pos q, if_pos q, if_pos q, if_pos q, h3, e1']
            exact ⟨cdn_c (fun j hj => (T5_row (by omega)).symm), rfl, rfl⟩
          · rw [if_neg q, if_neg q, if_neg q, if_neg q]; exact hro i (by omega)
        refine ih_loop _ (by omega) mi4 (k + 1) (fun i => if i = k then T5 (mi' 463) else P i) r4 ?_ hI1 ?_ hP0 (fun a h1 h2 h3 h4 h5 => by rw [hAf a h2, gM a h1 h3 h4 h5]; exact hfr a h1 h2 h3 h4 h5) (fun j hj => by rw [hAf 461 (by decide), gM461 j hj]; exact h461 j hj) rfl
        · rw [hAf 461 (by decide), gM10]; omega
        · rcases hAd with ⟨q, i, q2⟩ | ⟨q, q2⟩
          · left
            rw [gM1, gM463] at q2
            obtain ⟨n1, n2, n3⟩ := nxt_x hsc hCr q2
            refine ⟨q, n1, fun i hi => ?_, fun w hw hl => ?_⟩
            · try dsimp only
              by_cases q3 : i = k
              · rw [if_pos q3]; exact n2
              · rw [if_neg q3]; exact lx_t (hLt i (by omega)) n2
            · rcases lx_3 w (T5 (mi' 463)) with q3 | q3 | q3
              · obtain ⟨i, i1, i2⟩ := hLs w hw q3
                exact ⟨i, by omega, by (try dsimp only); rw [if_neg (by omega)]; exact i2⟩
              · exact ⟨k, by omega, by (try dsimp only); rw [if_pos rfl]; exact q3.symm⟩
              · rcases n3 w hw q3 with q4 | q4
                · rw [q4] at hl; exact absurd hl (lx_i _)
                · exact absurd (lx_t hl q4) (lx_i _)
          · right
            rw [gM463] at q2
            refine ⟨q, hI1, fun w hw => ?_⟩
            rcases lx_3 w (T5 (mi' 463)) with q3 | q3 | q3
            · obtain ⟨i, i1, i2⟩ := hLs w hw q3
              exact ⟨i, by omega, by (try dsimp only); rw [if_neg (by omega)]; exact i2⟩
            · exact ⟨k, by omega, by (try dsimp only); rw [if_pos rfl]; exact q3.symm⟩
            · exact absurd q3 (lx_top hCr (fun j hj hj2 => by rw [T5_row hj2]; exact q2 j hj hj2) hw)
  have g1 : ∀ a, a ≠ 463 → a ≠ 461 → up2 mi2 461 10 0 a = mi a := fun a ha hb => by rw [up2_k _ _ _ _ hb, ← e21, up2_k _ _ _ _ ha, row5_k ha]
  have g2 : up2 mi2 461 10 0 463 = mi2 463 := up2_k _ _ _ _ (by decide)
  have g3 : ∀ j : Nat, j < 5 → F5 (T5 (mi2 463)) j = if (j : Int) = mi 1 3 - 1 then z else 0 := fun j hj => by
    rw [T5_row hj, ← e21, up2_a]
    by_cases q : (j : Int) = mi 1 3 - 1
    · rw [if_pos ⟨rfl, by omega⟩, if_pos q]
    · rw [if_neg (by omega), if_neg q]; exact row5_s hj
  have lo1 := lx_low (u := T5 (mi2 463)) hsc g3 (by omega)
  exact loop _ (up2 mi2 461 10 0) 0 (fun _ => T5 (mi 463)) 1 (up2_s _ _ _ _) ⟨fun i hi => absurd hi (by omega), fun i j _ hj => absurd hj (by omega)⟩ (Or.inl ⟨rfl, by rw [g2]; exact lo1.1, fun i hi => absurd hi (by omega), fun w hw hl => absurd (by rw [g2] at hl; exact hl) ((lx_low (u := w) hsc g3 (by omega)).2 hw)⟩) (fun i hi => absurd hi (by omega)) (fun a h1 h2 _ _ _ => g1 a h2 h1) (fun j hj => by rw [up2_j _ _ _ _ hj, ← e21, up2_k _ _ _ _ (by decide), row5_k (by decide)]) rfl
