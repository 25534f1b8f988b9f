/-- the object stands for laws, start, crowd at hand and the search's outcome -/
def HA (L : Lws) (H : V5) (mi : Nat → Nat → Int) : Prop := Cro L.1 (sm H) H ∧ sm H ≤ 250 ∧ ∀ j : Nat, j < 5 → mi 43 j = F5 H j
def FK (K mi : Nat → Nat → Int) : Prop := ∀ a, 472 < a → mi a = K a
def WK (L : Lws) (set : Int) (mi : Nat → Nat → Int) : Prop := (mi 461 9 = -9 ∨ 1 ≤ mi 461 9 ∧ mi 461 9 ≤ 8) ∧ ∀ z : Int, 1 ≤ z → z ≤ 8 → mi 461 9 = z → FD L z set mi
def CV (K : Nat → Nat → Int) (L : Lws) (set : Int) (H : V5) (o : Int) (mi : Nat → Nat → Int) (mr : Nat → Nat → Nat) : Prop := LW mi ∧ LO L ∧ LwC mi L ∧ mi 1 4 = set ∧ HA L H mi ∧ SkP L mi mr ∧ mi 44 6 = o ∧ FK K mi ∧ WK L set mi
theorem HA_b {L : Lws} {H : V5} {mi : Nat → Nat → Int} (h : HA L H mi) : (∀ j : Nat, j < 5 → 0 ≤ mi 43 j ∧ mi 43 j ≤ 250) ∧ CB mi 42 ∧ T5 (mi 43) = H ∧ sum5 (mi 43) = sm H ∧ 0 ≤ sm H := by
  obtain ⟨h1, h2, h3⟩ := h
  have a := sum5_n h1.2.1
  have b : sum5 (F5 H) = sm H := rfl
  have c : ∀ j : Nat, j < 5 → 0 ≤ mi 43 j ∧ mi 43 j ≤ 250 := fun j hj => by
    have := h1.2.1 j hj
    have := a.2 j hj
    rw [h3 j hj]; omega
  exact ⟨c, CB_of (fun j hj => by have := c j hj; show 0 ≤ mi 43 j ∧ mi 43 j ≤ 1000; omega), (T5_c h3).trans (T5_F5 _), sum5_c h3, a.1⟩
theorem CV_o {K : Nat → Nat → Int} {L : Lws} {set : Int} {H : V5} {o : Int} {mi : Nat → Nat → Int} {mr : Nat → Nat → Nat} (h : CV K L set H o mi mr) : NN mr ∧ BO mi mr (mr 44 4) ∧ (o = -3 ∨ Res L o) ∧ (o = -3 ∨ o = -5 ∨ 0 ≤ o ∧ o ≤ 40) ∧ (0 ≤ o → (Srt (Ef mi mr (mr 44 4)) ∧ mi (mr 44 4) 2 ≤ 100 ∧ ∀ v, Mn (Dk L o.toNat) v ↔ ∃ y ∈ Ef mi mr (mr 44 4), y.1 = v)) := by
  obtain ⟨-, -, -, -, -, ⟨A, N, h1, h2, h3, h4, h5, h6⟩, h7, -, -⟩ := h
  subst h2 h7
  refine ⟨h1.nn rfl h3, h4, ?_, ?_, ?_⟩
  · rcases h6 with q | ⟨q, -⟩
    · exact Or.inl q
    · exact Or.inr q
  · rcases h6 with q | ⟨⟨k, q, q2, -⟩ | ⟨q, -⟩, -⟩
    · exact Or.inl q
    · omega
    · exact Or.inr (Or.inl q)
  · intro q
    rcases h6 with q2 | ⟨-, q2⟩
    · omega
    · exact q2 q
theorem doom_iff {L : Lws} {k : Nat} {E : List (V5 × Int)} {v : V5} (hL : LO L) (h : ∀ v, Mn (Dk L k) v ↔ ∃ y ∈ E, y.1 = v) (hz : zf L.1 (F5 v)) : (∃ y ∈ E, gv v y.1) ↔ Dk L k v := by
  constructor
  · rintro ⟨y, y1, y2⟩
    exact Dk_up hL k ((h y.1).mpr ⟨y, y1, rfl⟩).1 y2 hz
  · intro hd
    obtain ⟨u, u1, u2⟩ := Dk_ex hL hd
    obtain ⟨y, y1, y2⟩ := (h u).mp u1
    exact ⟨y, y1, by rw [y2]; exact u2⟩
theorem hl_yX7_isWalkable : (yX7_isWalkable.cls ≠ "java/lang/invoke/MethodHandle" ∧ yX7_isWalkable.cls ≠ "java/lang/invoke/VarHandle") ∧ (parseMethodDescriptor yX7_isWalkable.desc).map (fun d => d.parameters.length) = some 1 := by decide +kernel
theorem hl_yX7_forgetFindings : (yX7_forgetFindings.cls ≠ "java/lang/invoke/MethodHandle" ∧ yX7_forgetFindings.cls ≠ "java/lang/invoke/VarHandle") ∧ (parseMethodDescriptor yX7_forgetFindings.desc).map (fun d => d.parameters.length) = some 0 := by decide +kernel
theorem hl_yX7_at : (yX7_at.cls ≠ "java/lang/invoke/MethodHandle" ∧ yX7_at.cls ≠ "java/lang/invoke/VarHandle") ∧ (parseMethodDescriptor yX7_at.desc).map (fun d => d.parameters.length) = some 1 := by decide +kernel
theorem hl_yX7_can : (yX7_can.cls ≠ "java/lang/invoke/MethodHandle" ∧ yX7_can.cls ≠ "java/lang/invoke/VarHandle") ∧ (parseMethodDescriptor yX7_can.desc).map (fun d => d.parameters.length) = some 1 := by decide +kernel
theorem hl_yX7_isBad : (yX7_isBad.cls ≠ "java/lang/invoke/MethodHandle" ∧ yX7_isBad.cls ≠ "java/lang/invoke/VarHandle") ∧ (parseMethodDescriptor yX7_isBad.desc).map (fun d => d.parameters.length) = some 0 := by decide +kernel
theorem hl_yX7_doomed : (yX7_doomed.cls ≠ "java/lang/invoke/MethodHandle" ∧ yX7_doomed.cls ≠ "java/lang/invoke/VarHandle") ∧ (parseMethodDescriptor yX7_doomed.desc).map (fun d => d.parameters.length) = some 0 := by decide +kernel
theorem hl_yX7_search : (yX7_search.cls ≠ "java/lang/invoke/MethodHandle" ∧ yX7_search.cls ≠ "java/lang/invoke/VarHandle") ∧ (parseMethodDescriptor yX7_search.desc).map (fun d => d.parameters.length) = some 0 := by decide +kernel
theorem hl_yX7_bases : (yX7_bases.cls ≠ "java/lang/invoke/MethodHandle" ∧ yX7_bases.cls ≠ "java/lang/invoke/VarHandle") ∧ (parseMethodDescriptor yX7_bases.desc).map (fun d => d.parameters.length) = some 0 := by decide +kernel
theorem hl_yX7_least : (yX7_least.cls ≠ "java/lang/invoke/MethodHandle" ∧ yX7_least.cls ≠ "java/lang/invoke/VarHandle") ∧ (parseMethodDescriptor yX7_least.desc).map (fun d => d.parameters.length) = some 0 := by decide +kernel
theorem dX7_isWalkable_0 : decode cX7_isWalkable 0 = .ok (.iload_n 0, 1) := by decide +kernel
theorem dX7_isWalkable_1 : decode cX7_isWalkable 1 = .ok (.iconst 1, 1) := by decide +kernel
theorem dX7_isWalkable_2 : decode cX7_isWalkable 2 = .ok (.if_icmp .lt 13, 3) := by decide +kernel
theorem dX7_isWalkable_5 : decode cX7_isWalkable 5 = .ok (.iload_n 0, 1) := by decide +kernel
theorem dX7_isWalkable_6 : decode cX7_isWalkable 6 = .ok (.bipush 8, 2) := by decide +kernel
theorem dX7_isWalkable_8 : decode cX7_isWalkable 8 = .ok (.if_icmp .gt 7, 3) := by decide +kernel
theorem dX7_isWalkable_11 : decode cX7_isWalkable 11 = .ok (.iconst 1, 1) := by decide +kernel
theorem dX7_isWalkable_12 : decode cX7_isWalkable 12 = .ok (.goto 4, 3) := by decide +kernel
theorem dX7_isWalkable_15 : decode cX7_isWalkable 15 = .ok (.iconst 0, 1) := by decide +kernel
theorem dX7_isWalkable_16 : decode cX7_isWalkable 16 = .ok (.ireturn, 1) := by decide +kernel
set_option maxRecDepth 20000 in
set_option maxHeartbeats 4000000 in
theorem c_X7_isWalkable {l : Launch} {G : Gt} {n0 : Nat} {mi : Nat → Nat → Int} {mr : Nat → Nat → Nat} {z : Int} (hz : rg z) : Ci l yX7_isWalkable cX7_isWalkable 1 .boolean 1 G n0 [.int (jI z)] mi mr (fun r9 mi9 mr9 => mi = mi9 ∧ mr = mr9 ∧ (r9 = 1 ∧ 1 ≤ z ∧ z ≤ 8 ∨ r9 = 0 ∧ ¬ (1 ≤ z ∧ z ≤ 8))) := by
  refine Ct_of (by decide +kernel) (by intro v hv; simp at hv; rcases hv with rfl <;> rfl) (Nat.le_of_ble_eq_true rfl) ?_
  intro p e s m args below meth c9 X hr hname
  show WW _ _ _ _ _ _ _ _ _ _ _ _ _ _ _ _ _ _ _ [some (.int (jI z))] _
  refine w_iload_n X dX7_isWalkable_0 rfl ?_
  refine w_iconst X dX7_isWalkable_1 ?_
  refine w_icmp_lt X 15 dX7_isWalkable_2 (by decide) (fun c2_1 => ?_) (fun c2_1 => ?_)
  ·
    refine w_iconst X dX7_isWalkable_15 ?_
    refine s_zret X hr dX7_isWalkable_16 (by omega) ?_
    exact ⟨rfl, rfl, by omega⟩
  ·
    refine w_iload_n X dX7_isWalkable_5 rfl ?_
    refine w_bipush X dX7_isWalkable_6 rfl ?_
    refine w_icmp_gt X 15 dX7_isWalkable_8 (by decide) (fun c8_2 => ?_) (fun c8_2 => ?_)
    ·
      refine w_iconst X dX7_isWalkable_15 ?_
      refine s_zret X hr dX7_isWalkable_16 (by omega) ?_
      exact ⟨rfl, rfl, by omega⟩
    ·
      refine w_iconst X dX7_isWalkable_11 ?_
      refine w_goto X 16 dX7_isWalkable_12 (by decide) ?_
      refine s_zret X hr dX7_isWalkable_16 (by omega) ?_
      exact ⟨rfl, rfl, by omega⟩
theorem dX7_forgetFindings_0 : decode cX7_forgetFindings 0 = .ok (.aload_n 0, 1) := by decide +kernel
theorem dX7_forgetFindings_1 : decode cX7_forgetFindings 1 = .ok (.getfield 28, 3) := by decide +kernel
theorem dX7_forgetFindings_4 : decode cX7_forgetFindings 4 = .ok (.invokevirtual 195, 3) := by decide +kernel
theorem dX7_forgetFindings_7 : decode cX7_forgetFindings 7 = .ok (.aload_n 0, 1) := by decide +kernel
theorem dX7_forgetFindings_8 : decode cX7_forgetFindings 8 = .ok (.getfield 35, 3) := by decide +kernel
theorem dX7_forgetFindings_11 : decode cX7_forgetFindings 11 = .ok (.invokevirtual 56, 3) := by decide +kernel
theorem dX7_forgetFindings_14 : decode cX7_forgetFindings 14 = .ok (.return_, 1) := by decide +kernel
set_option maxRecDepth 20000 in
set_option maxHeartbeats 4000000 in
theorem c_X7_forgetFindings {l : Launch} {G : Gt} {n0 : Nat} {mi : Nat → Nat → Int} {mr : Nat → Nat → Nat}  : Cv l yX7_forgetFindings cX7_forgetFindings 1 2 G n0 [.ref (n0 + 0)] mi mr (fun mi9 mr9 => up2 (up2 mi 44 6 (-3)) 461 9 (-9) = mi9 ∧ mr = mr9) := by
  refine Ct_of (by decide +kernel) (by intro v hv; simp at hv; rcases hv with rfl <;> rfl) (Nat.le_of_ble_eq_true rfl) ?_
  intro p e s m args below meth c9 X hr hname
  show WW _ _ _ _ _ _ _ _ _ _ _ _ _ _ _ _ _ _ _ [some (.ref (n0 + 0))] _
  refine w_aload_n X dX7_forgetFindings_0 rfl ?_
  refine w_get X (by decide) (σ_0 G n0 _ _) rfl gW_X7 2 (by decide) gF_X7_28 rfl dX7_forgetFindings_1 ?_
  refine s_callVv X _ (c_X0_forget (l := l) (G := G) (n0 := n0)) gM_X7_195 gI_yX0_forget gS_yX0_forget gN_X0 gC_yX0_forget (by decide) (σ_44 G n0 _ _) rfl dX7_forgetFindings_4 hl_yX0_forget ⟨Nat.le_of_ble_eq_true rfl, Nat.le_of_ble_eq_true rfl⟩ (Nat.le_of_ble_eq_true rfl) rfl (fun mi1 mr1 h1 => ?_)
  obtain ⟨rfl, rfl⟩ := h1
  refine w_aload_n X dX7_forgetFindings_7 rfl ?_
  refine w_get X (by decide) (σ_0 G n0 _ _) rfl gW_X7 3 (by decide) gF_X7_35 rfl dX7_forgetFindings_8 ?_
  refine s_callVv X _ (c_X4_forget (l := l) (G := G) (n0 := n0)) gM_X7_56 gI_yX4_forget gS_yX4_forget gN_X4 gC_yX4_forget (by decide) (σ_461 G n0 _ _) rfl dX7_forgetFindings_11 hl_yX4_forget ⟨Nat.le_of_ble_eq_true rfl, Nat.le_of_ble_eq_true rfl⟩ (Nat.le_of_ble_eq_true rfl) rfl (fun mi2 mr2 h2 => ?_)
  obtain ⟨rfl, rfl⟩ := h2
  refine s_vret X hr dX7_forgetFindings_14 ?_
  exact ⟨rfl, rfl⟩
theorem dX7_at_0 : decode cX7_at 0 = .ok (.aload_n 0, 1) := by decide +kernel
theorem dX7_at_1 : decode cX7_at 1 = .ok (.getfield 10, 3) := by decide +kernel
theorem dX7_at_4 : decode cX7_at 4 = .ok (.iload_n 1, 1) := by decide +kernel
theorem dX7_at_5 : decode cX7_at 5 = .ok (.invokevirtual 59, 3) := by decide +kernel
theorem dX7_at_8 : decode cX7_at 8 = .ok (.ifCond .eq 14, 3) := by decide +kernel
theorem dX7_at_11 : decode cX7_at 11 = .ok (.aload_n 0, 1) := by decide +kernel
theorem dX7_at_12 : decode cX7_at 12 = .ok (.getfield 19, 3) := by decide +kernel
theorem dX7_at_15 : decode cX7_at 15 = .ok (.iload_n 1, 1) := by decide +kernel
theorem dX7_at_16 : decode cX7_at 16 = .ok (.invokevirtual 109, 3) := by decide +kernel
theorem dX7_at_19 : decode cX7_at 19 = .ok (.goto 4, 3) := by decide +kernel
theorem dX7_at_22 : decode cX7_at 22 = .ok (.iconst (-1), 1) := by decide +kernel
theorem dX7_at_23 : decode cX7_at 23 = .ok (.ireturn, 1) := by decide +kernel
set_option maxRecDepth 20000 in
set_option maxHeartbeats 4000000 in
theorem c_X7_at {l : Launch} {G : Gt} {n0 : Nat} {mi : Nat → Nat → Int} {mr : Nat → Nat → Nat} {K : Nat → Nat → Int} {L : Lws} {set : Int} {H : V5} {o : Int} (hV : CV K L set H o mi mr) {z : Int} (hz : rg z) : Ci l yX7_at cX7_at 2 .int 3 G n0 [.ref (n0 + 0), .int (jI z)] mi mr (fun r9 mi9 mr9 => mi = mi9 ∧ mr = mr9 ∧ ((0 ≤ z ∧ z < L.1) ∧ r9 = F5 H z.toNat ∨ ¬ (0 ≤ z ∧ z < L.1) ∧ r9 = -1)) := by
  refine Ct_of (by decide +kernel) (by intro v hv; simp at hv; rcases hv with rfl | rfl <;> rfl) (Nat.le_of_ble_eq_true rfl) ?_
  intro p e s m args below meth c9 X hr hname
  show WW _ _ _ _ _ _ _ _ _ _ _ _ _ _ _ _ _ _ _ [some (.ref (n0 + 0)), some (.int (jI z))] _
  have hW := hV.1
  have hO := hV.2.1
  have hC := hV.2.2.1
  have hH := hV.2.2.2.2.1
  have hHb := HA_b hH
  have hVo := CV_o hV
  have hoo : mi 44 6 = o := hV.2.2.2.2.2.2.1
  have hsc := hW.1
  have hC1 := hC.1
  refine w_aload_n X dX7_at_0 rfl ?_
  refine w_get X (by decide) (σ_0 G n0 _ _) rfl gW_X7 0 (by decide) gF_X7_10 rfl dX7_at_1 ?_
  refine w_iload_n X dX7_at_4 rfl ?_
  refine s_callVi X _ (c_X5_isState (l := l) (G := G) (n0 := n0) hsc (by first | assumption | (refine ⟨?_, ?_⟩ <;> omega))) gM_X7_59 gI_yX5_isState gS_yX5_isState gN_X5 gC_yX5_isState (by decide) (σ_1 G n0 _ _) rfl dX7_at_5 hl_yX5_isState ⟨Nat.le_of_ble_eq_true rfl, Nat.le_of_ble_eq_true rfl⟩ (Nat.le_of_ble_eq_true rfl) rfl (fun r1 mi1 mr1 h1 => ?_)
  obtain ⟨rfl, rfl, h1⟩ := h1
  refine w_if_eq X 22 dX7_at_8 (by decide) (fun c8_1 => ?_) (fun c8_1 => ?_)
  ·
    refine w_iconst X dX7_at_22 ?_
    refine s_iret X hr dX7_at_23 ?_
    first | exact ⟨rfl, rfl, Or.inl ⟨by omega, by rw [h2]; exact hH.2.2 _ (by omega)⟩⟩ | exact ⟨rfl, rfl, Or.inr ⟨by omega, rfl⟩⟩
  ·
    refine w_aload_n X dX7_at_11 rfl ?_
    refine w_get X (by decide) (σ_0 G n0 _ _) rfl gW_X7 1 (by decide) gF_X7_19 rfl dX7_at_12 ?_
    refine w_iload_n X dX7_at_15 rfl ?_
    refine s_callVi X _ (c_X3_of (l := l) (G := G) (n0 := n0) cr_42 (by first | assumption | (refine ⟨?_, ?_⟩ <;> omega))) gM_X7_109 gI_yX3_of gS_yX3_of gN_X3 gC_yX3_of (isCr_k cr_42) (σ_cr G n0 _ _ cr_42) rfl dX7_at_16 hl_yX3_of ⟨Nat.le_of_ble_eq_true rfl, Nat.le_of_ble_eq_true rfl⟩ (Nat.le_of_ble_eq_true rfl) rfl (fun r2 mi2 mr2 h2 => ?_)
    obtain ⟨rfl, rfl, h2⟩ := h2
    rw [if_pos ⟨by omega, by omega⟩] at h2
    simp only [Nat.reduceAdd] at h2
    refine w_goto X 23 dX7_at_19 (by decide) ?_
    refine s_iret X hr dX7_at_23 ?_
    first | exact ⟨rfl, rfl, Or.inl ⟨by omega, by rw [h2]; exact hH.2.2 _ (by omega)⟩⟩ | exact ⟨rfl, rfl, Or.inr ⟨by omega, rfl⟩⟩
theorem dX7_can_0 : decode cX7_can 0 = .ok (.aload_n 0, 1) := by decide +kernel
theorem dX7_can_1 : decode cX7_can 1 = .ok (.getfield 10, 3) := by decide +kernel
theorem dX7_can_4 : decode cX7_can 4 = .ok (.iload_n 1, 1) := by decide +kernel
theorem dX7_can_5 : decode cX7_can 5 = .ok (.invokevirtual 70, 3) := by decide +kernel
theorem dX7_can_8 : decode cX7_can 8 = .ok (.ifCond .ne 5, 3) := by decide +kernel
theorem dX7_can_11 : decode cX7_can 11 = .ok (.iconst (-1), 1) := by decide +kernel
theorem dX7_can_12 : decode cX7_can 12 = .ok (.ireturn, 1) := by decide +kernel
theorem dX7_can_13 : decode cX7_can 13 = .ok (.aload_n 0, 1) := by decide +kernel
theorem dX7_can_14 : decode cX7_can 14 = .ok (.getfield 10, 3) := by decide +kernel
theorem dX7_can_17 : decode cX7_can 17 = .ok (.getfield 73, 3) := by decide +kernel
theorem dX7_can_20 : decode cX7_can 20 = .ok (.iload_n 1, 1) := by decide +kernel
theorem dX7_can_21 : decode cX7_can 21 = .ok (.aaload, 1) := by decide +kernel
theorem dX7_can_22 : decode cX7_can 22 = .ok (.aload_n 0, 1) := by decide +kernel
theorem dX7_can_23 : decode cX7_can 23 = .ok (.getfield 19, 3) := by decide +kernel
theorem dX7_can_26 : decode cX7_can 26 = .ok (.invokevirtual 121, 3) := by decide +kernel
theorem dX7_can_29 : decode cX7_can 29 = .ok (.ifCond .eq 7, 3) := by decide +kernel
theorem dX7_can_32 : decode cX7_can 32 = .ok (.iconst 1, 1) := by decide +kernel
theorem dX7_can_33 : decode cX7_can 33 = .ok (.goto 4, 3) := by decide +kernel
theorem dX7_can_36 : decode cX7_can 36 = .ok (.iconst 0, 1) := by decide +kernel
theorem dX7_can_37 : decode cX7_can 37 = .ok (.ireturn, 1) := by decide +kernel
set_option maxRecDepth 20000 in
set_option maxHeartbeats 4000000 in
theorem c_X7_can {l : Launch} {G : Gt} {n0 : Nat} {mi : Nat → Nat → Int} {mr : Nat → Nat → Nat} {K : Nat → Nat → Int} {L : Lws} {set : Int} {H : V5} {o : Int} (hV : CV K L set H o mi mr) {z : Int} (hz : rg z) : Ci l yX7_can cX7_can 2 .int 3 G n0 [.ref (n0 + 0), .int (jI z)] mi mr (fun r9 mi9 mr9 => mi = mi9 ∧ mr = mr9 ∧ ((0 ≤ z ∧ z < L.2.1) ∧ (r9 = 1 ∧ fit (L.2.2.2.1 z.toNat) (F5 H) ∨ r9 = 0 ∧ ¬ fit (L.2.2.2.1 z.toNat) (F5 H)) ∨ ¬ (0 ≤ z ∧ z < L.2.1) ∧ r9 = -1)) := by
  refine Ct_of (by decide +kernel) (by intro v hv; simp at hv; rcases hv with rfl | rfl <;> rfl) (Nat.le_of_ble_eq_true rfl) ?_
  intro p e s m args below meth c9 X hr hname
  show WW _ _ _ _ _ _ _ _ _ _ _ _ _ _ _ _ _ _ _ [some (.ref (n0 + 0)), some (.int (jI z))] _
  have hW := hV.1
  have hO := hV.2.1
  have hC := hV.2.2.1
  have hH := hV.2.2.2.2.1
  have hHb := HA_b hH
  have hVo := CV_o hV
  have hoo : mi 44 6 = o := hV.2.2.2.2.2.2.1
  have hsc := hW.1
  have hC1 := hC.1
  have hL3 := hW.2.2.1
  refine w_aload_n X dX7_can_0 rfl ?_
  refine w_get X (by decide) (σ_0 G n0 _ _) rfl gW_X7 0 (by decide) gF_X7_10 rfl dX7_can_1 ?_
  refine w_iload_n X dX7_can_4 rfl ?_
  refine s_callVi X _ (c_X5_isRule (l := l) (G := G) (n0 := n0) hW.2.2.1 (by first | assumption | (refine ⟨?_, ?_⟩ <;> omega))) gM_X7_70 gI_yX5_isRule gS_yX5_isRule gN_X5 gC_yX5_isRule (by decide) (σ_1 G n0 _ _) rfl dX7_can_5 hl_yX5_isRule ⟨Nat.le_of_ble_eq_true rfl, Nat.le_of_ble_eq_true rfl⟩ (Nat.le_of_ble_eq_true rfl) rfl (fun r1 mi1 mr1 h1 => ?_)
  obtain ⟨rfl, rfl, h1⟩ := h1
  refine w_if_ne X 13 dX7_can_8 (by decide) (fun c8_1 => ?_) (fun c8_1 => ?_)
  ·
    have hz2 : 0 ≤ z ∧ z < mi 1 5 := by omega
    have hrv := hW.2.2.2.2.1 z.toNat (by omega)
    have hru := hC.2.2.2.1 z.toNat (by omega)
    refine w_aload_n X dX7_can_13 rfl ?_
    refine w_get X (by decide) (σ_0 G n0 _ _) rfl gW_X7 0 (by decide) gF_X7_10 rfl dX7_can_14 ?_
    refine w_getN X (by decide) (σ_1 G n0 _ _) rfl gW_X5 0 (by decide) gF_X7_73 rfl dX7_can_17 ?_
    refine w_iload_n X dX7_can_20 rfl ?_
    refine s_aald X (t := 3) (z.toNat) (by decide) (σ_2 G n0 _ _) rfl dX7_can_21 ?_
    refine w_aload_n X dX7_can_22 rfl ?_
    refine w_get X (by decide) (σ_0 G n0 _ _) rfl gW_X7 1 (by decide) gF_X7_19 rfl dX7_can_23 ?_
    refine s_callVi X _ (c_X6_fits (l := l) (G := G) (n0 := n0) (ru_2 (by omega)) hrv cr_42 hHb.2.1) gM_X7_121 gI_yX6_fits gS_yX6_fits gN_X6 gC_yX6_fits (isRu_k (ru_2 (by omega))) (σ_ru G n0 _ _ (ru_2 (by omega))) rfl dX7_can_26 hl_yX6_fits ⟨Nat.le_of_ble_eq_true rfl, Nat.le_of_ble_eq_true rfl⟩ (Nat.le_of_ble_eq_true rfl) rfl (fun r2 mi2 mr2 h2 => ?_)
    obtain ⟨rfl, rfl, h2⟩ := h2
    refine w_if_eq X 36 dX7_can_29 (by decide) (fun c29_2 => ?_) (fun c29_2 => ?_)
    ·
      refine w_iconst X dX7_can_36 ?_
      refine s_iret X hr dX7_can_37 ?_
      have hf : fit (L.2.2.2.1 z.toNat) (F5 H) ↔ fit (mi (6 + 2 * z.toNat)) (mi 43) := by rw [hru]; exact (fit_c hH.2.2).symm
      refine ⟨rfl, rfl, Or.inl ⟨by rw [hC.2.1]; omega, ?_⟩⟩
      rcases h2 with ⟨q, q2⟩ | ⟨q, q2⟩
      · first | exact Or.inl ⟨rfl, hf.mpr q2⟩ | omega
      · first | exact Or.inr ⟨rfl, fun w => q2 (hf.mp w)⟩ | omega
    ·
      refine w_iconst X dX7_can_32 ?_
      refine w_goto X 37 dX7_can_33 (by decide) ?_
      refine s_iret X hr dX7_can_37 ?_
      have hf : fit (L.2.2.2.1 z.toNat) (F5 H) ↔ fit (mi (6 + 2 * z.toNat)) (mi 43) := by rw [hru]; exact (fit_c hH.2.2).symm
      refine ⟨rfl, rfl, Or.inl ⟨by rw [hC.2.1]; omega, ?_⟩⟩
      rcases h2 with ⟨q, q2⟩ | ⟨q, q2⟩
      · first | exact Or.inl ⟨rfl, hf.mpr q2⟩ | omega
      · first | exact Or.inr ⟨rfl, fun w => q2 (hf.mp w)⟩ | omega
  ·
    refine w_iconst X dX7_can_11 ?_
    refine s_iret X hr dX7_can_12 ?_
    exact ⟨rfl, rfl, Or.inr ⟨by rw [hC.2.1]; omega, rfl⟩⟩
theorem dX7_isBad_0 : decode cX7_isBad 0 = .ok (.aload_n 0, 1) := by decide +kernel
theorem dX7_isBad_1 : decode cX7_isBad 1 = .ok (.getfield 10, 3) := by decide +kernel
theorem dX7_isBad_4 : decode cX7_isBad 4 = .ok (.aload_n 0, 1) := by decide +kernel
theorem dX7_isBad_5 : decode cX7_isBad 5 = .ok (.getfield 19, 3) := by decide +kernel
theorem dX7_isBad_8 : decode cX7_isBad 8 = .ok (.invokevirtual 140, 3) := by decide +kernel
theorem dX7_isBad_11 : decode cX7_isBad 11 = .ok (.ifCond .eq 7, 3) := by decide +kernel
theorem dX7_isBad_14 : decode cX7_isBad 14 = .ok (.iconst 1, 1) := by decide +kernel
theorem dX7_isBad_15 : decode cX7_isBad 15 = .ok (.goto 4, 3) := by decide +kernel
theorem dX7_isBad_18 : decode cX7_isBad 18 = .ok (.iconst 0, 1) := by decide +kernel
theorem dX7_isBad_19 : decode cX7_isBad 19 = .ok (.ireturn, 1) := by decide +kernel
set_option maxRecDepth 20000 in
set_option maxHeartbeats 4000000 in
theorem c_X7_isBad {l : Launch} {G : Gt} {n0 : Nat} {mi : Nat → Nat → Int} {mr : Nat → Nat → Nat} {K : Nat → Nat → Int} {L : Lws} {set : Int} {H : V5} {o : Int} (hV : CV K L set H o mi mr) : Ci l yX7_isBad cX7_isBad 1 .int 4 G n0 [.ref (n0 + 0)] mi mr (fun r9 mi9 mr9 => mi = mi9 ∧ mr = mr9 ∧ (r9 = 1 ∧ Dk L 0 H ∨ r9 = 0 ∧ ¬ Dk L 0 H)) := by
  refine Ct_of (by decide +kernel) (by intro v hv; simp at hv; rcases hv with rfl <;> rfl) (Nat.le_of_ble_eq_true rfl) ?_
  intro p e s m args below meth c9 X hr hname
  show WW _ _ _ _ _ _ _ _ _ _ _ _ _ _ _ _ _ _ _ [some (.ref (n0 + 0))] _
  have hW := hV.1
  have hO := hV.2.1
  have hC := hV.2.2.1
  have hH := hV.2.2.2.2.1
  have hHb := HA_b hH
  have hVo := CV_o hV
  have hoo : mi 44 6 = o := hV.2.2.2.2.2.2.1
  have hsc := hW.1
  have hC1 := hC.1
  refine w_aload_n X dX7_isBad_0 rfl ?_
  refine w_get X (by decide) (σ_0 G n0 _ _) rfl gW_X7 0 (by decide) gF_X7_10 rfl dX7_isBad_1 ?_
  refine w_aload_n X dX7_isBad_4 rfl ?_
  refine w_get X (by decide) (σ_0 G n0 _ _) rfl gW_X7 1 (by decide) gF_X7_19 rfl dX7_isBad_5 ?_
  refine s_callVi X _ (c_X5_isBadCrowd (l := l) (G := G) (n0 := n0) hW cr_42 hHb.2.1) gM_X7_140 gI_yX5_isBadCrowd gS_yX5_isBadCrowd gN_X5 gC_yX5_isBadCrowd (by decide) (σ_1 G n0 _ _) rfl dX7_isBad_8 hl_yX5_isBadCrowd ⟨Nat.le_of_ble_eq_true rfl, Nat.le_of_ble_eq_true rfl⟩ (Nat.le_of_ble_eq_true rfl) rfl (fun r1 mi1 mr1 h1 => ?_)
  obtain ⟨rfl, rfl, h1⟩ := h1
  refine w_if_eq X 18 dX7_isBad_11 (by decide) (fun c11_1 => ?_) (fun c11_1 => ?_)
  ·
    refine w_iconst X dX7_isBad_18 ?_
    refine s_iret X hr dX7_isBad_19 ?_
    have hb := bad_iff hC hH.1 hH.2.2
    refine ⟨rfl, rfl, ?_⟩
    rcases h1 with ⟨q, q2⟩ | ⟨q, q2⟩
    · first | exact Or.inl ⟨rfl, hb.mp q2⟩ | (exfalso; clear q2 hb; omega)
    · first | exact Or.inr ⟨rfl, fun w => by obtain ⟨b, b1, b2⟩ := hb.mpr w; exact q2 b b1 b2⟩ | (exfalso; clear q2 hb; omega)
  ·
    refine w_iconst X dX7_isBad_14 ?_
    refine w_goto X 19 dX7_isBad_15 (by decide) ?_
    refine s_iret X hr dX7_isBad_19 ?_
    have hb := bad_iff hC hH.1 hH.2.2
    refine ⟨rfl, rfl, ?_⟩
    rcases h1 with ⟨q, q2⟩ | ⟨q, q2⟩
    · first | exact Or.inl ⟨rfl, hb.mp q2⟩ | (exfalso; clear q2 hb; omega)
    · first | exact Or.inr ⟨rfl, fun w => by obtain ⟨b, b1, b2⟩ := hb.mpr w; exact q2 b b1 b2⟩ | (exfalso; clear q2 hb; omega)
theorem dX7_doomed_0 : decode cX7_doomed 0 = .ok (.aload_n 0, 1) := by decide +kernel
theorem dX7_doomed_1 : decode cX7_doomed 1 = .ok (.getfield 28, 3) := by decide +kernel
theorem dX7_doomed_4 : decode cX7_doomed 4 = .ok (.getfield 143, 3) := by decide +kernel
theorem dX7_doomed_7 : decode cX7_doomed 7 = .ok (.ifCond .ge 11, 3) := by decide +kernel
theorem dX7_doomed_10 : decode cX7_doomed 10 = .ok (.aload_n 0, 1) := by decide +kernel
theorem dX7_doomed_11 : decode cX7_doomed 11 = .ok (.getfield 28, 3) := by decide +kernel
theorem dX7_doomed_14 : decode cX7_doomed 14 = .ok (.getfield 143, 3) := by decide +kernel
theorem dX7_doomed_17 : decode cX7_doomed 17 = .ok (.ireturn, 1) := by decide +kernel
theorem dX7_doomed_18 : decode cX7_doomed 18 = .ok (.aload_n 0, 1) := by decide +kernel
theorem dX7_doomed_19 : decode cX7_doomed 19 = .ok (.getfield 28, 3) := by decide +kernel
theorem dX7_doomed_22 : decode cX7_doomed 22 = .ok (.aload_n 0, 1) := by decide +kernel
theorem dX7_doomed_23 : decode cX7_doomed 23 = .ok (.getfield 19, 3) := by decide +kernel
theorem dX7_doomed_26 : decode cX7_doomed 26 = .ok (.invokevirtual 146, 3) := by decide +kernel
theorem dX7_doomed_29 : decode cX7_doomed 29 = .ok (.ifCond .eq 7, 3) := by decide +kernel
theorem dX7_doomed_32 : decode cX7_doomed 32 = .ok (.iconst 1, 1) := by decide +kernel
theorem dX7_doomed_33 : decode cX7_doomed 33 = .ok (.goto 4, 3) := by decide +kernel
theorem dX7_doomed_36 : decode cX7_doomed 36 = .ok (.iconst 0, 1) := by decide +kernel
theorem dX7_doomed_37 : decode cX7_doomed 37 = .ok (.ireturn, 1) := by decide +kernel
set_option maxRecDepth 20000 in
set_option maxHeartbeats 4000000 in
theorem c_X7_doomed {l : Launch} {G : Gt} {n0 : Nat} {mi : Nat → Nat → Int} {mr : Nat → Nat → Nat} {K : Nat → Nat → Int} {L : Lws} {set : Int} {H : V5} {o : Int} (hV : CV K L set H o mi mr) : Ci l yX7_doomed cX7_doomed 1 .int 5 G n0 [.ref (n0 + 0)] mi mr (fun r9 mi9 mr9 => mi = mi9 ∧ mr = mr9 ∧ (o < 0 ∧ r9 = o ∨ 0 ≤ o ∧ (r9 = 1 ∧ Dk L o.toNat H ∨ r9 = 0 ∧ ¬ Dk L o.toNat H))) := by
  refine Ct_of (by decide +kernel) (by intro v hv; simp at hv; rcases hv with rfl <;> rfl) (Nat.le_of_ble_eq_true rfl) ?_
  intro p e s m args below meth c9 X hr hname
  show WW _ _ _ _ _ _ _ _ _ _ _ _ _ _ _ _ _ _ _ [some (.ref (n0 + 0))] _
  have hW := hV.1
  have hO := hV.2.1
  have hC := hV.2.2.1
  have hH := hV.2.2.2.2.1
  have hHb := HA_b hH
  have hVo := CV_o hV
  have hoo : mi 44 6 = o := hV.2.2.2.2.2.2.1
  have hsc := hW.1
  have hC1 := hC.1
  obtain ⟨hNN, hBO, hRe, hor, hEf⟩ := hVo
  refine w_aload_n X dX7_doomed_0 rfl ?_
  refine w_get X (by decide) (σ_0 G n0 _ _) rfl gW_X7 2 (by decide) gF_X7_28 rfl dX7_doomed_1 ?_
  refine w_getN X (by decide) (σ_44 G n0 _ _) rfl gW_X0 6 (by decide) gF_X7_143 rfl dX7_doomed_4 ?_
  refine w_if_ge X 18 dX7_doomed_7 (by decide) (fun c7_1 => ?_) (fun c7_1 => ?_)
  ·
    refine w_aload_n X dX7_doomed_18 rfl ?_
    refine w_get X (by decide) (σ_0 G n0 _ _) rfl gW_X7 2 (by decide) gF_X7_28 rfl dX7_doomed_19 ?_
    refine w_aload_n X dX7_doomed_22 rfl ?_
    refine w_get X (by decide) (σ_0 G n0 _ _) rfl gW_X7 1 (by decide) gF_X7_19 rfl dX7_doomed_23 ?_
    refine s_callVi X _ (c_X0_dooms (l := l) (G := G) (n0 := n0) hNN hBO cr_42 hHb.2.1) gM_X7_146 gI_yX0_dooms gS_yX0_dooms gN_X0 gC_yX0_dooms (by decide) (σ_44 G n0 _ _) rfl dX7_doomed_26 hl_yX0_dooms ⟨Nat.le_of_ble_eq_true rfl, Nat.le_of_ble_eq_true rfl⟩ (Nat.le_of_ble_eq_true rfl) rfl (fun r1 mi1 mr1 h1 => ?_)
    obtain ⟨rfl, rfl, h1⟩ := h1
    rw [show T5 (mi (42 + 1)) = H from hHb.2.2.1] at h1
    refine w_if_eq X 36 dX7_doomed_29 (by decide) (fun c29_2 => ?_) (fun c29_2 => ?_)
    ·
      refine w_iconst X dX7_doomed_36 ?_
      refine s_iret X hr dX7_doomed_37 ?_
      have hd := doom_iff hO (hEf (by omega)).2.2 hH.1.1
      refine ⟨rfl, rfl, Or.inr ⟨by omega, ?_⟩⟩
      rcases h1 with ⟨q, q2⟩ | ⟨q, q2⟩
      · first | exact Or.inl ⟨rfl, hd.mp q2⟩ | omega
      · first | exact Or.inr ⟨rfl, fun w => by obtain ⟨y, y1, y2⟩ := hd.mpr w; exact q2 y y1 y2⟩ | omega
    ·
      refine w_iconst X dX7_doomed_32 ?_
      refine w_goto X 37 dX7_doomed_33 (by decide) ?_
      refine s_iret X hr dX7_doomed_37 ?_
      have hd := doom_iff hO (hEf (by omega)).2.2 hH.1.1
      refine ⟨rfl, rfl, Or.inr ⟨by omega, ?_⟩⟩
      rcases h1 with ⟨q, q2⟩ | ⟨q, q2⟩
      · first | exact Or.inl ⟨rfl, hd.mp q2⟩ | omega
      · first | exact Or.inr ⟨rfl, fun w => by obtain ⟨y, y1, y2⟩ := hd.mpr w; exact q2 y y1 y2⟩ | omega
  ·
    refine w_aload_n X dX7_doomed_10 rfl ?_
    refine w_get X (by decide) (σ_0 G n0 _ _) rfl gW_X7 2 (by decide) gF_X7_28 rfl dX7_doomed_11 ?_
    refine w_getN X (by decide) (σ_44 G n0 _ _) rfl gW_X0 6 (by decide) gF_X7_143 rfl dX7_doomed_14 ?_
    refine s_iret X hr dX7_doomed_17 ?_
    exact ⟨rfl, rfl, Or.inl ⟨by omega, hoo⟩⟩
