/-! the law: its head and its way round -/
set_option maxRecDepth 20000 in
set_option maxHeartbeats 4000000 in
theorem law_way {p : Program} {l : Launch} {e : Env} {s : State} {m : MethodId} {b : Nat} {below : List Frame} {meth : Method} {c : Code} {Q : State → Prop} {G : Gt} {n0 Ln : Nat} {xs : Nat → Int32} {i t : Int} {mi : Nat → Nat → Int} {mr : Nat → Nat → Nat} (X : Cx G n0 p s m #[Value.ref b] meth c cL_law "CrowdLawsLaw" 4) (hX : va_X b Ln xs s s.heap) (hbl : b < n0) (hbs : b < s.heap.size) (hL : Ln ≤ 2560) (hi : 0 ≤ i ∧ i + 5 ≤ Ln) (ht : rg t) (hJ : JI mi mr) (next : ∀ m2 q2, JI m2 q2 → LA p l e s m b below meth c Q G n0 i 739 m2 q2) : WW p l e room_1 s m #[Value.ref b] below meth c Q G n0 4 492 (σ G n0 mi mr) 492 73239 32 [some (.ref b), some (.ref (n0 + 0)), some (.ref (n0 + 473)), some (.int (jI i))] [.int (jI t)] := by
  by_cases h : 0 ≤ t ∧ t ≤ 22
  · rcases (show t = 0 ∨ t = 1 ∨ t = 2 ∨ t = 3 ∨ t = 4 ∨ t = 5 ∨ t = 6 ∨ t = 7 ∨ t = 8 ∨ t = 9 ∨ t = 10 ∨ t = 11 ∨ t = 12 ∨ t = 13 ∨ t = 14 ∨ t = 15 ∨ t = 16 ∨ t = 17 ∨ t = 18 ∨ t = 19 ∨ t = 20 ∨ t = 21 ∨ t = 22 by omega) with rfl | rfl | rfl | rfl | rfl | rfl | rfl | rfl | rfl | rfl | rfl | rfl | rfl | rfl | rfl | rfl | rfl | rfl | rfl | rfl | rfl | rfl | rfl
    · exact w_tabIn X 140 dL_law_32 ⟨by decide, by decide⟩ (by decide) rfl rfl (lc_0 X hX hbl hbs hL hi hJ next)
    · exact w_tabIn X 163 dL_law_32 ⟨by decide, by decide⟩ (by decide) rfl rfl (lc_1 X hX hbl hbs hL hi hJ next)
    · exact w_tabIn X 186 dL_law_32 ⟨by decide, by decide⟩ (by decide) rfl rfl (lc_2 X hX hbl hbs hL hi hJ next)
    · exact w_tabIn X 219 dL_law_32 ⟨by decide, by decide⟩ (by decide) rfl rfl (lc_3 X hX hbl hbs hL hi hJ next)
    · exact w_tabIn X 272 dL_law_32 ⟨by decide, by decide⟩ (by decide) rfl rfl (lc_4 X hX hbl hbs hL hi hJ next)
    · exact w_tabIn X 315 dL_law_32 ⟨by decide, by decide⟩ (by decide) rfl rfl (lc_5 X hX hbl hbs hL hi hJ next)
    · exact w_tabIn X 348 dL_law_32 ⟨by decide, by decide⟩ (by decide) rfl rfl (lc_6 X hX hbl hbs hL hi hJ next)
    · exact w_tabIn X 381 dL_law_32 ⟨by decide, by decide⟩ (by decide) rfl rfl (lc_7 X hX hbl hbs hL hi hJ next)
    · exact w_tabIn X 404 dL_law_32 ⟨by decide, by decide⟩ (by decide) rfl rfl (lc_8 X hX hbl hbs hL hi hJ next)
    · exact w_tabIn X 437 dL_law_32 ⟨by decide, by decide⟩ (by decide) rfl rfl (lc_9 X hX hbl hbs hL hi hJ next)
    · exact w_tabIn X 460 dL_law_32 ⟨by decide, by decide⟩ (by decide) rfl rfl (lc_10 X hX hbl hbs hL hi hJ next)
    · exact w_tabIn X 483 dL_law_32 ⟨by decide, by decide⟩ (by decide) rfl rfl (lc_11 X hX hbl hbs hL hi hJ next)
    · exact w_tabIn X 506 dL_law_32 ⟨by decide, by decide⟩ (by decide) rfl rfl (lc_12 X hX hbl hbs hL hi hJ next)
    · exact w_tabIn X 519 dL_law_32 ⟨by decide, by decide⟩ (by decide) rfl rfl (lc_13 X hX hbl hbs hL hi hJ next)
    · exact w_tabIn X 532 dL_law_32 ⟨by decide, by decide⟩ (by decide) rfl rfl (lc_14 X hX hbl hbs hL hi hJ next)
    · exact w_tabIn X 545 dL_law_32 ⟨by decide, by decide⟩ (by decide) rfl rfl (lc_15 X hX hbl hbs hL hi hJ next)
    · exact w_tabIn X 558 dL_law_32 ⟨by decide, by decide⟩ (by decide) rfl rfl (lc_16 X hX hbl hbs hL hi hJ next)
    · exact w_tabIn X 591 dL_law_32 ⟨by decide, by decide⟩ (by decide) rfl rfl (lc_17 X hX hbl hbs hL hi hJ next)
    · exact w_tabIn X 604 dL_law_32 ⟨by decide, by decide⟩ (by decide) rfl rfl (lc_18 X hX hbl hbs hL hi hJ next)
    · exact w_tabIn X 627 dL_law_32 ⟨by decide, by decide⟩ (by decide) rfl rfl (lc_19 X hX hbl hbs hL hi hJ next)
    · exact w_tabIn X 650 dL_law_32 ⟨by decide, by decide⟩ (by decide) rfl rfl (lc_20 X hX hbl hbs hL hi hJ next)
    · exact w_tabIn X 693 dL_law_32 ⟨by decide, by decide⟩ (by decide) rfl rfl (lc_21 X hX hbl hbs hL hi hJ next)
    · exact w_tabIn X 716 dL_law_32 ⟨by decide, by decide⟩ (by decide) rfl rfl (lc_22 X hX hbl hbs hL hi hJ next)
  · exact w_tabOut X 739 dL_law_32 rfl (next _ _ hJ) ht (by omega)
set_option maxRecDepth 20000 in
set_option maxHeartbeats 4000000 in
theorem law_loop {p : Program} {l : Launch} {e : Env} {s : State} {m : MethodId} {b : Nat} {below : List Frame} {meth : Method} {c : Code} {Q : State → Prop} {G : Gt} {n0 Ln : Nat} {xs : Nat → Int32} (X : Cx G n0 p s m #[Value.ref b] meth c cL_law "CrowdLawsLaw" 4) (hX : va_X b Ln xs s s.heap) (hbl : b < n0) (hbs : b < s.heap.size) (hL : Ln ≤ 2560) (stop : ∀ m2 q2 (i : Int), LA p l e s m b below meth c Q G n0 i 745 m2 q2) : ∀ (k : Nat) (i : Int) (mi : Nat → Nat → Int) (mr : Nat → Nat → Nat), 0 ≤ i ∧ i ≤ Ln → (Ln : Int) < i + k → JI mi mr → LA p l e s m b below meth c Q G n0 i 18 mi mr := by
  intro k
  induction k with
  | zero =>
    intro i mi mr h1 h2 h3
    exact absurd h2 (by omega)
  | succ k ih =>
    intro i mi mr h1 h2 hJ
    refine w_iload_n X dL_law_18 rfl ?_
    refine w_aload_n X dL_law_19 rfl ?_
    refine w_slen X hX hbl hbs dL_law_20 ?_
    refine w_iconst X dL_law_21 ?_
    refine w_isub X dL_law_22 ?_
    refine w_icmp_gt X 745 dL_law_23 rfl (fun _ => stop _ _ _) (fun q => ?_) (by unfold rg; omega) (by unfold rg; omega)
    refine w_aload_n X dL_law_26 rfl ?_
    refine w_iload_n X dL_law_27 rfl ?_
    refine w_sld X hX hbl hbs hL ⟨by omega, by omega⟩ dL_law_28 ?_
    refine w_bipush X dL_law_29 rfl ?_
    refine w_iandL X dL_law_31 (fun t ht => ?_)
    refine law_way X hX hbl hbs hL ⟨by omega, by omega⟩ ht hJ (fun m2 q2 hJ2 => ?_)
    refine w_iinc4_3 X dL_law_739 ?_
    refine w_goto X 18 dL_law_742 rfl ?_
    exact ih (i + 5) m2 q2 ⟨by omega, by omega⟩ (by omega) hJ2
set_option maxRecDepth 20000 in
set_option maxHeartbeats 4000000 in
theorem law_begin {p : Program} {l : Launch} {e : Env} {s : State} {m : MethodId} {b : Nat} {below : List Frame} {meth : Method} {c : Code} {Q : State → Prop} {G : Gt} {n0 Ln : Nat} {xs : Nat → Int32} (X : Cx G n0 p s m #[Value.ref b] meth c cL_law "CrowdLawsLaw" 4) (hX : va_X b Ln xs s s.heap) (hbl : b < n0) (hbs : b < s.heap.size) (hL : Ln ≤ 2560) (stop : ∀ m2 q2 (i : Int), LA p l e s m b below meth c Q G n0 i 745 m2 q2) : WW p l e room_1 s m #[Value.ref b] below meth c Q G n0 4 0 (σ G n0 mi0 mr0) 0 0 0 [some (.ref b), none, none, none] [] := by
  refine w_new X (ci := 7) gL_L_7 gB_X7 gN_X7 gW_X7 tyX7 tyX7_ok rfl [.null, .null, .null, .null] (fun j hj => match j, hj with | 0, _ => rfl | 1, _ => rfl | 2, _ => rfl | 3, _ => rfl | (j + 4), hj => absurd hj (by omega)) (Nat.le_of_ble_eq_true rfl) (Nat.le_of_ble_eq_true rfl) dL_law_0 ?_
  refine w_dup X dL_law_3 rfl ?_
  refine i_call X (s_X7 (l := l) G n0) gM_L_9 gI_yX7_init gN_X7 gC_yX7_init rfl dL_law_4 hl_yX7_init ⟨Nat.le_of_ble_eq_true rfl, Nat.le_of_ble_eq_true rfl⟩ ⟨Nat.le_of_ble_eq_true rfl, Nat.le_of_ble_eq_true rfl⟩ (Nat.le_of_ble_eq_true rfl) rfl ?_
  refine w_astore_n X dL_law_7 (by decide) ?_
  refine w_new X (ci := 8) gL_L_10 gB_X8 gN_X8 gW_X8 tyX8 tyX8_ok rfl [.int 0, .int 0, .int 0, .int 0, .null, .null, .null, .null, .null, .null, .null, .int 0, .null, .null, .int 0, .int 0, .int 0, .null, .int 0, .null, .null, .null, .null, .int 0, .null, .null, .null, .null] (fun j hj => match j, hj with | 0, _ => rfl | 1, _ => rfl | 2, _ => rfl | 3, _ => rfl | 4, _ => rfl | 5, _ => rfl | 6, _ => rfl | 7, _ => rfl | 8, _ => rfl | 9, _ => rfl | 10, _ => rfl | 11, _ => rfl | 12, _ => rfl | 13, _ => rfl | 14, _ => rfl | 15, _ => rfl | 16, _ => rfl | 17, _ => rfl | 18, _ => rfl | 19, _ => rfl | 20, _ => rfl | 21, _ => rfl | 22, _ => rfl | 23, _ => rfl | 24, _ => rfl | 25, _ => rfl | 26, _ => rfl | 27, _ => rfl | (j + 28), hj => absurd hj (by omega)) (Nat.le_of_ble_eq_true rfl) (Nat.le_of_ble_eq_true rfl) dL_law_8 ?_
  refine w_dup X dL_law_11 rfl ?_
  refine i_call X (s_X8 (l := l) G n0) gM_L_12 gI_yX8_init gN_X8 gC_yX8_init rfl dL_law_12 hl_yX8_init ⟨Nat.le_of_ble_eq_true rfl, Nat.le_of_ble_eq_true rfl⟩ ⟨Nat.le_of_ble_eq_true rfl, Nat.le_of_ble_eq_true rfl⟩ (Nat.le_of_ble_eq_true rfl) rfl ?_
  refine w_astore_n X dL_law_15 (by decide) ?_
  refine w_iconst X dL_law_16 ?_
  refine w_istore_n X dL_law_17 (by decide) ?_
  exact law_loop X hX hbl hbs hL stop (Ln + 1) 0 mi0 mr0 ⟨by omega, by omega⟩ (by omega) ⟨L00, 1, H00, -3, CV_0, MV_0⟩
