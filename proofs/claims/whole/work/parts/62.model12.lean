def RWS (mi m : Nat → Nat → Int) (n : Int) : Prop := (∀ v, (∃ i : Nat, (i : Int) < n ∧ BR m i = v) ↔ ∃ i : Nat, (i : Int) < n ∧ BR mi i = v) ∧ ∀ i j : Nat, i < j → (j : Int) < n → BR m i ≠ BR m j
theorem RWS_rb {mi m : Nat → Nat → Int} {n : Int} (hn : n ≤ 100) (h : RWS mi m n) (hb : ∀ i : Nat, (i : Int) < n → RB mi i) {i : Nat} (hi : (i : Int) < n) : RB m i := by
  obtain ⟨j, hj, e⟩ := (h.1 (BR m i)).mp ⟨i, hi, rfl⟩
  refine ⟨by omega, fun a ha => ?_⟩
  have q : F5 (BR mi j) a = F5 (BR m i) a := by rw [e]
  unfold BR at q
  rw [F5_T5 _ ha, F5_T5 _ ha] at q
  have := (hb j hj).2 a ha
  omega
theorem RWS_sw {mi m m' : Nat → Nat → Int} {n : Int} {a b : Nat} (h : RWS mi m n) (hab : a < b) (hb : (b : Int) < n) (ea : BR m' a = BR m b) (eb : BR m' b = BR m a) (eo : ∀ i : Nat, i ≠ a → i ≠ b → BR m' i = BR m i) : RWS mi m' n := by
  have key : ∀ i : Nat, (i : Int) < n → ∃ j : Nat, (j : Int) < n ∧ BR m' j = BR m i := fun i hi => by
    by_cases q : i = a
    · subst q; exact ⟨b, hb, eb⟩
    · by_cases q2 : i = b
      · subst q2; exact ⟨a, by omega, ea⟩
      · exact ⟨i, hi, eo i q q2⟩
  refine ⟨fun v => ?_, fun i j hij hj => ?_⟩
  · rw [← h.1 v]
    constructor
    · rintro ⟨i, hi, rfl⟩
      by_cases q : i = a
      · subst q; exact ⟨b, hb, ea.symm⟩
      · by_cases q2 : i = b
        · subst q2; exact ⟨a, by omega, eb.symm⟩
        · exact ⟨i, hi, (eo i q q2).symm⟩
    · rintro ⟨i, hi, rfl⟩; exact key i hi
  · by_cases qi : i = a
    · subst qi
      rw [ea]
      by_cases qj : j = b
      · subst qj; rw [eb]; exact fun w => h.2 i j hij hj w.symm
      · rw [eo j (by omega) qj]
        rcases Nat.lt_or_gt_of_ne qj with q | q
        · exact fun w => h.2 j b q hb w.symm
        · exact h.2 b j q hj
    · by_cases qi2 : i = b
      · subst qi2
        rw [eb, eo j (by omega) (by omega)]
        exact h.2 a j (by omega) hj
      · rw [eo i qi qi2]
        by_cases qj : j = a
        · subst qj; rw [ea]
          exact h.2 i b (by omega) hb
        · by_cases qj2 : j = b
          · subst qj2; rw [eb]
            rcases Nat.lt_or_gt_of_ne qi with q | q
            · exact h.2 i a q (by omega)
            · exact fun w => h.2 a i q (by omega) w.symm
          · rw [eo j qj qj2]; exact h.2 i j hij hj
theorem dX8_isAhead_0 : decode cX8_isAhead 0 = .ok (.aload_n 0, 1) := by decide +kernel
theorem dX8_isAhead_1 : decode cX8_isAhead 1 = .ok (.getfield 44, 3) := by decide +kernel
theorem dX8_isAhead_4 : decode cX8_isAhead 4 = .ok (.iconst 5, 1) := by decide +kernel
theorem dX8_isAhead_5 : decode cX8_isAhead 5 = .ok (.iload_n 1, 1) := by decide +kernel
theorem dX8_isAhead_6 : decode cX8_isAhead 6 = .ok (.imul, 1) := by decide +kernel
theorem dX8_isAhead_7 : decode cX8_isAhead 7 = .ok (.invokestatic 116, 3) := by decide +kernel
theorem dX8_isAhead_10 : decode cX8_isAhead 10 = .ok (.istore_n 3, 1) := by decide +kernel
theorem dX8_isAhead_11 : decode cX8_isAhead 11 = .ok (.aload_n 0, 1) := by decide +kernel
theorem dX8_isAhead_12 : decode cX8_isAhead 12 = .ok (.getfield 44, 3) := by decide +kernel
theorem dX8_isAhead_15 : decode cX8_isAhead 15 = .ok (.iconst 5, 1) := by decide +kernel
theorem dX8_isAhead_16 : decode cX8_isAhead 16 = .ok (.iload_n 2, 1) := by decide +kernel
theorem dX8_isAhead_17 : decode cX8_isAhead 17 = .ok (.imul, 1) := by decide +kernel
theorem dX8_isAhead_18 : decode cX8_isAhead 18 = .ok (.invokestatic 116, 3) := by decide +kernel
theorem dX8_isAhead_21 : decode cX8_isAhead 21 = .ok (.istore 4, 2) := by decide +kernel
theorem dX8_isAhead_23 : decode cX8_isAhead 23 = .ok (.iload_n 3, 1) := by decide +kernel
theorem dX8_isAhead_24 : decode cX8_isAhead 24 = .ok (.iload 4, 2) := by decide +kernel
theorem dX8_isAhead_26 : decode cX8_isAhead 26 = .ok (.if_icmp .eq 15, 3) := by decide +kernel
theorem dX8_isAhead_29 : decode cX8_isAhead 29 = .ok (.iload_n 3, 1) := by decide +kernel
theorem dX8_isAhead_30 : decode cX8_isAhead 30 = .ok (.iload 4, 2) := by decide +kernel
theorem dX8_isAhead_32 : decode cX8_isAhead 32 = .ok (.if_icmp .ge 7, 3) := by decide +kernel
theorem dX8_isAhead_35 : decode cX8_isAhead 35 = .ok (.iconst 1, 1) := by decide +kernel
theorem dX8_isAhead_36 : decode cX8_isAhead 36 = .ok (.goto 4, 3) := by decide +kernel
theorem dX8_isAhead_39 : decode cX8_isAhead 39 = .ok (.iconst 0, 1) := by decide +kernel
theorem dX8_isAhead_40 : decode cX8_isAhead 40 = .ok (.ireturn, 1) := by decide +kernel
theorem dX8_isAhead_41 : decode cX8_isAhead 41 = .ok (.iconst 0, 1) := by decide +kernel
theorem dX8_isAhead_42 : decode cX8_isAhead 42 = .ok (.istore 5, 2) := by decide +kernel
theorem dX8_isAhead_44 : decode cX8_isAhead 44 = .ok (.iload 5, 2) := by decide +kernel
theorem dX8_isAhead_46 : decode cX8_isAhead 46 = .ok (.iconst 4, 1) := by decide +kernel
theorem dX8_isAhead_47 : decode cX8_isAhead 47 = .ok (.if_icmp .ge 34, 3) := by decide +kernel
theorem dX8_isAhead_50 : decode cX8_isAhead 50 = .ok (.aload_n 0, 1) := by decide +kernel
theorem dX8_isAhead_51 : decode cX8_isAhead 51 = .ok (.getfield 44, 3) := by decide +kernel
theorem dX8_isAhead_54 : decode cX8_isAhead 54 = .ok (.iconst 5, 1) := by decide +kernel
theorem dX8_isAhead_55 : decode cX8_isAhead 55 = .ok (.iload_n 1, 1) := by decide +kernel
theorem dX8_isAhead_56 : decode cX8_isAhead 56 = .ok (.imul, 1) := by decide +kernel
theorem dX8_isAhead_57 : decode cX8_isAhead 57 = .ok (.iload 5, 2) := by decide +kernel
theorem dX8_isAhead_59 : decode cX8_isAhead 59 = .ok (.iadd, 1) := by decide +kernel
theorem dX8_isAhead_60 : decode cX8_isAhead 60 = .ok (.iaload, 1) := by decide +kernel
theorem dX8_isAhead_61 : decode cX8_isAhead 61 = .ok (.aload_n 0, 1) := by decide +kernel
theorem dX8_isAhead_62 : decode cX8_isAhead 62 = .ok (.getfield 44, 3) := by decide +kernel
theorem dX8_isAhead_65 : decode cX8_isAhead 65 = .ok (.iconst 5, 1) := by decide +kernel
theorem dX8_isAhead_66 : decode cX8_isAhead 66 = .ok (.iload_n 2, 1) := by decide +kernel
theorem dX8_isAhead_67 : decode cX8_isAhead 67 = .ok (.imul, 1) := by decide +kernel
theorem dX8_isAhead_68 : decode cX8_isAhead 68 = .ok (.iload 5, 2) := by decide +kernel
theorem dX8_isAhead_70 : decode cX8_isAhead 70 = .ok (.iadd, 1) := by decide +kernel
theorem dX8_isAhead_71 : decode cX8_isAhead 71 = .ok (.iaload, 1) := by decide +kernel
theorem dX8_isAhead_72 : decode cX8_isAhead 72 = .ok (.if_icmp .ne 9, 3) := by decide +kernel
theorem dX8_isAhead_75 : decode cX8_isAhead 75 = .ok (.iinc 5 1, 3) := by decide +kernel
theorem dX8_isAhead_78 : decode cX8_isAhead 78 = .ok (.goto (-34), 3) := by decide +kernel
theorem dX8_isAhead_81 : decode cX8_isAhead 81 = .ok (.aload_n 0, 1) := by decide +kernel
theorem dX8_isAhead_82 : decode cX8_isAhead 82 = .ok (.getfield 44, 3) := by decide +kernel
theorem dX8_isAhead_85 : decode cX8_isAhead 85 = .ok (.iconst 5, 1) := by decide +kernel
theorem dX8_isAhead_86 : decode cX8_isAhead 86 = .ok (.iload_n 1, 1) := by decide +kernel
theorem dX8_isAhead_87 : decode cX8_isAhead 87 = .ok (.imul, 1) := by decide +kernel
theorem dX8_isAhead_88 : decode cX8_isAhead 88 = .ok (.iload 5, 2) := by decide +kernel
theorem dX8_isAhead_90 : decode cX8_isAhead 90 = .ok (.iadd, 1) := by decide +kernel
theorem dX8_isAhead_91 : decode cX8_isAhead 91 = .ok (.iaload, 1) := by decide +kernel
theorem dX8_isAhead_92 : decode cX8_isAhead 92 = .ok (.aload_n 0, 1) := by decide +kernel
theorem dX8_isAhead_93 : decode cX8_isAhead 93 = .ok (.getfield 44, 3) := by decide +kernel
theorem dX8_isAhead_96 : decode cX8_isAhead 96 = .ok (.iconst 5, 1) := by decide +kernel
theorem dX8_isAhead_97 : decode cX8_isAhead 97 = .ok (.iload_n 2, 1) := by decide +kernel
theorem dX8_isAhead_98 : decode cX8_isAhead 98 = .ok (.imul, 1) := by decide +kernel
theorem dX8_isAhead_99 : decode cX8_isAhead 99 = .ok (.iload 5, 2) := by decide +kernel
theorem dX8_isAhead_101 : decode cX8_isAhead 101 = .ok (.iadd, 1) := by decide +kernel
theorem dX8_isAhead_102 : decode cX8_isAhead 102 = .ok (.iaload, 1) := by decide +kernel
theorem dX8_isAhead_103 : decode cX8_isAhead 103 = .ok (.if_icmp .ge 7, 3) := by decide +kernel
theorem dX8_isAhead_106 : decode cX8_isAhead 106 = .ok (.iconst 1, 1) := by decide +kernel
theorem dX8_isAhead_107 : decode cX8_isAhead 107 = .ok (.goto 4, 3) := by decide +kernel
theorem dX8_isAhead_110 : decode cX8_isAhead 110 = .ok (.iconst 0, 1) := by decide +kernel
theorem dX8_isAhead_111 : decode cX8_isAhead 111 = .ok (.ireturn, 1) := by decide +kernel
theorem hl_yX8_isAhead : (yX8_isAhead.cls ≠ "java/lang/invoke/MethodHandle" ∧ yX8_isAhead.cls ≠ "java/lang/invoke/VarHandle") ∧ (parseMethodDescriptor yX8_isAhead.desc).map (fun d => d.parameters.length) = some 2 := by decide +kernel
set_option maxRecDepth 20000 in
set_option maxHeartbeats 4000000 in
theorem c_X8_isAhead {l : Launch} {G : Gt} {n0 : Nat} {mi : Nat → Nat → Int} {mr : Nat → Nat → Nat} {a b : Nat} (hba : RB mi a) (hbb : RB mi b) : Ci l yX8_isAhead cX8_isAhead 6 .boolean 2 G n0 [.ref (n0 + 473), .int (jI (a : Int)), .int (jI (b : Int))] mi mr (fun r9 mi9 mr9 => mi = mi9 ∧ mr = mr9 ∧ flg r9 (bv (BR mi a) (BR mi b))) := by
  refine Ct_of (by decide +kernel) (by intro v hv; simp at hv; rcases hv with rfl | rfl | rfl <;> rfl) (Nat.le_of_ble_eq_true rfl) ?_
  intro p e s m args below meth c9 X hr hname
  show WW _ _ _ _ _ _ _ _ _ _ _ _ _ _ _ _ _ _ _ [some (.ref (n0 + 473)), some (.int (jI (a : Int))), some (.int (jI (b : Int))), none, none, none] _
  have ha99 := hba.1
  have hb99 := hbb.1
  have hbv : bv (BR mi a) (BR mi b) ↔ (mi 483 (5 * a) + mi 483 (5 * a + 1) + mi 483 (5 * a + 2) + mi 483 (5 * a + 3) + mi 483 (5 * a + 4) < mi 483 (5 * b) + mi 483 (5 * b + 1) + mi 483 (5 * b + 2) + mi 483 (5 * b + 3) + mi 483 (5 * b + 4) ∨ mi 483 (5 * a) + mi 483 (5 * a + 1) + mi 483 (5 * a + 2) + mi 483 (5 * a + 3) + mi 483 (5 * a + 4) = mi 483 (5 * b) + mi 483 (5 * b + 1) + mi 483 (5 * b + 2) + mi 483 (5 * b + 3) + mi 483 (5 * b + 4) ∧ (mi 483 (5 * a) < mi 483 (5 * b) ∨ mi 483 (5 * a) = mi 483 (5 * b) ∧ (mi 483 (5 * a + 1) < mi 483 (5 * b + 1) ∨ mi 483 (5 * a + 1) = mi 483 (5 * b + 1) ∧ (mi 483 (5 * a + 2) < mi 483 (5 * b + 2) ∨ mi 483 (5 * a + 2) = mi 483 (5 * b + 2) ∧ (mi 483 (5 * a + 3) < mi 483 (5 * b + 3) ∨ mi 483 (5 * a + 3) = mi 483 (5 * b + 3) ∧ mi 483 (5 * a + 4) < mi 483 (5 * b + 4)))))) := bv_x
  have a0 : 0 ≤ mi 483 (5 * a) ∧ mi 483 (5 * a) ≤ 1000 := hba.2 0 (by decide)
  have a1 : 0 ≤ mi 483 (5 * a + 1) ∧ mi 483 (5 * a + 1) ≤ 1000 := hba.2 1 (by decide)
  have a2 : 0 ≤ mi 483 (5 * a + 2) ∧ mi 483 (5 * a + 2) ≤ 1000 := hba.2 2 (by decide)
  have a3 : 0 ≤ mi 483 (5 * a + 3) ∧ mi 483 (5 * a + 3) ≤ 1000 := hba.2 3 (by decide)
  have a4 : 0 ≤ mi 483 (5 * a + 4) ∧ mi 483 (5 * a + 4) ≤ 1000 := hba.2 4 (by decide)
  have b0 : 0 ≤ mi 483 (5 * b) ∧ mi 483 (5 * b) ≤ 1000 := hbb.2 0 (by decide)
  have b1 : 0 ≤ mi 483 (5 * b + 1) ∧ mi 483 (5 * b + 1) ≤ 1000 := hbb.2 1 (by decide)
  have b2 : 0 ≤ mi 483 (5 * b + 2) ∧ mi 483 (5 * b + 2) ≤ 1000 := hbb.2 2 (by decide)
  have b3 : 0 ≤ mi 483 (5 * b + 3) ∧ mi 483 (5 * b + 3) ≤ 1000 := hbb.2 3 (by decide)
  have b4 : 0 ≤ mi 483 (5 * b + 4) ∧ mi 483 (5 * b + 4) ≤ 1000 := hbb.2 4 (by decide)
  refine w_aload_n X dX8_isAhead_0 rfl ?_
  refine w_get X (by decide) (σ_473 G n0 _ _) rfl gW_X8 17 (by decide) gF_X8_44 rfl dX8_isAhead_1 ?_
  refine w_iconst X dX8_isAhead_4 ?_
  refine w_iload_n X dX8_isAhead_5 rfl ?_
  refine w_imul X dX8_isAhead_6 ?_
  refine s_callSi X _ (c_X8_sum (b := 5 * a) (l := l) (G := G) (n0 := n0) IA_483 (by decide) (by omega)) gM_X8_116 gT_yX8_sum gN_X8 gC_yX8_sum dX8_isAhead_7 hl_yX8_sum ⟨Nat.le_of_ble_eq_true rfl, Nat.le_of_ble_eq_true rfl⟩ (Nat.le_of_ble_eq_true rfl) rfl (fun r1 mi1 mr1 h1 => ?_)
  obtain ⟨rfl, rfl, h1⟩ := h1
  refine w_ist6_3 X dX8_isAhead_10 ?_
  refine w_aload_n X dX8_isAhead_11 rfl ?_
  refine w_get X (by decide) (σ_473 G n0 _ _) rfl gW_X8 17 (by decide) gF_X8_44 rfl dX8_isAhead_12 ?_
  refine w_iconst X dX8_isAhead_15 ?_
  refine w_iload_n X dX8_isAhead_16 rfl ?_
  refine w_imul X dX8_isAhead_17 ?_
  refine s_callSi X _ (c_X8_sum (b := 5 * b) (l := l) (G := G) (n0 := n0) IA_483 (by decide) (by omega)) gM_X8_116 gT_yX8_sum gN_X8 gC_yX8_sum dX8_isAhead_18 hl_yX8_sum ⟨Nat.le_of_ble_eq_true rfl, Nat.le_of_ble_eq_true rfl⟩ (Nat.le_of_ble_eq_true rfl) rfl (fun r2 mi2 mr2 h2 => ?_)
  obtain ⟨rfl, rfl, h2⟩ := h2
  refine w_ist6_4 X dX8_isAhead_21 ?_
  refine w_iload_n X dX8_isAhead_23 rfl ?_
  refine w_iload X dX8_isAhead_24 rfl ?_
  refine w_icmp_eq X 41 dX8_isAhead_26 (by decide) (fun c26_1 => ?_) (fun c26_1 => ?_)
  ·
    refine w_iconst X dX8_isAhead_41 ?_
    refine w_ist6_5 X dX8_isAhead_42 ?_
    refine w_iload X dX8_isAhead_44 rfl ?_
    refine w_iconst X dX8_isAhead_46 ?_
    refine w_icmp_ge X 81 dX8_isAhead_47 (by decide) (fun h9 => absurd h9 (by decide)) (fun _ => ?_)
    refine w_aload_n X dX8_isAhead_50 rfl ?_
    refine w_get X (by decide) (σ_473 G n0 _ _) rfl gW_X8 17 (by decide) gF_X8_44 rfl dX8_isAhead_51 ?_
    refine w_iconst X dX8_isAhead_54 ?_
    refine w_iload_n X dX8_isAhead_55 rfl ?_
    refine w_imul X dX8_isAhead_56 ?_
    refine w_iload X dX8_isAhead_57 rfl ?_
    refine w_iadd X dX8_isAhead_59 ?_
    refine s_iald X ((5 * a)) (by decide) (fun _ => σ_m505 G n0 _ _ (by decide)) dX8_isAhead_60 ?_
    refine w_aload_n X dX8_isAhead_61 rfl ?_
    refine w_get X (by decide) (σ_473 G n0 _ _) rfl gW_X8 17 (by decide) gF_X8_44 rfl dX8_isAhead_62 ?_
    refine w_iconst X dX8_isAhead_65 ?_
    refine w_iload_n X dX8_isAhead_66 rfl ?_
    refine w_imul X dX8_isAhead_67 ?_
    refine w_iload X dX8_isAhead_68 rfl ?_
    refine w_iadd X dX8_isAhead_70 ?_
    refine s_iald X ((5 * b)) (by decide) (fun _ => σ_m505 G n0 _ _ (by decide)) dX8_isAhead_71 ?_
    refine w_icmp_ne X 81 dX8_isAhead_72 (by decide) (fun c72_2 => ?_) (fun c72_2 => ?_)
    ·
      refine w_aload_n X dX8_isAhead_81 rfl ?_
      refine w_get X (by decide) (σ_473 G n0 _ _) rfl gW_X8 17 (by decide) gF_X8_44 rfl dX8_isAhead_82 ?_
      refine w_iconst X dX8_isAhead_85 ?_
      refine w_iload_n X dX8_isAhead_86 rfl ?_
      refine w_imul X dX8_isAhead_87 ?_
      refine w_iload X dX8_isAhead_88 rfl ?_
      refine w_iadd X dX8_isAhead_90 ?_
      refine s_iald X ((5 * a)) (by decide) (fun _ => σ_m505 G n0 _ _ (by decide)) dX8_isAhead_91 ?_
      refine w_aload_n X dX8_isAhead_92 rfl ?_
      refine w_get X (by decide) (σ_473 G n0 _ _) rfl gW_X8 17 (by decide) gF_X8_44 rfl dX8_isAhead_93 ?_
      refine w_iconst X dX8_isAhead_96 ?_
      refine w_iload_n X dX8_isAhead_97 rfl ?_
      refine w_imul X dX8_isAhead_98 ?_
      refine w_iload X dX8_isAhead_99 rfl ?_
      refine w_iadd X dX8_isAhead_101 ?_
      refine s_iald X ((5 * b)) (by decide) (fun _ => σ_m505 G n0 _ _ (by decide)) dX8_isAhead_102 ?_
      refine w_icmp_ge X 110 dX8_isAhead_103 (by decide) (fun c103_3 => ?_) (fun c103_3 => ?_)
      ·
        refine w_iconst X dX8_isAhead_110 ?_
        refine s_zret X hr dX8_isAhead_111 (by omega) ?_
        refine ⟨rfl, rfl, ?_⟩
        exact flg_f (fun w => by have w2 := hbv.mp w; omega)
      ·
        refine w_iconst X dX8_isAhead_106 ?_
        refine w_goto X 111 dX8_isAhead_107 (by decide) ?_
        refine s_zret X hr dX8_isAhead_111 (by omega) ?_
        refine ⟨rfl, rfl, ?_⟩
        exact flg_t (hbv.mpr (by omega))
    ·
      refine w_iinc6_5 X dX8_isAhead_75 ?_
      refine w_goto X 44 dX8_isAhead_78 (by decide) ?_
      refine w_iload X dX8_isAhead_44 rfl ?_
      refine w_iconst X dX8_isAhead_46 ?_
      refine w_icmp_ge X 81 dX8_isAhead_47 (by decide) (fun h9 => absurd h9 (by decide)) (fun _ => ?_)
      refine w_aload_n X dX8_isAhead_50 rfl ?_
      refine w_get X (by decide) (σ_473 G n0 _ _) rfl gW_X8 17 (by decide) gF_X8_44 rfl dX8_isAhead_51 ?_
      refine w_iconst X dX8_isAhead_54 ?_
      refine w_iload_n X dX8_isAhead_55 rfl ?_
      refine w_imul X dX8_isAhead_56 ?_
      refine w_iload X dX8_isAhead_57 rfl ?_
      refine w_iadd X dX8_isAhead_59 ?_
      refine s_iald X ((5 * a + 1)) (by decide) (fun _ => σ_m505 G n0 _ _ (by decide)) dX8_isAhead_60 ?_
      refine w_aload_n X dX8_isAhead_61 rfl ?_
      refine w_get X (by decide) (σ_473 G n0 _ _) rfl gW_X8 17 (by decide) gF_X8_44 rfl dX8_isAhead_62 ?_
      refine w_iconst X dX8_isAhead_65 ?_
      refine w_iload_n X dX8_isAhead_66 rfl ?_
      refine w_imul X dX8_isAhead_67 ?_
      refine w_iload X dX8_isAhead_68 rfl ?_
      refine w_iadd X dX8_isAhead_70 ?_
      refine s_iald X ((5 * b + 1)) (by decide) (fun _ => σ_m505 G n0 _ _ (by decide)) dX8_isAhead_71 ?_
      refine w_icmp_ne X 81 dX8_isAhead_72 (by decide) (fun c72_4 => ?_) (fun c72_4 => ?_)
      ·
        refine w_aload_n X dX8_isAhead_81 rfl ?_
        refine w_get X (by decide) (σ_473 G n0 _ _) rfl gW_X8 17 (by decide) gF_X8_44 rfl dX8_isAhead_82 ?_
        refine w_iconst X dX8_isAhead_85 ?_
        refine w_iload_n X dX8_isAhead_86 rfl ?_
        refine w_imul X dX8_isAhead_87 ?_
        refine w_iload X dX8_isAhead_88 rfl ?_
        refine w_iadd X dX8_isAhead_90 ?_
        refine s_iald X ((5 * a + 1)) (by decide) (fun _ => σ_m505 G n0 _ _ (by decide)) dX8_isAhead_91 ?_
        refine w_aload_n X dX8_isAhead_92 rfl ?_
        refine w_get X (by decide) (σ_473 G n0 _ _) rfl gW_X8 17 (by decide) gF_X8_44 rfl dX8_isAhead_93 ?_
        refine w_iconst X dX8_isAhead_96 ?_
        refine w_iload_n X dX8_isAhead_97 rfl ?_
        refine w_imul X dX8_isAhead_98 ?_
        refine w_iload X dX8_isAhead_99 rfl ?_
        refine w_iadd X dX8_isAhead_101 ?_
        refine s_iald X ((5 * b + 1)) (by decide) (fun _ => σ_m505 G n0 _ _ (by decide)) dX8_isAhead_102 ?_
        refine w_icmp_ge X 110 dX8_isAhead_103 (by decide) (fun c103_5 => ?_) (fun c103_5 => ?_)
        ·
          refine w_iconst X dX8_isAhead_110 ?_
          refine s_zret X hr dX8_isAhead_111 (by omega) ?_
          refine ⟨rfl, rfl, ?_⟩
          exact flg_f (fun w => by have w2 := hbv.mp w; omega)
        ·
          refine w_iconst X dX8_isAhead_106 ?_
          refine w_goto X 111 dX8_isAhead_107 (by decide) ?_
          refine s_zret X hr dX8_isAhead_111 (by omega) ?_
          refine ⟨rfl, rfl, ?_⟩
          exact flg_t (hbv.mpr (by omega))
      ·
        refine w_iinc6_5 X dX8_isAhead_75 ?_
        refine w_goto X 44 dX8_isAhead_78 (by decide) ?_
        refine w_iload X dX8_isAhead_44 rfl ?_
        refine w_iconst X dX8_isAhead_46 ?_
        refine w_icmp_ge X 81 dX8_isAhead_47 (by decide) (fun h9 => absurd h9 (by decide)) (fun _ => ?_)
        refine w_aload_n X dX8_isAhead_50 rfl ?_
        refine w_get X (by decide) (σ_473 G n0 _ _) rfl gW_X8 17 (by decide) gF_X8_44 rfl dX8_isAhead_51 ?_
        refine w_iconst X dX8_isAhead_54 ?_
        refine w_iload_n X dX8_isAhead_55 rfl ?_
        refine w_imul X dX8_isAhead_56 ?_
        refine w_iload X dX8_isAhead_57 rfl ?_
        refine w_iadd X dX8_isAhead_59 ?_
        refine s_iald X ((5 * a + 2)) (by decide) (fun _ => σ_m505 G n0 _ _ (by decide)) dX8_isAhead_60 ?_
        refine w_aload_n X dX8_isAhead_61 rfl ?_
        refine w_get X (by decide) (σ_473 G n0 _ _) rfl gW_X8 17 (by decide) gF_X8_44 rfl dX8_isAhead_62 ?_
        refine w_iconst X dX8_isAhead_65 ?_
        refine w_iload_n X dX8_isAhead_66 rfl ?_
        refine w_imul X dX8_isAhead_67 ?_
        refine w_iload X dX8_isAhead_68 rfl ?_
        refine w_iadd X dX8_isAhead_70 ?_
        refine s_iald X ((5 * b + 2)) (by decide) (fun _ => σ_m505 G n0 _ _ (by decide)) dX8_isAhead_71 ?_
        refine w_icmp_ne X 81 dX8_isAhead_72 (by decide) (fun c72_6 => ?_) (fun c72_6 => ?_)
        ·
          refine w_aload_n X dX8_isAhead_81 rfl ?_
          refine w_get X (by decide) (σ_473 G n0 _ _) rfl gW_X8 17 (by decide) gF_X8_44 rfl dX8_isAhead_82 ?_
          refine w_iconst X dX8_isAhead_85 ?_
          refine w_iload_n X dX8_isAhead_86 rfl ?_
          refine w_imul X dX8_isAhead_87 ?_
          refine w_iload X dX8_isAhead_88 rfl ?_
          refine w_iadd X dX8_isAhead_90 ?_
          refine s_iald X ((5 * a + 2)) (by decide) (fun _ => σ_m505 G n0 _ _ (by decide)) dX8_isAhead_91 ?_
          refine w_aload_n X dX8_isAhead_92 rfl ?_
          refine w_get X (by decide) (σ_473 G n0 _ _) rfl gW_X8 17 (by decide) gF_X8_44 rfl dX8_isAhead_93 ?_
          refine w_iconst X dX8_isAhead_96 ?_
          refine w_iload_n X dX8_isAhead_97 rfl ?_
          refine w_imul X dX8_isAhead_98 ?_
          refine w_iload X dX8_isAhead_99 rfl ?_
          refine w_iadd X dX8_isAhead_101 ?_
          refine s_iald X ((5 * b + 2)) (by decide) (fun _ => σ_m505 G n0 _ _ (by decide)) dX8_isAhead_102 ?_
          refine w_icmp_ge X 110 dX8_isAhead_103 (by decide) (fun c103_7 => ?_) (fun c103_7 => ?_)
          ·
            refine w_iconst X dX8_isAhead_110 ?_
            refine s_zret X hr dX8_isAhead_111 (by omega) ?_
            refine ⟨rfl, rfl, ?_⟩
            exact flg_f (fun w => by have w2 := hbv.mp w; omega)
          ·
            refine w_iconst X dX8_isAhead_106 ?_
            refine w_goto X 111 dX8_isAhead_107 (by decide) ?_
            refine s_zret X hr dX8_isAhead_111 (by omega) ?_
            refine ⟨rfl, rfl, ?_⟩
            exact flg_t (hbv.mpr (by omega))
        ·
          refine w_iinc6_5 X dX8_isAhead_75 ?_
          refine w_goto X 44 dX8_isAhead_78 (by decide) ?_
          refine w_iload X dX8_isAhead_44 rfl ?_
          refine w_iconst X dX8_isAhead_46 ?_
          refine w_icmp_ge X 81 dX8_isAhead_47 (by decide) (fun h9 => absurd h9 (by decide)) (fun _ => ?_)
          refine w_aload_n X dX8_isAhead_50 rfl ?_
          refine w_get X (by decide) (σ_473 G n0 _ _) rfl gW_X8 17 (by decide) gF_X8_44 rfl dX8_isAhead_51 ?_
          refine w_iconst X dX8_isAhead_54 ?_
          refine w_iload_n X dX8_isAhead_55 rfl ?_
          refine w_imul X dX8_isAhead_56 ?_
          refine w_iload X dX8_isAhead_57 rfl ?_
          refine w_iadd X dX8_isAhead_59 ?_
          refine s_iald X ((5 * a + 3)) (by decide) (fun _ => σ_m505 G n0 _ _ (by decide)) dX8_isAhead_60 ?_
          refine w_aload_n X dX8_isAhead_61 rfl ?_
          refine w_get X (by decide) (σ_473 G n0 _ _) rfl gW_X8 17 (by decide) gF_X8_44 rfl dX8_isAhead_62 ?_
          refine w_iconst X dX8_isAhead_65 ?_
          refine w_iload_n X dX8_isAhead_66 rfl ?_
          refine w_imul X dX8_isAhead_67 ?_
          refine w_iload X dX8_isAhead_68 rfl ?_
          refine w_iadd X dX8_isAhead_70 ?_
          refine s_iald X ((5 * b + 3)) (by decide) (fun _ => σ_m505 G n0 _ _ (by decide)) dX8_isAhead_71 ?_
          refine w_icmp_ne X 81 dX8_isAhead_72 (by decide) (fun c72_8 => ?_) (fun c72_8 => ?_)
          ·
            refine w_aload_n X dX8_isAhead_81 rfl ?_
            refine w_get X (by decide) (σ_473 G n0 _ _) rfl gW_X8 17 (by decide) gF_X8_44 rfl dX8_isAhead_82 ?_
            refine w_iconst X dX8_isAhead_85 ?_
            refine w_iload_n X dX8_isAhead_86 rfl ?_
            refine w_imul X dX8_isAhead_87 ?_
            refine w_iload X dX8_isAhead_88 rfl ?_
            refine w_iadd X dX8_isAhead_90 ?_
            refine s_iald X ((5 * a + 3)) (by decide) (fun _ => σ_m505 G n0 _ _ (by decide)) dX8_isAhead_91 ?_
            refine w_aload_n X dX8_isAhead_92 rfl ?_
            refine w_get X (by decide) (σ_473 G n0 _ _) rfl gW_X8 17 (by decide) gF_X8_44 rfl dX8_isAhead_93 ?_
            refine w_iconst X dX8_isAhead_96 ?_
            refine w_iload_n X dX8_isAhead_97 rfl ?_
            refine w_imul X dX8_isAhead_98 ?_
            refine w_iload X dX8_isAhead_99 rfl ?_
            refine w_iadd X dX8_isAhead_101 ?_
            refine s_iald X ((5 * b + 3)) (by decide) (fun _ => σ_m505 G n0 _ _ (by decide)) dX8_isAhead_102 ?_
            refine w_icmp_ge X 110 dX8_isAhead_103 (by decide) (fun c103_9 => ?_) (fun c103_9 => ?_)
            ·
              refine w_iconst X dX8_isAhead_110 ?_
              refine s_zret X hr dX8_isAhead_111 (by omega) ?_
              refine ⟨rfl, rfl, ?_⟩
              exact flg_f (fun w => by have w2 := hbv.mp w; omega)
            ·
              refine w_iconst X dX8_isAhead_106 ?_
              refine w_goto X 111 dX8_isAhead_107 (by decide) ?_
              refine s_zret X hr dX8_isAhead_111 (by omega) ?_
              refine ⟨rfl, rfl, ?_⟩
              exact flg_t (hbv.mpr (by omega))
          ·
            refine w_iinc6_5 X dX8_isAhead_75 ?_
            refine w_goto X 44 dX8_isAhead_78 (by decide) ?_
            refine w_iload X dX8_isAhead_44 rfl ?_
            refine w_iconst X dX8_isAhead_46 ?_
            refine w_icmp_ge X 81 dX8_isAhead_47 (by decide) (fun _ => ?_) (fun h9 => absurd (by decide) h9)
            refine w_aload_n X dX8_isAhead_81 rfl ?_
            refine w_get X (by decide) (σ_473 G n0 _ _) rfl gW_X8 17 (by decide) gF_X8_44 rfl dX8_isAhead_82 ?_
            refine w_iconst X dX8_isAhead_85 ?_
            refine w_iload_n X dX8_isAhead_86 rfl ?_
            refine w_imul X dX8_isAhead_87 ?_
            refine w_iload X dX8_isAhead_88 rfl ?_
            refine w_iadd X dX8_isAhead_90 ?_
            refine s_iald X ((5 * a + 4)) (by decide) (fun _ => σ_m505 G n0 _ _ (by decide)) dX8_isAhead_91 ?_
            refine w_aload_n X dX8_isAhead_92 rfl ?_
            refine w_get X (by decide) (σ_473 G n0 _ _) rfl gW_X8 17 (by decide) gF_X8_44 rfl dX8_isAhead_93 ?_
            refine w_iconst X dX8_isAhead_96 ?_
            refine w_iload_n X dX8_isAhead_97 rfl ?_
            refine w_imul X dX8_isAhead_98 ?_
            refine w_iload X dX8_isAhead_99 rfl ?_
            refine w_iadd X dX8_isAhead_101 ?_
            refine s_iald X ((5 * b + 4)) (by decide) (fun _ => σ_m505 G n0 _ _ (by decide)) dX8_isAhead_102 ?_
            refine w_icmp_ge X 110 dX8_isAhead_103 (by decide) (fun c103_10 => ?_) (fun c103_10 => ?_)
            ·
              refine w_iconst X dX8_isAhead_110 ?_
              refine s_zret X hr dX8_isAhead_111 (by omega) ?_
              refine ⟨rfl, rfl, ?_⟩
              exact flg_f (fun w => by have w2 := hbv.mp w; omega)
            ·
              refine w_iconst X dX8_isAhead_106 ?_
              refine w_goto X 111 dX8_isAhead_107 (by decide) ?_
              refine s_zret X hr dX8_isAhead_111 (by omega) ?_
              refine ⟨rfl, rfl, ?_⟩
              exact flg_t (hbv.mpr (by omega))
  ·
    refine w_iload_n X dX8_isAhead_29 rfl ?_
    refine w_iload X dX8_isAhead_30 rfl ?_
    refine w_icmp_ge X 39 dX8_isAhead_32 (by decide) (fun c32_11 => ?_) (fun c32_11 => ?_)
    ·
      refine w_iconst X dX8_isAhead_39 ?_
      refine s_zret X hr dX8_isAhead_40 (by omega) ?_
      refine ⟨rfl, rfl, ?_⟩
      exact flg_f (fun w => by have w2 := hbv.mp w; omega)
    ·
      refine w_iconst X dX8_isAhead_35 ?_
      refine w_goto X 40 dX8_isAhead_36 (by decide) ?_
      refine s_zret X hr dX8_isAhead_40 (by omega) ?_
      refine ⟨rfl, rfl, ?_⟩
      exact flg_t (hbv.mpr (by omega))
theorem dX8_order_0 : decode cX8_order 0 = .ok (.iconst 0, 1) := by decide +kernel
theorem dX8_order_1 : decode cX8_order 1 = .ok (.istore_n 1, 1) := by decide +kernel
theorem dX8_order_2 : decode cX8_order 2 = .ok (.iload_n 1, 1) := by decide +kernel
theorem dX8_order_3 : decode cX8_order 3 = .ok (.aload_n 0, 1) := by decide +kernel
theorem dX8_order_4 : decode cX8_order 4 = .ok (.getfield 128, 3) := by decide +kernel
theorem dX8_order_7 : decode cX8_order 7 = .ok (.if_icmp .ge 93, 3) := by decide +kernel
theorem dX8_order_10 : decode cX8_order 10 = .ok (.iload_n 1, 1) := by decide +kernel
theorem dX8_order_11 : decode cX8_order 11 = .ok (.iconst 1, 1) := by decide +kernel
theorem dX8_order_12 : decode cX8_order 12 = .ok (.iadd, 1) := by decide +kernel
theorem dX8_order_13 : decode cX8_order 13 = .ok (.istore_n 2, 1) := by decide +kernel
theorem dX8_order_14 : decode cX8_order 14 = .ok (.iload_n 2, 1) := by decide +kernel
theorem dX8_order_15 : decode cX8_order 15 = .ok (.aload_n 0, 1) := by decide +kernel
theorem dX8_order_16 : decode cX8_order 16 = .ok (.getfield 128, 3) := by decide +kernel
theorem dX8_order_19 : decode cX8_order 19 = .ok (.if_icmp .ge 75, 3) := by decide +kernel
theorem dX8_order_22 : decode cX8_order 22 = .ok (.aload_n 0, 1) := by decide +kernel
theorem dX8_order_23 : decode cX8_order 23 = .ok (.iload_n 2, 1) := by decide +kernel
theorem dX8_order_24 : decode cX8_order 24 = .ok (.iload_n 1, 1) := by decide +kernel
theorem dX8_order_25 : decode cX8_order 25 = .ok (.invokevirtual 172, 3) := by decide +kernel
theorem dX8_order_28 : decode cX8_order 28 = .ok (.ifCond .eq 60, 3) := by decide +kernel
theorem dX8_order_31 : decode cX8_order 31 = .ok (.iconst 0, 1) := by decide +kernel
theorem dX8_order_32 : decode cX8_order 32 = .ok (.istore_n 3, 1) := by decide +kernel
theorem dX8_order_33 : decode cX8_order 33 = .ok (.iload_n 3, 1) := by decide +kernel
theorem dX8_order_34 : decode cX8_order 34 = .ok (.iconst 5, 1) := by decide +kernel
theorem dX8_order_35 : decode cX8_order 35 = .ok (.if_icmp .ge 53, 3) := by decide +kernel
theorem dX8_order_38 : decode cX8_order 38 = .ok (.aload_n 0, 1) := by decide +kernel
theorem dX8_order_39 : decode cX8_order 39 = .ok (.getfield 44, 3) := by decide +kernel
theorem dX8_order_42 : decode cX8_order 42 = .ok (.iconst 5, 1) := by decide +kernel
theorem dX8_order_43 : decode cX8_order 43 = .ok (.iload_n 1, 1) := by decide +kernel
theorem dX8_order_44 : decode cX8_order 44 = .ok (.imul, 1) := by decide +kernel
theorem dX8_order_45 : decode cX8_order 45 = .ok (.iload_n 3, 1) := by decide +kernel
theorem dX8_order_46 : decode cX8_order 46 = .ok (.iadd, 1) := by decide +kernel
theorem dX8_order_47 : decode cX8_order 47 = .ok (.iaload, 1) := by decide +kernel
theorem dX8_order_48 : decode cX8_order 48 = .ok (.istore 4, 2) := by decide +kernel
theorem dX8_order_50 : decode cX8_order 50 = .ok (.aload_n 0, 1) := by decide +kernel
theorem dX8_order_51 : decode cX8_order 51 = .ok (.getfield 44, 3) := by decide +kernel
theorem dX8_order_54 : decode cX8_order 54 = .ok (.iconst 5, 1) := by decide +kernel
theorem dX8_order_55 : decode cX8_order 55 = .ok (.iload_n 1, 1) := by decide +kernel
theorem dX8_order_56 : decode cX8_order 56 = .ok (.imul, 1) := by decide +kernel
theorem dX8_order_57 : decode cX8_order 57 = .ok (.iload_n 3, 1) := by decide +kernel
theorem dX8_order_58 : decode cX8_order 58 = .ok (.iadd, 1) := by decide +kernel
theorem dX8_order_59 : decode cX8_order 59 = .ok (.aload_n 0, 1) := by decide +kernel
theorem dX8_order_60 : decode cX8_order 60 = .ok (.getfield 44, 3) := by decide +kernel
theorem dX8_order_63 : decode cX8_order 63 = .ok (.iconst 5, 1) := by decide +kernel
theorem dX8_order_64 : decode cX8_order 64 = .ok (.iload_n 2, 1) := by decide +kernel
theorem dX8_order_65 : decode cX8_order 65 = .ok (.imul, 1) := by decide +kernel
theorem dX8_order_66 : decode cX8_order 66 = .ok (.iload_n 3, 1) := by decide +kernel
theorem dX8_order_67 : decode cX8_order 67 = .ok (.iadd, 1) := by decide +kernel
theorem dX8_order_68 : decode cX8_order 68 = .ok (.iaload, 1) := by decide +kernel
theorem dX8_order_69 : decode cX8_order 69 = .ok (.iastore, 1) := by decide +kernel
theorem dX8_order_70 : decode cX8_order 70 = .ok (.aload_n 0, 1) := by decide +kernel
theorem dX8_order_71 : decode cX8_order 71 = .ok (.getfield 44, 3) := by decide +kernel
theorem dX8_order_74 : decode cX8_order 74 = .ok (.iconst 5, 1) := by decide +kernel
theorem dX8_order_75 : decode cX8_order 75 = .ok (.iload_n 2, 1) := by decide +kernel
theorem dX8_order_76 : decode cX8_order 76 = .ok (.imul, 1) := by decide +kernel
theorem dX8_order_77 : decode cX8_order 77 = .ok (.iload_n 3, 1) := by decide +kernel
theorem dX8_order_78 : decode cX8_order 78 = .ok (.iadd, 1) := by decide +kernel
theorem dX8_order_79 : decode cX8_order 79 = .ok (.iload 4, 2) := by decide +kernel
theorem dX8_order_81 : decode cX8_order 81 = .ok (.iastore, 1) := by decide +kernel
theorem dX8_order_82 : decode cX8_order 82 = .ok (.iinc 3 1, 3) := by decide +kernel
theorem dX8_order_85 : decode cX8_order 85 = .ok (.goto (-52), 3) := by decide +kernel
theorem dX8_order_88 : decode cX8_order 88 = .ok (.iinc 2 1, 3) := by decide +kernel
theorem dX8_order_91 : decode cX8_order 91 = .ok (.goto (-77), 3) := by decide +kernel
theorem dX8_order_94 : decode cX8_order 94 = .ok (.iinc 1 1, 3) := by decide +kernel
theorem dX8_order_97 : decode cX8_order 97 = .ok (.goto (-95), 3) := by decide +kernel
theorem dX8_order_100 : decode cX8_order 100 = .ok (.return_, 1) := by decide +kernel
theorem hl_yX8_order : (yX8_order.cls ≠ "java/lang/invoke/MethodHandle" ∧ yX8_order.cls ≠ "java/lang/invoke/VarHandle") ∧ (parseMethodDescriptor yX8_order.desc).map (fun d => d.parameters.length) = some 0 := by decide +kernel
set_option maxRecDepth 20000 in
set_option maxHeartbeats 4000000 in
theorem c_X8_order {l : Launch} {G : Gt} {n0 : Nat} {mi : Nat → Nat → Int} {mr : Nat → Nat → Nat} (hn16 : 0 ≤ mi 473 16 ∧ mi 473 16 ≤ 100) (hrb : ∀ i : Nat, (i : Int) < mi 473 16 → RB mi i) (hds : ∀ i j : Nat, i < j → (j : Int) < mi 473 16 → BR mi i ≠ BR mi j) : Cv l yX8_order cX8_order 5 3 G n0 [.ref (n0 + 473)] mi mr (fun mi9 mr9 => (∀ c, c ≠ 483 → mi9 c = mi c) ∧ (∀ i j : Nat, i < j → (j : Int) < mi 473 16 → bv (BR mi9 i) (BR mi9 j)) ∧ (∀ v, (∃ i : Nat, (i : Int) < mi 473 16 ∧ BR mi9 i = v) ↔ ∃ i : Nat, (i : Int) < mi 473 16 ∧ BR mi i = v) ∧ mr = mr9) := by
  refine Ct_of (by decide +kernel) (by intro v hv; simp at hv; rcases hv with rfl <;> rfl) (Nat.le_of_ble_eq_true rfl) ?_
  intro p e s m args below meth c9 X hr hname
  show WW _ _ _ _ _ _ _ _ _ _ _ _ _ _ _ _ _ _ _ [some (.ref (n0 + 473)), none, none, none, none] _
  refine w_iconst X dX8_order_0 ?_
  refine w_ist5_1 X dX8_order_1 ?_
  have aloop : ∀ (n : Nat) (m1 : Nat → Nat → Int) (a : Nat) (x2 x3 x4 : Option Value), ((a : Int) ≤ mi 473 16) → (∀ c, c ≠ 483 → m1 c = mi c) → (RWS mi m1 (mi 473 16)) → (∀ i j : Nat, i < a → i < j → (j : Int) < mi 473 16 → bv (BR m1 i) (BR m1 j)) → n = 101 - a → WSv p l e s m args below meth c9 3 (fun mi9 mr9 => (∀ c, c ≠ 483 → mi9 c = mi c) ∧ (∀ i j : Nat, i < j → (j : Int) < mi 473 16 → bv (BR mi9 i) (BR mi9 j)) ∧ (∀ v, (∃ i : Nat, (i : Int) < mi 473 16 ∧ BR mi9 i = v) ↔ ∃ i : Nat, (i : Int) < mi 473 16 ∧ BR mi i = v) ∧ mr = mr9) G n0 5 m1 mr 2 [some (.ref (n0 + 473)), some (.int (jI (a : Int))), x2, x3, x4] [] := by
    intro n
    induction n using Nat.strongRecOn with
    | ind n ih_aloop =>
      intro m1 a x2 x3 x4 ha hm hrw hpf hn
      refine w_iload_n X dX8_order_2 rfl ?_
      refine w_aload_n X dX8_order_3 rfl ?_
      refine w_get X (by decide) (σ_473 G n0 _ _) rfl gW_X8 16 (by decide) gF_X8_128 rfl dX8_order_4 ?_
      rw [show m1 473 16 = mi 473 16 by rw [hm 473 (by decide)]]
      refine w_icmp_ge X 100 dX8_order_7 (by decide) (fun c7_1 => ?_) (fun c7_1 => ?_)
      ·
        refine s_vret X hr dX8_order_100 ?_
        exact ⟨hm, fun i j hij hj => hpf i j (by omega) hij hj, hrw.1, rfl⟩
      ·
        refine w_iload_n X dX8_order_10 rfl ?_
        refine w_iconst X dX8_order_11 ?_
        refine w_iadd X dX8_order_12 ?_
        refine w_ist5_2 X dX8_order_13 ?_
        have bloop : ∀ (n : Nat) (m2 : Nat → Nat → Int) (b : Nat) (x3 x4 : Option Value), (a < b ∧ (b : Int) ≤ mi 473 16 ∧ (a : Int) < mi 473 16) → (∀ c, c ≠ 483 → m2 c = mi c) → (RWS mi m2 (mi 473 16)) → (∀ i j : Nat, i < a → i < j → (j : Int) < mi 473 16 → bv (BR m2 i) (BR m2 j)) → (∀ c : Nat, a < c → c < b → ¬ bv (BR m2 c) (BR m2 a)) → n = 101 - b → WSv p l e s m args below meth c9 3 (fun mi9 mr9 => (∀ c, c ≠ 483 → mi9 c = mi c) ∧ (∀ i j : Nat, i < j → (j : Int) < mi 473 16 → bv (BR mi9 i) (BR mi9 j)) ∧ (∀ v, (∃ i : Nat, (i : Int) < mi 473 16 ∧ BR mi9 i = v) ↔ ∃ i : Nat, (i : Int) < mi 473 16 ∧ BR mi i = v) ∧ mr = mr9) G n0 5 m2 mr 14 [some (.ref (n0 + 473)), some (.int (jI (a : Int))), some (.int (jI (b : Int))), x3, x4] [] := by
          intro n
          induction n using Nat.strongRecOn with
          | ind n ih_bloop =>
            intro m2 b x3 x4 hb hm hrw hpf hmin hn
            refine w_iload_n X dX8_order_14 rfl ?_
            refine w_aload_n X dX8_order_15 rfl ?_
            refine w_get X (by decide) (σ_473 G n0 _ _) rfl gW_X8 16 (by decide) gF_X8_128 rfl dX8_order_16 ?_
            rw [show m2 473 16 = mi 473 16 by rw [hm 473 (by decide)]]
            refine w_icmp_ge X 94 dX8_order_19 (by decide) (fun c19_2 => ?_) (fun c19_2 => ?_)
            ·
              refine w_iinc5_1 X dX8_order_94 ?_
              refine w_goto X 2 dX8_order_97 (by decide) ?_
              exact ih_aloop _ (by omega) _ (a + 1) _ _ _ (by omega) hm hrw (fun i j hi hij hj => by
                rcases (show i < a ∨ i = a by omega) with q | q
                · exact hpf i j q hij hj
                · subst q
                  rcases bv_3 (BR m2 i) (BR m2 j) with z | z | z
                  · exact z
                  · exact absurd z (hrw.2 i j hij hj)
                  · exact absurd z (hmin j hij (by omega))) rfl
            ·
              have hah0 := hrw
              refine w_aload_n X dX8_order_22 rfl ?_
              refine w_iload_n X dX8_order_23 rfl ?_
              refine w_iload_n X dX8_order_24 rfl ?_
              refine s_callVi X _ (c_X8_isAhead (l := l) (G := G) (n0 := n0) (RWS_rb hn16.2 hrw hrb (by omega)) (RWS_rb hn16.2 hrw hrb (by omega))) gM_X8_172 gI_yX8_isAhead gS_yX8_isAhead gN_X8 gC_yX8_isAhead (by decide) (σ_473 G n0 _ _) rfl dX8_order_25 hl_yX8_isAhead ⟨Nat.le_of_ble_eq_true rfl, Nat.le_of_ble_eq_true rfl⟩ (Nat.le_of_ble_eq_true rfl) rfl (fun r1 mi1 mr1 h1 => ?_)
              obtain ⟨rfl, rfl, h1⟩ := h1
              have bl1 := flg_b h1
              have hah := h1
              refine w_if_eq X 88 dX8_order_28 (by decide) (fun c28_3 => ?_) (fun c28_3 => ?_)
              ·
                refine w_iinc5_2 X dX8_order_88 ?_
                refine w_goto X 14 dX8_order_91 (by decide) ?_
                exact ih_bloop _ (by omega) _ (b + 1) _ _ (by omega) hm hrw hpf (fun c h1 h2 => by
                  rcases (show c < b ∨ c = b by omega) with q | q
                  · exact hmin c h1 q
                  · subst q; exact flg_0 hah (by omega)) rfl
              ·
                refine w_iconst X dX8_order_31 ?_
                refine w_ist5_3 X dX8_order_32 ?_
                have sloop : ∀ (n : Nat) (m3 : Nat → Nat → Int) (i : Nat) (x4 : Option Value), (i ≤ 5) → (∀ c, c ≠ 483 → m3 c = m2 c) → (∀ j : Nat, m3 483 j = if 5 * a ≤ j ∧ j < 5 * a + i then m2 483 (5 * b + (j - 5 * a)) else if 5 * b ≤ j ∧ j < 5 * b + i then m2 483 (5 * a + (j - 5 * b)) else m2 483 j) → n = 5 - i → WSv p l e s m args below meth c9 3 (fun mi9 mr9 => (∀ c, c ≠ 483 → mi9 c = mi c) ∧ (∀ i j : Nat, i < j → (j : Int) < mi 473 16 → bv (BR mi9 i) (BR mi9 j)) ∧ (∀ v, (∃ i : Nat, (i : Int) < mi 473 16 ∧ BR mi9 i = v) ↔ ∃ i : Nat, (i : Int) < mi 473 16 ∧ BR mi i = v) ∧ mr = mr9) G n0 5 m3 mr 33 [some (.ref (n0 + 473)), some (.int (jI (a : Int))), some (.int (jI (b : Int))), some (.int (jI (i : Int))), x4] [] := by
                  intro n
                  induction n using Nat.strongRecOn with
                  | ind n ih_sloop =>
                    intro m3 i x4 hi hm3 hsw hn
                    refine w_iload_n X dX8_order_33 rfl ?_
                    refine w_iconst X dX8_order_34 ?_
                    refine w_icmp_ge X 88 dX8_order_35 (by decide) (fun c35_4 => ?_) (fun c35_4 => ?_)
                    ·
                      have h5 : i = 5 := by omega
                      subst h5
                      refine w_iinc5_2 X dX8_order_88 ?_
                      refine w_goto X 14 dX8_order_91 (by decide) ?_
                      have ea : BR m3 a = BR m2 b := T5_c (fun j hj => by rw [hsw, if_pos (by omega), show 5 * a + j - 5 * a = j by omega])
                      have eb : BR m3 b = BR m2 a := T5_c (fun j hj => by rw [hsw, if_neg (by omega), if_pos (by omega), show 5 * b + j - 5 * b = j by omega])
                      have eo : ∀ i : Nat, i ≠ a → i ≠ b → BR m3 i = BR m2 i := fun i h1 h2 => T5_c (fun j hj => by rw [hsw, if_neg (by omega), if_neg (by omega)])
                      have hahq := flg_1 hah (by omega)
                      exact ih_bloop _ (by omega) _ (b + 1) _ _ (by omega) (fun c hc => (hm3 c hc).trans (hm c hc)) (RWS_sw hrw hb.1 (by omega) ea eb eo) (fun i j hi hij hj => by
                        rw [eo i (by omega) (by omega)]
                        by_cases q : j = a
                        · subst q; rw [ea]; exact hpf i b hi (by omega) (by omega)
                        · by_cases q2 : j = b
                          · subst q2; rw [eb]; exact hpf i a hi hi (by omega)
                          · rw [eo j q q2]; exact hpf i j hi hij hj) (fun c h1 h2 => by
                        rw [ea]
                        rcases (show c < b ∨ c = b by omega) with q | q
                        · rw [eo c (by omega) (by omega)]; exact fun w => hmin c h1 q (bv_t w hahq)
                        · subst q; rw [eb]; exact fun w => bv_i _ (bv_t w hahq)) rfl
                    ·
                      refine w_aload_n X dX8_order_38 rfl ?_
                      refine w_get X (by decide) (σ_473 G n0 _ _) rfl gW_X8 17 (by decide) gF_X8_44 rfl dX8_order_39 ?_
                      refine w_iconst X dX8_order_42 ?_
                      refine w_iload_n X dX8_order_43 rfl ?_
                      refine w_imul X dX8_order_44 ?_
                      refine w_iload_n X dX8_order_45 rfl ?_
                      refine w_iadd X dX8_order_46 ?_
                      refine s_iald X ((5 * a + i)) (by decide) (fun _ => σ_m505 G n0 _ _ (by decide)) dX8_order_47 ?_
                      refine w_ist5_4 X dX8_order_48 ?_
                      refine w_aload_n X dX8_order_50 rfl ?_
                      refine w_get X (by decide) (σ_473 G n0 _ _) rfl gW_X8 17 (by decide) gF_X8_44 rfl dX8_order_51 ?_
                      refine w_iconst X dX8_order_54 ?_
                      refine w_iload_n X dX8_order_55 rfl ?_
                      refine w_imul X dX8_order_56 ?_
                      refine w_iload_n X dX8_order_57 rfl ?_
                      refine w_iadd X dX8_order_58 ?_
                      refine w_aload_n X dX8_order_59 rfl ?_
                      refine w_get X (by decide) (σ_473 G n0 _ _) rfl gW_X8 17 (by decide) gF_X8_44 rfl dX8_order_60 ?_
                      refine w_iconst X dX8_order_63 ?_
                      refine w_iload_n X dX8_order_64 rfl ?_
                      refine w_imul X dX8_order_65 ?_
                      refine w_iload_n X dX8_order_66 rfl ?_
                      refine w_iadd X dX8_order_67 ?_
                      refine s_iald X ((5 * b + i)) (by decide) (fun _ => σ_m505 G n0 _ _ (by decide)) dX8_order_68 ?_
                      refine s_iast X ((5 * a + i)) (by decide) (fun _ => σ_m505 G n0 _ _ (by decide)) dX8_order_69 ?_
                      refine w_aload_n X dX8_order_70 rfl ?_
                      refine w_get X (by decide) (σ_473 G n0 _ _) rfl gW_X8 17 (by decide) gF_X8_44 rfl dX8_order_71 ?_
                      refine w_iconst X dX8_order_74 ?_
                      refine w_iload_n X dX8_order_75 rfl ?_
                      refine w_imul X dX8_order_76 ?_
                      refine w_iload_n X dX8_order_77 rfl ?_
                      refine w_iadd X dX8_order_78 ?_
                      refine w_iload X dX8_order_79 rfl ?_
                      refine s_iast X ((5 * b + i)) (by decide) (fun _ => σ_m505 G n0 _ _ (by decide)) dX8_order_81 ?_
                      refine w_iinc5_3 X dX8_order_82 ?_
                      refine w_goto X 33 dX8_order_85 (by decide) ?_
                      have v1 : m3 483 (5 * a + i) = m2 483 (5 * a + i) := by rw [hsw, if_neg (by omega), if_neg (by omega)]
                      have v2 : m3 483 (5 * b + i) = m2 483 (5 * b + i) := by rw [hsw, if_neg (by omega), if_neg (by omega)]
                      rw [v1, v2]
                      refine ih_sloop _ (by omega) _ (i + 1) _ (by omega) (fun c hc => by rw [up2_k _ _ _ _ hc, up2_k _ _ _ _ hc]; exact hm3 c hc) (fun j => ?_) rfl
                      by_cases q : j = 5 * b + i
                      · rw [q, up2_s, if_neg (by omega), if_pos (by omega), show 5 * b + i - 5 * b = i by omega]
                      · rw [up2_j _ _ _ _ q]
                        by_cases q2 : j = 5 * a + i
                        · rw [q2, up2_s, if_pos (by omega), show 5 * a + i - 5 * a = i by omega]
                        · rw [up2_j _ _ _ _ q2, hsw j]
                          by_cases z1 : 5 * a ≤ j ∧ j < 5 * a + i
                          · rw [if_pos z1, if_pos (by omega)]
                          · rw [if_neg z1, if_neg (show ¬ (5 * a ≤ j ∧ j < 5 * a + (i + 1)) by omega)]
                            by_cases z2 : 5 * b ≤ j ∧ j < 5 * b + i
                            · rw [if_pos z2, if_pos (show 5 * b ≤ j ∧ j < 5 * b + (i + 1) by omega)]
                            · rw [if_neg z2, if_neg (show ¬ (5 * b ≤ j ∧ j < 5 * b + (i + 1)) by omega)]
                exact sloop _ m2 0 _ (by omega) (fun _ _ => rfl) (fun j => by rw [if_neg (by omega), if_neg (by omega)]) rfl
        exact bloop _ m1 (a + 1) _ _ (by omega) hm hrw hpf (fun c h1 h2 => by omega) rfl
  exact aloop _ mi 0 _ _ _ (by omega) (fun _ _ => rfl) ⟨fun v => Iff.rfl, hds⟩ (fun i j hi => absurd hi (by omega)) rfl
