theorem dX8_goBy_0 : decode cX8_goBy 0 = .ok (.aload_n 0, 1) := by decide +kernel
theorem dX8_goBy_1 : decode cX8_goBy 1 = .ok (.aload_n 1, 1) := by decide +kernel
theorem dX8_goBy_2 : decode cX8_goBy 2 = .ok (.iload_n 2, 1) := by decide +kernel
theorem dX8_goBy_3 : decode cX8_goBy 3 = .ok (.invokevirtual 106, 3) := by decide +kernel
theorem dX8_goBy_6 : decode cX8_goBy 6 = .ok (.istore_n 3, 1) := by decide +kernel
theorem dX8_goBy_7 : decode cX8_goBy 7 = .ok (.iconst 0, 1) := by decide +kernel
theorem dX8_goBy_8 : decode cX8_goBy 8 = .ok (.istore 4, 2) := by decide +kernel
theorem dX8_goBy_10 : decode cX8_goBy 10 = .ok (.iload 4, 2) := by decide +kernel
theorem dX8_goBy_12 : decode cX8_goBy 12 = .ok (.iconst 5, 1) := by decide +kernel
theorem dX8_goBy_13 : decode cX8_goBy 13 = .ok (.if_icmp .ge 17, 3) := by decide +kernel
theorem dX8_goBy_16 : decode cX8_goBy 16 = .ok (.aload_n 0, 1) := by decide +kernel
theorem dX8_goBy_17 : decode cX8_goBy 17 = .ok (.getfield 56, 3) := by decide +kernel
theorem dX8_goBy_20 : decode cX8_goBy 20 = .ok (.iload 4, 2) := by decide +kernel
theorem dX8_goBy_22 : decode cX8_goBy 22 = .ok (.iconst 0, 1) := by decide +kernel
theorem dX8_goBy_23 : decode cX8_goBy 23 = .ok (.iastore, 1) := by decide +kernel
theorem dX8_goBy_24 : decode cX8_goBy 24 = .ok (.iinc 4 1, 3) := by decide +kernel
theorem dX8_goBy_27 : decode cX8_goBy 27 = .ok (.goto (-17), 3) := by decide +kernel
theorem dX8_goBy_30 : decode cX8_goBy 30 = .ok (.iconst 0, 1) := by decide +kernel
theorem dX8_goBy_31 : decode cX8_goBy 31 = .ok (.istore 4, 2) := by decide +kernel
theorem dX8_goBy_33 : decode cX8_goBy 33 = .ok (.iload 4, 2) := by decide +kernel
theorem dX8_goBy_35 : decode cX8_goBy 35 = .ok (.iconst 5, 1) := by decide +kernel
theorem dX8_goBy_36 : decode cX8_goBy 36 = .ok (.if_icmp .ge 50, 3) := by decide +kernel
theorem dX8_goBy_39 : decode cX8_goBy 39 = .ok (.iload_n 3, 1) := by decide +kernel
theorem dX8_goBy_40 : decode cX8_goBy 40 = .ok (.ifCond .eq 46, 3) := by decide +kernel
theorem dX8_goBy_43 : decode cX8_goBy 43 = .ok (.aload_n 0, 1) := by decide +kernel
theorem dX8_goBy_44 : decode cX8_goBy 44 = .ok (.getfield 56, 3) := by decide +kernel
theorem dX8_goBy_47 : decode cX8_goBy 47 = .ok (.aload_n 0, 1) := by decide +kernel
theorem dX8_goBy_48 : decode cX8_goBy 48 = .ok (.getfield 16, 3) := by decide +kernel
theorem dX8_goBy_51 : decode cX8_goBy 51 = .ok (.iload_n 2, 1) := by decide +kernel
theorem dX8_goBy_52 : decode cX8_goBy 52 = .ok (.iaload, 1) := by decide +kernel
theorem dX8_goBy_53 : decode cX8_goBy 53 = .ok (.iconst 2, 1) := by decide +kernel
theorem dX8_goBy_54 : decode cX8_goBy 54 = .ok (.if_icmp .ne 13, 3) := by decide +kernel
theorem dX8_goBy_57 : decode cX8_goBy 57 = .ok (.aload_n 0, 1) := by decide +kernel
theorem dX8_goBy_58 : decode cX8_goBy 58 = .ok (.iload_n 2, 1) := by decide +kernel
theorem dX8_goBy_59 : decode cX8_goBy 59 = .ok (.iload 4, 2) := by decide +kernel
theorem dX8_goBy_61 : decode cX8_goBy 61 = .ok (.invokevirtual 110, 3) := by decide +kernel
theorem dX8_goBy_64 : decode cX8_goBy 64 = .ok (.goto 5, 3) := by decide +kernel
theorem dX8_goBy_67 : decode cX8_goBy 67 = .ok (.iload 4, 2) := by decide +kernel
theorem dX8_goBy_69 : decode cX8_goBy 69 = .ok (.dup2, 1) := by decide +kernel
theorem dX8_goBy_70 : decode cX8_goBy 70 = .ok (.iaload, 1) := by decide +kernel
theorem dX8_goBy_71 : decode cX8_goBy 71 = .ok (.aload_n 0, 1) := by decide +kernel
theorem dX8_goBy_72 : decode cX8_goBy 72 = .ok (.getfield 53, 3) := by decide +kernel
theorem dX8_goBy_75 : decode cX8_goBy 75 = .ok (.iload 4, 2) := by decide +kernel
theorem dX8_goBy_77 : decode cX8_goBy 77 = .ok (.iaload, 1) := by decide +kernel
theorem dX8_goBy_78 : decode cX8_goBy 78 = .ok (.iadd, 1) := by decide +kernel
theorem dX8_goBy_79 : decode cX8_goBy 79 = .ok (.iastore, 1) := by decide +kernel
theorem dX8_goBy_80 : decode cX8_goBy 80 = .ok (.iinc 4 1, 3) := by decide +kernel
theorem dX8_goBy_83 : decode cX8_goBy 83 = .ok (.goto (-50), 3) := by decide +kernel
theorem dX8_goBy_86 : decode cX8_goBy 86 = .ok (.aload_n 0, 1) := by decide +kernel
theorem dX8_goBy_87 : decode cX8_goBy 87 = .ok (.getfield 56, 3) := by decide +kernel
theorem dX8_goBy_90 : decode cX8_goBy 90 = .ok (.aload_n 0, 1) := by decide +kernel
theorem dX8_goBy_91 : decode cX8_goBy 91 = .ok (.getfield 23, 3) := by decide +kernel
theorem dX8_goBy_94 : decode cX8_goBy 94 = .ok (.iload_n 2, 1) := by decide +kernel
theorem dX8_goBy_95 : decode cX8_goBy 95 = .ok (.iaload, 1) := by decide +kernel
theorem dX8_goBy_96 : decode cX8_goBy 96 = .ok (.dup2, 1) := by decide +kernel
theorem dX8_goBy_97 : decode cX8_goBy 97 = .ok (.iaload, 1) := by decide +kernel
theorem dX8_goBy_98 : decode cX8_goBy 98 = .ok (.iconst 1, 1) := by decide +kernel
theorem dX8_goBy_99 : decode cX8_goBy 99 = .ok (.iadd, 1) := by decide +kernel
theorem dX8_goBy_100 : decode cX8_goBy 100 = .ok (.iastore, 1) := by decide +kernel
theorem dX8_goBy_101 : decode cX8_goBy 101 = .ok (.aload_n 0, 1) := by decide +kernel
theorem dX8_goBy_102 : decode cX8_goBy 102 = .ok (.getfield 16, 3) := by decide +kernel
theorem dX8_goBy_105 : decode cX8_goBy 105 = .ok (.iload_n 2, 1) := by decide +kernel
theorem dX8_goBy_106 : decode cX8_goBy 106 = .ok (.iaload, 1) := by decide +kernel
theorem dX8_goBy_107 : decode cX8_goBy 107 = .ok (.iconst 1, 1) := by decide +kernel
theorem dX8_goBy_108 : decode cX8_goBy 108 = .ok (.if_icmp .ne 18, 3) := by decide +kernel
theorem dX8_goBy_111 : decode cX8_goBy 111 = .ok (.aload_n 0, 1) := by decide +kernel
theorem dX8_goBy_112 : decode cX8_goBy 112 = .ok (.getfield 56, 3) := by decide +kernel
theorem dX8_goBy_115 : decode cX8_goBy 115 = .ok (.aload_n 0, 1) := by decide +kernel
theorem dX8_goBy_116 : decode cX8_goBy 116 = .ok (.getfield 29, 3) := by decide +kernel
theorem dX8_goBy_119 : decode cX8_goBy 119 = .ok (.iload_n 2, 1) := by decide +kernel
theorem dX8_goBy_120 : decode cX8_goBy 120 = .ok (.iaload, 1) := by decide +kernel
theorem dX8_goBy_121 : decode cX8_goBy 121 = .ok (.dup2, 1) := by decide +kernel
theorem dX8_goBy_122 : decode cX8_goBy 122 = .ok (.iaload, 1) := by decide +kernel
theorem dX8_goBy_123 : decode cX8_goBy 123 = .ok (.iconst 1, 1) := by decide +kernel
theorem dX8_goBy_124 : decode cX8_goBy 124 = .ok (.iadd, 1) := by decide +kernel
theorem dX8_goBy_125 : decode cX8_goBy 125 = .ok (.iastore, 1) := by decide +kernel
theorem dX8_goBy_126 : decode cX8_goBy 126 = .ok (.return_, 1) := by decide +kernel
theorem hl_yX8_goBy : (yX8_goBy.cls ≠ "java/lang/invoke/MethodHandle" ∧ yX8_goBy.cls ≠ "java/lang/invoke/VarHandle") ∧ (parseMethodDescriptor yX8_goBy.desc).map (fun d => d.parameters.length) = some 2 := by decide +kernel
set_option maxRecDepth 20000 in
set_option maxHeartbeats 4000000 in
theorem c_X8_goBy {l : Launch} {G : Gt} {n0 : Nat} {mi : Nat → Nat → Int} {mr : Nat → Nat → Nat} {L : Lws} (hA : AB L) (hM : ML L mi) {a : Nat} (ha : IA a 5) (hne : a ≠ 486) (hva : ∀ j : Nat, j < 5 → 0 ≤ mi a j ∧ mi a j ≤ 1000) {k : Nat} (hk : (k : Int) < L.2.1) (hne2 : a ≠ 487) (hf : fit (L.2.2.2.1 k) (mi a)) : Cv l yX8_goBy cX8_goBy 5 3 G n0 [.ref (n0 + 473), .ref (n0 + a), .int (jI (k : Int))] mi mr (fun mi9 mr9 => (∀ j : Nat, j < 5 → mi9 487 j = led (L.2.2.2.1 k) (mi a) j) ∧ (∀ b, b ≠ 486 → b ≠ 487 → mi9 b = mi b) ∧ mr = mr9) := by
  refine Ct_of (by decide +kernel) (by intro v hv; simp at hv; rcases hv with rfl | rfl | rfl <;> rfl) (Nat.le_of_ble_eq_true rfl) ?_
  intro p e s m args below meth c9 X hr hname
  show WW _ _ _ _ _ _ _ _ _ _ _ _ _ _ _ _ _ _ _ [some (.ref (n0 + 473)), some (.ref (n0 + a)), some (.int (jI (k : Int))), none, none] _
  have hrc := hA.2.1
  have hR := hA.1.2.1 k hk
  obtain ⟨r1, r2, r3, r4, r6, r7, rs, rg9⟩ := id hR
  obtain ⟨e1, e2, e3, e4, e5, e6, e7⟩ := ML_rule hM hk
  refine w_aload_n X dX8_goBy_0 rfl ?_
  refine w_aload_n X dX8_goBy_1 rfl ?_
  refine w_iload_n X dX8_goBy_2 rfl ?_
  refine s_callVi X _ (c_X8_leaves (l := l) (G := G) (n0 := n0) hA hM ha hne hva hk) gM_X8_106 gI_yX8_leaves gS_yX8_leaves gN_X8 gC_yX8_leaves (by decide) (σ_473 G n0 _ _) rfl dX8_goBy_3 hl_yX8_leaves ⟨Nat.le_of_ble_eq_true rfl, Nat.le_of_ble_eq_true rfl⟩ (Nat.le_of_ble_eq_true rfl) rfl (fun r1 mi1 mr1 h1 => ?_)
  obtain ⟨hg1, hF1, hm1, rfl⟩ := h1
  have hr1 : r1 = 1 := by
    rcases hg1 with ⟨q, -⟩ | ⟨-, q⟩
    · exact q
    · exact absurd hf q
  refine w_ist5_3 X dX8_goBy_6 ?_
  refine w_iconst X dX8_goBy_7 ?_
  refine w_ist5_4 X dX8_goBy_8 ?_
  refine w_iload X dX8_goBy_10 rfl ?_
  refine w_iconst X dX8_goBy_12 ?_
  refine w_icmp_ge X 30 dX8_goBy_13 (by decide) (fun h9 => absurd h9 (by decide)) (fun _ => ?_)
  refine w_aload_n X dX8_goBy_16 rfl ?_
  refine w_get X (by decide) (σ_473 G n0 _ _) rfl gW_X8 22 (by decide) gF_X8_56 rfl dX8_goBy_17 ?_
  refine w_iload X dX8_goBy_20 rfl ?_
  refine w_iconst X dX8_goBy_22 ?_
  refine s_iast X (0) (by decide) (fun _ => σ_m5 G n0 _ _ (by decide)) dX8_goBy_23 ?_
  refine w_iinc5_4 X dX8_goBy_24 ?_
  refine w_goto X 10 dX8_goBy_27 (by decide) ?_
  refine w_iload X dX8_goBy_10 rfl ?_
  refine w_iconst X dX8_goBy_12 ?_
  refine w_icmp_ge X 30 dX8_goBy_13 (by decide) (fun h9 => absurd h9 (by decide)) (fun _ => ?_)
  refine w_aload_n X dX8_goBy_16 rfl ?_
  refine w_get X (by decide) (σ_473 G n0 _ _) rfl gW_X8 22 (by decide) gF_X8_56 rfl dX8_goBy_17 ?_
  refine w_iload X dX8_goBy_20 rfl ?_
  refine w_iconst X dX8_goBy_22 ?_
  refine s_iast X (1) (by decide) (fun _ => σ_m5 G n0 _ _ (by decide)) dX8_goBy_23 ?_
  refine w_iinc5_4 X dX8_goBy_24 ?_
  refine w_goto X 10 dX8_goBy_27 (by decide) ?_
  refine w_iload X dX8_goBy_10 rfl ?_
  refine w_iconst X dX8_goBy_12 ?_
  refine w_icmp_ge X 30 dX8_goBy_13 (by decide) (fun h9 => absurd h9 (by decide)) (fun _ => ?_)
  refine w_aload_n X dX8_goBy_16 rfl ?_
  refine w_get X (by decide) (σ_473 G n0 _ _) rfl gW_X8 22 (by decide) gF_X8_56 rfl dX8_goBy_17 ?_
  refine w_iload X dX8_goBy_20 rfl ?_
  refine w_iconst X dX8_goBy_22 ?_
  refine s_iast X (2) (by decide) (fun _ => σ_m5 G n0 _ _ (by decide)) dX8_goBy_23 ?_
  refine w_iinc5_4 X dX8_goBy_24 ?_
  refine w_goto X 10 dX8_goBy_27 (by decide) ?_
  refine w_iload X dX8_goBy_10 rfl ?_
  refine w_iconst X dX8_goBy_12 ?_
  refine w_icmp_ge X 30 dX8_goBy_13 (by decide) (fun h9 => absurd h9 (by decide)) (fun _ => ?_)
  refine w_aload_n X dX8_goBy_16 rfl ?_
  refine w_get X (by decide) (σ_473 G n0 _ _) rfl gW_X8 22 (by decide) gF_X8_56 rfl dX8_goBy_17 ?_
  refine w_iload X dX8_goBy_20 rfl ?_
  refine w_iconst X dX8_goBy_22 ?_
  refine s_iast X (3) (by decide) (fun _ => σ_m5 G n0 _ _ (by decide)) dX8_goBy_23 ?_
  refine w_iinc5_4 X dX8_goBy_24 ?_
  refine w_goto X 10 dX8_goBy_27 (by decide) ?_
  refine w_iload X dX8_goBy_10 rfl ?_
  refine w_iconst X dX8_goBy_12 ?_
  refine w_icmp_ge X 30 dX8_goBy_13 (by decide) (fun h9 => absurd h9 (by decide)) (fun _ => ?_)
  refine w_aload_n X dX8_goBy_16 rfl ?_
  refine w_get X (by decide) (σ_473 G n0 _ _) rfl gW_X8 22 (by decide) gF_X8_56 rfl dX8_goBy_17 ?_
  refine w_iload X dX8_goBy_20 rfl ?_
  refine w_iconst X dX8_goBy_22 ?_
  refine s_iast X (4) (by decide) (fun _ => σ_m5 G n0 _ _ (by decide)) dX8_goBy_23 ?_
  refine w_iinc5_4 X dX8_goBy_24 ?_
  refine w_goto X 10 dX8_goBy_27 (by decide) ?_
  refine w_iload X dX8_goBy_10 rfl ?_
  refine w_iconst X dX8_goBy_12 ?_
  refine w_icmp_ge X 30 dX8_goBy_13 (by decide) (fun _ => ?_) (fun h9 => absurd (by decide) h9)
  have hz0 : ∀ j : Nat, j < 5 → up2 (up2 (up2 (up2 (up2 mi1 487 0 0) 487 1 0) 487 2 0) 487 3 0) 487 4 0 487 j = 0 := fun j hj => by
    rcases (show j = 0 ∨ j = 1 ∨ j = 2 ∨ j = 3 ∨ j = 4 by omega) with rfl | rfl | rfl | rfl | rfl <;> simp [up2]
  have hk0 : ∀ b, b ≠ 487 → up2 (up2 (up2 (up2 (up2 mi1 487 0 0) 487 1 0) 487 2 0) 487 3 0) 487 4 0 b = mi1 b := fun b hb => by rw [up2_k _ _ _ _ hb, up2_k _ _ _ _ hb, up2_k _ _ _ _ hb, up2_k _ _ _ _ hb, up2_k _ _ _ _ hb]
  generalize up2 (up2 (up2 (up2 (up2 mi1 487 0 0) 487 1 0) 487 2 0) 487 3 0) 487 4 0 = m0 at *
  refine w_iconst X dX8_goBy_30 ?_
  refine w_ist5_4 X dX8_goBy_31 ?_
  have loop : ∀ (n : Nat) (m2 : Nat → Nat → Int) (i : Nat), (i ≤ 5) → (∀ b, b ≠ 487 → m2 b = mi1 b) → (∀ j : Nat, j < 5 → m2 487 j = psm (L.2.2.2.1 k) (mi a) i j) → n = 5 - i → WSv p l e s m args below meth c9 3 (fun mi9 mr9 => (∀ j : Nat, j < 5 → mi9 487 j = led (L.2.2.2.1 k) (mi a) j) ∧ (∀ b, b ≠ 486 → b ≠ 487 → mi9 b = mi b) ∧ mr = mr9) G n0 5 m2 mr 33 [some (.ref (n0 + 473)), some (.ref (n0 + a)), some (.int (jI (k : Int))), some (.int (jI r1)), some (.int (jI (i : Int)))] [] := by
    intro n
    induction n using Nat.strongRecOn with
    | ind n ih_loop =>
      intro m2 i hi hm hF hn
      refine w_iload X dX8_goBy_33 rfl ?_
      refine w_iconst X dX8_goBy_35 ?_
      refine w_icmp_ge X 86 dX8_goBy_36 (by decide) (fun c36_1 => ?_) (fun c36_1 => ?_)
      ·
        have h5 : i = 5 := by omega
        subst h5
        refine w_aload_n X dX8_goBy_86 rfl ?_
        refine w_get X (by decide) (σ_473 G n0 _ _) rfl gW_X8 22 (by decide) gF_X8_56 rfl dX8_goBy_87 ?_
        refine w_aload_n X dX8_goBy_90 rfl ?_
        refine w_get X (by decide) (σ_473 G n0 _ _) rfl gW_X8 6 (by decide) gF_X8_23 rfl dX8_goBy_91 ?_
        refine w_iload_n X dX8_goBy_94 rfl ?_
        refine s_iald X (k) (by decide) (fun _ => σ_m12 G n0 _ _ (by decide)) dX8_goBy_95 ?_
        rw [hm 476 (by decide), hm1 476 (by decide), e3]
        refine w_dup2 X dX8_goBy_96 rfl rfl ?_
        refine s_iald X _ (by decide) (fun _ => σ_m5 G n0 _ _ (by decide)) dX8_goBy_97 ?_ (hj := rfl)
        refine w_iconst X dX8_goBy_98 ?_
        refine w_iadd X dX8_goBy_99 ?_
        refine s_iast X _ (by decide) (fun _ => σ_m5 G n0 _ _ (by decide)) dX8_goBy_100 ?_ (hj := rfl)
        have hm3 : ∀ b, b ≠ 487 → up2 m2 487 (L.2.2.2.1 k 3).toNat (m2 487 (L.2.2.2.1 k 3).toNat + 1) b = mi1 b := fun b hb => (up2_k _ _ _ _ hb).trans (hm b hb)
        have hF3 : ∀ j : Nat, up2 m2 487 (L.2.2.2.1 k 3).toNat (m2 487 (L.2.2.2.1 k 3).toNat + 1) 487 j = m2 487 j + (if (L.2.2.2.1 k) 3 = (j : Int) then 1 else 0) := fun j => up2_add (by omega) j
        generalize up2 m2 487 (L.2.2.2.1 k 3).toNat (m2 487 (L.2.2.2.1 k 3).toNat + 1) = m4 at *
        refine w_aload_n X dX8_goBy_101 rfl ?_
        refine w_get X (by decide) (σ_473 G n0 _ _) rfl gW_X8 4 (by decide) gF_X8_16 rfl dX8_goBy_102 ?_
        refine w_iload_n X dX8_goBy_105 rfl ?_
        refine s_iald X (k) (by decide) (fun _ => σ_m12 G n0 _ _ (by decide)) dX8_goBy_106 ?_
        rw [hm3 474 (by decide), hm1 474 (by decide), e1]
        refine w_iconst X dX8_goBy_107 ?_
        refine w_icmp_ne X 126 dX8_goBy_108 (by decide) (fun c108_2 => ?_) (fun c108_2 => ?_)
        ·
          refine s_vret X hr dX8_goBy_126 ?_
          refine ⟨fun j hj => ?_, fun b h1 h2 => ?_, rfl⟩
          · rw [hF3 j, hF j hj]
            show _ = psm (L.2.2.2.1 k) (mi a) 5 j + (if L.2.2.2.1 k 3 = j then 1 else 0) + (if L.2.2.2.1 k 5 = j then 1 else 0)
            rw [if_neg (show ¬ L.2.2.2.1 k 5 = (j : Int) by omega), Int.add_zero]
          · rw [hm3 b h2, hm1 b h1]
        ·
          refine w_aload_n X dX8_goBy_111 rfl ?_
          refine w_get X (by decide) (σ_473 G n0 _ _) rfl gW_X8 22 (by decide) gF_X8_56 rfl dX8_goBy_112 ?_
          refine w_aload_n X dX8_goBy_115 rfl ?_
          refine w_get X (by decide) (σ_473 G n0 _ _) rfl gW_X8 8 (by decide) gF_X8_29 rfl dX8_goBy_116 ?_
          refine w_iload_n X dX8_goBy_119 rfl ?_
          refine s_iald X (k) (by decide) (fun _ => σ_m12 G n0 _ _ (by decide)) dX8_goBy_120 ?_
          rw [hm3 478 (by decide), hm1 478 (by decide), e5]
          refine w_dup2 X dX8_goBy_121 rfl rfl ?_
          refine s_iald X _ (by decide) (fun _ => σ_m5 G n0 _ _ (by decide)) dX8_goBy_122 ?_ (hj := rfl)
          refine w_iconst X dX8_goBy_123 ?_
          refine w_iadd X dX8_goBy_124 ?_
          refine s_iast X _ (by decide) (fun _ => σ_m5 G n0 _ _ (by decide)) dX8_goBy_125 ?_ (hj := rfl)
          refine s_vret X hr dX8_goBy_126 ?_
          refine ⟨fun j hj => ?_, fun b h1 h2 => ?_, rfl⟩
          · rw [up2_add (by omega), hF3 j, hF j hj]
            rfl
          · rw [up2_k _ _ _ _ h2, hm3 b h2, hm1 b h1]
      ·
        refine w_iload_n X dX8_goBy_39 rfl ?_
        refine w_if_eq X 86 dX8_goBy_40 (by decide) (fun h9 => absurd h9 (by omega)) (fun h40_ => ?_)
        refine w_aload_n X dX8_goBy_43 rfl ?_
        refine w_get X (by decide) (σ_473 G n0 _ _) rfl gW_X8 22 (by decide) gF_X8_56 rfl dX8_goBy_44 ?_
        refine w_aload_n X dX8_goBy_47 rfl ?_
        refine w_get X (by decide) (σ_473 G n0 _ _) rfl gW_X8 4 (by decide) gF_X8_16 rfl dX8_goBy_48 ?_
        refine w_iload_n X dX8_goBy_51 rfl ?_
        refine s_iald X (k) (by decide) (fun _ => σ_m12 G n0 _ _ (by decide)) dX8_goBy_52 ?_
        rw [hm 474 (by decide), hm1 474 (by decide), e1]
        refine w_iconst X dX8_goBy_53 ?_
        refine w_icmp_ne X 67 dX8_goBy_54 (by decide) (fun c54_3 => ?_) (fun c54_3 => ?_)
        ·
          refine w_iload X dX8_goBy_67 rfl ?_
          refine w_dup2 X dX8_goBy_69 rfl rfl ?_
          refine s_iald X (i) (by decide) (fun _ => σ_m5 G n0 _ _ (by decide)) dX8_goBy_70 ?_
          refine w_aload_n X dX8_goBy_71 rfl ?_
          refine w_get X (by decide) (σ_473 G n0 _ _) rfl gW_X8 21 (by decide) gF_X8_53 rfl dX8_goBy_72 ?_
          refine w_iload X dX8_goBy_75 rfl ?_
          refine s_iald X (i) (by decide) (fun _ => σ_m5 G n0 _ _ (by decide)) dX8_goBy_77 ?_
          rw [hm 486 (by decide), hF1 i (by omega)]
          refine w_iadd X dX8_goBy_78 ?_
          refine s_iast X (i) (by decide) (fun _ => σ_m5 G n0 _ _ (by decide)) dX8_goBy_79 ?_
          refine w_iinc5_4 X dX8_goBy_80 ?_
          refine w_goto X 33 dX8_goBy_83 (by decide) ?_
          have hgi : gol (L.2.2.2.1 k) i = i := by unfold gol; rw [if_neg (by omega)]
          exact ih_loop _ (by omega) _ (i + 1) (by omega) (fun b hb => (up2_k _ _ _ _ hb).trans (hm b hb)) (fun j hj => by
            have q8 := up2_add (mi := m2) (k := 487) (g := (i : Int)) (x := mi a i - lv (L.2.2.2.1 k) i) (by omega) j
            rw [Int.toNat_natCast] at q8
            rw [q8, hF j hj]
            show _ = psm (L.2.2.2.1 k) (mi a) i j + (if gol (L.2.2.2.1 k) i = j then mi a i - lv (L.2.2.2.1 k) i else 0)
            rw [hgi]) rfl
        ·
          refine w_aload_n X dX8_goBy_57 rfl ?_
          refine w_iload_n X dX8_goBy_58 rfl ?_
          refine w_iload X dX8_goBy_59 rfl ?_
          refine s_callVi X _ (c_X8_mapped (l := l) (G := G) (n0 := n0) (by omega) (by omega) (by rw [hm 479 (by decide), hm1 479 (by decide)]; have q := gol_d hA hM hk (by omega); exact ⟨q.1, q.2.1⟩)) gM_X8_110 gI_yX8_mapped gS_yX8_mapped gN_X8 gC_yX8_mapped (by decide) (σ_473 G n0 _ _) rfl dX8_goBy_61 hl_yX8_mapped ⟨Nat.le_of_ble_eq_true rfl, Nat.le_of_ble_eq_true rfl⟩ (Nat.le_of_ble_eq_true rfl) rfl (fun r2 mi2 mr2 h2 => ?_)
          obtain ⟨rfl, rfl, h2⟩ := h2
          rw [hm 479 (by decide), hm1 479 (by decide), (gol_d hA hM hk (by omega)).2.2 i] at h2
          have hg5 := rg9 i (by omega)
          refine w_goto X 69 dX8_goBy_64 (by decide) ?_
          refine w_dup2 X dX8_goBy_69 rfl rfl ?_
          refine s_iald X _ (by decide) (fun _ => σ_m5 G n0 _ _ (by decide)) dX8_goBy_70 ?_ (hj := rfl)
          refine w_aload_n X dX8_goBy_71 rfl ?_
          refine w_get X (by decide) (σ_473 G n0 _ _) rfl gW_X8 21 (by decide) gF_X8_53 rfl dX8_goBy_72 ?_
          refine w_iload X dX8_goBy_75 rfl ?_
          refine s_iald X (i) (by decide) (fun _ => σ_m5 G n0 _ _ (by decide)) dX8_goBy_77 ?_
          rw [hm 486 (by decide), hF1 i (by omega)]
          refine w_iadd X dX8_goBy_78 ?_
          refine s_iast X _ (by decide) (fun _ => σ_m5 G n0 _ _ (by decide)) dX8_goBy_79 ?_ (hj := rfl)
          refine w_iinc5_4 X dX8_goBy_80 ?_
          refine w_goto X 33 dX8_goBy_83 (by decide) ?_
          rw [h2]
          exact ih_loop _ (by omega) _ (i + 1) (by omega) (fun b hb => (up2_k _ _ _ _ hb).trans (hm b hb)) (fun j hj => by rw [up2_add (by omega), hF j hj]; rfl) rfl
  exact loop _ m0 0 (by omega) hk0 (fun j hj => by rw [hz0 j hj]; rfl) rfl
