theorem gol_d {L : Lws} {mi : Nat → Nat → Int} (hA : AB L) (hM : ML L mi) {k : Nat} (hk : (k : Int) < L.2.1) (h2 : L.2.2.2.1 k 1 = 2) : 0 ≤ mi 479 k ∧ mi 479 k < 100000 ∧ ∀ j : Nat, mi 479 k / 10 ^ j % 10 = gol (L.2.2.2.1 k) j := by
  have hR := hA.1.2.1 k hk
  obtain ⟨-, -, -, -, h6, -, -, hg⟩ := hR
  have h1 := (hg 1 (by decide)).1
  have h1b := (hg 1 (by decide)).2.1
  unfold gol at h1 h1b
  rw [if_pos h2, Int.pow_one] at h1 h1b
  have e := (ML_rule hM hk).2.2.2.2.2.1
  rw [e]
  refine ⟨by omega, h6.2, fun j => ?_⟩
  unfold gol
  rw [if_pos h2]
theorem dX8_leaves_0 : decode cX8_leaves 0 = .ok (.iconst 0, 1) := by decide +kernel
theorem dX8_leaves_1 : decode cX8_leaves 1 = .ok (.istore_n 3, 1) := by decide +kernel
theorem dX8_leaves_2 : decode cX8_leaves 2 = .ok (.iload_n 3, 1) := by decide +kernel
theorem dX8_leaves_3 : decode cX8_leaves 3 = .ok (.iconst 5, 1) := by decide +kernel
theorem dX8_leaves_4 : decode cX8_leaves 4 = .ok (.if_icmp .ge 18, 3) := by decide +kernel
theorem dX8_leaves_7 : decode cX8_leaves 7 = .ok (.aload_n 0, 1) := by decide +kernel
theorem dX8_leaves_8 : decode cX8_leaves 8 = .ok (.getfield 53, 3) := by decide +kernel
theorem dX8_leaves_11 : decode cX8_leaves 11 = .ok (.iload_n 3, 1) := by decide +kernel
theorem dX8_leaves_12 : decode cX8_leaves 12 = .ok (.aload_n 1, 1) := by decide +kernel
theorem dX8_leaves_13 : decode cX8_leaves 13 = .ok (.iload_n 3, 1) := by decide +kernel
theorem dX8_leaves_14 : decode cX8_leaves 14 = .ok (.iaload, 1) := by decide +kernel
theorem dX8_leaves_15 : decode cX8_leaves 15 = .ok (.iastore, 1) := by decide +kernel
theorem dX8_leaves_16 : decode cX8_leaves 16 = .ok (.iinc 3 1, 3) := by decide +kernel
theorem dX8_leaves_19 : decode cX8_leaves 19 = .ok (.goto (-17), 3) := by decide +kernel
theorem dX8_leaves_22 : decode cX8_leaves 22 = .ok (.aload_n 0, 1) := by decide +kernel
theorem dX8_leaves_23 : decode cX8_leaves 23 = .ok (.getfield 53, 3) := by decide +kernel
theorem dX8_leaves_26 : decode cX8_leaves 26 = .ok (.aload_n 0, 1) := by decide +kernel
theorem dX8_leaves_27 : decode cX8_leaves 27 = .ok (.getfield 20, 3) := by decide +kernel
theorem dX8_leaves_30 : decode cX8_leaves 30 = .ok (.iload_n 2, 1) := by decide +kernel
theorem dX8_leaves_31 : decode cX8_leaves 31 = .ok (.iaload, 1) := by decide +kernel
theorem dX8_leaves_32 : decode cX8_leaves 32 = .ok (.dup2, 1) := by decide +kernel
theorem dX8_leaves_33 : decode cX8_leaves 33 = .ok (.iaload, 1) := by decide +kernel
theorem dX8_leaves_34 : decode cX8_leaves 34 = .ok (.iconst 1, 1) := by decide +kernel
theorem dX8_leaves_35 : decode cX8_leaves 35 = .ok (.isub, 1) := by decide +kernel
theorem dX8_leaves_36 : decode cX8_leaves 36 = .ok (.iastore, 1) := by decide +kernel
theorem dX8_leaves_37 : decode cX8_leaves 37 = .ok (.aload_n 0, 1) := by decide +kernel
theorem dX8_leaves_38 : decode cX8_leaves 38 = .ok (.getfield 16, 3) := by decide +kernel
theorem dX8_leaves_41 : decode cX8_leaves 41 = .ok (.iload_n 2, 1) := by decide +kernel
theorem dX8_leaves_42 : decode cX8_leaves 42 = .ok (.iaload, 1) := by decide +kernel
theorem dX8_leaves_43 : decode cX8_leaves 43 = .ok (.iconst 1, 1) := by decide +kernel
theorem dX8_leaves_44 : decode cX8_leaves 44 = .ok (.if_icmp .ne 18, 3) := by decide +kernel
theorem dX8_leaves_47 : decode cX8_leaves 47 = .ok (.aload_n 0, 1) := by decide +kernel
theorem dX8_leaves_48 : decode cX8_leaves 48 = .ok (.getfield 53, 3) := by decide +kernel
theorem dX8_leaves_51 : decode cX8_leaves 51 = .ok (.aload_n 0, 1) := by decide +kernel
theorem dX8_leaves_52 : decode cX8_leaves 52 = .ok (.getfield 26, 3) := by decide +kernel
theorem dX8_leaves_55 : decode cX8_leaves 55 = .ok (.iload_n 2, 1) := by decide +kernel
theorem dX8_leaves_56 : decode cX8_leaves 56 = .ok (.iaload, 1) := by decide +kernel
theorem dX8_leaves_57 : decode cX8_leaves 57 = .ok (.dup2, 1) := by decide +kernel
theorem dX8_leaves_58 : decode cX8_leaves 58 = .ok (.iaload, 1) := by decide +kernel
theorem dX8_leaves_59 : decode cX8_leaves 59 = .ok (.iconst 1, 1) := by decide +kernel
theorem dX8_leaves_60 : decode cX8_leaves 60 = .ok (.isub, 1) := by decide +kernel
theorem dX8_leaves_61 : decode cX8_leaves 61 = .ok (.iastore, 1) := by decide +kernel
theorem dX8_leaves_62 : decode cX8_leaves 62 = .ok (.iconst 1, 1) := by decide +kernel
theorem dX8_leaves_63 : decode cX8_leaves 63 = .ok (.istore_n 3, 1) := by decide +kernel
theorem dX8_leaves_64 : decode cX8_leaves 64 = .ok (.iconst 0, 1) := by decide +kernel
theorem dX8_leaves_65 : decode cX8_leaves 65 = .ok (.istore 4, 2) := by decide +kernel
theorem dX8_leaves_67 : decode cX8_leaves 67 = .ok (.iload 4, 2) := by decide +kernel
theorem dX8_leaves_69 : decode cX8_leaves 69 = .ok (.iconst 5, 1) := by decide +kernel
theorem dX8_leaves_70 : decode cX8_leaves 70 = .ok (.if_icmp .ge 29, 3) := by decide +kernel
theorem dX8_leaves_73 : decode cX8_leaves 73 = .ok (.iload_n 3, 1) := by decide +kernel
theorem dX8_leaves_74 : decode cX8_leaves 74 = .ok (.ifCond .eq 17, 3) := by decide +kernel
theorem dX8_leaves_77 : decode cX8_leaves 77 = .ok (.aload_n 0, 1) := by decide +kernel
theorem dX8_leaves_78 : decode cX8_leaves 78 = .ok (.getfield 53, 3) := by decide +kernel
theorem dX8_leaves_81 : decode cX8_leaves 81 = .ok (.iload 4, 2) := by decide +kernel
theorem dX8_leaves_83 : decode cX8_leaves 83 = .ok (.iaload, 1) := by decide +kernel
theorem dX8_leaves_84 : decode cX8_leaves 84 = .ok (.ifCond .lt 7, 3) := by decide +kernel
theorem dX8_leaves_87 : decode cX8_leaves 87 = .ok (.iconst 1, 1) := by decide +kernel
theorem dX8_leaves_88 : decode cX8_leaves 88 = .ok (.goto 4, 3) := by decide +kernel
theorem dX8_leaves_91 : decode cX8_leaves 91 = .ok (.iconst 0, 1) := by decide +kernel
theorem dX8_leaves_92 : decode cX8_leaves 92 = .ok (.istore_n 3, 1) := by decide +kernel
theorem dX8_leaves_93 : decode cX8_leaves 93 = .ok (.iinc 4 1, 3) := by decide +kernel
theorem dX8_leaves_96 : decode cX8_leaves 96 = .ok (.goto (-29), 3) := by decide +kernel
theorem dX8_leaves_99 : decode cX8_leaves 99 = .ok (.iload_n 3, 1) := by decide +kernel
theorem dX8_leaves_100 : decode cX8_leaves 100 = .ok (.ifCond .eq 32, 3) := by decide +kernel
theorem dX8_leaves_103 : decode cX8_leaves 103 = .ok (.aload_n 0, 1) := by decide +kernel
theorem dX8_leaves_104 : decode cX8_leaves 104 = .ok (.getfield 35, 3) := by decide +kernel
theorem dX8_leaves_107 : decode cX8_leaves 107 = .ok (.iload_n 2, 1) := by decide +kernel
theorem dX8_leaves_108 : decode cX8_leaves 108 = .ok (.iaload, 1) := by decide +kernel
theorem dX8_leaves_109 : decode cX8_leaves 109 = .ok (.bipush (-9), 2) := by decide +kernel
theorem dX8_leaves_111 : decode cX8_leaves 111 = .ok (.if_icmp .eq 17, 3) := by decide +kernel
theorem dX8_leaves_114 : decode cX8_leaves 114 = .ok (.aload_n 0, 1) := by decide +kernel
theorem dX8_leaves_115 : decode cX8_leaves 115 = .ok (.getfield 53, 3) := by decide +kernel
theorem dX8_leaves_118 : decode cX8_leaves 118 = .ok (.aload_n 0, 1) := by decide +kernel
theorem dX8_leaves_119 : decode cX8_leaves 119 = .ok (.getfield 35, 3) := by decide +kernel
theorem dX8_leaves_122 : decode cX8_leaves 122 = .ok (.iload_n 2, 1) := by decide +kernel
theorem dX8_leaves_123 : decode cX8_leaves 123 = .ok (.iaload, 1) := by decide +kernel
theorem dX8_leaves_124 : decode cX8_leaves 124 = .ok (.iaload, 1) := by decide +kernel
theorem dX8_leaves_125 : decode cX8_leaves 125 = .ok (.ifCond .le 7, 3) := by decide +kernel
theorem dX8_leaves_128 : decode cX8_leaves 128 = .ok (.iconst 1, 1) := by decide +kernel
theorem dX8_leaves_129 : decode cX8_leaves 129 = .ok (.goto 4, 3) := by decide +kernel
theorem dX8_leaves_132 : decode cX8_leaves 132 = .ok (.iconst 0, 1) := by decide +kernel
theorem dX8_leaves_133 : decode cX8_leaves 133 = .ok (.ireturn, 1) := by decide +kernel
theorem hl_yX8_leaves : (yX8_leaves.cls ≠ "java/lang/invoke/MethodHandle" ∧ yX8_leaves.cls ≠ "java/lang/invoke/VarHandle") ∧ (parseMethodDescriptor yX8_leaves.desc).map (fun d => d.parameters.length) = some 2 := by decide +kernel
set_option maxRecDepth 20000 in
set_option maxHeartbeats 4000000 in
theorem c_X8_leaves {l : Launch} {G : Gt} {n0 : Nat} {mi : Nat → Nat → Int} {mr : Nat → Nat → Nat} {L : Lws} (hA : AB L) (hM : ML L mi) {a : Nat} (ha : IA a 5) (hne : a ≠ 486) (hva : ∀ j : Nat, j < 5 → 0 ≤ mi a j ∧ mi a j ≤ 1000) {k : Nat} (hk : (k : Int) < L.2.1) : Ci l yX8_leaves cX8_leaves 5 .boolean 2 G n0 [.ref (n0 + 473), .ref (n0 + a), .int (jI (k : Int))] mi mr (fun r9 mi9 mr9 => flg r9 (fit (L.2.2.2.1 k) (mi a)) ∧ (∀ j : Nat, j < 5 → mi9 486 j = mi a j - lv (L.2.2.2.1 k) j) ∧ (∀ b, b ≠ 486 → mi9 b = mi b) ∧ mr = mr9) := by
  refine Ct_of (by decide +kernel) (by intro v hv; simp at hv; rcases hv with rfl | rfl | rfl <;> rfl) (Nat.le_of_ble_eq_true rfl) ?_
  intro p e s m args below meth c9 X hr hname
  show WW _ _ _ _ _ _ _ _ _ _ _ _ _ _ _ _ _ _ _ [some (.ref (n0 + 473)), some (.ref (n0 + a)), some (.int (jI (k : Int))), none, none] _
  have hrc := hA.2.1
  have hR := hA.1.2.1 k hk
  obtain ⟨r1, r2, r3, r4, r6, r7, rs, rg9⟩ := id hR
  obtain ⟨e1, e2, e3, e4, e5, e6, e7⟩ := ML_rule hM hk
  have can : ∀ (n3 : Nat → Nat → Int), (∀ b, b ≠ 486 → n3 b = mi b) → (∀ j : Nat, j < 5 → n3 486 j = mi a j - lv (L.2.2.2.1 k) j) → ∀ (x3 x4 : Option Value), WSi p l e s m args below meth c9 2 (fun r9 mi9 mr9 => flg r9 (fit (L.2.2.2.1 k) (mi a)) ∧ (∀ j : Nat, j < 5 → mi9 486 j = mi a j - lv (L.2.2.2.1 k) j) ∧ (∀ b, b ≠ 486 → mi9 b = mi b) ∧ mr = mr9) G n0 5 n3 mr 62 [some (.ref (n0 + 473)), some (.ref (n0 + a)), some (.int (jI (k : Int))), x3, x4] [] := by
    intro n3 hm2 hF2 x3 x4
    refine w_iconst X dX8_leaves_62 ?_
    refine w_ist5_3 X dX8_leaves_63 ?_
    refine w_iconst X dX8_leaves_64 ?_
    refine w_ist5_4 X dX8_leaves_65 ?_
    have loop : ∀ (n : Nat) (i : Nat) (w1 : Int), (i ≤ 5) → (FLg w1 (fun j => 0 ≤ n3 486 j) i) → n = 5 - i → WSi p l e s m args below meth c9 2 (fun r9 mi9 mr9 => flg r9 (fit (L.2.2.2.1 k) (mi a)) ∧ (∀ j : Nat, j < 5 → mi9 486 j = mi a j - lv (L.2.2.2.1 k) j) ∧ (∀ b, b ≠ 486 → mi9 b = mi b) ∧ mr = mr9) G n0 5 n3 mr 67 [some (.ref (n0 + 473)), some (.ref (n0 + a)), some (.int (jI (k : Int))), some (.int (jI w1)), some (.int (jI (i : Int)))] [] := by
      intro n
      induction n using Nat.strongRecOn with
      | ind n ih_loop =>
        intro i w1 hi hf hn
        have hw1 := FL_b hf
        refine w_iload X dX8_leaves_67 rfl ?_
        refine w_iconst X dX8_leaves_69 ?_
        refine w_icmp_ge X 99 dX8_leaves_70 (by decide) (fun c70_1 => ?_) (fun c70_1 => ?_)
        ·
          refine w_iload_n X dX8_leaves_99 rfl ?_
          refine w_if_eq X 132 dX8_leaves_100 (by decide) (fun c100_2 => ?_) (fun c100_2 => ?_)
          ·
            refine w_iconst X dX8_leaves_132 ?_
            refine s_zret X hr dX8_leaves_133 (by omega) ?_
            have h5 : i = 5 := by omega
            subst h5
            refine ⟨?_, hF2, hm2, rfl⟩
            refine flg_f (fun w => ?_)
            first
            | (refine flg_0 hf (by omega) (fun j hj => ?_); have q8 := w j hj; have q9 := hF2 j hj; have q10 : 0 ≤ nd (L.2.2.2.1 k) j := (by unfold nd; split <;> omega); show 0 ≤ n3 486 j; omega)
            | (have q8 := w (L.2.2.2.1 k 7).toNat (by omega); have q10 : nd (L.2.2.2.1 k) ((L.2.2.2.1 k 7).toNat : Nat) = 1 := if_pos (by omega); omega)
          ·
            refine w_aload_n X dX8_leaves_103 rfl ?_
            refine w_get X (by decide) (σ_473 G n0 _ _) rfl gW_X8 10 (by decide) gF_X8_35 rfl dX8_leaves_104 ?_
            refine w_iload_n X dX8_leaves_107 rfl ?_
            refine s_iald X (k) (by decide) (fun _ => σ_m12 G n0 _ _ (by decide)) dX8_leaves_108 ?_
            rw [hm2 480 (by decide), e7]
            refine w_bipush X dX8_leaves_109 rfl ?_
            refine w_icmp_eq X 128 dX8_leaves_111 (by decide) (fun c111_3 => ?_) (fun c111_3 => ?_)
            ·
              refine w_iconst X dX8_leaves_128 ?_
              refine w_goto X 133 dX8_leaves_129 (by decide) ?_
              refine s_zret X hr dX8_leaves_133 (by omega) ?_
              have h5 : i = 5 := by omega
              subst h5
              refine ⟨?_, hF2, hm2, rfl⟩
              refine flg_t (fun j hj => ?_)
              have q8 := flg_1 hf (by omega) j hj
              have q9 := hF2 j hj
              show lv (L.2.2.2.1 k) j + nd (L.2.2.2.1 k) j ≤ mi a j
              have q8b : 0 ≤ n3 486 j := q8
              unfold nd
              split
              · rename_i q10
                first | (exfalso; omega) | (rw [show (L.2.2.2.1 k 7).toNat = j by omega] at *; omega)
              · omega
            ·
              refine w_aload_n X dX8_leaves_114 rfl ?_
              refine w_get X (by decide) (σ_473 G n0 _ _) rfl gW_X8 21 (by decide) gF_X8_53 rfl dX8_leaves_115 ?_
              have q5 := hF2 (L.2.2.2.1 k 7).toNat (by omega)
              have q6 := hva (L.2.2.2.1 k 7).toNat (by omega)
              have q7 := lv_b (L.2.2.2.1 k) ((L.2.2.2.1 k 7).toNat : Nat)
              refine w_aload_n X dX8_leaves_118 rfl ?_
              refine w_get X (by decide) (σ_473 G n0 _ _) rfl gW_X8 10 (by decide) gF_X8_35 rfl dX8_leaves_119 ?_
              refine w_iload_n X dX8_leaves_122 rfl ?_
              refine s_iald X (k) (by decide) (fun _ => σ_m12 G n0 _ _ (by decide)) dX8_leaves_123 ?_
              rw [hm2 480 (by decide), e7]
              refine s_iald X _ (by decide) (fun _ => σ_m5 G n0 _ _ (by decide)) dX8_leaves_124 ?_ (hj := rfl)
              refine w_if_le X 132 dX8_leaves_125 (by decide) (fun c125_4 => ?_) (fun c125_4 => ?_)
              ·
                refine w_iconst X dX8_leaves_132 ?_
                refine s_zret X hr dX8_leaves_133 (by omega) ?_
                have h5 : i = 5 := by omega
                subst h5
                refine ⟨?_, hF2, hm2, rfl⟩
                refine flg_f (fun w => ?_)
                first
                | (refine flg_0 hf (by omega) (fun j hj => ?_); have q8 := w j hj; have q9 := hF2 j hj; have q10 : 0 ≤ nd (L.2.2.2.1 k) j := (by unfold nd; split <;> omega); show 0 ≤ n3 486 j; omega)
                | (have q8 := w (L.2.2.2.1 k 7).toNat (by omega); have q10 : nd (L.2.2.2.1 k) ((L.2.2.2.1 k 7).toNat : Nat) = 1 := if_pos (by omega); omega)
              ·
                refine w_iconst X dX8_leaves_128 ?_
                refine w_goto X 133 dX8_leaves_129 (by decide) ?_
                refine s_zret X hr dX8_leaves_133 (by omega) ?_
                have h5 : i = 5 := by omega
                subst h5
                refine ⟨?_, hF2, hm2, rfl⟩
                refine flg_t (fun j hj => ?_)
                have q8 := flg_1 hf (by omega) j hj
                have q9 := hF2 j hj
                show lv (L.2.2.2.1 k) j + nd (L.2.2.2.1 k) j ≤ mi a j
                have q8b : 0 ≤ n3 486 j := q8
                unfold nd
                split
                · rename_i q10
                  first | (exfalso; omega) | (rw [show (L.2.2.2.1 k 7).toNat = j by omega] at *; omega)
                · omega
        ·
          refine w_iload_n X dX8_leaves_73 rfl ?_
          refine w_if_eq X 91 dX8_leaves_74 (by decide) (fun c74_5 => ?_) (fun c74_5 => ?_)
          ·
            refine w_iconst X dX8_leaves_91 ?_
            refine w_ist5_3 X dX8_leaves_92 ?_
            refine w_iinc5_4 X dX8_leaves_93 ?_
            refine w_goto X 67 dX8_leaves_96 (by decide) ?_
            exact ih_loop _ (by omega) (i + 1) 0 (by omega) (by first | exact FL_k hf (by omega) | exact FL_f (show ¬ 0 ≤ n3 486 i by omega)) rfl
          ·
            have q5 := hF2 i (by omega)
            have q6 := hva i (by omega)
            have q7 := lv_b (L.2.2.2.1 k) i
            refine w_aload_n X dX8_leaves_77 rfl ?_
            refine w_get X (by decide) (σ_473 G n0 _ _) rfl gW_X8 21 (by decide) gF_X8_53 rfl dX8_leaves_78 ?_
            refine w_iload X dX8_leaves_81 rfl ?_
            refine s_iald X (i) (by decide) (fun _ => σ_m5 G n0 _ _ (by decide)) dX8_leaves_83 ?_
            refine w_if_lt X 91 dX8_leaves_84 (by decide) (fun c84_6 => ?_) (fun c84_6 => ?_)
            ·
              refine w_iconst X dX8_leaves_91 ?_
              refine w_ist5_3 X dX8_leaves_92 ?_
              refine w_iinc5_4 X dX8_leaves_93 ?_
              refine w_goto X 67 dX8_leaves_96 (by decide) ?_
              exact ih_loop _ (by omega) (i + 1) 0 (by omega) (by first | exact FL_k hf (by omega) | exact FL_f (show ¬ 0 ≤ n3 486 i by omega)) rfl
            ·
              refine w_iconst X dX8_leaves_87 ?_
              refine w_goto X 92 dX8_leaves_88 (by decide) ?_
              refine w_ist5_3 X dX8_leaves_92 ?_
              refine w_iinc5_4 X dX8_leaves_93 ?_
              refine w_goto X 67 dX8_leaves_96 (by decide) ?_
              exact ih_loop _ (by omega) (i + 1) 1 (by omega) (FL_t hf (by omega) (show 0 ≤ n3 486 i by omega)) rfl
    exact loop _ 0 1 (by omega) FL_0 rfl
  refine w_iconst X dX8_leaves_0 ?_
  refine w_ist5_3 X dX8_leaves_1 ?_
  have copy : ∀ (n : Nat) (m1 : Nat → Nat → Int) (i : Nat) (x4 : Option Value), (i ≤ 5) → (∀ b, b ≠ 486 → m1 b = mi b) → (∀ j : Nat, j < i → m1 486 j = mi a j) → n = 5 - i → WSi p l e s m args below meth c9 2 (fun r9 mi9 mr9 => flg r9 (fit (L.2.2.2.1 k) (mi a)) ∧ (∀ j : Nat, j < 5 → mi9 486 j = mi a j - lv (L.2.2.2.1 k) j) ∧ (∀ b, b ≠ 486 → mi9 b = mi b) ∧ mr = mr9) G n0 5 m1 mr 2 [some (.ref (n0 + 473)), some (.ref (n0 + a)), some (.int (jI (k : Int))), some (.int (jI (i : Int))), x4] [] := by
    intro n
    induction n using Nat.strongRecOn with
    | ind n ih_copy =>
      intro m1 i x4 hi hm hF hn
      refine w_iload_n X dX8_leaves_2 rfl ?_
      refine w_iconst X dX8_leaves_3 ?_
      refine w_icmp_ge X 22 dX8_leaves_4 (by decide) (fun c4_7 => ?_) (fun c4_7 => ?_)
      ·
        refine w_aload_n X dX8_leaves_22 rfl ?_
        refine w_get X (by decide) (σ_473 G n0 _ _) rfl gW_X8 21 (by decide) gF_X8_53 rfl dX8_leaves_23 ?_
        refine w_aload_n X dX8_leaves_26 rfl ?_
        refine w_get X (by decide) (σ_473 G n0 _ _) rfl gW_X8 5 (by decide) gF_X8_20 rfl dX8_leaves_27 ?_
        refine w_iload_n X dX8_leaves_30 rfl ?_
        refine s_iald X (k) (by decide) (fun _ => σ_m12 G n0 _ _ (by decide)) dX8_leaves_31 ?_
        rw [hm 475 (by decide), e2]
        refine w_dup2 X dX8_leaves_32 rfl rfl ?_
        refine s_iald X _ (by decide) (fun _ => σ_m5 G n0 _ _ (by decide)) dX8_leaves_33 ?_ (hj := rfl)
        refine w_iconst X dX8_leaves_34 ?_
        refine w_isub X dX8_leaves_35 ?_
        refine s_iast X _ (by decide) (fun _ => σ_m5 G n0 _ _ (by decide)) dX8_leaves_36 ?_ (hj := rfl)
        have hm1 : ∀ b, b ≠ 486 → up2 m1 486 (L.2.2.2.1 k 2).toNat (m1 486 (L.2.2.2.1 k 2).toNat - 1) b = mi b := fun b hb => (up2_k _ _ _ _ hb).trans (hm b hb)
        have hF1 : ∀ j : Nat, j < 5 → up2 m1 486 (L.2.2.2.1 k 2).toNat (m1 486 (L.2.2.2.1 k 2).toNat - 1) 486 j = mi a j - (if (j : Int) = L.2.2.2.1 k 2 then 1 else 0) := fun j hj => by rw [up2_sub1 (by omega), hF j (by omega)]
        generalize up2 m1 486 (L.2.2.2.1 k 2).toNat (m1 486 (L.2.2.2.1 k 2).toNat - 1) = n2 at *
        refine w_aload_n X dX8_leaves_37 rfl ?_
        refine w_get X (by decide) (σ_473 G n0 _ _) rfl gW_X8 4 (by decide) gF_X8_16 rfl dX8_leaves_38 ?_
        refine w_iload_n X dX8_leaves_41 rfl ?_
        refine s_iald X (k) (by decide) (fun _ => σ_m12 G n0 _ _ (by decide)) dX8_leaves_42 ?_
        rw [hm1 474 (by decide), e1]
        refine w_iconst X dX8_leaves_43 ?_
        refine w_icmp_ne X 62 dX8_leaves_44 (by decide) (fun c44_8 => ?_) (fun c44_8 => ?_)
        ·
          refine can _ hm1 (fun j hj => ?_) _ _
          rw [hF1 j hj]
          unfold lv
          rw [if_neg (show ¬ ((j : Int) = L.2.2.2.1 k 4) by omega), Int.add_zero]
        ·
          refine w_aload_n X dX8_leaves_47 rfl ?_
          refine w_get X (by decide) (σ_473 G n0 _ _) rfl gW_X8 21 (by decide) gF_X8_53 rfl dX8_leaves_48 ?_
          refine w_aload_n X dX8_leaves_51 rfl ?_
          refine w_get X (by decide) (σ_473 G n0 _ _) rfl gW_X8 7 (by decide) gF_X8_26 rfl dX8_leaves_52 ?_
          refine w_iload_n X dX8_leaves_55 rfl ?_
          refine s_iald X (k) (by decide) (fun _ => σ_m12 G n0 _ _ (by decide)) dX8_leaves_56 ?_
          rw [hm1 477 (by decide), e4]
          refine w_dup2 X dX8_leaves_57 rfl rfl ?_
          refine s_iald X _ (by decide) (fun _ => σ_m5 G n0 _ _ (by decide)) dX8_leaves_58 ?_ (hj := rfl)
          refine w_iconst X dX8_leaves_59 ?_
          refine w_isub X dX8_leaves_60 ?_
          refine s_iast X _ (by decide) (fun _ => σ_m5 G n0 _ _ (by decide)) dX8_leaves_61 ?_ (hj := rfl)
          refine can _ (fun b hb => (up2_k _ _ _ _ hb).trans (hm1 b hb)) (fun j hj => ?_) _ _
          rw [up2_sub1 (by omega), hF1 j hj]
          unfold lv
          rw [Int.sub_sub]
      ·
        refine w_aload_n X dX8_leaves_7 rfl ?_
        refine w_get X (by decide) (σ_473 G n0 _ _) rfl gW_X8 21 (by decide) gF_X8_53 rfl dX8_leaves_8 ?_
        refine w_iload_n X dX8_leaves_11 rfl ?_
        refine w_aload_n X dX8_leaves_12 rfl ?_
        refine w_iload_n X dX8_leaves_13 rfl ?_
        refine s_iald X (i) ha.1 (fun _ => ha.2 _ _ _ _) dX8_leaves_14 ?_
        rw [hm a hne]
        refine s_iast X (i) (by decide) (fun _ => σ_m5 G n0 _ _ (by decide)) dX8_leaves_15 ?_
        refine w_iinc5_3 X dX8_leaves_16 ?_
        refine w_goto X 2 dX8_leaves_19 (by decide) ?_
        exact ih_copy _ (by omega) _ (i + 1) _ (by omega) (fun b hb => (up2_k _ _ _ _ hb).trans (hm b hb)) (fun j hj => by
          rcases (show j < i ∨ j = i by omega) with q | q
          · rw [up2_j _ _ _ _ (by omega)]; exact hF j q
          · subst q; rw [up2_s]) rfl
  exact copy _ mi 0 none (by omega) (fun b _ => rfl) (fun j hj => absurd hj (by omega)) rfl
