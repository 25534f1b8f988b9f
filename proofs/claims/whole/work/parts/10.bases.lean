/-- a store of bases is in order: its rows are its own crowds, apart; those that count hold what is in order -/
def BO (mi : Nat → Nat → Int) (mr : Nat → Nat → Nat) (b : Nat) : Prop := isBs b ∧ (0 ≤ mi b 2 ∧ mi b 2 ≤ 101) ∧ (∀ i : Nat, i < 101 → b + 3 ≤ mr (b + 1) i ∧ mr (b + 1) i < b + 205 ∧ (mr (b + 1) i - b) % 2 = 1) ∧ (∀ i j : Nat, i < 101 → j < 101 → mr (b + 1) i = mr (b + 1) j → i = j) ∧ (∀ i : Nat, (i : Int) < mi b 2 → CB mi (mr (b + 1) i)) ∧ (∀ i : Nat, (i : Int) < mi b 2 → mi (b + 2) i = 0 ∨ mi (b + 2) i = 1) ∧ 0 ≤ mi b 3 ∧ mi b 3 ≤ mi b 2
theorem ow_cr {b c : Nat} (hb : isBs b) (h : b + 3 ≤ c ∧ c < b + 205 ∧ (c - b) % 2 = 1) : isCr c := by
  unfold isBs at hb
  unfold isCr
  rcases hb with rfl | rfl <;> omega
theorem BO.cr {mi : Nat → Nat → Int} {mr : Nat → Nat → Nat} {b i : Nat} (h : BO mi mr b) (hi : i < 101) : isCr (mr (b + 1) i) := ow_cr h.1 (h.2.2.1 i hi)
theorem BO_fr {mi mi' : Nat → Nat → Int} {mr mr' : Nat → Nat → Nat} {b : Nat} (h : BO mi mr b) (h1 : ∀ a, b ≤ a → a < b + 205 → mi' a = mi a) (h2 : mr' (b + 1) = mr (b + 1)) : BO mi' mr' b := by
  obtain ⟨g1, g2, g3, g4, g5, g6, g7⟩ := h
  unfold BO
  rw [h2, h1 b (by omega) (by omega), h1 (b + 2) (by omega) (by omega)]
  exact ⟨g1, g2, g3, g4, fun i hi => CB_fr (g5 i hi) (h1 _ (by have := g3 i (by omega); omega) (by have := g3 i (by omega); omega)), g6, g7⟩
theorem ap_bs {b c : Nat} (hb : isBs b) (hc : isCr c) : c + 1 ≠ b ∧ c + 1 ≠ b + 1 ∧ c + 1 ≠ b + 2 ∧ c ≠ b ∧ c ≠ b + 1 ∧ c ≠ b + 2 := by
  unfold isBs at hb
  unfold isCr at hc
  omega
theorem dX1_clear_0 : decode cX1_clear 0 = .ok (.aload_n 0, 1) := by decide +kernel
theorem dX1_clear_1 : decode cX1_clear 1 = .ok (.iconst 0, 1) := by decide +kernel
theorem dX1_clear_2 : decode cX1_clear 2 = .ok (.putfield 21, 3) := by decide +kernel
theorem dX1_clear_5 : decode cX1_clear 5 = .ok (.aload_n 0, 1) := by decide +kernel
theorem dX1_clear_6 : decode cX1_clear 6 = .ok (.iconst 0, 1) := by decide +kernel
theorem dX1_clear_7 : decode cX1_clear 7 = .ok (.putfield 25, 3) := by decide +kernel
theorem dX1_clear_10 : decode cX1_clear 10 = .ok (.return_, 1) := by decide +kernel
theorem dX1_areTooMany_0 : decode cX1_areTooMany 0 = .ok (.aload_n 0, 1) := by decide +kernel
theorem dX1_areTooMany_1 : decode cX1_areTooMany 1 = .ok (.getfield 21, 3) := by decide +kernel
theorem dX1_areTooMany_4 : decode cX1_areTooMany 4 = .ok (.bipush 100, 2) := by decide +kernel
theorem dX1_areTooMany_6 : decode cX1_areTooMany 6 = .ok (.if_icmp .le 7, 3) := by decide +kernel
theorem dX1_areTooMany_9 : decode cX1_areTooMany 9 = .ok (.iconst 1, 1) := by decide +kernel
theorem dX1_areTooMany_10 : decode cX1_areTooMany 10 = .ok (.goto 4, 3) := by decide +kernel
theorem dX1_areTooMany_13 : decode cX1_areTooMany 13 = .ok (.iconst 0, 1) := by decide +kernel
theorem dX1_areTooMany_14 : decode cX1_areTooMany 14 = .ok (.ireturn, 1) := by decide +kernel
theorem dX1_cover_0 : decode cX1_cover 0 = .ok (.iconst 0, 1) := by decide +kernel
theorem dX1_cover_1 : decode cX1_cover 1 = .ok (.istore_n 2, 1) := by decide +kernel
theorem dX1_cover_2 : decode cX1_cover 2 = .ok (.iload_n 2, 1) := by decide +kernel
theorem dX1_cover_3 : decode cX1_cover 3 = .ok (.aload_n 0, 1) := by decide +kernel
theorem dX1_cover_4 : decode cX1_cover 4 = .ok (.getfield 21, 3) := by decide +kernel
theorem dX1_cover_7 : decode cX1_cover 7 = .ok (.if_icmp .ge 24, 3) := by decide +kernel
theorem dX1_cover_10 : decode cX1_cover 10 = .ok (.aload_n 1, 1) := by decide +kernel
theorem dX1_cover_11 : decode cX1_cover 11 = .ok (.aload_n 0, 1) := by decide +kernel
theorem dX1_cover_12 : decode cX1_cover 12 = .ok (.getfield 11, 3) := by decide +kernel
theorem dX1_cover_15 : decode cX1_cover 15 = .ok (.iload_n 2, 1) := by decide +kernel
theorem dX1_cover_16 : decode cX1_cover 16 = .ok (.aaload, 1) := by decide +kernel
theorem dX1_cover_17 : decode cX1_cover 17 = .ok (.invokevirtual 29, 3) := by decide +kernel
theorem dX1_cover_20 : decode cX1_cover 20 = .ok (.ifCond .eq 5, 3) := by decide +kernel
theorem dX1_cover_23 : decode cX1_cover 23 = .ok (.iconst 1, 1) := by decide +kernel
theorem dX1_cover_24 : decode cX1_cover 24 = .ok (.ireturn, 1) := by decide +kernel
theorem dX1_cover_25 : decode cX1_cover 25 = .ok (.iinc 2 1, 3) := by decide +kernel
theorem dX1_cover_28 : decode cX1_cover 28 = .ok (.goto (-26), 3) := by decide +kernel
theorem dX1_cover_31 : decode cX1_cover 31 = .ok (.iconst 0, 1) := by decide +kernel
theorem dX1_cover_32 : decode cX1_cover 32 = .ok (.ireturn, 1) := by decide +kernel
theorem dX1_take_0 : decode cX1_take 0 = .ok (.aload_n 0, 1) := by decide +kernel
theorem dX1_take_1 : decode cX1_take 1 = .ok (.invokevirtual 33, 3) := by decide +kernel
theorem dX1_take_4 : decode cX1_take 4 = .ok (.ifCond .eq 4, 3) := by decide +kernel
theorem dX1_take_7 : decode cX1_take 7 = .ok (.return_, 1) := by decide +kernel
theorem dX1_take_8 : decode cX1_take 8 = .ok (.aload_n 0, 1) := by decide +kernel
theorem dX1_take_9 : decode cX1_take 9 = .ok (.getfield 11, 3) := by decide +kernel
theorem dX1_take_12 : decode cX1_take 12 = .ok (.aload_n 0, 1) := by decide +kernel
theorem dX1_take_13 : decode cX1_take 13 = .ok (.getfield 21, 3) := by decide +kernel
theorem dX1_take_16 : decode cX1_take 16 = .ok (.aaload, 1) := by decide +kernel
theorem dX1_take_17 : decode cX1_take 17 = .ok (.astore_n 3, 1) := by decide +kernel
theorem dX1_take_18 : decode cX1_take 18 = .ok (.aload_n 3, 1) := by decide +kernel
theorem dX1_take_19 : decode cX1_take 19 = .ok (.aload_n 1, 1) := by decide +kernel
theorem dX1_take_20 : decode cX1_take 20 = .ok (.invokevirtual 37, 3) := by decide +kernel
theorem dX1_take_23 : decode cX1_take 23 = .ok (.aload_n 0, 1) := by decide +kernel
theorem dX1_take_24 : decode cX1_take 24 = .ok (.getfield 21, 3) := by decide +kernel
theorem dX1_take_27 : decode cX1_take 27 = .ok (.istore 4, 2) := by decide +kernel
theorem dX1_take_29 : decode cX1_take 29 = .ok (.iload 4, 2) := by decide +kernel
theorem dX1_take_31 : decode cX1_take 31 = .ok (.ifCond .le 57, 3) := by decide +kernel
theorem dX1_take_34 : decode cX1_take 34 = .ok (.aload_n 3, 1) := by decide +kernel
theorem dX1_take_35 : decode cX1_take 35 = .ok (.aload_n 0, 1) := by decide +kernel
theorem dX1_take_36 : decode cX1_take 36 = .ok (.getfield 11, 3) := by decide +kernel
theorem dX1_take_39 : decode cX1_take 39 = .ok (.iload 4, 2) := by decide +kernel
theorem dX1_take_41 : decode cX1_take 41 = .ok (.iconst 1, 1) := by decide +kernel
theorem dX1_take_42 : decode cX1_take 42 = .ok (.isub, 1) := by decide +kernel
theorem dX1_take_43 : decode cX1_take 43 = .ok (.aaload, 1) := by decide +kernel
theorem dX1_take_44 : decode cX1_take 44 = .ok (.invokevirtual 41, 3) := by decide +kernel
theorem dX1_take_47 : decode cX1_take 47 = .ok (.ifCond .eq 41, 3) := by decide +kernel
theorem dX1_take_50 : decode cX1_take 50 = .ok (.aload_n 0, 1) := by decide +kernel
theorem dX1_take_51 : decode cX1_take 51 = .ok (.getfield 11, 3) := by decide +kernel
theorem dX1_take_54 : decode cX1_take 54 = .ok (.iload 4, 2) := by decide +kernel
theorem dX1_take_56 : decode cX1_take 56 = .ok (.aload_n 0, 1) := by decide +kernel
theorem dX1_take_57 : decode cX1_take 57 = .ok (.getfield 11, 3) := by decide +kernel
theorem dX1_take_60 : decode cX1_take 60 = .ok (.iload 4, 2) := by decide +kernel
theorem dX1_take_62 : decode cX1_take 62 = .ok (.iconst 1, 1) := by decide +kernel
theorem dX1_take_63 : decode cX1_take 63 = .ok (.isub, 1) := by decide +kernel
theorem dX1_take_64 : decode cX1_take 64 = .ok (.aaload, 1) := by decide +kernel
theorem dX1_take_65 : decode cX1_take 65 = .ok (.aastore, 1) := by decide +kernel
theorem dX1_take_66 : decode cX1_take 66 = .ok (.aload_n 0, 1) := by decide +kernel
theorem dX1_take_67 : decode cX1_take 67 = .ok (.getfield 17, 3) := by decide +kernel
theorem dX1_take_70 : decode cX1_take 70 = .ok (.iload 4, 2) := by decide +kernel
theorem dX1_take_72 : decode cX1_take 72 = .ok (.aload_n 0, 1) := by decide +kernel
theorem dX1_take_73 : decode cX1_take 73 = .ok (.getfield 17, 3) := by decide +kernel
theorem dX1_take_76 : decode cX1_take 76 = .ok (.iload 4, 2) := by decide +kernel
theorem dX1_take_78 : decode cX1_take 78 = .ok (.iconst 1, 1) := by decide +kernel
theorem dX1_take_79 : decode cX1_take 79 = .ok (.isub, 1) := by decide +kernel
theorem dX1_take_80 : decode cX1_take 80 = .ok (.baload, 1) := by decide +kernel
theorem dX1_take_81 : decode cX1_take 81 = .ok (.bastore, 1) := by decide +kernel
theorem dX1_take_82 : decode cX1_take 82 = .ok (.iinc 4 (-1), 3) := by decide +kernel
theorem dX1_take_85 : decode cX1_take 85 = .ok (.goto (-56), 3) := by decide +kernel
theorem dX1_take_88 : decode cX1_take 88 = .ok (.aload_n 0, 1) := by decide +kernel
theorem dX1_take_89 : decode cX1_take 89 = .ok (.getfield 11, 3) := by decide +kernel
theorem dX1_take_92 : decode cX1_take 92 = .ok (.iload 4, 2) := by decide +kernel
theorem dX1_take_94 : decode cX1_take 94 = .ok (.aload_n 3, 1) := by decide +kernel
theorem dX1_take_95 : decode cX1_take 95 = .ok (.aastore, 1) := by decide +kernel
theorem dX1_take_96 : decode cX1_take 96 = .ok (.aload_n 0, 1) := by decide +kernel
theorem dX1_take_97 : decode cX1_take 97 = .ok (.getfield 17, 3) := by decide +kernel
theorem dX1_take_100 : decode cX1_take 100 = .ok (.iload 4, 2) := by decide +kernel
theorem dX1_take_102 : decode cX1_take 102 = .ok (.iload_n 2, 1) := by decide +kernel
theorem dX1_take_103 : decode cX1_take 103 = .ok (.bastore, 1) := by decide +kernel
theorem dX1_take_104 : decode cX1_take 104 = .ok (.aload_n 0, 1) := by decide +kernel
theorem dX1_take_105 : decode cX1_take 105 = .ok (.dup, 1) := by decide +kernel
theorem dX1_take_106 : decode cX1_take 106 = .ok (.getfield 21, 3) := by decide +kernel
theorem dX1_take_109 : decode cX1_take 109 = .ok (.iconst 1, 1) := by decide +kernel
theorem dX1_take_110 : decode cX1_take 110 = .ok (.iadd, 1) := by decide +kernel
theorem dX1_take_111 : decode cX1_take 111 = .ok (.putfield 21, 3) := by decide +kernel
theorem dX1_take_114 : decode cX1_take 114 = .ok (.aload_n 0, 1) := by decide +kernel
theorem dX1_take_115 : decode cX1_take 115 = .ok (.dup, 1) := by decide +kernel
theorem dX1_take_116 : decode cX1_take 116 = .ok (.getfield 25, 3) := by decide +kernel
theorem dX1_take_119 : decode cX1_take 119 = .ok (.iload_n 2, 1) := by decide +kernel
theorem dX1_take_120 : decode cX1_take 120 = .ok (.ifCond .eq 7, 3) := by decide +kernel
theorem dX1_take_123 : decode cX1_take 123 = .ok (.iconst 1, 1) := by decide +kernel
theorem dX1_take_124 : decode cX1_take 124 = .ok (.goto 4, 3) := by decide +kernel
theorem dX1_take_127 : decode cX1_take 127 = .ok (.iconst 0, 1) := by decide +kernel
theorem dX1_take_128 : decode cX1_take 128 = .ok (.iadd, 1) := by decide +kernel
theorem dX1_take_129 : decode cX1_take 129 = .ok (.putfield 25, 3) := by decide +kernel
theorem dX1_take_132 : decode cX1_take 132 = .ok (.return_, 1) := by decide +kernel
theorem hl_yX1_clear : (yX1_clear.cls ≠ "java/lang/invoke/MethodHandle" ∧ yX1_clear.cls ≠ "java/lang/invoke/VarHandle") ∧ (parseMethodDescriptor yX1_clear.desc).map (fun d => d.parameters.length) = some 0 := by decide +kernel
theorem hl_yX1_areTooMany : (yX1_areTooMany.cls ≠ "java/lang/invoke/MethodHandle" ∧ yX1_areTooMany.cls ≠ "java/lang/invoke/VarHandle") ∧ (parseMethodDescriptor yX1_areTooMany.desc).map (fun d => d.parameters.length) = some 0 := by decide +kernel
theorem hl_yX1_cover : (yX1_cover.cls ≠ "java/lang/invoke/MethodHandle" ∧ yX1_cover.cls ≠ "java/lang/invoke/VarHandle") ∧ (parseMethodDescriptor yX1_cover.desc).map (fun d => d.parameters.length) = some 1 := by decide +kernel
theorem hl_yX1_take : (yX1_take.cls ≠ "java/lang/invoke/MethodHandle" ∧ yX1_take.cls ≠ "java/lang/invoke/VarHandle") ∧ (parseMethodDescriptor yX1_take.desc).map (fun d => d.parameters.length) = some 2 := by decide +kernel
set_option maxRecDepth 20000 in
set_option maxHeartbeats 4000000 in
theorem c_X1_clear {l : Launch} {G : Gt} {n0 : Nat} {mi : Nat → Nat → Int} {mr : Nat → Nat → Nat} {b : Nat} (hb : isBs b) : Cv l yX1_clear cX1_clear 1 1 G n0 [.ref (n0 + b)] mi mr (fun mi9 mr9 => up2 (up2 mi b 2 0) b 3 0 = mi9 ∧ mr = mr9) := by
  refine Ct_of (by decide +kernel) (by intro v hv; simp at hv; rcases hv with rfl <;> rfl) (Nat.le_of_ble_eq_true rfl) ?_
  intro p e s m args below meth c9 X hr hname
  show WW _ _ _ _ _ _ _ _ _ _ _ _ _ _ _ _ _ _ _ [some (.ref (n0 + b))] _
  refine w_aload_n X dX1_clear_0 rfl ?_
  refine w_iconst X dX1_clear_1 ?_
  refine w_put X (isBs_k hb) (σ_bs G n0 _ _ hb) rfl gW_X1 tyX1 tyX1_ok nmX1 2 (by decide) gF_X1_21 rfl rfl rfl (Nat.le_of_ble_eq_true rfl) dX1_clear_2 (WW.eqf (sp_bs_2 hb _) ?_)
  refine w_aload_n X dX1_clear_5 rfl ?_
  refine w_iconst X dX1_clear_6 ?_
  refine w_put X (isBs_k hb) (σ_bs G n0 _ _ hb) rfl gW_X1 tyX1 tyX1_ok nmX1 3 (by decide) gF_X1_25 rfl rfl rfl (Nat.le_of_ble_eq_true rfl) dX1_clear_7 (WW.eqf (sp_bs_3 hb _) ?_)
  refine s_vret X hr dX1_clear_10 ?_
  exact ⟨rfl, rfl⟩
set_option maxRecDepth 20000 in
set_option maxHeartbeats 4000000 in
theorem c_X1_areTooMany {l : Launch} {G : Gt} {n0 : Nat} {mi : Nat → Nat → Int} {mr : Nat → Nat → Nat} {b : Nat} (hb : isBs b) (hr0 : rg (mi b 2)) : Ci l yX1_areTooMany cX1_areTooMany 1 .boolean 1 G n0 [.ref (n0 + b)] mi mr (fun r9 mi9 mr9 => mi = mi9 ∧ mr = mr9 ∧ (r9 = 1 ∧ 100 < mi b 2 ∨ r9 = 0 ∧ mi b 2 ≤ 100)) := by
  refine Ct_of (by decide +kernel) (by intro v hv; simp at hv; rcases hv with rfl <;> rfl) (Nat.le_of_ble_eq_true rfl) ?_
  intro p e s m args below meth c9 X hr hname
  show WW _ _ _ _ _ _ _ _ _ _ _ _ _ _ _ _ _ _ _ [some (.ref (n0 + b))] _
  refine w_aload_n X dX1_areTooMany_0 rfl ?_
  refine w_get X (isBs_k hb) (σ_bs G n0 _ _ hb) rfl gW_X1 2 (by decide) gF_X1_21 rfl dX1_areTooMany_1 ?_
  refine w_bipush X dX1_areTooMany_4 rfl ?_
  refine w_icmp_le X 13 dX1_areTooMany_6 (by decide) (fun c6_1 => ?_) (fun c6_1 => ?_)
  ·
    refine w_iconst X dX1_areTooMany_13 ?_
    refine s_zret X hr dX1_areTooMany_14 (by omega) ?_
    exact ⟨rfl, rfl, by omega⟩
  ·
    refine w_iconst X dX1_areTooMany_9 ?_
    refine w_goto X 14 dX1_areTooMany_10 (by decide) ?_
    refine s_zret X hr dX1_areTooMany_14 (by omega) ?_
    exact ⟨rfl, rfl, by omega⟩
set_option maxRecDepth 20000 in
set_option maxHeartbeats 4000000 in
theorem c_X1_cover {l : Launch} {G : Gt} {n0 : Nat} {mi : Nat → Nat → Int} {mr : Nat → Nat → Nat} {b : Nat} {c : Nat} (hB : BO mi mr b) (hc : isCr c) (hcb : CB mi c) : Ci l yX1_cover cX1_cover 3 .boolean 3 G n0 [.ref (n0 + b), .ref (n0 + c)] mi mr (fun r9 mi9 mr9 => mi = mi9 ∧ mr = mr9 ∧ (r9 = 1 ∧ (∃ i : Nat, (i : Int) < mi b 2 ∧ ge5 (mi (c + 1)) (mi (mr (b + 1) i + 1))) ∨ r9 = 0 ∧ ∀ i : Nat, (i : Int) < mi b 2 → ¬ ge5 (mi (c + 1)) (mi (mr (b + 1) i + 1)))) := by
  refine Ct_of (by decide +kernel) (by intro v hv; simp at hv; rcases hv with rfl | rfl <;> rfl) (Nat.le_of_ble_eq_true rfl) ?_
  intro p e s m args below meth c9 X hr hname
  show WW _ _ _ _ _ _ _ _ _ _ _ _ _ _ _ _ _ _ _ [some (.ref (n0 + b)), some (.ref (n0 + c)), none] _
  have hB2 := hB.2.1
  refine w_iconst X dX1_cover_0 ?_
  refine w_ist3_2 X dX1_cover_1 ?_
  have loop : ∀ (n : Nat) (i : Nat) (x3 : Option Value), ((i : Int) ≤ mi b 2) → (∀ j : Nat, j < i → ¬ ge5 (mi (c + 1)) (mi (mr (b + 1) j + 1))) → n = 101 - i → WSi p l e s m args below meth c9 3 (fun r9 mi9 mr9 => mi = mi9 ∧ mr = mr9 ∧ (r9 = 1 ∧ (∃ i : Nat, (i : Int) < mi b 2 ∧ ge5 (mi (c + 1)) (mi (mr (b + 1) i + 1))) ∨ r9 = 0 ∧ ∀ i : Nat, (i : Int) < mi b 2 → ¬ ge5 (mi (c + 1)) (mi (mr (b + 1) i + 1)))) G n0 3 mi mr 2 [some (.ref (n0 + b)), some (.ref (n0 + c)), some (.int (jI (i : Int)))] [] := by
    intro n
    induction n using Nat.strongRecOn with
    | ind n ih_loop =>
      intro i x3 hi hinv hn
      refine w_iload_n X dX1_cover_2 rfl ?_
      refine w_aload_n X dX1_cover_3 rfl ?_
      refine w_get X (isBs_k hB.1) (σ_bs G n0 _ _ hB.1) rfl gW_X1 2 (by decide) gF_X1_21 rfl dX1_cover_4 ?_
      refine w_icmp_ge X 31 dX1_cover_7 (by decide) (fun c7_1 => ?_) (fun c7_1 => ?_)
      ·
        refine w_iconst X dX1_cover_31 ?_
        refine s_zret X hr dX1_cover_32 (by omega) ?_
        exact ⟨rfl, rfl, Or.inr ⟨rfl, fun j hj => hinv j (by omega)⟩⟩
      ·
        refine w_aload_n X dX1_cover_10 rfl ?_
        refine w_aload_n X dX1_cover_11 rfl ?_
        refine w_get X (isBs_k hB.1) (σ_bs G n0 _ _ hB.1) rfl gW_X1 0 (by decide) gF_X1_11 rfl dX1_cover_12 ?_
        refine w_iload_n X dX1_cover_15 rfl ?_
        refine s_aald X (t := 2) (i) (isBs_k1 hB.1) (σ_r1 G n0 _ _ hB.1) rfl dX1_cover_16 ?_
        refine s_callVi X _ (c_X3_isAtLeast (l := l) (G := G) (n0 := n0) hc (hB.cr (by omega)) hcb (hB.2.2.2.2.1 i (by omega))) gM_X1_29 gI_yX3_isAtLeast gS_yX3_isAtLeast gN_X3 gC_yX3_isAtLeast (isCr_k hc) (σ_cr G n0 _ _ hc) rfl dX1_cover_17 hl_yX3_isAtLeast ⟨Nat.le_of_ble_eq_true rfl, Nat.le_of_ble_eq_true rfl⟩ (Nat.le_of_ble_eq_true rfl) rfl (fun r1 mi1 mr1 h1 => ?_)
        obtain ⟨rfl, rfl, h1⟩ := h1
        refine w_if_eq X 25 dX1_cover_20 (by decide) (fun c20_2 => ?_) (fun c20_2 => ?_)
        ·
          refine w_iinc3_2 X dX1_cover_25 ?_
          refine w_goto X 2 dX1_cover_28 (by decide) ?_
          exact ih_loop _ (by omega) (i + 1) none (by omega) (fun j hj => by rcases (show j < i ∨ j = i by omega) with q | q; exact hinv j q; subst q; rcases h1 with q1 | q1; omega; exact q1.2) rfl
        ·
          refine w_iconst X dX1_cover_23 ?_
          refine s_zret X hr dX1_cover_24 (by omega) ?_
          rcases h1 with q1 | q1
          · exact ⟨rfl, rfl, Or.inl ⟨rfl, i, by omega, q1.2⟩⟩
          · omega
  exact loop _ 0 none (by omega) (fun j hj => absurd hj (by omega)) rfl
def TkP (mi mi9 : Nat → Nat → Int) (mr mr9 : Nat → Nat → Nat) (b c : Nat) (z : Int) (n P : Nat) : Prop := (∀ j : Nat, j < P → mr9 (b + 1) j = mr (b + 1) j ∧ mi9 (b + 2) j = mi (b + 2) j) ∧ mr9 (b + 1) P = mr (b + 1) n ∧ mi9 (b + 2) P = z ∧ (∀ j : Nat, P < j → j ≤ n → mr9 (b + 1) j = mr (b + 1) (j - 1) ∧ mi9 (b + 2) j = mi (b + 2) (j - 1)) ∧ (∀ j : Nat, n < j → mr9 (b + 1) j = mr (b + 1) j) ∧ (∀ j : Nat, P ≤ j → j < n → be5 (mi (c + 1)) (mi (mr (b + 1) j + 1))) ∧ (P = 0 ∨ ¬ be5 (mi (c + 1)) (mi (mr (b + 1) (P - 1) + 1))) ∧ mi9 b 2 = mi b 2 + 1 ∧ mi9 b 3 = mi b 3 + z ∧ (∀ j : Nat, j < 5 → mi9 (mr (b + 1) n + 1) j = mi (c + 1) j) ∧ (∀ a : Nat, a ≠ b → a ≠ b + 2 → a ≠ mr (b + 1) n + 1 → mi9 a = mi a) ∧ ∀ a : Nat, a ≠ b + 1 → mr9 a = mr a
set_option maxRecDepth 20000 in
set_option maxHeartbeats 4000000 in
theorem c_X1_take {l : Launch} {G : Gt} {n0 : Nat} {mi : Nat → Nat → Int} {mr : Nat → Nat → Nat} {b : Nat} {c : Nat} {z : Int} (hz : z = 0 ∨ z = 1) (hB : BO mi mr b) (hc : isCr c) (hcb : CB mi c) (hown : ∀ i : Nat, i < 101 → c ≠ mr (b + 1) i) : Cv l yX1_take cX1_take 5 3 G n0 [.ref (n0 + b), .ref (n0 + c), .int (jI z)] mi mr (fun mi9 mr9 => (100 < mi b 2 ∧ mi = mi9 ∧ mr = mr9) ∨ (mi b 2 ≤ 100 ∧ ∃ n P : Nat, mi b 2 = (n : Int) ∧ P ≤ n ∧ TkP mi mi9 mr mr9 b c z n P)) := by
  refine Ct_of (by decide +kernel) (by intro v hv; simp at hv; rcases hv with rfl | rfl | rfl <;> rfl) (Nat.le_of_ble_eq_true rfl) ?_
  intro p e s m args below meth c9 X hr hname
  show WW _ _ _ _ _ _ _ _ _ _ _ _ _ _ _ _ _ _ _ [some (.ref (n0 + b)), some (.ref (n0 + c)), some (.int (jI z)), none, none] _
  have hB2 := hB.2.1
  refine w_aload_n X dX1_take_0 rfl ?_
  refine s_callVi X _ (c_X1_areTooMany (l := l) (G := G) (n0 := n0) hB.1 (by first | assumption | (refine ⟨?_, ?_⟩ <;> omega))) gM_X1_33 gI_yX1_areTooMany gS_yX1_areTooMany gN_X1 gC_yX1_areTooMany (isBs_k hB.1) (σ_bs G n0 _ _ hB.1) rfl dX1_take_1 hl_yX1_areTooMany ⟨Nat.le_of_ble_eq_true rfl, Nat.le_of_ble_eq_true rfl⟩ (Nat.le_of_ble_eq_true rfl) rfl (fun r1 mi1 mr1 h1 => ?_)
  obtain ⟨rfl, rfl, h1⟩ := h1
  refine w_if_eq X 8 dX1_take_4 (by decide) (fun c4_1 => ?_) (fun c4_1 => ?_)
  ·
    obtain ⟨nn, hn0⟩ := Int.eq_ofNat_of_zero_le hB2.1
    have hn1 : nn ≤ 100 := by omega
    have hrow := hB.2.2.1
    have hinj := hB.2.2.2.1
    have hrc := hB.cr (i := nn) (by omega)
    have hapn := ap_bs hB.1 hrc
    have hap := ap_bs hB.1 hc
    have qb2 : b + 2 ≠ b := by omega
    have qb0 : b ≠ b + 2 := by omega
    have qrb := hapn.1
    have qrb2 := hapn.2.2.1
    have qbr : b ≠ mr (b + 1) nn + 1 := fun q => qrb q.symm
    have hrn : ∀ i : Nat, i < nn → mr (b + 1) i + 1 ≠ b + 2 ∧ mr (b + 1) i + 1 ≠ mr (b + 1) nn + 1 := fun i hi => ⟨(ap_bs hB.1 (hB.cr (i := i) (by omega))).2.2.1, fun q => by have := hinj i nn (by omega) (by omega) (by omega); omega⟩
    have qr2 : b + 2 ≠ mr (b + 1) nn + 1 := fun q => qrb2 q.symm
    refine w_aload_n X dX1_take_8 rfl ?_
    refine w_get X (isBs_k hB.1) (σ_bs G n0 _ _ hB.1) rfl gW_X1 0 (by decide) gF_X1_11 rfl dX1_take_9 ?_
    refine w_aload_n X dX1_take_12 rfl ?_
    refine w_get X (isBs_k hB.1) (σ_bs G n0 _ _ hB.1) rfl gW_X1 2 (by decide) gF_X1_21 rfl dX1_take_13 ?_
    refine s_aald X (t := 2) (nn) (isBs_k1 hB.1) (σ_r1 G n0 _ _ hB.1) rfl dX1_take_16 ?_ (hz := by omega) (hj := by omega)
    refine w_ast5_3 X dX1_take_17 ?_
    refine w_aload_n X dX1_take_18 rfl ?_
    refine w_aload_n X dX1_take_19 rfl ?_
    refine s_callVv X _ (c_X3_copy (l := l) (G := G) (n0 := n0) hrc hc) gM_X1_37 gI_yX3_copy gS_yX3_copy gN_X3 gC_yX3_copy (isCr_k hrc) (σ_cr G n0 _ _ hrc) rfl dX1_take_20 hl_yX3_copy ⟨Nat.le_of_ble_eq_true rfl, Nat.le_of_ble_eq_true rfl⟩ (Nat.le_of_ble_eq_true rfl) rfl (fun mi2 mr2 h2 => ?_)
    obtain ⟨rfl, rfl⟩ := h2
    have hm0 : ∀ a, a ≠ mr (b + 1) nn + 1 → row5 mi (mr (b + 1) nn + 1) (mi (c + 1)) a = mi a := fun a ha => row5_k ha
    have hF0 : ∀ j : Nat, j < 5 → row5 mi (mr (b + 1) nn + 1) (mi (c + 1)) (mr (b + 1) nn + 1) j = mi (c + 1) j := fun j hj => row5_s hj
    generalize row5 mi (mr (b + 1) nn + 1) (mi (c + 1)) = mi0 at hm0 hF0 ⊢
    refine w_aload_n X dX1_take_23 rfl ?_
    refine w_get X (isBs_k hB.1) (σ_bs G n0 _ _ hB.1) rfl gW_X1 2 (by decide) gF_X1_21 rfl dX1_take_24 ?_
    rw [show mi0 b 2 = (nn : Int) by rw [hm0 b qbr]; exact hn0]
    refine w_ist5_4 X dX1_take_27 ?_
    have loop : ∀ (n : Nat) (mi' : Nat → Nat → Int) (mr' : Nat → Nat → Nat) (P : Nat), (P ≤ nn) → (∀ a : Nat, a ≠ b + 2 → a ≠ mr (b + 1) nn + 1 → mi' a = mi a) → (∀ j : Nat, j < 5 → mi' (mr (b + 1) nn + 1) j = mi (c + 1) j) → (∀ a : Nat, a ≠ b + 1 → mr' a = mr a) → (∀ j : Nat, j < P → mr' (b + 1) j = mr (b + 1) j ∧ mi' (b + 2) j = mi (b + 2) j) → (∀ j : Nat, P < j → j ≤ nn → mr' (b + 1) j = mr (b + 1) (j - 1) ∧ mi' (b + 2) j = mi (b + 2) (j - 1)) → (∀ j : Nat, nn < j → mr' (b + 1) j = mr (b + 1) j) → (∀ j : Nat, P ≤ j → j < nn → be5 (mi (c + 1)) (mi (mr (b + 1) j + 1))) → (∀ i : Nat, i < 101 → isCr (mr' (b + 1) i)) → n = P → WSv p l e s m args below meth c9 3 (fun mi9 mr9 => (100 < mi b 2 ∧ mi = mi9 ∧ mr = mr9) ∨ (mi b 2 ≤ 100 ∧ ∃ n P : Nat, mi b 2 = (n : Int) ∧ P ≤ n ∧ TkP mi mi9 mr mr9 b c z n P)) G n0 5 mi' mr' 29 [some (.ref (n0 + b)), some (.ref (n0 + c)), some (.int (jI z)), some (.ref (n0 + mr (b + 1) nn)), some (.int (jI (P : Int)))] [] := by
      intro n
      induction n using Nat.strongRecOn with
      | ind n ih_loop =>
        intro mi' mr' P hP hm hF hmr k1 k2 k3 k4 hro hn
        refine w_iload X dX1_take_29 rfl ?_
        refine w_if_le X 88 dX1_take_31 (by decide) (fun c31_2 => ?_) (fun c31_2 => ?_)
        ·
          have hst : P = 0 ∨ ¬ be5 (mi (c + 1)) (mi (mr (b + 1) (P - 1) + 1)) := Or.inl (by omega)
          refine w_aload_n X dX1_take_88 rfl ?_
          refine w_get X (isBs_k hB.1) (σ_bs G n0 _ _ hB.1) rfl gW_X1 0 (by decide) gF_X1_11 rfl dX1_take_89 ?_
          refine w_iload X dX1_take_92 rfl ?_
          refine w_aload_n X dX1_take_94 rfl ?_
          refine s_aast X (t := 2) (P) (isBs_k1 hB.1) (isCr_k hrc) (fun _ => σ_r1 G n0 _ _ hB.1) rfl (σ_cr G n0 _ _ hrc) rfl dX1_take_95 ?_ (hz := by omega) (hj := by omega)
          refine w_aload_n X dX1_take_96 rfl ?_
          refine w_get X (isBs_k hB.1) (σ_bs G n0 _ _ hB.1) rfl gW_X1 1 (by decide) gF_X1_17 rfl dX1_take_97 ?_
          refine w_iload X dX1_take_100 rfl ?_
          refine w_iload_n X dX1_take_102 rfl ?_
          refine s_zast X (P) (isBs_k2 hB.1) (fun _ => σ_f1 G n0 _ _ hB.1) hz dX1_take_103 ?_ (hz := by omega) (hj := by omega)
          refine w_aload_n X dX1_take_104 rfl ?_
          refine w_dup X dX1_take_105 rfl ?_
          refine w_get X (isBs_k hB.1) (σ_bs G n0 _ _ hB.1) rfl gW_X1 2 (by decide) gF_X1_21 rfl dX1_take_106 ?_
          refine w_iconst X dX1_take_109 ?_
          refine w_iadd X dX1_take_110 ?_
          refine w_put X (isBs_k hB.1) (σ_bs G n0 _ _ hB.1) rfl gW_X1 tyX1 tyX1_ok nmX1 2 (by decide) gF_X1_21 rfl rfl rfl (Nat.le_of_ble_eq_true rfl) dX1_take_111 (WW.eqf (sp_bs_2 hB.1 _) ?_)
          refine w_aload_n X dX1_take_114 rfl ?_
          refine w_dup X dX1_take_115 rfl ?_
          refine w_get X (isBs_k hB.1) (σ_bs G n0 _ _ hB.1) rfl gW_X1 3 (by decide) gF_X1_25 rfl dX1_take_116 ?_
          refine w_iload_n X dX1_take_119 rfl ?_
          refine w_if_eq X 127 dX1_take_120 (by decide) (fun c120_3 => ?_) (fun c120_3 => ?_)
          ·
            have hzz : z = 0 := by omega
            refine w_iconst X dX1_take_127 ?_
            refine w_iadd X dX1_take_128 ?_
            refine w_put X (isBs_k hB.1) (σ_bs G n0 _ _ hB.1) rfl gW_X1 tyX1 tyX1_ok nmX1 3 (by decide) gF_X1_25 rfl rfl rfl (Nat.le_of_ble_eq_true rfl) dX1_take_129 (WW.eqf (sp_bs_3 hB.1 _) ?_)
            refine s_vret X hr dX1_take_132 ?_
            refine Or.inr ⟨by omega, nn, P, hn0, hP, ?_⟩
            unfold TkP
            refine ⟨fun j hj => ⟨?_, ?_⟩, ?_, ?_, fun j hj hj2 => ⟨?_, ?_⟩, fun j hj => ?_, k4, hst, ?_, ?_, fun j hj => ?_, fun a ha ha2 ha3 => ?_, fun a ha => ?_⟩
            · rw [up2_j _ _ _ _ (Nat.ne_of_lt hj)]; exact (k1 j hj).1
            · rw [up2_k _ _ _ _ qb2, up2_k _ _ _ _ qb2, up2_j _ _ _ _ (Nat.ne_of_lt hj)]; exact (k1 j hj).2
            · rw [up2_s]
            · rw [up2_k _ _ _ _ qb2, up2_k _ _ _ _ qb2, up2_s]
            · rw [up2_j _ _ _ _ (Nat.ne_of_gt hj)]; exact (k2 j hj hj2).1
            · rw [up2_k _ _ _ _ qb2, up2_k _ _ _ _ qb2, up2_j _ _ _ _ (Nat.ne_of_gt hj)]; exact (k2 j hj hj2).2
            · rw [up2_j _ _ _ _ (Nat.ne_of_gt (Nat.lt_of_le_of_lt hP hj))]; exact k3 j hj
            · exact (up2_j _ b 3 _ (show (2 : Nat) ≠ 3 by decide)).trans ((up2_s _ b 2 _).trans (by rw [up2_k _ _ _ _ qb0, hm b qb0 qbr]))
            · exact (up2_s _ b 3 _).trans (by rw [up2_j _ b 2 _ (show (3 : Nat) ≠ 2 by decide), up2_k _ _ _ _ qb0, hm b qb0 qbr, hzz])
            · rw [up2_k _ _ _ _ qrb, up2_k _ _ _ _ qrb, up2_k _ _ _ _ qrb2]; exact hF j hj
            · rw [up2_k _ _ _ _ ha, up2_k _ _ _ _ ha, up2_k _ _ _ _ ha2]; exact hm a ha2 ha3
            · rw [up2_k _ _ _ _ ha]; exact hmr a ha
          ·
            have hzz : z = 1 := by omega
            refine w_iconst X dX1_take_123 ?_
            refine w_goto X 128 dX1_take_124 (by decide) ?_
            refine w_iadd X dX1_take_128 ?_
            refine w_put X (isBs_k hB.1) (σ_bs G n0 _ _ hB.1) rfl gW_X1 tyX1 tyX1_ok nmX1 3 (by decide) gF_X1_25 rfl rfl rfl (Nat.le_of_ble_eq_true rfl) dX1_take_129 (WW.eqf (sp_bs_3 hB.1 _) ?_)
            refine s_vret X hr dX1_take_132 ?_
            refine Or.inr ⟨by omega, nn, P, hn0, hP, ?_⟩
            unfold TkP
            refine ⟨fun j hj => ⟨?_, ?_⟩, ?_, ?_, fun j hj hj2 => ⟨?_, ?_⟩, fun j hj => ?_, k4, hst, ?_, ?_, fun j hj => ?_, fun a ha ha2 ha3 => ?_, fun a ha => ?_⟩
            · rw [up2_j _ _ _ _ (Nat.ne_of_lt hj)]; exact (k1 j hj).1
            · rw [up2_k _ _ _ _ qb2, up2_k _ _ _ _ qb2, up2_j _ _ _ _ (Nat.ne_of_lt hj)]; exact (k1 j hj).2
            · rw [up2_s]
            · rw [up2_k _ _ _ _ qb2, up2_k _ _ _ _ qb2, up2_s]
            · rw [up2_j _ _ _ _ (Nat.ne_of_gt hj)]; exact (k2 j hj hj2).1
            · rw [up2_k _ _ _ _ qb2, up2_k _ _ _ _ qb2, up2_j _ _ _ _ (Nat.ne_of_gt hj)]; exact (k2 j hj hj2).2
            · rw [up2_j _ _ _ _ (Nat.ne_of_gt (Nat.lt_of_le_of_lt hP hj))]; exact k3 j hj
            · exact (up2_j _ b 3 _ (show (2 : Nat) ≠ 3 by decide)).trans ((up2_s _ b 2 _).trans (by rw [up2_k _ _ _ _ qb0, hm b qb0 qbr]))
            · exact (up2_s _ b 3 _).trans (by rw [up2_j _ b 2 _ (show (3 : Nat) ≠ 2 by decide), up2_k _ _ _ _ qb0, hm b qb0 qbr, hzz])
            · rw [up2_k _ _ _ _ qrb, up2_k _ _ _ _ qrb, up2_k _ _ _ _ qrb2]; exact hF j hj
            · rw [up2_k _ _ _ _ ha, up2_k _ _ _ _ ha, up2_k _ _ _ _ ha2]; exact hm a ha2 ha3
            · rw [up2_k _ _ _ _ ha]; exact hmr a ha
        ·
          obtain ⟨Q, rfl⟩ : ∃ Q : Nat, P = Q + 1 := ⟨P - 1, by omega⟩
          have hQ : Q < nn := hP
          have hQ1 : Q < Q + 1 := Nat.lt_succ_self Q
          have hQ2 : Q < 101 := by omega
          have hQn : Q < n := by omega
          refine w_aload_n X dX1_take_34 rfl ?_
          refine w_aload_n X dX1_take_35 rfl ?_
          refine w_get X (isBs_k hB.1) (σ_bs G n0 _ _ hB.1) rfl gW_X1 0 (by decide) gF_X1_11 rfl dX1_take_36 ?_
          refine w_iload X dX1_take_39 rfl ?_
          refine w_iconst X dX1_take_41 ?_
          refine w_isub X dX1_take_42 ?_
          refine s_aald X (t := 2) (Q) (isBs_k1 hB.1) (σ_r1 G n0 _ _ hB.1) rfl dX1_take_43 ?_ (hz := by omega) (hj := by omega)
          refine s_callVi X _ (c_X3_comesBefore (l := l) (G := G) (n0 := n0) hrc (hro Q hQ2) (CB_of (fun j hj => by rw [hF j hj]; exact CB_at hcb j hj)) (by rw [(k1 Q hQ1).1]; exact CB_fr (hB.2.2.2.2.1 Q (by omega)) (hm _ (hrn Q hQ).1 (hrn Q hQ).2))) gM_X1_41 gI_yX3_comesBefore gS_yX3_comesBefore gN_X3 gC_yX3_comesBefore (isCr_k hrc) (σ_cr G n0 _ _ hrc) rfl dX1_take_44 hl_yX3_comesBefore ⟨Nat.le_of_ble_eq_true rfl, Nat.le_of_ble_eq_true rfl⟩ (Nat.le_of_ble_eq_true rfl) rfl (fun r3 mi3 mr3 h3 => ?_)
          obtain ⟨rfl, rfl, h3⟩ := h3
          have hvv : be5 (mi' (mr (b + 1) nn + 1)) (mi' (mr' (b + 1) Q + 1)) ↔ be5 (mi (c + 1)) (mi (mr (b + 1) Q + 1)) := by
            rw [(k1 Q hQ1).1, hm (mr (b + 1) Q + 1) (hrn Q hQ).1 (hrn Q hQ).2]
            unfold be5 sum5
            rw [hF 0 (by decide), hF 1 (by decide), hF 2 (by decide), hF 3 (by decide), hF 4 (by decide)]
          refine w_if_eq X 88 dX1_take_47 (by decide) (fun c47_4 => ?_) (fun c47_4 => ?_)
          ·
            have hst : Q + 1 = 0 ∨ ¬ be5 (mi (c + 1)) (mi (mr (b + 1) (Q + 1 - 1) + 1)) := by
              right
              intro q
              rcases h3 with ⟨q1, q2⟩ | ⟨q1, q2⟩
              · omega
              · exact q2 (hvv.mpr q)
            clear h3
            refine w_aload_n X dX1_take_88 rfl ?_
            refine w_get X (isBs_k hB.1) (σ_bs G n0 _ _ hB.1) rfl gW_X1 0 (by decide) gF_X1_11 rfl dX1_take_89 ?_
            refine w_iload X dX1_take_92 rfl ?_
            refine w_aload_n X dX1_take_94 rfl ?_
            refine s_aast X (t := 2) (Q + 1) (isBs_k1 hB.1) (isCr_k hrc) (fun _ => σ_r1 G n0 _ _ hB.1) rfl (σ_cr G n0 _ _ hrc) rfl dX1_take_95 ?_ (hz := by omega) (hj := by omega)
            refine w_aload_n X dX1_take_96 rfl ?_
            refine w_get X (isBs_k hB.1) (σ_bs G n0 _ _ hB.1) rfl gW_X1 1 (by decide) gF_X1_17 rfl dX1_take_97 ?_
            refine w_iload X dX1_take_100 rfl ?_
            refine w_iload_n X dX1_take_102 rfl ?_
            refine s_zast X (Q + 1) (isBs_k2 hB.1) (fun _ => σ_f1 G n0 _ _ hB.1) hz dX1_take_103 ?_ (hz := by omega) (hj := by omega)
            refine w_aload_n X dX1_take_104 rfl ?_
            refine w_dup X dX1_take_105 rfl ?_
            refine w_get X (isBs_k hB.1) (σ_bs G n0 _ _ hB.1) rfl gW_X1 2 (by decide) gF_X1_21 rfl dX1_take_106 ?_
            refine w_iconst X dX1_take_109 ?_
            refine w_iadd X dX1_take_110 ?_
            refine w_put X (isBs_k hB.1) (σ_bs G n0 _ _ hB.1) rfl gW_X1 tyX1 tyX1_ok nmX1 2 (by decide) gF_X1_21 rfl rfl rfl (Nat.le_of_ble_eq_true rfl) dX1_take_111 (WW.eqf (sp_bs_2 hB.1 _) ?_)
            refine w_aload_n X dX1_take_114 rfl ?_
            refine w_dup X dX1_take_115 rfl ?_
            refine w_get X (isBs_k hB.1) (σ_bs G n0 _ _ hB.1) rfl gW_X1 3 (by decide) gF_X1_25 rfl dX1_take_116 ?_
            refine w_iload_n X dX1_take_119 rfl ?_
            refine w_if_eq X 127 dX1_take_120 (by decide) (fun c120_5 => ?_) (fun c120_5 => ?_)
            ·
              have hzz : z = 0 := by omega
              refine w_iconst X dX1_take_127 ?_
              refine w_iadd X dX1_take_128 ?_
              refine w_put X (isBs_k hB.1) (σ_bs G n0 _ _ hB.1) rfl gW_X1 tyX1 tyX1_ok nmX1 3 (by decide) gF_X1_25 rfl rfl rfl (Nat.le_of_ble_eq_true rfl) dX1_take_129 (WW.eqf (sp_bs_3 hB.1 _) ?_)
              refine s_vret X hr dX1_take_132 ?_
              refine Or.inr ⟨by omega, nn, (Q + 1), hn0, hP, ?_⟩
              unfold TkP
              refine ⟨fun j hj => ⟨?_, ?_⟩, ?_, ?_, fun j hj hj2 => ⟨?_, ?_⟩, fun j hj => ?_, k4, hst, ?_, ?_, fun j hj => ?_, fun a ha ha2 ha3 => ?_, fun a ha => ?_⟩
              · rw [up2_j _ _ _ _ (Nat.ne_of_lt hj)]; exact (k1 j hj).1
              · rw [up2_k _ _ _ _ qb2, up2_k _ _ _ _ qb2, up2_j _ _ _ _ (Nat.ne_of_lt hj)]; exact (k1 j hj).2
              · rw [up2_s]
              · rw [up2_k _ _ _ _ qb2, up2_k _ _ _ _ qb2, up2_s]
              · rw [up2_j _ _ _ _ (Nat.ne_of_gt hj)]; exact (k2 j hj hj2).1
              · rw [up2_k _ _ _ _ qb2, up2_k _ _ _ _ qb2, up2_j _ _ _ _ (Nat.ne_of_gt hj)]; exact (k2 j hj hj2).2
              · rw [up2_j _ _ _ _ (Nat.ne_of_gt (Nat.lt_of_le_of_lt hP hj))]; exact k3 j hj
              · exact (up2_j _ b 3 _ (show (2 : Nat) ≠ 3 by decide)).trans ((up2_s _ b 2 _).trans (by rw [up2_k _ _ _ _ qb0, hm b qb0 qbr]))
              · exact (up2_s _ b 3 _).trans (by rw [up2_j _ b 2 _ (show (3 : Nat) ≠ 2 by decide), up2_k _ _ _ _ qb0, hm b qb0 qbr, hzz])
              · rw [up2_k _ _ _ _ qrb, up2_k _ _ _ _ qrb, up2_k _ _ _ _ qrb2]; exact hF j hj
              · rw [up2_k _ _ _ _ ha, up2_k _ _ _ _ ha, up2_k _ _ _ _ ha2]; exact hm a ha2 ha3
              · rw [up2_k _ _ _ _ ha]; exact hmr a ha
            ·
              have hzz : z = 1 := by omega
              refine w_iconst X dX1_take_123 ?_
              refine w_goto X 128 dX1_take_124 (by decide) ?_
              refine w_iadd X dX1_take_128 ?_
              refine w_put X (isBs_k hB.1) (σ_bs G n0 _ _ hB.1) rfl gW_X1 tyX1 tyX1_ok nmX1 3 (by decide) gF_X1_25 rfl rfl rfl (Nat.le_of_ble_eq_true rfl) dX1_take_129 (WW.eqf (sp_bs_3 hB.1 _) ?_)
              refine s_vret X hr dX1_take_132 ?_
              refine Or.inr ⟨by omega, nn, (Q + 1), hn0, hP, ?_⟩
              unfold TkP
              refine ⟨fun j hj => ⟨?_, ?_⟩, ?_, ?_, fun j hj hj2 => ⟨?_, ?_⟩, fun j hj => ?_, k4, hst, ?_, ?_, fun j hj => ?_, fun a ha ha2 ha3 => ?_, fun a ha => ?_⟩
              · rw [up2_j _ _ _ _ (Nat.ne_of_lt hj)]; exact (k1 j hj).1
              · rw [up2_k _ _ _ _ qb2, up2_k _ _ _ _ qb2, up2_j _ _ _ _ (Nat.ne_of_lt hj)]; exact (k1 j hj).2
              · rw [up2_s]
              · rw [up2_k _ _ _ _ qb2, up2_k _ _ _ _ qb2, up2_s]
              · rw [up2_j _ _ _ _ (Nat.ne_of_gt hj)]; exact (k2 j hj hj2).1
              · rw [up2_k _ _ _ _ qb2, up2_k _ _ _ _ qb2, up2_j _ _ _ _ (Nat.ne_of_gt hj)]; exact (k2 j hj hj2).2
              · rw [up2_j _ _ _ _ (Nat.ne_of_gt (Nat.lt_of_le_of_lt hP hj))]; exact k3 j hj
              · exact (up2_j _ b 3 _ (show (2 : Nat) ≠ 3 by decide)).trans ((up2_s _ b 2 _).trans (by rw [up2_k _ _ _ _ qb0, hm b qb0 qbr]))
              · exact (up2_s _ b 3 _).trans (by rw [up2_j _ b 2 _ (show (3 : Nat) ≠ 2 by decide), up2_k _ _ _ _ qb0, hm b qb0 qbr, hzz])
              · rw [up2_k _ _ _ _ qrb, up2_k _ _ _ _ qrb, up2_k _ _ _ _ qrb2]; exact hF j hj
              · rw [up2_k _ _ _ _ ha, up2_k _ _ _ _ ha, up2_k _ _ _ _ ha2]; exact hm a ha2 ha3
              · rw [up2_k _ _ _ _ ha]; exact hmr a ha
          ·
            have hbe : be5 (mi (c + 1)) (mi (mr (b + 1) Q + 1)) := by
              rcases h3 with ⟨q1, q2⟩ | ⟨q1, q2⟩
              · exact hvv.mp q2
              · exact absurd q1 (by assumption)
            clear h3
            have hfz : mi' (b + 2) Q = 0 ∨ mi' (b + 2) Q = 1 := by rw [(k1 Q hQ1).2]; exact hB.2.2.2.2.2.1 Q (by omega)
            refine w_aload_n X dX1_take_50 rfl ?_
            refine w_get X (isBs_k hB.1) (σ_bs G n0 _ _ hB.1) rfl gW_X1 0 (by decide) gF_X1_11 rfl dX1_take_51 ?_
            refine w_iload X dX1_take_54 rfl ?_
            refine w_aload_n X dX1_take_56 rfl ?_
            refine w_get X (isBs_k hB.1) (σ_bs G n0 _ _ hB.1) rfl gW_X1 0 (by decide) gF_X1_11 rfl dX1_take_57 ?_
            refine w_iload X dX1_take_60 rfl ?_
            refine w_iconst X dX1_take_62 ?_
            refine w_isub X dX1_take_63 ?_
            refine s_aald X (t := 2) (Q) (isBs_k1 hB.1) (σ_r1 G n0 _ _ hB.1) rfl dX1_take_64 ?_ (hz := by omega) (hj := by omega)
            refine s_aast X (t := 2) (Q + 1) (isBs_k1 hB.1) (isCr_k (hro Q hQ2)) (fun _ => σ_r1 G n0 _ _ hB.1) rfl (σ_cr G n0 _ _ (hro Q hQ2)) rfl dX1_take_65 ?_ (hz := by omega) (hj := by omega)
            refine w_aload_n X dX1_take_66 rfl ?_
            refine w_get X (isBs_k hB.1) (σ_bs G n0 _ _ hB.1) rfl gW_X1 1 (by decide) gF_X1_17 rfl dX1_take_67 ?_
            refine w_iload X dX1_take_70 rfl ?_
            refine w_aload_n X dX1_take_72 rfl ?_
            refine w_get X (isBs_k hB.1) (σ_bs G n0 _ _ hB.1) rfl gW_X1 1 (by decide) gF_X1_17 rfl dX1_take_73 ?_
            refine w_iload X dX1_take_76 rfl ?_
            refine w_iconst X dX1_take_78 ?_
            refine w_isub X dX1_take_79 ?_
            refine s_zald X (Q) (isBs_k2 hB.1) (fun _ => σ_f1 G n0 _ _ hB.1) dX1_take_80 ?_ (hz := by omega) (hj := by omega)
            refine s_zast X (Q + 1) (isBs_k2 hB.1) (fun _ => σ_f1 G n0 _ _ hB.1) hfz dX1_take_81 ?_ (hz := by omega) (hj := by omega)
            refine w_iinc5_4 X dX1_take_82 ?_
            refine w_goto X 29 dX1_take_85 (by decide) ?_
            rw [show (((Q + 1 : Nat) : Int) + -1) = (Q : Int) by omega]
            exact ih_loop Q hQn _ _ Q (by omega) (fun a ha ha2 => (up2_k _ _ _ _ ha).trans (hm a ha ha2)) (fun j hj => by rw [up2_k _ _ _ _ qrb2]; exact hF j hj) (fun a ha => (up2_k _ _ _ _ ha).trans (hmr a ha))
              (fun j hj => by rw [up2_j _ _ _ _ (by omega), up2_j _ _ _ _ (by omega)]; exact k1 j (by omega))
              (fun j hj hj2 => by
                by_cases q : j = Q + 1
                · subst q; rw [up2_s, up2_s]; exact ⟨(k1 Q hQ1).1, (k1 Q hQ1).2⟩
                · rw [up2_j _ _ _ _ q, up2_j _ _ _ _ q]; exact k2 j (by omega) hj2)
              (fun j hj => by rw [up2_j _ _ _ _ (by omega)]; exact k3 j hj)
              (fun j hj hj2 => by
                by_cases q : j = Q
                · subst q; exact hbe
                · exact k4 j (by omega) hj2)
              (fun j hj => by
                by_cases q : j = Q + 1
                · subst q; rw [up2_s]; exact hro Q hQ2
                · rw [up2_j _ _ _ _ q]; exact hro j hj) rfl
    exact loop _ mi0 mr nn (Nat.le_refl _) (fun a ha ha2 => hm0 a ha2) hF0 (fun a ha => rfl) (fun j hj => ⟨rfl, by rw [hm0 _ qr2]⟩) (fun j hj hj2 => absurd hj (by omega)) (fun j hj => rfl) (fun j hj hj2 => absurd hj (by omega)) (fun i hi => hB.cr hi) rfl
  ·
    refine s_vret X hr dX1_take_7 ?_
    rcases h1 with q | q
    · exact Or.inl ⟨q.2, rfl, rfl⟩
    · omega
