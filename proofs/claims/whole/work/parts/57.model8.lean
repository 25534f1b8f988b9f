theorem NE_fr {m m' : Nat → Nat → Int} {g : Nat → Int} (h18 : m' 473 18 = m 473 18) (h4 : m' 484 = m 484) : NE m' g ↔ NE m g := by unfold NE; rw [h18, h4]
theorem NE_g {m : Nat → Nat → Int} {g g' : Nat → Int} (h : ∀ j : Nat, j < 5 → g j = g' j) : NE m g ↔ NE m g' := by
  constructor
  · rintro ⟨i, hi, q⟩; exact ⟨i, hi, fun j hj => by rw [← h j hj]; exact q j hj⟩
  · rintro ⟨i, hi, q⟩; exact ⟨i, hi, fun j hj => by rw [h j hj]; exact q j hj⟩
theorem dX8_take_0 : decode cX8_take 0 = .ok (.aload_n 0, 1) := by decide +kernel
theorem dX8_take_1 : decode cX8_take 1 = .ok (.getfield 145, 3) := by decide +kernel
theorem dX8_take_4 : decode cX8_take 4 = .ok (.bipush 100, 2) := by decide +kernel
theorem dX8_take_6 : decode cX8_take 6 = .ok (.if_icmp .gt 7, 3) := by decide +kernel
theorem dX8_take_9 : decode cX8_take 9 = .ok (.iconst 1, 1) := by decide +kernel
theorem dX8_take_10 : decode cX8_take 10 = .ok (.goto 4, 3) := by decide +kernel
theorem dX8_take_13 : decode cX8_take 13 = .ok (.iconst 0, 1) := by decide +kernel
theorem dX8_take_14 : decode cX8_take 14 = .ok (.istore_n 1, 1) := by decide +kernel
theorem dX8_take_15 : decode cX8_take 15 = .ok (.iconst 0, 1) := by decide +kernel
theorem dX8_take_16 : decode cX8_take 16 = .ok (.istore_n 2, 1) := by decide +kernel
theorem dX8_take_17 : decode cX8_take 17 = .ok (.iload_n 2, 1) := by decide +kernel
theorem dX8_take_18 : decode cX8_take 18 = .ok (.aload_n 0, 1) := by decide +kernel
theorem dX8_take_19 : decode cX8_take 19 = .ok (.getfield 145, 3) := by decide +kernel
theorem dX8_take_22 : decode cX8_take 22 = .ok (.if_icmp .ge 34, 3) := by decide +kernel
theorem dX8_take_25 : decode cX8_take 25 = .ok (.iload_n 1, 1) := by decide +kernel
theorem dX8_take_26 : decode cX8_take 26 = .ok (.ifCond .eq 30, 3) := by decide +kernel
theorem dX8_take_29 : decode cX8_take 29 = .ok (.aload_n 0, 1) := by decide +kernel
theorem dX8_take_30 : decode cX8_take 30 = .ok (.getfield 50, 3) := by decide +kernel
theorem dX8_take_33 : decode cX8_take 33 = .ok (.aload_n 0, 1) := by decide +kernel
theorem dX8_take_34 : decode cX8_take 34 = .ok (.getfield 47, 3) := by decide +kernel
theorem dX8_take_37 : decode cX8_take 37 = .ok (.iload_n 2, 1) := by decide +kernel
theorem dX8_take_38 : decode cX8_take 38 = .ok (.invokestatic 131, 3) := by decide +kernel
theorem dX8_take_41 : decode cX8_take 41 = .ok (.ifCond .ne 7, 3) := by decide +kernel
theorem dX8_take_44 : decode cX8_take 44 = .ok (.iconst 1, 1) := by decide +kernel
theorem dX8_take_45 : decode cX8_take 45 = .ok (.goto 4, 3) := by decide +kernel
theorem dX8_take_48 : decode cX8_take 48 = .ok (.iconst 0, 1) := by decide +kernel
theorem dX8_take_49 : decode cX8_take 49 = .ok (.istore_n 1, 1) := by decide +kernel
theorem dX8_take_50 : decode cX8_take 50 = .ok (.iinc 2 1, 3) := by decide +kernel
theorem dX8_take_53 : decode cX8_take 53 = .ok (.goto (-36), 3) := by decide +kernel
theorem dX8_take_56 : decode cX8_take 56 = .ok (.iload_n 1, 1) := by decide +kernel
theorem dX8_take_57 : decode cX8_take 57 = .ok (.ifCond .eq 45, 3) := by decide +kernel
theorem dX8_take_60 : decode cX8_take 60 = .ok (.iconst 0, 1) := by decide +kernel
theorem dX8_take_61 : decode cX8_take 61 = .ok (.istore_n 2, 1) := by decide +kernel
theorem dX8_take_62 : decode cX8_take 62 = .ok (.iload_n 2, 1) := by decide +kernel
theorem dX8_take_63 : decode cX8_take 63 = .ok (.iconst 5, 1) := by decide +kernel
theorem dX8_take_64 : decode cX8_take 64 = .ok (.if_icmp .ge 28, 3) := by decide +kernel
theorem dX8_take_67 : decode cX8_take 67 = .ok (.aload_n 0, 1) := by decide +kernel
theorem dX8_take_68 : decode cX8_take 68 = .ok (.getfield 47, 3) := by decide +kernel
theorem dX8_take_71 : decode cX8_take 71 = .ok (.iconst 5, 1) := by decide +kernel
theorem dX8_take_72 : decode cX8_take 72 = .ok (.aload_n 0, 1) := by decide +kernel
theorem dX8_take_73 : decode cX8_take 73 = .ok (.getfield 145, 3) := by decide +kernel
theorem dX8_take_76 : decode cX8_take 76 = .ok (.imul, 1) := by decide +kernel
theorem dX8_take_77 : decode cX8_take 77 = .ok (.iload_n 2, 1) := by decide +kernel
theorem dX8_take_78 : decode cX8_take 78 = .ok (.iadd, 1) := by decide +kernel
theorem dX8_take_79 : decode cX8_take 79 = .ok (.aload_n 0, 1) := by decide +kernel
theorem dX8_take_80 : decode cX8_take 80 = .ok (.getfield 50, 3) := by decide +kernel
theorem dX8_take_83 : decode cX8_take 83 = .ok (.iload_n 2, 1) := by decide +kernel
theorem dX8_take_84 : decode cX8_take 84 = .ok (.iaload, 1) := by decide +kernel
theorem dX8_take_85 : decode cX8_take 85 = .ok (.iastore, 1) := by decide +kernel
theorem dX8_take_86 : decode cX8_take 86 = .ok (.iinc 2 1, 3) := by decide +kernel
theorem dX8_take_89 : decode cX8_take 89 = .ok (.goto (-27), 3) := by decide +kernel
theorem dX8_take_92 : decode cX8_take 92 = .ok (.aload_n 0, 1) := by decide +kernel
theorem dX8_take_93 : decode cX8_take 93 = .ok (.dup, 1) := by decide +kernel
theorem dX8_take_94 : decode cX8_take 94 = .ok (.getfield 145, 3) := by decide +kernel
theorem dX8_take_97 : decode cX8_take 97 = .ok (.iconst 1, 1) := by decide +kernel
theorem dX8_take_98 : decode cX8_take 98 = .ok (.iadd, 1) := by decide +kernel
theorem dX8_take_99 : decode cX8_take 99 = .ok (.putfield 145, 3) := by decide +kernel
theorem dX8_take_102 : decode cX8_take 102 = .ok (.return_, 1) := by decide +kernel
theorem hl_yX8_take : (yX8_take.cls ≠ "java/lang/invoke/MethodHandle" ∧ yX8_take.cls ≠ "java/lang/invoke/VarHandle") ∧ (parseMethodDescriptor yX8_take.desc).map (fun d => d.parameters.length) = some 0 := by decide +kernel
set_option maxRecDepth 20000 in
set_option maxHeartbeats 4000000 in
theorem c_X8_take {l : Launch} {G : Gt} {n0 : Nat} {mi : Nat → Nat → Int} {mr : Nat → Nat → Nat} (hn9 : 0 ≤ mi 473 18 ∧ mi 473 18 ≤ 101) (hone : ∀ j : Nat, j < 5 → rg (mi 485 j)) (hnx : ∀ i : Nat, (i : Int) < mi 473 18 → ∀ j : Nat, j < 5 → rg (mi 484 (5 * i + j))) : Cv l yX8_take cX8_take 3 2 G n0 [.ref (n0 + 473)] mi mr (fun mi9 mr9 => TKP mi mi9 ∧ mr = mr9) := by
  refine Ct_of (by decide +kernel) (by intro v hv; simp at hv; rcases hv with rfl <;> rfl) (Nat.le_of_ble_eq_true rfl) ?_
  intro p e s m args below meth c9 X hr hname
  show WW _ _ _ _ _ _ _ _ _ _ _ _ _ _ _ _ _ _ _ [some (.ref (n0 + 473)), none, none] _
  refine w_aload_n X dX8_take_0 rfl ?_
  refine w_get X (by decide) (σ_473 G n0 _ _) rfl gW_X8 18 (by decide) gF_X8_145 rfl dX8_take_1 ?_
  refine w_bipush X dX8_take_4 rfl ?_
  refine w_icmp_gt X 13 dX8_take_6 (by decide) (fun c6_1 => ?_) (fun c6_1 => ?_)
  ·
    refine w_iconst X dX8_take_13 ?_
    refine w_ist3_1 X dX8_take_14 ?_
    refine w_iconst X dX8_take_15 ?_
    refine w_ist3_2 X dX8_take_16 ?_
    have loop : ∀ (n : Nat) (i : Nat) (w1 : Int), ((i : Int) ≤ mi 473 18) → (flg w1 (mi 473 18 ≤ 100 ∧ AU (fun i => ¬ ∀ j : Nat, j < 5 → mi 484 (5 * i + j) ≤ mi 485 j) i)) → n = 101 - i → WSv p l e s m args below meth c9 2 (fun mi9 mr9 => TKP mi mi9 ∧ mr = mr9) G n0 3 mi mr 17 [some (.ref (n0 + 473)), some (.int (jI w1)), some (.int (jI (i : Int)))] [] := by
      intro n
      induction n using Nat.strongRecOn with
      | ind n ih_loop =>
        intro i w1 hi hf hn
        have hw1 := flg_b hf
        refine w_iload_n X dX8_take_17 rfl ?_
        refine w_aload_n X dX8_take_18 rfl ?_
        refine w_get X (by decide) (σ_473 G n0 _ _) rfl gW_X8 18 (by decide) gF_X8_145 rfl dX8_take_19 ?_
        refine w_icmp_ge X 56 dX8_take_22 (by decide) (fun c22_2 => ?_) (fun c22_2 => ?_)
        ·
          refine w_iload_n X dX8_take_56 rfl ?_
          refine w_if_eq X 102 dX8_take_57 (by decide) (fun c57_3 => ?_) (fun c57_3 => ?_)
          ·
            refine s_vret X hr dX8_take_102 ?_
            refine ⟨Or.inl ⟨?_, rfl⟩, rfl⟩
            by_cases q : 100 < mi 473 18
            · exact Or.inl q
            · right
              refine Classical.byContradiction (fun w => flg_0 hf (by omega) ⟨by omega, fun j hj a => w ⟨j, by omega, a⟩⟩)
          ·
            have hff := flg_1 hf (by omega)
            have hno : ¬ NE mi (mi 485) := fun ⟨j, j1, j2⟩ => hff.2 j (by omega) j2
            refine w_iconst X dX8_take_60 ?_
            refine w_ist3_2 X dX8_take_61 ?_
            have copy : ∀ (n : Nat) (m1 : Nat → Nat → Int) (i : Nat) (x1 : Option Value), (i ≤ 5) → (∀ a, a ≠ 484 → m1 a = mi a) → (∀ j : Nat, m1 484 j = if 5 * (mi 473 18).toNat ≤ j ∧ j < 5 * (mi 473 18).toNat + i then mi 485 (j - 5 * (mi 473 18).toNat) else mi 484 j) → n = 5 - i → WSv p l e s m args below meth c9 2 (fun mi9 mr9 => TKP mi mi9 ∧ mr = mr9) G n0 3 m1 mr 62 [some (.ref (n0 + 473)), x1, some (.int (jI (i : Int)))] [] := by
              intro n
              induction n using Nat.strongRecOn with
              | ind n ih_copy =>
                intro m1 i x1 hi hm hF hn
                refine w_iload_n X dX8_take_62 rfl ?_
                refine w_iconst X dX8_take_63 ?_
                refine w_icmp_ge X 92 dX8_take_64 (by decide) (fun c64_4 => ?_) (fun c64_4 => ?_)
                ·
                  refine w_aload_n X dX8_take_92 rfl ?_
                  refine w_dup X dX8_take_93 rfl ?_
                  refine w_get X (by decide) (σ_473 G n0 _ _) rfl gW_X8 18 (by decide) gF_X8_145 rfl dX8_take_94 ?_
                  rw [show m1 473 18 = mi 473 18 by rw [hm 473 (by decide)]]
                  refine w_iconst X dX8_take_97 ?_
                  refine w_iadd X dX8_take_98 ?_
                  refine w_put X (by decide) (σ_473 G n0 _ _) rfl gW_X8 tyX8 tyX8_ok nmX8 18 (by decide) gF_X8_145 rfl rfl rfl (Nat.le_of_ble_eq_true rfl) dX8_take_99 (WW.eqf (sp_473_18 _) ?_)
                  refine s_vret X hr dX8_take_102 ?_
                  have h5 : i = 5 := by omega
                  subst h5
                  exact ⟨Or.inr ⟨hff.1, hno, fun a h1 h2 => by rw [up2_k _ _ _ _ h1]; exact hm a h2, fun j hj => by rw [up2_j _ _ _ _ hj, hm 473 (by decide)], up2_s _ _ _ _, fun j => by rw [up2_k _ _ _ _ (show (484 : Nat) ≠ 473 by decide)]; exact hF j⟩, rfl⟩
                ·
                  refine w_aload_n X dX8_take_67 rfl ?_
                  refine w_get X (by decide) (σ_473 G n0 _ _) rfl gW_X8 19 (by decide) gF_X8_47 rfl dX8_take_68 ?_
                  refine w_iconst X dX8_take_71 ?_
                  refine w_aload_n X dX8_take_72 rfl ?_
                  refine w_get X (by decide) (σ_473 G n0 _ _) rfl gW_X8 18 (by decide) gF_X8_145 rfl dX8_take_73 ?_
                  rw [show m1 473 18 = mi 473 18 by rw [hm 473 (by decide)]]
                  refine w_imul X dX8_take_76 ?_
                  refine w_iload_n X dX8_take_77 rfl ?_
                  refine w_iadd X dX8_take_78 ?_
                  refine w_aload_n X dX8_take_79 rfl ?_
                  refine w_get X (by decide) (σ_473 G n0 _ _) rfl gW_X8 20 (by decide) gF_X8_50 rfl dX8_take_80 ?_
                  refine w_iload_n X dX8_take_83 rfl ?_
                  refine s_iald X (i) (by decide) (fun _ => σ_m5 G n0 _ _ (by decide)) dX8_take_84 ?_
                  refine s_iast X ((5 * (mi 473 18).toNat + i)) (by decide) (fun _ => σ_m505 G n0 _ _ (by decide)) dX8_take_85 ?_
                  refine w_iinc3_2 X dX8_take_86 ?_
                  refine w_goto X 62 dX8_take_89 (by decide) ?_
                  rw [hm 485 (by decide)]
                  refine ih_copy _ (by omega) _ (i + 1) _ (by omega) (fun a ha => (up2_k _ _ _ _ ha).trans (hm a ha)) (fun j => ?_) rfl
                  by_cases q : j = 5 * (mi 473 18).toNat + i
                  · rw [q, up2_s, if_pos (by omega), show 5 * (mi 473 18).toNat + i - 5 * (mi 473 18).toNat = i by omega]
                  · rw [up2_j _ _ _ _ q, hF j]
                    by_cases q2 : 5 * (mi 473 18).toNat ≤ j ∧ j < 5 * (mi 473 18).toNat + i
                    · rw [if_pos q2, if_pos (by omega)]
                    · rw [if_neg q2, if_neg (by omega)]
            exact copy _ mi 0 _ (by omega) (fun _ _ => rfl) (fun j => by rw [if_neg (by omega)]) rfl
        ·
          refine w_iload_n X dX8_take_25 rfl ?_
          refine w_if_eq X 56 dX8_take_26 (by decide) (fun c26_5 => ?_) (fun c26_5 => ?_)
          ·
            refine w_iload_n X dX8_take_56 rfl ?_
            refine w_if_eq X 102 dX8_take_57 (by decide) (fun _ => ?_) (fun h9 => absurd h9 (by first | exact c26_5 | exact fun q9 => absurd c26_5 q9))
            refine s_vret X hr dX8_take_102 ?_
            refine ⟨Or.inl ⟨?_, rfl⟩, rfl⟩
            by_cases q : 100 < mi 473 18
            · exact Or.inl q
            · right
              refine Classical.byContradiction (fun w => flg_0 hf (by omega) ⟨by omega, fun j hj a => w ⟨j, by omega, a⟩⟩)
          ·
            refine w_aload_n X dX8_take_29 rfl ?_
            refine w_get X (by decide) (σ_473 G n0 _ _) rfl gW_X8 20 (by decide) gF_X8_50 rfl dX8_take_30 ?_
            refine w_aload_n X dX8_take_33 rfl ?_
            refine w_get X (by decide) (σ_473 G n0 _ _) rfl gW_X8 19 (by decide) gF_X8_47 rfl dX8_take_34 ?_
            refine w_iload_n X dX8_take_37 rfl ?_
            refine s_callSi X _ (c_X8_isOver (l := l) (G := G) (n0 := n0) IA_485 IA_484 (by omega) hone (hnx i (by omega))) gM_X8_131 gT_yX8_isOver gN_X8 gC_yX8_isOver dX8_take_38 hl_yX8_isOver ⟨Nat.le_of_ble_eq_true rfl, Nat.le_of_ble_eq_true rfl⟩ (Nat.le_of_ble_eq_true rfl) rfl (fun r1 mi1 mr1 h1 => ?_)
            obtain ⟨rfl, rfl, h1⟩ := h1
            have bo := flg_b h1
            refine w_if_ne X 48 dX8_take_41 (by decide) (fun c41_6 => ?_) (fun c41_6 => ?_)
            ·
              refine w_iconst X dX8_take_48 ?_
              refine w_ist3_1 X dX8_take_49 ?_
              refine w_iinc3_2 X dX8_take_50 ?_
              refine w_goto X 17 dX8_take_53 (by decide) ?_
              have hff := flg_1 hf (by omega)
              exact ih_loop _ (by omega) (i + 1) 0 (by omega) (flg_f (fun w => w.2 i (by omega) (flg_1 h1 (by omega)))) rfl
            ·
              refine w_iconst X dX8_take_44 ?_
              refine w_goto X 49 dX8_take_45 (by decide) ?_
              refine w_ist3_1 X dX8_take_49 ?_
              refine w_iinc3_2 X dX8_take_50 ?_
              refine w_goto X 17 dX8_take_53 (by decide) ?_
              have hff := flg_1 hf (by omega)
              exact ih_loop _ (by omega) (i + 1) 1 (by omega) (flg_t ⟨hff.1, fun j hj => by rcases (show j < i ∨ j = i by omega) with q | q; exact hff.2 j q; subst q; exact flg_0 h1 (by omega)⟩) rfl
    exact loop _ 0 0 (by omega) (flg_f (fun w => by have := w.1; omega)) rfl
  ·
    refine w_iconst X dX8_take_9 ?_
    refine w_goto X 14 dX8_take_10 (by decide) ?_
    refine w_ist3_1 X dX8_take_14 ?_
    refine w_iconst X dX8_take_15 ?_
    refine w_ist3_2 X dX8_take_16 ?_
    have loop : ∀ (n : Nat) (i : Nat) (w1 : Int), ((i : Int) ≤ mi 473 18) → (flg w1 (mi 473 18 ≤ 100 ∧ AU (fun i => ¬ ∀ j : Nat, j < 5 → mi 484 (5 * i + j) ≤ mi 485 j) i)) → n = 101 - i → WSv p l e s m args below meth c9 2 (fun mi9 mr9 => TKP mi mi9 ∧ mr = mr9) G n0 3 mi mr 17 [some (.ref (n0 + 473)), some (.int (jI w1)), some (.int (jI (i : Int)))] [] := by
      intro n
      induction n using Nat.strongRecOn with
      | ind n ih_loop =>
        intro i w1 hi hf hn
        have hw1 := flg_b hf
        refine w_iload_n X dX8_take_17 rfl ?_
        refine w_aload_n X dX8_take_18 rfl ?_
        refine w_get X (by decide) (σ_473 G n0 _ _) rfl gW_X8 18 (by decide) gF_X8_145 rfl dX8_take_19 ?_
        refine w_icmp_ge X 56 dX8_take_22 (by decide) (fun c22_7 => ?_) (fun c22_7 => ?_)
        ·
          refine w_iload_n X dX8_take_56 rfl ?_
          refine w_if_eq X 102 dX8_take_57 (by decide) (fun c57_8 => ?_) (fun c57_8 => ?_)
          ·
            refine s_vret X hr dX8_take_102 ?_
            refine ⟨Or.inl ⟨?_, rfl⟩, rfl⟩
            by_cases q : 100 < mi 473 18
            · exact Or.inl q
            · right
              refine Classical.byContradiction (fun w => flg_0 hf (by omega) ⟨by omega, fun j hj a => w ⟨j, by omega, a⟩⟩)
          ·
            have hff := flg_1 hf (by omega)
            have hno : ¬ NE mi (mi 485) := fun ⟨j, j1, j2⟩ => hff.2 j (by omega) j2
            refine w_iconst X dX8_take_60 ?_
            refine w_ist3_2 X dX8_take_61 ?_
            have copy : ∀ (n : Nat) (m1 : Nat → Nat → Int) (i : Nat) (x1 : Option Value), (i ≤ 5) → (∀ a, a ≠ 484 → m1 a = mi a) → (∀ j : Nat, m1 484 j = if 5 * (mi 473 18).toNat ≤ j ∧ j < 5 * (mi 473 18).toNat + i then mi 485 (j - 5 * (mi 473 18).toNat) else mi 484 j) → n = 5 - i → WSv p l e s m args below meth c9 2 (fun mi9 mr9 => TKP mi mi9 ∧ mr = mr9) G n0 3 m1 mr 62 [some (.ref (n0 + 473)), x1, some (.int (jI (i : Int)))] [] := by
              intro n
              induction n using Nat.strongRecOn with
              | ind n ih_copy =>
                intro m1 i x1 hi hm hF hn
                refine w_iload_n X dX8_take_62 rfl ?_
                refine w_iconst X dX8_take_63 ?_
                refine w_icmp_ge X 92 dX8_take_64 (by decide) (fun c64_9 => ?_) (fun c64_9 => ?_)
                ·
                  refine w_aload_n X dX8_take_92 rfl ?_
                  refine w_dup X dX8_take_93 rfl ?_
                  refine w_get X (by decide) (σ_473 G n0 _ _) rfl gW_X8 18 (by decide) gF_X8_145 rfl dX8_take_94 ?_
                  rw [show m1 473 18 = mi 473 18 by rw [hm 473 (by decide)]]
                  refine w_iconst X dX8_take_97 ?_
                  refine w_iadd X dX8_take_98 ?_
                  refine w_put X (by decide) (σ_473 G n0 _ _) rfl gW_X8 tyX8 tyX8_ok nmX8 18 (by decide) gF_X8_145 rfl rfl rfl (Nat.le_of_ble_eq_true rfl) dX8_take_99 (WW.eqf (sp_473_18 _) ?_)
                  refine s_vret X hr dX8_take_102 ?_
                  have h5 : i = 5 := by omega
                  subst h5
                  exact ⟨Or.inr ⟨hff.1, hno, fun a h1 h2 => by rw [up2_k _ _ _ _ h1]; exact hm a h2, fun j hj => by rw [up2_j _ _ _ _ hj, hm 473 (by decide)], up2_s _ _ _ _, fun j => by rw [up2_k _ _ _ _ (show (484 : Nat) ≠ 473 by decide)]; exact hF j⟩, rfl⟩
                ·
                  refine w_aload_n X dX8_take_67 rfl ?_
                  refine w_get X (by decide) (σ_473 G n0 _ _) rfl gW_X8 19 (by decide) gF_X8_47 rfl dX8_take_68 ?_
                  refine w_iconst X dX8_take_71 ?_
                  refine w_aload_n X dX8_take_72 rfl ?_
                  refine w_get X (by decide) (σ_473 G n0 _ _) rfl gW_X8 18 (by decide) gF_X8_145 rfl dX8_take_73 ?_
                  rw [show m1 473 18 = mi 473 18 by rw [hm 473 (by decide)]]
                  refine w_imul X dX8_take_76 ?_
                  refine w_iload_n X dX8_take_77 rfl ?_
                  refine w_iadd X dX8_take_78 ?_
                  refine w_aload_n X dX8_take_79 rfl ?_
                  refine w_get X (by decide) (σ_473 G n0 _ _) rfl gW_X8 20 (by decide) gF_X8_50 rfl dX8_take_80 ?_
                  refine w_iload_n X dX8_take_83 rfl ?_
                  refine s_iald X (i) (by decide) (fun _ => σ_m5 G n0 _ _ (by decide)) dX8_take_84 ?_
                  refine s_iast X ((5 * (mi 473 18).toNat + i)) (by decide) (fun _ => σ_m505 G n0 _ _ (by decide)) dX8_take_85 ?_
                  refine w_iinc3_2 X dX8_take_86 ?_
                  refine w_goto X 62 dX8_take_89 (by decide) ?_
                  rw [hm 485 (by decide)]
                  refine ih_copy _ (by omega) _ (i + 1) _ (by omega) (fun a ha => (up2_k _ _ _ _ ha).trans (hm a ha)) (fun j => ?_) rfl
                  by_cases q : j = 5 * (mi 473 18).toNat + i
                  · rw [q, up2_s, if_pos (by omega), show 5 * (mi 473 18).toNat + i - 5 * (mi 473 18).toNat = i by omega]
                  · rw [up2_j _ _ _ _ q, hF j]
                    by_cases q2 : 5 * (mi 473 18).toNat ≤ j ∧ j < 5 * (mi 473 18).toNat + i
                    · rw [if_pos q2, if_pos (by omega)]
                    · rw [if_neg q2, if_neg (by omega)]
            exact copy _ mi 0 _ (by omega) (fun _ _ => rfl) (fun j => by rw [if_neg (by omega)]) rfl
        ·
          refine w_iload_n X dX8_take_25 rfl ?_
          refine w_if_eq X 56 dX8_take_26 (by decide) (fun c26_10 => ?_) (fun c26_10 => ?_)
          ·
            refine w_iload_n X dX8_take_56 rfl ?_
            refine w_if_eq X 102 dX8_take_57 (by decide) (fun _ => ?_) (fun h9 => absurd h9 (by first | exact c26_10 | exact fun q9 => absurd c26_10 q9))
            refine s_vret X hr dX8_take_102 ?_
            refine ⟨Or.inl ⟨?_, rfl⟩, rfl⟩
            by_cases q : 100 < mi 473 18
            · exact Or.inl q
            · right
              refine Classical.byContradiction (fun w => flg_0 hf (by omega) ⟨by omega, fun j hj a => w ⟨j, by omega, a⟩⟩)
          ·
            refine w_aload_n X dX8_take_29 rfl ?_
            refine w_get X (by decide) (σ_473 G n0 _ _) rfl gW_X8 20 (by decide) gF_X8_50 rfl dX8_take_30 ?_
            refine w_aload_n X dX8_take_33 rfl ?_
            refine w_get X (by decide) (σ_473 G n0 _ _) rfl gW_X8 19 (by decide) gF_X8_47 rfl dX8_take_34 ?_
            refine w_iload_n X dX8_take_37 rfl ?_
            refine s_callSi X _ (c_X8_isOver (l := l) (G := G) (n0 := n0) IA_485 IA_484 (by omega) hone (hnx i (by omega))) gM_X8_131 gT_yX8_isOver gN_X8 gC_yX8_isOver dX8_take_38 hl_yX8_isOver ⟨Nat.le_of_ble_eq_true rfl, Nat.le_of_ble_eq_true rfl⟩ (Nat.le_of_ble_eq_true rfl) rfl (fun r1 mi1 mr1 h1 => ?_)
            obtain ⟨rfl, rfl, h1⟩ := h1
            have bo := flg_b h1
            refine w_if_ne X 48 dX8_take_41 (by decide) (fun c41_11 => ?_) (fun c41_11 => ?_)
            ·
              refine w_iconst X dX8_take_48 ?_
              refine w_ist3_1 X dX8_take_49 ?_
              refine w_iinc3_2 X dX8_take_50 ?_
              refine w_goto X 17 dX8_take_53 (by decide) ?_
              have hff := flg_1 hf (by omega)
              exact ih_loop _ (by omega) (i + 1) 0 (by omega) (flg_f (fun w => w.2 i (by omega) (flg_1 h1 (by omega)))) rfl
            ·
              refine w_iconst X dX8_take_44 ?_
              refine w_goto X 49 dX8_take_45 (by decide) ?_
              refine w_ist3_1 X dX8_take_49 ?_
              refine w_iinc3_2 X dX8_take_50 ?_
              refine w_goto X 17 dX8_take_53 (by decide) ?_
              have hff := flg_1 hf (by omega)
              exact ih_loop _ (by omega) (i + 1) 1 (by omega) (flg_t ⟨hff.1, fun j hj => by rcases (show j < i ∨ j = i by omega) with q | q; exact hff.2 j q; subst q; exact flg_0 h1 (by omega)⟩) rfl
    exact loop _ 0 1 (by omega) (flg_t ⟨by omega, fun j hj => absurd hj (by omega)⟩) rfl
theorem dX8_plain_0 : decode cX8_plain 0 = .ok (.iconst 0, 1) := by decide +kernel
theorem dX8_plain_1 : decode cX8_plain 1 = .ok (.istore 4, 2) := by decide +kernel
theorem dX8_plain_3 : decode cX8_plain 3 = .ok (.iload 4, 2) := by decide +kernel
theorem dX8_plain_5 : decode cX8_plain 5 = .ok (.iconst 5, 1) := by decide +kernel
theorem dX8_plain_6 : decode cX8_plain 6 = .ok (.if_icmp .ge 24, 3) := by decide +kernel
theorem dX8_plain_9 : decode cX8_plain 9 = .ok (.aload_n 0, 1) := by decide +kernel
theorem dX8_plain_10 : decode cX8_plain 10 = .ok (.getfield 50, 3) := by decide +kernel
theorem dX8_plain_13 : decode cX8_plain 13 = .ok (.iload 4, 2) := by decide +kernel
theorem dX8_plain_15 : decode cX8_plain 15 = .ok (.aload_n 0, 1) := by decide +kernel
theorem dX8_plain_16 : decode cX8_plain 16 = .ok (.iload_n 1, 1) := by decide +kernel
theorem dX8_plain_17 : decode cX8_plain 17 = .ok (.iload_n 2, 1) := by decide +kernel
theorem dX8_plain_18 : decode cX8_plain 18 = .ok (.iload 4, 2) := by decide +kernel
theorem dX8_plain_20 : decode cX8_plain 20 = .ok (.invokevirtual 148, 3) := by decide +kernel
theorem dX8_plain_23 : decode cX8_plain 23 = .ok (.iastore, 1) := by decide +kernel
theorem dX8_plain_24 : decode cX8_plain 24 = .ok (.iinc 4 1, 3) := by decide +kernel
theorem dX8_plain_27 : decode cX8_plain 27 = .ok (.goto (-24), 3) := by decide +kernel
theorem dX8_plain_30 : decode cX8_plain 30 = .ok (.aload_n 0, 1) := by decide +kernel
theorem dX8_plain_31 : decode cX8_plain 31 = .ok (.getfield 35, 3) := by decide +kernel
theorem dX8_plain_34 : decode cX8_plain 34 = .ok (.iload_n 2, 1) := by decide +kernel
theorem dX8_plain_35 : decode cX8_plain 35 = .ok (.iaload, 1) := by decide +kernel
theorem dX8_plain_36 : decode cX8_plain 36 = .ok (.bipush (-9), 2) := by decide +kernel
theorem dX8_plain_38 : decode cX8_plain 38 = .ok (.if_icmp .eq 29, 3) := by decide +kernel
theorem dX8_plain_41 : decode cX8_plain 41 = .ok (.aload_n 0, 1) := by decide +kernel
theorem dX8_plain_42 : decode cX8_plain 42 = .ok (.getfield 50, 3) := by decide +kernel
theorem dX8_plain_45 : decode cX8_plain 45 = .ok (.aload_n 0, 1) := by decide +kernel
theorem dX8_plain_46 : decode cX8_plain 46 = .ok (.getfield 35, 3) := by decide +kernel
theorem dX8_plain_49 : decode cX8_plain 49 = .ok (.iload_n 2, 1) := by decide +kernel
theorem dX8_plain_50 : decode cX8_plain 50 = .ok (.iaload, 1) := by decide +kernel
theorem dX8_plain_51 : decode cX8_plain 51 = .ok (.iaload, 1) := by decide +kernel
theorem dX8_plain_52 : decode cX8_plain 52 = .ok (.ifCond .ne 15, 3) := by decide +kernel
theorem dX8_plain_55 : decode cX8_plain 55 = .ok (.aload_n 0, 1) := by decide +kernel
theorem dX8_plain_56 : decode cX8_plain 56 = .ok (.getfield 50, 3) := by decide +kernel
theorem dX8_plain_59 : decode cX8_plain 59 = .ok (.aload_n 0, 1) := by decide +kernel
theorem dX8_plain_60 : decode cX8_plain 60 = .ok (.getfield 35, 3) := by decide +kernel
theorem dX8_plain_63 : decode cX8_plain 63 = .ok (.iload_n 2, 1) := by decide +kernel
theorem dX8_plain_64 : decode cX8_plain 64 = .ok (.iaload, 1) := by decide +kernel
theorem dX8_plain_65 : decode cX8_plain 65 = .ok (.iconst 1, 1) := by decide +kernel
theorem dX8_plain_66 : decode cX8_plain 66 = .ok (.iastore, 1) := by decide +kernel
theorem dX8_plain_67 : decode cX8_plain 67 = .ok (.aload_n 0, 1) := by decide +kernel
theorem dX8_plain_68 : decode cX8_plain 68 = .ok (.getfield 50, 3) := by decide +kernel
theorem dX8_plain_71 : decode cX8_plain 71 = .ok (.aload_n 0, 1) := by decide +kernel
theorem dX8_plain_72 : decode cX8_plain 72 = .ok (.getfield 20, 3) := by decide +kernel
theorem dX8_plain_75 : decode cX8_plain 75 = .ok (.iload_n 2, 1) := by decide +kernel
theorem dX8_plain_76 : decode cX8_plain 76 = .ok (.iaload, 1) := by decide +kernel
theorem dX8_plain_77 : decode cX8_plain 77 = .ok (.dup2, 1) := by decide +kernel
theorem dX8_plain_78 : decode cX8_plain 78 = .ok (.iaload, 1) := by decide +kernel
theorem dX8_plain_79 : decode cX8_plain 79 = .ok (.iconst 1, 1) := by decide +kernel
theorem dX8_plain_80 : decode cX8_plain 80 = .ok (.iadd, 1) := by decide +kernel
theorem dX8_plain_81 : decode cX8_plain 81 = .ok (.iastore, 1) := by decide +kernel
theorem dX8_plain_82 : decode cX8_plain 82 = .ok (.aload_n 0, 1) := by decide +kernel
theorem dX8_plain_83 : decode cX8_plain 83 = .ok (.getfield 16, 3) := by decide +kernel
theorem dX8_plain_86 : decode cX8_plain 86 = .ok (.iload_n 2, 1) := by decide +kernel
theorem dX8_plain_87 : decode cX8_plain 87 = .ok (.iaload, 1) := by decide +kernel
theorem dX8_plain_88 : decode cX8_plain 88 = .ok (.iconst 1, 1) := by decide +kernel
theorem dX8_plain_89 : decode cX8_plain 89 = .ok (.if_icmp .ne 18, 3) := by decide +kernel
theorem dX8_plain_92 : decode cX8_plain 92 = .ok (.aload_n 0, 1) := by decide +kernel
theorem dX8_plain_93 : decode cX8_plain 93 = .ok (.getfield 50, 3) := by decide +kernel
theorem dX8_plain_96 : decode cX8_plain 96 = .ok (.aload_n 0, 1) := by decide +kernel
theorem dX8_plain_97 : decode cX8_plain 97 = .ok (.getfield 26, 3) := by decide +kernel
theorem dX8_plain_100 : decode cX8_plain 100 = .ok (.iload_n 2, 1) := by decide +kernel
theorem dX8_plain_101 : decode cX8_plain 101 = .ok (.iaload, 1) := by decide +kernel
theorem dX8_plain_102 : decode cX8_plain 102 = .ok (.dup2, 1) := by decide +kernel
theorem dX8_plain_103 : decode cX8_plain 103 = .ok (.iaload, 1) := by decide +kernel
theorem dX8_plain_104 : decode cX8_plain 104 = .ok (.iconst 1, 1) := by decide +kernel
theorem dX8_plain_105 : decode cX8_plain 105 = .ok (.iadd, 1) := by decide +kernel
theorem dX8_plain_106 : decode cX8_plain 106 = .ok (.iastore, 1) := by decide +kernel
theorem dX8_plain_107 : decode cX8_plain 107 = .ok (.aload_n 0, 1) := by decide +kernel
theorem dX8_plain_108 : decode cX8_plain 108 = .ok (.getfield 50, 3) := by decide +kernel
theorem dX8_plain_111 : decode cX8_plain 111 = .ok (.iconst 0, 1) := by decide +kernel
theorem dX8_plain_112 : decode cX8_plain 112 = .ok (.invokestatic 116, 3) := by decide +kernel
theorem dX8_plain_115 : decode cX8_plain 115 = .ok (.iload_n 3, 1) := by decide +kernel
theorem dX8_plain_116 : decode cX8_plain 116 = .ok (.if_icmp .ne 7, 3) := by decide +kernel
theorem dX8_plain_119 : decode cX8_plain 119 = .ok (.aload_n 0, 1) := by decide +kernel
theorem dX8_plain_120 : decode cX8_plain 120 = .ok (.invokevirtual 152, 3) := by decide +kernel
theorem dX8_plain_123 : decode cX8_plain 123 = .ok (.return_, 1) := by decide +kernel
theorem hl_yX8_plain : (yX8_plain.cls ≠ "java/lang/invoke/MethodHandle" ∧ yX8_plain.cls ≠ "java/lang/invoke/VarHandle") ∧ (parseMethodDescriptor yX8_plain.desc).map (fun d => d.parameters.length) = some 3 := by decide +kernel
set_option maxRecDepth 20000 in
set_option maxHeartbeats 4000000 in
theorem c_X8_plain {l : Launch} {G : Gt} {n0 : Nat} {mi : Nat → Nat → Int} {mr : Nat → Nat → Nat} {L : Lws} (hA : AB L) (hM : ML L mi) {k : Nat} (hk : (k : Int) < L.2.1) (hp2 : L.2.2.2.1 k 1 ≠ 2) {b : Nat} (hb : RB mi b) (hn9 : 0 ≤ mi 473 18 ∧ mi 473 18 ≤ 101) (hnx9 : ∀ i : Nat, (i : Int) < mi 473 18 → ∀ j : Nat, j < 5 → rg (mi 484 (5 * i + j))) {t : Int} (ht : rg t) : Cv l yX8_plain cX8_plain 5 3 G n0 [.ref (n0 + 473), .int (jI (b : Int)), .int (jI (k : Int)), .int (jI t)] mi mr (fun mi9 mr9 => (∃ m1 : Nat → Nat → Int, (∀ a, a ≠ 485 → m1 a = mi a) ∧ (∀ j : Nat, j < 5 → m1 485 j = Plc (L.2.2.2.1 k) (Ub mi b) j) ∧ (sum5 (Plc (L.2.2.2.1 k) (Ub mi b)) ≠ t ∧ m1 = mi9 ∨ sum5 (Plc (L.2.2.2.1 k) (Ub mi b)) = t ∧ TKP m1 mi9)) ∧ mr = mr9) := by
  refine Ct_of (by decide +kernel) (by intro v hv; simp at hv; rcases hv with rfl | rfl | rfl | rfl <;> rfl) (Nat.le_of_ble_eq_true rfl) ?_
  intro p e s m args below meth c9 X hr hname
  show WW _ _ _ _ _ _ _ _ _ _ _ _ _ _ _ _ _ _ _ [some (.ref (n0 + 473)), some (.int (jI (b : Int))), some (.int (jI (k : Int))), some (.int (jI t)), none] _
  have hrc := hA.2.1
  have hsc := hA.1.1
  have hM1 := hM.1
  obtain ⟨r1, r2, r3, r4, r6, r7, rs, rg9⟩ := id (hA.1.2.1 k hk)
  obtain ⟨e1, e2, e3, e4, e5, e6, e7⟩ := ML_rule hM hk
  have pc3 : ∀ (m5 : Nat → Nat → Int), (∀ a, a ≠ 485 → m5 a = mi a) → (∀ j : Nat, j < 5 → m5 485 j = Plc (L.2.2.2.1 k) (Ub mi b) j) → ∀ (x4 : Option Value), WSv p l e s m args below meth c9 3 (fun mi9 mr9 => (∃ m1 : Nat → Nat → Int, (∀ a, a ≠ 485 → m1 a = mi a) ∧ (∀ j : Nat, j < 5 → m1 485 j = Plc (L.2.2.2.1 k) (Ub mi b) j) ∧ (sum5 (Plc (L.2.2.2.1 k) (Ub mi b)) ≠ t ∧ m1 = mi9 ∨ sum5 (Plc (L.2.2.2.1 k) (Ub mi b)) = t ∧ TKP m1 mi9)) ∧ mr = mr9) G n0 5 m5 mr 107 [some (.ref (n0 + 473)), some (.int (jI (b : Int))), some (.int (jI (k : Int))), some (.int (jI t)), x4] [] := by
    intro m5 hm hF x4
    refine w_aload_n X dX8_plain_107 rfl ?_
    refine w_get X (by decide) (σ_473 G n0 _ _) rfl gW_X8 20 (by decide) gF_X8_50 rfl dX8_plain_108 ?_
    refine w_iconst X dX8_plain_111 ?_
    refine s_callSi X _ (c_X8_sum (b := 0) (l := l) (G := G) (n0 := n0) IA_485 (by decide) (by decide)) gM_X8_116 gT_yX8_sum gN_X8 gC_yX8_sum dX8_plain_112 hl_yX8_sum ⟨Nat.le_of_ble_eq_true rfl, Nat.le_of_ble_eq_true rfl⟩ (Nat.le_of_ble_eq_true rfl) rfl (fun r1 mi1 mr1 h1 => ?_)
    obtain ⟨rfl, rfl, h1⟩ := h1
    have hs9 : r1 = sum5 (Plc (L.2.2.2.1 k) (Ub mi b)) := by rw [h1]; show m5 485 0 + m5 485 1 + m5 485 2 + m5 485 3 + m5 485 4 = _; rw [hF 0 (by decide), hF 1 (by decide), hF 2 (by decide), hF 3 (by decide), hF 4 (by decide)]; rfl
    have hpb : ∀ j : Nat, j < 5 → 0 ≤ Plc (L.2.2.2.1 k) (Ub mi b) j ∧ Plc (L.2.2.2.1 k) (Ub mi b) j ≤ 1003 := fun j hj => by
      have a := Ub_lk hb (ρ := (L.2.2.2.1 k)) hj
      have c := lv_b (L.2.2.2.1 k) j
      unfold Plc
      split <;> omega
    have hsb : 0 ≤ sum5 (Plc (L.2.2.2.1 k) (Ub mi b)) ∧ sum5 (Plc (L.2.2.2.1 k) (Ub mi b)) ≤ 5015 := by have q0 := hpb 0 (by decide); have q1 := hpb 1 (by decide); have q2 := hpb 2 (by decide); have q3 := hpb 3 (by decide); have q4 := hpb 4 (by decide); unfold sum5; omega
    refine w_iload_n X dX8_plain_115 rfl ?_
    refine w_icmp_ne X 123 dX8_plain_116 (by decide) (fun c116_1 => ?_) (fun c116_1 => ?_)
    ·
      refine s_vret X hr dX8_plain_123 ?_
      exact ⟨⟨m5, hm, hF, Or.inl ⟨by omega, rfl⟩⟩, rfl⟩
    ·
      have hn18 : 0 ≤ m5 473 18 ∧ m5 473 18 ≤ 101 := by rw [hm 473 (by decide)]; exact hn9
      have hone : ∀ j : Nat, j < 5 → rg (m5 485 j) := fun j hj => by rw [hF j hj]; have := hpb j hj; exact ⟨by omega, by omega⟩
      have hnx : ∀ i : Nat, (i : Int) < m5 473 18 → ∀ j : Nat, j < 5 → rg (m5 484 (5 * i + j)) := fun i hi j hj => by rw [hm 473 (by decide)] at hi; rw [hm 484 (by decide)]; exact hnx9 i hi j hj
      refine w_aload_n X dX8_plain_119 rfl ?_
      refine s_callVv X _ (c_X8_take (l := l) (G := G) (n0 := n0) hn18 hone hnx) gM_X8_152 gI_yX8_take gS_yX8_take gN_X8 gC_yX8_take (by decide) (σ_473 G n0 _ _) rfl dX8_plain_120 hl_yX8_take ⟨Nat.le_of_ble_eq_true rfl, Nat.le_of_ble_eq_true rfl⟩ (Nat.le_of_ble_eq_true rfl) rfl (fun mi2 mr2 h2 => ?_)
      obtain ⟨htk, rfl⟩ := h2
      refine s_vret X hr dX8_plain_123 ?_
      exact ⟨⟨m5, hm, hF, Or.inr ⟨by omega, htk⟩⟩, rfl⟩
  have pc2 : ∀ (m5 : Nat → Nat → Int), (∀ a, a ≠ 485 → m5 a = mi a) → (∀ j : Nat, j < 5 → m5 485 j = (if (j : Int) = (L.2.2.2.1 k) 7 ∧ lk0 (L.2.2.2.1 k) (Ub mi b) j = 0 then 1 else lk0 (L.2.2.2.1 k) (Ub mi b) j)) → ∀ (x4 : Option Value), WSv p l e s m args below meth c9 3 (fun mi9 mr9 => (∃ m1 : Nat → Nat → Int, (∀ a, a ≠ 485 → m1 a = mi a) ∧ (∀ j : Nat, j < 5 → m1 485 j = Plc (L.2.2.2.1 k) (Ub mi b) j) ∧ (sum5 (Plc (L.2.2.2.1 k) (Ub mi b)) ≠ t ∧ m1 = mi9 ∨ sum5 (Plc (L.2.2.2.1 k) (Ub mi b)) = t ∧ TKP m1 mi9)) ∧ mr = mr9) G n0 5 m5 mr 67 [some (.ref (n0 + 473)), some (.int (jI (b : Int))), some (.int (jI (k : Int))), some (.int (jI t)), x4] [] := by
    intro m5 hm hF x4
    refine w_aload_n X dX8_plain_67 rfl ?_
    refine w_get X (by decide) (σ_473 G n0 _ _) rfl gW_X8 20 (by decide) gF_X8_50 rfl dX8_plain_68 ?_
    refine w_aload_n X dX8_plain_71 rfl ?_
    refine w_get X (by decide) (σ_473 G n0 _ _) rfl gW_X8 5 (by decide) gF_X8_20 rfl dX8_plain_72 ?_
    refine w_iload_n X dX8_plain_75 rfl ?_
    refine s_iald X (k) (by decide) (fun _ => σ_m12 G n0 _ _ (by decide)) dX8_plain_76 ?_
    rw [show m5 475 k = L.2.2.2.1 k 2 from by rw [hm 475 (by decide), e2]]
    refine w_dup2 X dX8_plain_77 rfl rfl ?_
    refine s_iald X _ (by decide) (fun _ => σ_m5 G n0 _ _ (by decide)) dX8_plain_78 ?_ (hj := rfl)
    refine w_iconst X dX8_plain_79 ?_
    refine w_iadd X dX8_plain_80 ?_
    refine s_iast X _ (by decide) (fun _ => σ_m5 G n0 _ _ (by decide)) dX8_plain_81 ?_ (hj := rfl)
    have hm6 : ∀ a, a ≠ 485 → up2 m5 485 (L.2.2.2.1 k 2).toNat (m5 485 (L.2.2.2.1 k 2).toNat + 1) a = mi a := fun a ha => (up2_k _ _ _ _ ha).trans (hm a ha)
    have hF6 : ∀ j : Nat, j < 5 → up2 m5 485 (L.2.2.2.1 k 2).toNat (m5 485 (L.2.2.2.1 k 2).toNat + 1) 485 j = (if (j : Int) = (L.2.2.2.1 k) 7 ∧ lk0 (L.2.2.2.1 k) (Ub mi b) j = 0 then 1 else lk0 (L.2.2.2.1 k) (Ub mi b) j) + (if (L.2.2.2.1 k) 2 = (j : Int) then 1 else 0) := fun j hj => by rw [up2_add (by omega), hF j hj]
    generalize up2 m5 485 (L.2.2.2.1 k 2).toNat (m5 485 (L.2.2.2.1 k 2).toNat + 1) = m6 at *
    refine w_aload_n X dX8_plain_82 rfl ?_
    refine w_get X (by decide) (σ_473 G n0 _ _) rfl gW_X8 4 (by decide) gF_X8_16 rfl dX8_plain_83 ?_
    refine w_iload_n X dX8_plain_86 rfl ?_
    refine s_iald X (k) (by decide) (fun _ => σ_m12 G n0 _ _ (by decide)) dX8_plain_87 ?_
    rw [show m6 474 k = L.2.2.2.1 k 1 from by rw [hm6 474 (by decide), e1]]
    refine w_iconst X dX8_plain_88 ?_
    refine w_icmp_ne X 107 dX8_plain_89 (by decide) (fun c89_2 => ?_) (fun c89_2 => ?_)
    ·
      exact pc3 _ hm6 (fun j hj => by
        rw [hF6 j hj]
        unfold Plc lv
        have q1 : (if (j : Int) = (L.2.2.2.1 k) 2 then (1 : Int) else 0) = (if (L.2.2.2.1 k) 2 = (j : Int) then 1 else 0) := by split <;> split <;> omega
        rw [q1, if_neg (show ¬ (j : Int) = (L.2.2.2.1 k) 4 by omega), Int.add_zero]) _
    ·
      refine w_aload_n X dX8_plain_92 rfl ?_
      refine w_get X (by decide) (σ_473 G n0 _ _) rfl gW_X8 20 (by decide) gF_X8_50 rfl dX8_plain_93 ?_
      refine w_aload_n X dX8_plain_96 rfl ?_
      refine w_get X (by decide) (σ_473 G n0 _ _) rfl gW_X8 7 (by decide) gF_X8_26 rfl dX8_plain_97 ?_
      refine w_iload_n X dX8_plain_100 rfl ?_
      refine s_iald X (k) (by decide) (fun _ => σ_m12 G n0 _ _ (by decide)) dX8_plain_101 ?_
      rw [show m6 477 k = L.2.2.2.1 k 4 from by rw [hm6 477 (by decide), e4]]
      refine w_dup2 X dX8_plain_102 rfl rfl ?_
      refine s_iald X _ (by decide) (fun _ => σ_m5 G n0 _ _ (by decide)) dX8_plain_103 ?_ (hj := rfl)
      refine w_iconst X dX8_plain_104 ?_
      refine w_iadd X dX8_plain_105 ?_
      refine s_iast X _ (by decide) (fun _ => σ_m5 G n0 _ _ (by decide)) dX8_plain_106 ?_ (hj := rfl)
      exact pc3 _ (fun a ha => (up2_k _ _ _ _ ha).trans (hm6 a ha)) (fun j hj => by
        rw [up2_add (by omega), hF6 j hj]
        unfold Plc lv
        have q1 : (if (j : Int) = (L.2.2.2.1 k) 2 then (1 : Int) else 0) = (if (L.2.2.2.1 k) 2 = (j : Int) then 1 else 0) := by split <;> split <;> omega
        have q2 : (if (j : Int) = (L.2.2.2.1 k) 4 then (1 : Int) else 0) = (if (L.2.2.2.1 k) 4 = (j : Int) then 1 else 0) := by split <;> split <;> omega
        rw [q1, q2, Int.add_assoc]) _
  have pc1 : ∀ (m5 : Nat → Nat → Int), (∀ a, a ≠ 485 → m5 a = mi a) → (∀ j : Nat, j < 5 → m5 485 j = lk0 (L.2.2.2.1 k) (Ub mi b) j) → ∀ (x4 : Option Value), WSv p l e s m args below meth c9 3 (fun mi9 mr9 => (∃ m1 : Nat → Nat → Int, (∀ a, a ≠ 485 → m1 a = mi a) ∧ (∀ j : Nat, j < 5 → m1 485 j = Plc (L.2.2.2.1 k) (Ub mi b) j) ∧ (sum5 (Plc (L.2.2.2.1 k) (Ub mi b)) ≠ t ∧ m1 = mi9 ∨ sum5 (Plc (L.2.2.2.1 k) (Ub mi b)) = t ∧ TKP m1 mi9)) ∧ mr = mr9) G n0 5 m5 mr 30 [some (.ref (n0 + 473)), some (.int (jI (b : Int))), some (.int (jI (k : Int))), some (.int (jI t)), x4] [] := by
    intro m5 hm hF x4
    refine w_aload_n X dX8_plain_30 rfl ?_
    refine w_get X (by decide) (σ_473 G n0 _ _) rfl gW_X8 10 (by decide) gF_X8_35 rfl dX8_plain_31 ?_
    refine w_iload_n X dX8_plain_34 rfl ?_
    refine s_iald X (k) (by decide) (fun _ => σ_m12 G n0 _ _ (by decide)) dX8_plain_35 ?_
    rw [show m5 480 k = L.2.2.2.1 k 7 from by rw [hm 480 (by decide), e7]]
    refine w_bipush X dX8_plain_36 rfl ?_
    refine w_icmp_eq X 67 dX8_plain_38 (by decide) (fun c38_3 => ?_) (fun c38_3 => ?_)
    ·
      exact pc2 _ hm (fun j hj => by
        rw [hF j hj]
        rw [if_neg (fun w => by first | omega | (have w1 := w.1; have w3 : lk0 (L.2.2.2.1 k) (Ub mi b) ((L.2.2.2.1 k) 7).toNat = 0 := (by rw [show ((L.2.2.2.1 k) 7).toNat = j by omega]; exact w.2); omega))]) _
    ·
      refine w_aload_n X dX8_plain_41 rfl ?_
      refine w_get X (by decide) (σ_473 G n0 _ _) rfl gW_X8 20 (by decide) gF_X8_50 rfl dX8_plain_42 ?_
      refine w_aload_n X dX8_plain_45 rfl ?_
      refine w_get X (by decide) (σ_473 G n0 _ _) rfl gW_X8 10 (by decide) gF_X8_35 rfl dX8_plain_46 ?_
      refine w_iload_n X dX8_plain_49 rfl ?_
      refine s_iald X (k) (by decide) (fun _ => σ_m12 G n0 _ _ (by decide)) dX8_plain_50 ?_
      rw [show m5 480 k = L.2.2.2.1 k 7 from by rw [hm 480 (by decide), e7]]
      have hlq := Ub_lk hb (ρ := (L.2.2.2.1 k)) (x := ((L.2.2.2.1 k) 7).toNat) (by omega)
      have hFn := hF ((L.2.2.2.1 k) 7).toNat (by omega)
      refine s_iald X _ (by decide) (fun _ => σ_m5 G n0 _ _ (by decide)) dX8_plain_51 ?_ (hj := rfl)
      refine w_if_ne X 67 dX8_plain_52 (by decide) (fun c52_4 => ?_) (fun c52_4 => ?_)
      ·
        exact pc2 _ hm (fun j hj => by
          rw [hF j hj]
          rw [if_neg (fun w => by first | omega | (have w1 := w.1; have w3 : lk0 (L.2.2.2.1 k) (Ub mi b) ((L.2.2.2.1 k) 7).toNat = 0 := (by rw [show ((L.2.2.2.1 k) 7).toNat = j by omega]; exact w.2); omega))]) _
      ·
        refine w_aload_n X dX8_plain_55 rfl ?_
        refine w_get X (by decide) (σ_473 G n0 _ _) rfl gW_X8 20 (by decide) gF_X8_50 rfl dX8_plain_56 ?_
        refine w_aload_n X dX8_plain_59 rfl ?_
        refine w_get X (by decide) (σ_473 G n0 _ _) rfl gW_X8 10 (by decide) gF_X8_35 rfl dX8_plain_60 ?_
        refine w_iload_n X dX8_plain_63 rfl ?_
        refine s_iald X (k) (by decide) (fun _ => σ_m12 G n0 _ _ (by decide)) dX8_plain_64 ?_
        rw [show m5 480 k = L.2.2.2.1 k 7 from by rw [hm 480 (by decide), e7]]
        refine w_iconst X dX8_plain_65 ?_
        refine s_iast X _ (by decide) (fun _ => σ_m5 G n0 _ _ (by decide)) dX8_plain_66 ?_ (hj := rfl)
        exact pc2 _ (fun a ha => (up2_k _ _ _ _ ha).trans (hm a ha)) (fun j hj => by
          by_cases q : j = ((L.2.2.2.1 k) 7).toNat
          · rw [q, up2_s, if_pos ⟨by omega, by omega⟩]
          · rw [up2_j _ _ _ _ q, hF j hj, if_neg (fun w => q (by have := w.1; omega))]) _
  refine w_iconst X dX8_plain_0 ?_
  refine w_ist5_4 X dX8_plain_1 ?_
  have loop : ∀ (n : Nat) (m1 : Nat → Nat → Int) (i : Nat), (i ≤ 5) → (∀ a, a ≠ 485 → m1 a = mi a) → (∀ j : Nat, j < i → m1 485 j = lk0 (L.2.2.2.1 k) (Ub mi b) j) → n = 5 - i → WSv p l e s m args below meth c9 3 (fun mi9 mr9 => (∃ m1 : Nat → Nat → Int, (∀ a, a ≠ 485 → m1 a = mi a) ∧ (∀ j : Nat, j < 5 → m1 485 j = Plc (L.2.2.2.1 k) (Ub mi b) j) ∧ (sum5 (Plc (L.2.2.2.1 k) (Ub mi b)) ≠ t ∧ m1 = mi9 ∨ sum5 (Plc (L.2.2.2.1 k) (Ub mi b)) = t ∧ TKP m1 mi9)) ∧ mr = mr9) G n0 5 m1 mr 3 [some (.ref (n0 + 473)), some (.int (jI (b : Int))), some (.int (jI (k : Int))), some (.int (jI t)), some (.int (jI (i : Int)))] [] := by
    intro n
    induction n using Nat.strongRecOn with
    | ind n ih_loop =>
      intro m1 i hi hm hF hn
      refine w_iload X dX8_plain_3 rfl ?_
      refine w_iconst X dX8_plain_5 ?_
      refine w_icmp_ge X 30 dX8_plain_6 (by decide) (fun c6_5 => ?_) (fun c6_5 => ?_)
      ·
        exact pc1 m1 hm (fun j hj => hF j (by omega)) _
      ·
        have hMm : ML L m1 := ML_fr hM (by rw [hm 473 (by decide)]) (by rw [hm 473 (by decide)]) (by rw [hm 473 (by decide)]) (fun a h1 h2 => hm a (by omega))
        have hbm : RB m1 b := ⟨hb.1, fun j hj => by rw [hm 483 (by decide)]; exact hb.2 j hj⟩
        have hUm : Ub m1 b = Ub mi b := by funext j; unfold Ub; rw [hm 483 (by decide)]
        refine w_aload_n X dX8_plain_9 rfl ?_
        refine w_get X (by decide) (σ_473 G n0 _ _) rfl gW_X8 20 (by decide) gF_X8_50 rfl dX8_plain_10 ?_
        refine w_iload X dX8_plain_13 rfl ?_
        refine w_aload_n X dX8_plain_15 rfl ?_
        refine w_iload_n X dX8_plain_16 rfl ?_
        refine w_iload_n X dX8_plain_17 rfl ?_
        refine w_iload X dX8_plain_18 rfl ?_
        refine s_callVi X _ (c_X8_wanted (l := l) (G := G) (n0 := n0) hA hMm hk (by omega) hbm) gM_X8_148 gI_yX8_wanted gS_yX8_wanted gN_X8 gC_yX8_wanted (by decide) (σ_473 G n0 _ _) rfl dX8_plain_20 hl_yX8_wanted ⟨Nat.le_of_ble_eq_true rfl, Nat.le_of_ble_eq_true rfl⟩ (Nat.le_of_ble_eq_true rfl) rfl (fun r1 mi1 mr1 h1 => ?_)
        obtain ⟨rfl, rfl, h1⟩ := h1
        refine s_iast X (i) (by decide) (fun _ => σ_m5 G n0 _ _ (by decide)) dX8_plain_23 ?_
        refine w_iinc5_4 X dX8_plain_24 ?_
        refine w_goto X 3 dX8_plain_27 (by decide) ?_
        rw [hUm] at h1
        exact ih_loop _ (by omega) _ (i + 1) (by omega) (fun a ha => (up2_k _ _ _ _ ha).trans (hm a ha)) (fun j hj => by
          rcases (show j < i ∨ j = i by omega) with q | q
          · rw [up2_j _ _ _ _ (by omega)]; exact hF j q
          · subst q; rw [up2_s, h1]) rfl
  exact loop _ mi 0 (by omega) (fun _ _ => rfl) (fun j hj => absurd hj (by omega)) rfl
