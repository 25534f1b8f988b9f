theorem FS_BR {mi m : Nat → Nat → Int} (h : FS mi m) (i : Nat) : BR m i = BR mi i := by unfold BR; rw [h.1 483 (by decide) (by decide) (by decide) (by decide)]
theorem FS_CbJ {L : Lws} {mi m : Nat → Nat → Int} (h : FS mi m) {b k : Nat} {y : V5} : CbJ L m b k y ↔ CbJ L mi b k y := by
  have e : Ub m b = Ub mi b := by funext j; unfold Ub; rw [h.1 483 (by decide) (by decide) (by decide) (by decide)]
  unfold CbJ
  rw [e]
theorem FS_tr {a b c : Nat → Nat → Int} (h : FS a b) (h2 : FS b c) : FS a c := ⟨fun x h1 h3 h4 h5 => (h2.1 x h1 h3 h4 h5).trans (h.1 x h1 h3 h4 h5), fun j hj => (h2.2 j hj).trans (h.2 j hj)⟩
def WB (L : Lws) (m : Nat → Nat → Int) (t : Int) (b : Nat) (y : V5) : Prop := sm y = t ∧ ∃ a : Nat, a < b ∧ (y = BR m a ∨ ∃ k : Nat, (k : Int) < L.2.1 ∧ CbJ L m a k y)
def WK2 (L : Lws) (m : Nat → Nat → Int) (t : Int) (b k : Nat) (y : V5) : Prop := WB L m t b y ∨ (sm y = t ∧ (y = BR m b ∨ ∃ j : Nat, j < k ∧ CbJ L m b j y))
theorem WB_s {L : Lws} {m : Nat → Nat → Int} {t : Int} {b k : Nat} {y : V5} (hk : (k : Int) = L.2.1) (h : WB L m t (b + 1) y) : WK2 L m t b k y := by
  obtain ⟨h1, a, ha, h2⟩ := h
  by_cases q : a < b
  · exact Or.inl ⟨h1, a, q, h2⟩
  · have e : a = b := by omega
    subst e
    refine Or.inr ⟨h1, ?_⟩
    rcases h2 with h2 | ⟨j, hj, h3⟩
    · exact Or.inl h2
    · exact Or.inr ⟨j, by omega, h3⟩
theorem WK_s {L : Lws} {m : Nat → Nat → Int} {t : Int} {b k : Nat} {y : V5} (h : WK2 L m t b (k + 1) y) : WK2 L m t b k y ∨ (sm y = t ∧ CbJ L m b k y) := by
  rcases h with h | ⟨h1, h2 | ⟨j, hj, h3⟩⟩
  · exact Or.inl (Or.inl h)
  · exact Or.inl (Or.inr ⟨h1, Or.inl h2⟩)
  · by_cases q : j < k
    · exact Or.inl (Or.inr ⟨h1, Or.inr ⟨j, q, h3⟩⟩)
    · rw [show j = k by omega] at h3; exact Or.inr ⟨h1, h3⟩
theorem NI_pl {D C : V5 → Prop} {t : Int} {W : V5 → Prop} {m m1 m9 : Nat → Nat → Int} {ρ u : Nat → Int} (hG : ∀ v, D v → ∃ g, C g ∧ gv v g) (h : NI D C t W m) (hm : ∀ a, a ≠ 485 → m1 a = m a) (hF : ∀ j : Nat, j < 5 → m1 485 j = Plc ρ u j) (hk : sum5 (Plc ρ u) ≠ t ∧ m1 = m9 ∨ sum5 (Plc ρ u) = t ∧ TKP m1 m9) (hD : D (T5 (Plc ρ u))) : NI D C t (fun y => W y ∨ (y = T5 (Plc ρ u) ∧ sm y = t)) m9 ∧ FS m m9 := by
  have h1 := NI_fr (m' := m1) h (by rw [hm 473 (by decide)]) (hm 484 (by decide))
  have hf1 : FS m m1 := ⟨fun a _ _ h3 _ => hm a h3, fun j _ => by rw [hm 473 (by decide)]⟩
  rcases hk with ⟨q, rfl⟩ | ⟨q, q2⟩
  · refine ⟨NI_e h1 (fun y hy => ?_), hf1⟩
    rcases hy with z | ⟨rfl, z⟩
    · exact z
    · exact absurd z q
  · refine ⟨NI_e (NI_take hG h1 q2 (T5_c hF) hD q) (fun y hy => ?_), (FS_tk hf1 q2).1⟩
    rcases hy with z | ⟨z, -⟩
    · exact Or.inl z
    · exact Or.inr z
theorem dX8_keep_0 : decode cX8_keep 0 = .ok (.aload_n 0, 1) := by decide +kernel
theorem dX8_keep_1 : decode cX8_keep 1 = .ok (.aload_n 0, 1) := by decide +kernel
theorem dX8_keep_2 : decode cX8_keep 2 = .ok (.getfield 145, 3) := by decide +kernel
theorem dX8_keep_5 : decode cX8_keep 5 = .ok (.putfield 128, 3) := by decide +kernel
theorem dX8_keep_8 : decode cX8_keep 8 = .ok (.iconst 0, 1) := by decide +kernel
theorem dX8_keep_9 : decode cX8_keep 9 = .ok (.istore_n 1, 1) := by decide +kernel
theorem dX8_keep_10 : decode cX8_keep 10 = .ok (.iload_n 1, 1) := by decide +kernel
theorem dX8_keep_11 : decode cX8_keep 11 = .ok (.iconst 5, 1) := by decide +kernel
theorem dX8_keep_12 : decode cX8_keep 12 = .ok (.aload_n 0, 1) := by decide +kernel
theorem dX8_keep_13 : decode cX8_keep 13 = .ok (.getfield 145, 3) := by decide +kernel
theorem dX8_keep_16 : decode cX8_keep 16 = .ok (.imul, 1) := by decide +kernel
theorem dX8_keep_17 : decode cX8_keep 17 = .ok (.if_icmp .ge 21, 3) := by decide +kernel
theorem dX8_keep_20 : decode cX8_keep 20 = .ok (.aload_n 0, 1) := by decide +kernel
theorem dX8_keep_21 : decode cX8_keep 21 = .ok (.getfield 44, 3) := by decide +kernel
theorem dX8_keep_24 : decode cX8_keep 24 = .ok (.iload_n 1, 1) := by decide +kernel
theorem dX8_keep_25 : decode cX8_keep 25 = .ok (.aload_n 0, 1) := by decide +kernel
theorem dX8_keep_26 : decode cX8_keep 26 = .ok (.getfield 47, 3) := by decide +kernel
theorem dX8_keep_29 : decode cX8_keep 29 = .ok (.iload_n 1, 1) := by decide +kernel
theorem dX8_keep_30 : decode cX8_keep 30 = .ok (.iaload, 1) := by decide +kernel
theorem dX8_keep_31 : decode cX8_keep 31 = .ok (.iastore, 1) := by decide +kernel
theorem dX8_keep_32 : decode cX8_keep 32 = .ok (.iinc 1 1, 3) := by decide +kernel
theorem dX8_keep_35 : decode cX8_keep 35 = .ok (.goto (-25), 3) := by decide +kernel
theorem dX8_keep_38 : decode cX8_keep 38 = .ok (.return_, 1) := by decide +kernel
theorem hl_yX8_keep : (yX8_keep.cls ≠ "java/lang/invoke/MethodHandle" ∧ yX8_keep.cls ≠ "java/lang/invoke/VarHandle") ∧ (parseMethodDescriptor yX8_keep.desc).map (fun d => d.parameters.length) = some 0 := by decide +kernel
set_option maxRecDepth 20000 in
set_option maxHeartbeats 4000000 in
theorem c_X8_keep {l : Launch} {G : Gt} {n0 : Nat} {mi : Nat → Nat → Int} {mr : Nat → Nat → Nat} (hn9 : 0 ≤ mi 473 18 ∧ mi 473 18 ≤ 100) : Cv l yX8_keep cX8_keep 2 1 G n0 [.ref (n0 + 473)] mi mr (fun mi9 mr9 => (∀ a, a ≠ 473 → a ≠ 483 → mi9 a = mi a) ∧ (∀ j : Nat, j ≠ 16 → mi9 473 j = mi 473 j) ∧ mi9 473 16 = mi 473 18 ∧ (∀ j : Nat, (j : Int) < 5 * mi 473 18 → mi9 483 j = mi 484 j) ∧ mr = mr9) := by
  refine Ct_of (by decide +kernel) (by intro v hv; simp at hv; rcases hv with rfl <;> rfl) (Nat.le_of_ble_eq_true rfl) ?_
  intro p e s m args below meth c9 X hr hname
  show WW _ _ _ _ _ _ _ _ _ _ _ _ _ _ _ _ _ _ _ [some (.ref (n0 + 473)), none] _
  refine w_aload_n X dX8_keep_0 rfl ?_
  refine w_aload_n X dX8_keep_1 rfl ?_
  refine w_get X (by decide) (σ_473 G n0 _ _) rfl gW_X8 18 (by decide) gF_X8_145 rfl dX8_keep_2 ?_
  refine w_put X (by decide) (σ_473 G n0 _ _) rfl gW_X8 tyX8 tyX8_ok nmX8 16 (by decide) gF_X8_128 rfl rfl rfl (Nat.le_of_ble_eq_true rfl) dX8_keep_5 (WW.eqf (sp_473_16 _) ?_)
  refine w_iconst X dX8_keep_8 ?_
  refine w_ist2_1 X dX8_keep_9 ?_
  have loop : ∀ (n : Nat) (m1 : Nat → Nat → Int) (i : Nat), ((i : Int) ≤ 5 * mi 473 18) → (∀ a, a ≠ 473 → a ≠ 483 → m1 a = mi a) → ((∀ j : Nat, j ≠ 16 → m1 473 j = mi 473 j) ∧ m1 473 16 = mi 473 18) → (∀ j : Nat, m1 483 j = if j < i then mi 484 j else mi 483 j) → n = 505 - i → WSv p l e s m args below meth c9 1 (fun mi9 mr9 => (∀ a, a ≠ 473 → a ≠ 483 → mi9 a = mi a) ∧ (∀ j : Nat, j ≠ 16 → mi9 473 j = mi 473 j) ∧ mi9 473 16 = mi 473 18 ∧ (∀ j : Nat, (j : Int) < 5 * mi 473 18 → mi9 483 j = mi 484 j) ∧ mr = mr9) G n0 2 m1 mr 10 [some (.ref (n0 + 473)), some (.int (jI (i : Int)))] [] := by
    intro n
    induction n using Nat.strongRecOn with
    | ind n ih_loop =>
      intro m1 i hi hm h473 hF hn
      refine w_iload_n X dX8_keep_10 rfl ?_
      refine w_iconst X dX8_keep_11 ?_
      refine w_aload_n X dX8_keep_12 rfl ?_
      refine w_get X (by decide) (σ_473 G n0 _ _) rfl gW_X8 18 (by decide) gF_X8_145 rfl dX8_keep_13 ?_
      rw [show m1 473 18 = mi 473 18 from h473.1 18 (by decide)]
      refine w_imul X dX8_keep_16 ?_
      refine w_icmp_ge X 38 dX8_keep_17 (by decide) (fun c17_1 => ?_) (fun c17_1 => ?_)
      ·
        refine s_vret X hr dX8_keep_38 ?_
        exact ⟨hm, h473.1, h473.2, fun j hj => by rw [hF j, if_pos (by omega)], rfl⟩
      ·
        refine w_aload_n X dX8_keep_20 rfl ?_
        refine w_get X (by decide) (σ_473 G n0 _ _) rfl gW_X8 17 (by decide) gF_X8_44 rfl dX8_keep_21 ?_
        refine w_iload_n X dX8_keep_24 rfl ?_
        refine w_aload_n X dX8_keep_25 rfl ?_
        refine w_get X (by decide) (σ_473 G n0 _ _) rfl gW_X8 19 (by decide) gF_X8_47 rfl dX8_keep_26 ?_
        refine w_iload_n X dX8_keep_29 rfl ?_
        refine s_iald X (i) (by decide) (fun _ => σ_m505 G n0 _ _ (by decide)) dX8_keep_30 ?_
        refine s_iast X (i) (by decide) (fun _ => σ_m505 G n0 _ _ (by decide)) dX8_keep_31 ?_
        refine w_iinc2_1 X dX8_keep_32 ?_
        refine w_goto X 10 dX8_keep_35 (by decide) ?_
        rw [hm 484 (by decide) (by decide)]
        refine ih_loop _ (by omega) _ (i + 1) (by omega) (fun a h1 h2 => (up2_k _ _ _ _ h2).trans (hm a h1 h2)) ⟨fun j hj => by rw [up2_k _ _ _ _ (show (473 : Nat) ≠ 483 by decide)]; exact h473.1 j hj, by rw [up2_k _ _ _ _ (show (473 : Nat) ≠ 483 by decide)]; exact h473.2⟩ (fun j => ?_) rfl
        by_cases q : j = i
        · rw [q, up2_s, if_pos (by omega)]
        · rw [up2_j _ _ _ _ q, hF j]
          by_cases q2 : j < i
          · rw [if_pos q2, if_pos (by omega)]
          · rw [if_neg q2, if_neg (by omega)]
  exact loop _ _ 0 (by omega) (fun a h1 _ => up2_k _ _ _ _ h1) ⟨fun j hj => up2_j _ _ _ _ hj, up2_s _ _ _ _⟩ (fun j => by rw [if_neg (by omega), up2_k _ _ _ _ (show (483 : Nat) ≠ 473 by decide)]) rfl
theorem row_eq {m m2 : Nat → Nat → Int} {a b : Nat} : (∀ j : Nat, j < 5 → m 484 (5 * a + j) = m2 483 (5 * b + j)) ↔ NRw m a = BR m2 b := by
  refine ⟨fun q => T5_c q, fun q j hj => ?_⟩
  have q2 : F5 (NRw m a) j = F5 (BR m2 b) j := by rw [q]
  unfold NRw BR at q2
  rw [F5_T5 _ hj, F5_T5 _ hj] at q2
  exact q2
theorem dX8_round_0 : decode cX8_round 0 = .ok (.aload_n 0, 1) := by decide +kernel
theorem dX8_round_1 : decode cX8_round 1 = .ok (.iconst 0, 1) := by decide +kernel
theorem dX8_round_2 : decode cX8_round 2 = .ok (.putfield 145, 3) := by decide +kernel
theorem dX8_round_5 : decode cX8_round 5 = .ok (.iconst 0, 1) := by decide +kernel
theorem dX8_round_6 : decode cX8_round 6 = .ok (.istore_n 1, 1) := by decide +kernel
theorem dX8_round_7 : decode cX8_round 7 = .ok (.iconst 0, 1) := by decide +kernel
theorem dX8_round_8 : decode cX8_round 8 = .ok (.istore_n 2, 1) := by decide +kernel
theorem dX8_round_9 : decode cX8_round 9 = .ok (.iload_n 2, 1) := by decide +kernel
theorem dX8_round_10 : decode cX8_round 10 = .ok (.aload_n 0, 1) := by decide +kernel
theorem dX8_round_11 : decode cX8_round 11 = .ok (.getfield 128, 3) := by decide +kernel
theorem dX8_round_14 : decode cX8_round 14 = .ok (.if_icmp .ge 38, 3) := by decide +kernel
theorem dX8_round_17 : decode cX8_round 17 = .ok (.aload_n 0, 1) := by decide +kernel
theorem dX8_round_18 : decode cX8_round 18 = .ok (.getfield 44, 3) := by decide +kernel
theorem dX8_round_21 : decode cX8_round 21 = .ok (.iconst 5, 1) := by decide +kernel
theorem dX8_round_22 : decode cX8_round 22 = .ok (.iload_n 2, 1) := by decide +kernel
theorem dX8_round_23 : decode cX8_round 23 = .ok (.imul, 1) := by decide +kernel
theorem dX8_round_24 : decode cX8_round 24 = .ok (.invokestatic 116, 3) := by decide +kernel
theorem dX8_round_27 : decode cX8_round 27 = .ok (.iload_n 1, 1) := by decide +kernel
theorem dX8_round_28 : decode cX8_round 28 = .ok (.if_icmp .le 16, 3) := by decide +kernel
theorem dX8_round_31 : decode cX8_round 31 = .ok (.aload_n 0, 1) := by decide +kernel
theorem dX8_round_32 : decode cX8_round 32 = .ok (.getfield 44, 3) := by decide +kernel
theorem dX8_round_35 : decode cX8_round 35 = .ok (.iconst 5, 1) := by decide +kernel
theorem dX8_round_36 : decode cX8_round 36 = .ok (.iload_n 2, 1) := by decide +kernel
theorem dX8_round_37 : decode cX8_round 37 = .ok (.imul, 1) := by decide +kernel
theorem dX8_round_38 : decode cX8_round 38 = .ok (.invokestatic 116, 3) := by decide +kernel
theorem dX8_round_41 : decode cX8_round 41 = .ok (.goto 4, 3) := by decide +kernel
theorem dX8_round_44 : decode cX8_round 44 = .ok (.iload_n 1, 1) := by decide +kernel
theorem dX8_round_45 : decode cX8_round 45 = .ok (.istore_n 1, 1) := by decide +kernel
theorem dX8_round_46 : decode cX8_round 46 = .ok (.iinc 2 1, 3) := by decide +kernel
theorem dX8_round_49 : decode cX8_round 49 = .ok (.goto (-40), 3) := by decide +kernel
theorem dX8_round_52 : decode cX8_round 52 = .ok (.iconst 1, 1) := by decide +kernel
theorem dX8_round_53 : decode cX8_round 53 = .ok (.istore_n 2, 1) := by decide +kernel
theorem dX8_round_54 : decode cX8_round 54 = .ok (.iload_n 2, 1) := by decide +kernel
theorem dX8_round_55 : decode cX8_round 55 = .ok (.iload_n 1, 1) := by decide +kernel
theorem dX8_round_56 : decode cX8_round 56 = .ok (.iconst 3, 1) := by decide +kernel
theorem dX8_round_57 : decode cX8_round 57 = .ok (.iadd, 1) := by decide +kernel
theorem dX8_round_58 : decode cX8_round 58 = .ok (.if_icmp .gt 133, 3) := by decide +kernel
theorem dX8_round_61 : decode cX8_round 61 = .ok (.aload_n 0, 1) := by decide +kernel
theorem dX8_round_62 : decode cX8_round 62 = .ok (.getfield 145, 3) := by decide +kernel
theorem dX8_round_65 : decode cX8_round 65 = .ok (.bipush 100, 2) := by decide +kernel
theorem dX8_round_67 : decode cX8_round 67 = .ok (.if_icmp .gt 124, 3) := by decide +kernel
theorem dX8_round_70 : decode cX8_round 70 = .ok (.iconst 0, 1) := by decide +kernel
theorem dX8_round_71 : decode cX8_round 71 = .ok (.istore_n 3, 1) := by decide +kernel
theorem dX8_round_72 : decode cX8_round 72 = .ok (.iload_n 3, 1) := by decide +kernel
theorem dX8_round_73 : decode cX8_round 73 = .ok (.aload_n 0, 1) := by decide +kernel
theorem dX8_round_74 : decode cX8_round 74 = .ok (.getfield 128, 3) := by decide +kernel
theorem dX8_round_77 : decode cX8_round 77 = .ok (.if_icmp .ge 108, 3) := by decide +kernel
theorem dX8_round_80 : decode cX8_round 80 = .ok (.aload_n 0, 1) := by decide +kernel
theorem dX8_round_81 : decode cX8_round 81 = .ok (.getfield 44, 3) := by decide +kernel
theorem dX8_round_84 : decode cX8_round 84 = .ok (.iconst 5, 1) := by decide +kernel
theorem dX8_round_85 : decode cX8_round 85 = .ok (.iload_n 3, 1) := by decide +kernel
theorem dX8_round_86 : decode cX8_round 86 = .ok (.imul, 1) := by decide +kernel
theorem dX8_round_87 : decode cX8_round 87 = .ok (.invokestatic 116, 3) := by decide +kernel
theorem dX8_round_90 : decode cX8_round 90 = .ok (.iload_n 2, 1) := by decide +kernel
theorem dX8_round_91 : decode cX8_round 91 = .ok (.if_icmp .ne 40, 3) := by decide +kernel
theorem dX8_round_94 : decode cX8_round 94 = .ok (.iconst 0, 1) := by decide +kernel
theorem dX8_round_95 : decode cX8_round 95 = .ok (.istore 4, 2) := by decide +kernel
theorem dX8_round_97 : decode cX8_round 97 = .ok (.iload 4, 2) := by decide +kernel
theorem dX8_round_99 : decode cX8_round 99 = .ok (.iconst 5, 1) := by decide +kernel
theorem dX8_round_100 : decode cX8_round 100 = .ok (.if_icmp .ge 27, 3) := by decide +kernel
theorem dX8_round_103 : decode cX8_round 103 = .ok (.aload_n 0, 1) := by decide +kernel
theorem dX8_round_104 : decode cX8_round 104 = .ok (.getfield 50, 3) := by decide +kernel
theorem dX8_round_107 : decode cX8_round 107 = .ok (.iload 4, 2) := by decide +kernel
theorem dX8_round_109 : decode cX8_round 109 = .ok (.aload_n 0, 1) := by decide +kernel
theorem dX8_round_110 : decode cX8_round 110 = .ok (.getfield 44, 3) := by decide +kernel
theorem dX8_round_113 : decode cX8_round 113 = .ok (.iconst 5, 1) := by decide +kernel
theorem dX8_round_114 : decode cX8_round 114 = .ok (.iload_n 3, 1) := by decide +kernel
theorem dX8_round_115 : decode cX8_round 115 = .ok (.imul, 1) := by decide +kernel
theorem dX8_round_116 : decode cX8_round 116 = .ok (.iload 4, 2) := by decide +kernel
theorem dX8_round_118 : decode cX8_round 118 = .ok (.iadd, 1) := by decide +kernel
theorem dX8_round_119 : decode cX8_round 119 = .ok (.iaload, 1) := by decide +kernel
theorem dX8_round_120 : decode cX8_round 120 = .ok (.iastore, 1) := by decide +kernel
theorem dX8_round_121 : decode cX8_round 121 = .ok (.iinc 4 1, 3) := by decide +kernel
theorem dX8_round_124 : decode cX8_round 124 = .ok (.goto (-27), 3) := by decide +kernel
theorem dX8_round_127 : decode cX8_round 127 = .ok (.aload_n 0, 1) := by decide +kernel
theorem dX8_round_128 : decode cX8_round 128 = .ok (.invokevirtual 152, 3) := by decide +kernel
theorem dX8_round_131 : decode cX8_round 131 = .ok (.iconst 0, 1) := by decide +kernel
theorem dX8_round_132 : decode cX8_round 132 = .ok (.istore 4, 2) := by decide +kernel
theorem dX8_round_134 : decode cX8_round 134 = .ok (.iload 4, 2) := by decide +kernel
theorem dX8_round_136 : decode cX8_round 136 = .ok (.aload_n 0, 1) := by decide +kernel
theorem dX8_round_137 : decode cX8_round 137 = .ok (.getfield 80, 3) := by decide +kernel
theorem dX8_round_140 : decode cX8_round 140 = .ok (.if_icmp .ge 39, 3) := by decide +kernel
theorem dX8_round_143 : decode cX8_round 143 = .ok (.aload_n 0, 1) := by decide +kernel
theorem dX8_round_144 : decode cX8_round 144 = .ok (.getfield 16, 3) := by decide +kernel
theorem dX8_round_147 : decode cX8_round 147 = .ok (.iload 4, 2) := by decide +kernel
theorem dX8_round_149 : decode cX8_round 149 = .ok (.iaload, 1) := by decide +kernel
theorem dX8_round_150 : decode cX8_round 150 = .ok (.iconst 2, 1) := by decide +kernel
theorem dX8_round_151 : decode cX8_round 151 = .ok (.if_icmp .ne 14, 3) := by decide +kernel
theorem dX8_round_154 : decode cX8_round 154 = .ok (.aload_n 0, 1) := by decide +kernel
theorem dX8_round_155 : decode cX8_round 155 = .ok (.iload_n 3, 1) := by decide +kernel
theorem dX8_round_156 : decode cX8_round 156 = .ok (.iload 4, 2) := by decide +kernel
theorem dX8_round_158 : decode cX8_round 158 = .ok (.iload_n 2, 1) := by decide +kernel
theorem dX8_round_159 : decode cX8_round 159 = .ok (.invokevirtual 165, 3) := by decide +kernel
theorem dX8_round_162 : decode cX8_round 162 = .ok (.goto 11, 3) := by decide +kernel
theorem dX8_round_165 : decode cX8_round 165 = .ok (.aload_n 0, 1) := by decide +kernel
theorem dX8_round_166 : decode cX8_round 166 = .ok (.iload_n 3, 1) := by decide +kernel
theorem dX8_round_167 : decode cX8_round 167 = .ok (.iload 4, 2) := by decide +kernel
theorem dX8_round_169 : decode cX8_round 169 = .ok (.iload_n 2, 1) := by decide +kernel
theorem dX8_round_170 : decode cX8_round 170 = .ok (.invokevirtual 169, 3) := by decide +kernel
theorem dX8_round_173 : decode cX8_round 173 = .ok (.iinc 4 1, 3) := by decide +kernel
theorem dX8_round_176 : decode cX8_round 176 = .ok (.goto (-42), 3) := by decide +kernel
theorem dX8_round_179 : decode cX8_round 179 = .ok (.iinc 3 1, 3) := by decide +kernel
theorem dX8_round_182 : decode cX8_round 182 = .ok (.goto (-110), 3) := by decide +kernel
theorem dX8_round_185 : decode cX8_round 185 = .ok (.iinc 2 1, 3) := by decide +kernel
theorem dX8_round_188 : decode cX8_round 188 = .ok (.goto (-134), 3) := by decide +kernel
theorem dX8_round_191 : decode cX8_round 191 = .ok (.aload_n 0, 1) := by decide +kernel
theorem dX8_round_192 : decode cX8_round 192 = .ok (.getfield 145, 3) := by decide +kernel
theorem dX8_round_195 : decode cX8_round 195 = .ok (.aload_n 0, 1) := by decide +kernel
theorem dX8_round_196 : decode cX8_round 196 = .ok (.getfield 128, 3) := by decide +kernel
theorem dX8_round_199 : decode cX8_round 199 = .ok (.if_icmp .eq 7, 3) := by decide +kernel
theorem dX8_round_202 : decode cX8_round 202 = .ok (.iconst 1, 1) := by decide +kernel
theorem dX8_round_203 : decode cX8_round 203 = .ok (.goto 4, 3) := by decide +kernel
theorem dX8_round_206 : decode cX8_round 206 = .ok (.iconst 0, 1) := by decide +kernel
theorem dX8_round_207 : decode cX8_round 207 = .ok (.istore_n 2, 1) := by decide +kernel
theorem dX8_round_208 : decode cX8_round 208 = .ok (.iconst 0, 1) := by decide +kernel
theorem dX8_round_209 : decode cX8_round 209 = .ok (.istore_n 3, 1) := by decide +kernel
theorem dX8_round_210 : decode cX8_round 210 = .ok (.iload_n 3, 1) := by decide +kernel
theorem dX8_round_211 : decode cX8_round 211 = .ok (.aload_n 0, 1) := by decide +kernel
theorem dX8_round_212 : decode cX8_round 212 = .ok (.getfield 128, 3) := by decide +kernel
theorem dX8_round_215 : decode cX8_round 215 = .ok (.if_icmp .ge 118, 3) := by decide +kernel
theorem dX8_round_218 : decode cX8_round 218 = .ok (.iload_n 2, 1) := by decide +kernel
theorem dX8_round_219 : decode cX8_round 219 = .ok (.ifCond .ne 114, 3) := by decide +kernel
theorem dX8_round_222 : decode cX8_round 222 = .ok (.iconst 0, 1) := by decide +kernel
theorem dX8_round_223 : decode cX8_round 223 = .ok (.istore 4, 2) := by decide +kernel
theorem dX8_round_225 : decode cX8_round 225 = .ok (.iconst 0, 1) := by decide +kernel
theorem dX8_round_226 : decode cX8_round 226 = .ok (.istore 5, 2) := by decide +kernel
theorem dX8_round_228 : decode cX8_round 228 = .ok (.iload 5, 2) := by decide +kernel
theorem dX8_round_230 : decode cX8_round 230 = .ok (.aload_n 0, 1) := by decide +kernel
theorem dX8_round_231 : decode cX8_round 231 = .ok (.getfield 145, 3) := by decide +kernel
theorem dX8_round_234 : decode cX8_round 234 = .ok (.if_icmp .ge 82, 3) := by decide +kernel
theorem dX8_round_237 : decode cX8_round 237 = .ok (.iconst 1, 1) := by decide +kernel
theorem dX8_round_238 : decode cX8_round 238 = .ok (.istore 6, 2) := by decide +kernel
theorem dX8_round_240 : decode cX8_round 240 = .ok (.iconst 0, 1) := by decide +kernel
theorem dX8_round_241 : decode cX8_round 241 = .ok (.istore 7, 2) := by decide +kernel
theorem dX8_round_243 : decode cX8_round 243 = .ok (.iload 7, 2) := by decide +kernel
theorem dX8_round_245 : decode cX8_round 245 = .ok (.iconst 5, 1) := by decide +kernel
theorem dX8_round_246 : decode cX8_round 246 = .ok (.if_icmp .ge 47, 3) := by decide +kernel
theorem dX8_round_249 : decode cX8_round 249 = .ok (.iload 6, 2) := by decide +kernel
theorem dX8_round_251 : decode cX8_round 251 = .ok (.ifCond .eq 33, 3) := by decide +kernel
theorem dX8_round_254 : decode cX8_round 254 = .ok (.aload_n 0, 1) := by decide +kernel
theorem dX8_round_255 : decode cX8_round 255 = .ok (.getfield 47, 3) := by decide +kernel
theorem dX8_round_258 : decode cX8_round 258 = .ok (.iconst 5, 1) := by decide +kernel
theorem dX8_round_259 : decode cX8_round 259 = .ok (.iload 5, 2) := by decide +kernel
theorem dX8_round_261 : decode cX8_round 261 = .ok (.imul, 1) := by decide +kernel
theorem dX8_round_262 : decode cX8_round 262 = .ok (.iload 7, 2) := by decide +kernel
theorem dX8_round_264 : decode cX8_round 264 = .ok (.iadd, 1) := by decide +kernel
theorem dX8_round_265 : decode cX8_round 265 = .ok (.iaload, 1) := by decide +kernel
theorem dX8_round_266 : decode cX8_round 266 = .ok (.aload_n 0, 1) := by decide +kernel
theorem dX8_round_267 : decode cX8_round 267 = .ok (.getfield 44, 3) := by decide +kernel
theorem dX8_round_270 : decode cX8_round 270 = .ok (.iconst 5, 1) := by decide +kernel
theorem dX8_round_271 : decode cX8_round 271 = .ok (.iload_n 3, 1) := by decide +kernel
theorem dX8_round_272 : decode cX8_round 272 = .ok (.imul, 1) := by decide +kernel
theorem dX8_round_273 : decode cX8_round 273 = .ok (.iload 7, 2) := by decide +kernel
theorem dX8_round_275 : decode cX8_round 275 = .ok (.iadd, 1) := by decide +kernel
theorem dX8_round_276 : decode cX8_round 276 = .ok (.iaload, 1) := by decide +kernel
theorem dX8_round_277 : decode cX8_round 277 = .ok (.if_icmp .ne 7, 3) := by decide +kernel
theorem dX8_round_280 : decode cX8_round 280 = .ok (.iconst 1, 1) := by decide +kernel
theorem dX8_round_281 : decode cX8_round 281 = .ok (.goto 4, 3) := by decide +kernel
theorem dX8_round_284 : decode cX8_round 284 = .ok (.iconst 0, 1) := by decide +kernel
theorem dX8_round_285 : decode cX8_round 285 = .ok (.istore 6, 2) := by decide +kernel
theorem dX8_round_287 : decode cX8_round 287 = .ok (.iinc 7 1, 3) := by decide +kernel
theorem dX8_round_290 : decode cX8_round 290 = .ok (.goto (-47), 3) := by decide +kernel
theorem dX8_round_293 : decode cX8_round 293 = .ok (.iload 4, 2) := by decide +kernel
theorem dX8_round_295 : decode cX8_round 295 = .ok (.ifCond .ne 8, 3) := by decide +kernel
theorem dX8_round_298 : decode cX8_round 298 = .ok (.iload 6, 2) := by decide +kernel
theorem dX8_round_300 : decode cX8_round 300 = .ok (.ifCond .eq 7, 3) := by decide +kernel
theorem dX8_round_303 : decode cX8_round 303 = .ok (.iconst 1, 1) := by decide +kernel
theorem dX8_round_304 : decode cX8_round 304 = .ok (.goto 4, 3) := by decide +kernel
theorem dX8_round_307 : decode cX8_round 307 = .ok (.iconst 0, 1) := by decide +kernel
theorem dX8_round_308 : decode cX8_round 308 = .ok (.istore 4, 2) := by decide +kernel
theorem dX8_round_310 : decode cX8_round 310 = .ok (.iinc 5 1, 3) := by decide +kernel
theorem dX8_round_313 : decode cX8_round 313 = .ok (.goto (-85), 3) := by decide +kernel
theorem dX8_round_316 : decode cX8_round 316 = .ok (.iload 4, 2) := by decide +kernel
theorem dX8_round_318 : decode cX8_round 318 = .ok (.ifCond .ne 7, 3) := by decide +kernel
theorem dX8_round_321 : decode cX8_round 321 = .ok (.iconst 1, 1) := by decide +kernel
theorem dX8_round_322 : decode cX8_round 322 = .ok (.goto 4, 3) := by decide +kernel
theorem dX8_round_325 : decode cX8_round 325 = .ok (.iconst 0, 1) := by decide +kernel
theorem dX8_round_326 : decode cX8_round 326 = .ok (.istore_n 2, 1) := by decide +kernel
theorem dX8_round_327 : decode cX8_round 327 = .ok (.iinc 3 1, 3) := by decide +kernel
theorem dX8_round_330 : decode cX8_round 330 = .ok (.goto (-120), 3) := by decide +kernel
theorem dX8_round_333 : decode cX8_round 333 = .ok (.iload_n 2, 1) := by decide +kernel
theorem dX8_round_334 : decode cX8_round 334 = .ok (.ireturn, 1) := by decide +kernel
theorem hl_yX8_round : (yX8_round.cls ≠ "java/lang/invoke/MethodHandle" ∧ yX8_round.cls ≠ "java/lang/invoke/VarHandle") ∧ (parseMethodDescriptor yX8_round.desc).map (fun d => d.parameters.length) = some 0 := by decide +kernel
set_option maxRecDepth 20000 in
set_option maxHeartbeats 4000000 in
theorem c_X8_round {l : Launch} {G : Gt} {n0 : Nat} {mi : Nat → Nat → Int} {mr : Nat → Nat → Nat} {L : Lws} (hA : AB L) (hM : ML L mi) {kk : Nat} (hkk : kk ≤ 40) (hB : BI L kk mi) : Ci l yX8_round cX8_round 8 .boolean 5 G n0 [.ref (n0 + 473)] mi mr (fun r9 mi9 mr9 => RDP L kk mi mi9 r9 ∧ FS mi mi9 ∧ mr = mr9) := by
  refine Ct_of (by decide +kernel) (by intro v hv; simp at hv; rcases hv with rfl <;> rfl) (Nat.le_of_ble_eq_true rfl) ?_
  intro p e s m args below meth c9 X hr hname
  show WW _ _ _ _ _ _ _ _ _ _ _ _ _ _ _ _ _ _ _ [some (.ref (n0 + 473)), none, none, none, none, none, none, none] _
  have hbn := hB.1
  have hDn : ∀ v, Dk L (kk + 1) v → ∀ j : Nat, j < 5 → 0 ≤ F5 v j := fun v hv => (Dk_z hA.1 (kk + 1) hv).2.1
  have hGc : ∀ v, Dk L (kk + 1) v → ∃ g, CD L mi g ∧ gv v g := fun v hv => CD_G hA.1 hB v hv
  have hrc := hA.2.1
  refine w_aload_n X dX8_round_0 rfl ?_
  refine w_iconst X dX8_round_1 ?_
  refine w_put X (by decide) (σ_473 G n0 _ _) rfl gW_X8 tyX8 tyX8_ok nmX8 18 (by decide) gF_X8_145 rfl rfl rfl (Nat.le_of_ble_eq_true rfl) dX8_round_2 (WW.eqf (sp_473_18 _) ?_)
  have hfs0 : FS mi (up2 mi 473 18 0) := ⟨fun a h1 _ _ _ => up2_k _ _ _ _ h1, fun j hj => up2_j _ _ _ _ hj⟩
  have h18 : (up2 mi 473 18 0) 473 18 = 0 := up2_s _ _ _ _
  have h483 : (up2 mi 473 18 0) 483 = mi 483 := up2_k _ _ _ _ (by decide)
  generalize (up2 mi 473 18 0) = m0 at *
  have h16 : m0 473 16 = mi 473 16 := hfs0.2 16 (by decide)
  refine w_iconst X dX8_round_5 ?_
  refine w_ist8_1 X dX8_round_6 ?_
  refine w_iconst X dX8_round_7 ?_
  refine w_ist8_2 X dX8_round_8 ?_
  have gloop : ∀ (n : Nat) (b : Nat) (g : Int) (x3 x4 x5 x6 x7 : Option Value), ((b : Int) ≤ mi 473 16) → (0 ≤ g ∧ g ≤ 45 + 3 * (kk : Int)) → (∀ i : Nat, i < b → sm (BR mi i) ≤ g) → n = 101 - b → WSi p l e s m args below meth c9 5 (fun r9 mi9 mr9 => RDP L kk mi mi9 r9 ∧ FS mi mi9 ∧ mr = mr9) G n0 8 m0 mr 9 [some (.ref (n0 + 473)), some (.int (jI g)), some (.int (jI (b : Int))), x3, x4, x5, x6, x7] [] := by
    intro n
    induction n using Nat.strongRecOn with
    | ind n ih_gloop =>
      intro b g x3 x4 x5 x6 x7 hb hg hgb hn
      refine w_iload_n X dX8_round_9 rfl ?_
      refine w_aload_n X dX8_round_10 rfl ?_
      refine w_get X (by decide) (σ_473 G n0 _ _) rfl gW_X8 16 (by decide) gF_X8_128 rfl dX8_round_11 ?_
      rw [h16]
      refine w_icmp_ge X 52 dX8_round_14 (by decide) (fun c14_1 => ?_) (fun c14_1 => ?_)
      ·
        refine w_iconst X dX8_round_52 ?_
        refine w_ist8_2 X dX8_round_53 ?_
        have tloop : ∀ (n : Nat) (m1 : Nat → Nat → Int) (t : Int) (x3 x4 x5 x6 x7 : Option Value), (1 ≤ t ∧ t ≤ g + 4) → (FS mi m1) → (NI (Dk L (kk + 1)) (CD L mi) t (fun _ => False) m1) → n = (g + 4 - t).toNat → WSi p l e s m args below meth c9 5 (fun r9 mi9 mr9 => RDP L kk mi mi9 r9 ∧ FS mi mi9 ∧ mr = mr9) G n0 8 m1 mr 54 [some (.ref (n0 + 473)), some (.int (jI g)), some (.int (jI t)), x3, x4, x5, x6, x7] [] := by
          intro n
          induction n using Nat.strongRecOn with
          | ind n ih_tloop =>
            intro m1 t x3 x4 x5 x6 x7 ht hfs hni hn
            have hn18 := hni.1
            refine w_iload_n X dX8_round_54 rfl ?_
            refine w_iload_n X dX8_round_55 rfl ?_
            refine w_iconst X dX8_round_56 ?_
            refine w_iadd X dX8_round_57 ?_
            refine w_icmp_gt X 191 dX8_round_58 (by decide) (fun c58_2 => ?_) (fun c58_2 => ?_)
            ·
              have hend : 100 < m1 473 18 ∨ t = g + 4 := by omega
              have h16e : m1 473 16 = mi 473 16 := hfs.2 16 (by decide)
              have h483e : m1 483 = mi 483 := hfs.1 483 (by decide) (by decide) (by decide) (by decide)
              have hgg : ∀ i : Nat, (i : Int) < mi 473 16 → sm (BR mi i) ≤ g := fun i hi => hgb i (by omega)
              have hrn := NI_rg hDn hni (by omega)
              have hrb : ∀ i : Nat, (i : Int) < mi 473 16 → ∀ j : Nat, j < 5 → rg (mi 483 (5 * i + j)) := fun i hi j hj => by have := (BI_u hA.1 hB hi).2.1 j hj; unfold Ub at this; exact ⟨by omega, by omega⟩
              refine w_aload_n X dX8_round_191 rfl ?_
              refine w_get X (by decide) (σ_473 G n0 _ _) rfl gW_X8 18 (by decide) gF_X8_145 rfl dX8_round_192 ?_
              refine w_aload_n X dX8_round_195 rfl ?_
              refine w_get X (by decide) (σ_473 G n0 _ _) rfl gW_X8 16 (by decide) gF_X8_128 rfl dX8_round_196 ?_
              rw [h16e]
              refine w_icmp_eq X 206 dX8_round_199 (by decide) (fun c199_3 => ?_) (fun c199_3 => ?_)
              ·
                refine w_iconst X dX8_round_206 ?_
                refine w_ist8_2 X dX8_round_207 ?_
                refine w_iconst X dX8_round_208 ?_
                refine w_ist8_3 X dX8_round_209 ?_
                have dloop : ∀ (n : Nat) (b : Nat) (w2 : Int) (x4 x5 x6 x7 : Option Value), ((b : Int) ≤ mi 473 16) → (flg w2 (m1 473 18 ≠ mi 473 16 ∨ EU (fun b => ¬ ∃ c : Nat, (c : Int) < m1 473 18 ∧ NRw m1 c = BR mi b) b)) → n = 101 - b → WSi p l e s m args below meth c9 5 (fun r9 mi9 mr9 => RDP L kk mi mi9 r9 ∧ FS mi mi9 ∧ mr = mr9) G n0 8 m1 mr 210 [some (.ref (n0 + 473)), some (.int (jI g)), some (.int (jI w2)), some (.int (jI (b : Int))), x4, x5, x6, x7] [] := by
                  intro n
                  induction n using Nat.strongRecOn with
                  | ind n ih_dloop =>
                    intro b w2 x4 x5 x6 x7 hb hf hn
                    have hw2 := flg_b hf
                    refine w_iload_n X dX8_round_210 rfl ?_
                    refine w_aload_n X dX8_round_211 rfl ?_
                    refine w_get X (by decide) (σ_473 G n0 _ _) rfl gW_X8 16 (by decide) gF_X8_128 rfl dX8_round_212 ?_
                    rw [h16e]
                    refine w_icmp_ge X 333 dX8_round_215 (by decide) (fun c215_4 => ?_) (fun c215_4 => ?_)
                    ·
                      refine w_iload_n X dX8_round_333 rfl ?_
                      refine s_zret X hr dX8_round_334 (by omega) ?_
                      refine ⟨RD_all hA.1 hB hgg (by omega) hni hend (flg_i hf ?_), hfs, rfl⟩
                      constructor
                      · rintro (q | ⟨j, hj, hq⟩)
                        · exact Or.inl q
                        · exact Or.inr ⟨j, by omega, hq⟩
                      · rintro (q | ⟨j, hj, hq⟩)
                        · exact Or.inl q
                        · first | (exfalso; clear hf hni; omega) | exact flg_1 hf (by omega) | exact Or.inr ⟨j, by omega, hq⟩
                    ·
                      refine w_iload_n X dX8_round_218 rfl ?_
                      refine w_if_ne X 333 dX8_round_219 (by decide) (fun c219_5 => ?_) (fun c219_5 => ?_)
                      ·
                        refine w_iload_n X dX8_round_333 rfl ?_
                        refine s_zret X hr dX8_round_334 (by omega) ?_
                        refine ⟨RD_all hA.1 hB hgg (by omega) hni hend (flg_i hf ?_), hfs, rfl⟩
                        constructor
                        · rintro (q | ⟨j, hj, hq⟩)
                          · exact Or.inl q
                          · exact Or.inr ⟨j, by omega, hq⟩
                        · rintro (q | ⟨j, hj, hq⟩)
                          · exact Or.inl q
                          · first | (exfalso; clear hf hni; omega) | exact flg_1 hf (by omega) | exact Or.inr ⟨j, by omega, hq⟩
                      ·
                        refine w_iconst X dX8_round_222 ?_
                        refine w_ist8_4 X dX8_round_223 ?_
                        refine w_iconst X dX8_round_225 ?_
                        refine w_ist8_5 X dX8_round_226 ?_
                        have eloop : ∀ (n : Nat) (a : Nat) (w4 : Int) (x6 x7 : Option Value), ((a : Int) ≤ m1 473 18) → (ELg w4 (fun c => NRw m1 c = BR mi b) a) → n = 102 - a → WSi p l e s m args below meth c9 5 (fun r9 mi9 mr9 => RDP L kk mi mi9 r9 ∧ FS mi mi9 ∧ mr = mr9) G n0 8 m1 mr 228 [some (.ref (n0 + 473)), some (.int (jI g)), some (.int (jI w2)), some (.int (jI (b : Int))), some (.int (jI w4)), some (.int (jI (a : Int))), x6, x7] [] := by
                          intro n
                          induction n using Nat.strongRecOn with
                          | ind n ih_eloop =>
                            intro a w4 x6 x7 ha hf4 hn
                            have hw4 := EL_b hf4
                            have hn1 := hni.1
                            refine w_iload X dX8_round_228 rfl ?_
                            refine w_aload_n X dX8_round_230 rfl ?_
                            refine w_get X (by decide) (σ_473 G n0 _ _) rfl gW_X8 18 (by decide) gF_X8_145 rfl dX8_round_231 ?_
                            refine w_icmp_ge X 316 dX8_round_234 (by decide) (fun c234_6 => ?_) (fun c234_6 => ?_)
                            ·
                              refine w_iload X dX8_round_316 rfl ?_
                              refine w_if_ne X 325 dX8_round_318 (by decide) (fun c318_7 => ?_) (fun c318_7 => ?_)
                              ·
                                refine w_iconst X dX8_round_325 ?_
                                refine w_ist8_2 X dX8_round_326 ?_
                                refine w_iinc8_3 X dX8_round_327 ?_
                                refine w_goto X 210 dX8_round_330 (by decide) ?_
                                have hff := flg_0 hf (by omega)
                                exact ih_dloop _ (by omega) (b + 1) 0 _ _ _ _ (by omega) (flg_f (fun w => by
                                  rcases w with w | ⟨j, hj, hq⟩
                                  · exact hff (Or.inl w)
                                  · rcases (show j < b ∨ j = b by omega) with q | q
                                    · exact hff (Or.inr ⟨j, q, hq⟩)
                                    · subst q
                                      obtain ⟨c, c1, c2⟩ := flg_1 hf4 (by omega)
                                      exact hq ⟨c, by omega, c2⟩)) rfl
                              ·
                                refine w_iconst X dX8_round_321 ?_
                                refine w_goto X 326 dX8_round_322 (by decide) ?_
                                refine w_ist8_2 X dX8_round_326 ?_
                                refine w_iinc8_3 X dX8_round_327 ?_
                                refine w_goto X 210 dX8_round_330 (by decide) ?_
                                exact ih_dloop _ (by omega) (b + 1) 1 _ _ _ _ (by omega) (flg_t (Or.inr ⟨b, by omega, fun ⟨c, c1, c2⟩ => flg_0 hf4 (by omega) ⟨c, by omega, c2⟩⟩)) rfl
                            ·
                              refine w_iconst X dX8_round_237 ?_
                              refine w_ist8_6 X dX8_round_238 ?_
                              refine w_iconst X dX8_round_240 ?_
                              refine w_ist8_7 X dX8_round_241 ?_
                              have floop : ∀ (n : Nat) (i : Nat) (w6 : Int), (i ≤ 5) → (FLg w6 (fun j => m1 484 (5 * a + j) = mi 483 (5 * b + j)) i) → n = 5 - i → WSi p l e s m args below meth c9 5 (fun r9 mi9 mr9 => RDP L kk mi mi9 r9 ∧ FS mi mi9 ∧ mr = mr9) G n0 8 m1 mr 243 [some (.ref (n0 + 473)), some (.int (jI g)), some (.int (jI w2)), some (.int (jI (b : Int))), some (.int (jI w4)), some (.int (jI (a : Int))), some (.int (jI w6)), some (.int (jI (i : Int)))] [] := by
                                intro n
                                induction n using Nat.strongRecOn with
                                | ind n ih_floop =>
                                  intro i w6 hi hf6 hn
                                  have hw6 := FL_b hf6
                                  refine w_iload X dX8_round_243 rfl ?_
                                  refine w_iconst X dX8_round_245 ?_
                                  refine w_icmp_ge X 293 dX8_round_246 (by decide) (fun c246_8 => ?_) (fun c246_8 => ?_)
                                  ·
                                    refine w_iload X dX8_round_293 rfl ?_
                                    refine w_if_ne X 303 dX8_round_295 (by decide) (fun c295_9 => ?_) (fun c295_9 => ?_)
                                    ·
                                      refine w_iconst X dX8_round_303 ?_
                                      refine w_goto X 308 dX8_round_304 (by decide) ?_
                                      refine w_ist8_4 X dX8_round_308 ?_
                                      refine w_iinc8_5 X dX8_round_310 ?_
                                      refine w_goto X 228 dX8_round_313 (by decide) ?_
                                      have h5 : i = 5 := by omega
                                      subst h5
                                      have hrow := row_eq (m := m1) (m2 := mi) (a := a) (b := b)
                                      exact ih_eloop _ (by omega) (a + 1) 1 _ _ (by omega) (by first | exact EL_k hf4 (by omega) | exact EL_t (hrow.mp (flg_1 hf6 (by omega)))) rfl
                                    ·
                                      refine w_iload X dX8_round_298 rfl ?_
                                      refine w_if_eq X 307 dX8_round_300 (by decide) (fun c300_10 => ?_) (fun c300_10 => ?_)
                                      ·
                                        refine w_iconst X dX8_round_307 ?_
                                        refine w_ist8_4 X dX8_round_308 ?_
                                        refine w_iinc8_5 X dX8_round_310 ?_
                                        refine w_goto X 228 dX8_round_313 (by decide) ?_
                                        have h5 : i = 5 := by omega
                                        subst h5
                                        have hrow := row_eq (m := m1) (m2 := mi) (a := a) (b := b)
                                        exact ih_eloop _ (by omega) (a + 1) 0 _ _ (by omega) (EL_f hf4 (by omega) (fun w => flg_0 hf6 (by omega) (hrow.mpr w))) rfl
                                      ·
                                        refine w_iconst X dX8_round_303 ?_
                                        refine w_goto X 308 dX8_round_304 (by decide) ?_
                                        refine w_ist8_4 X dX8_round_308 ?_
                                        refine w_iinc8_5 X dX8_round_310 ?_
                                        refine w_goto X 228 dX8_round_313 (by decide) ?_
                                        have h5 : i = 5 := by omega
                                        subst h5
                                        have hrow := row_eq (m := m1) (m2 := mi) (a := a) (b := b)
                                        exact ih_eloop _ (by omega) (a + 1) 1 _ _ (by omega) (by first | exact EL_k hf4 (by omega) | exact EL_t (hrow.mp (flg_1 hf6 (by omega)))) rfl
                                  ·
                                    refine w_iload X dX8_round_249 rfl ?_
                                    refine w_if_eq X 284 dX8_round_251 (by decide) (fun c251_11 => ?_) (fun c251_11 => ?_)
                                    ·
                                      refine w_iconst X dX8_round_284 ?_
                                      refine w_ist8_6 X dX8_round_285 ?_
                                      refine w_iinc8_7 X dX8_round_287 ?_
                                      refine w_goto X 243 dX8_round_290 (by decide) ?_
                                      exact ih_floop _ (by omega) (i + 1) 0 (by omega) (by first | exact FL_k hf6 (by omega) | exact FL_f (show ¬ m1 484 (5 * a + i) = mi 483 (5 * b + i) by omega)) rfl
                                    ·
                                      have q1 := hrn a (by omega) i (by omega)
                                      have q2 := hrb b (by omega) i (by omega)
                                      refine w_aload_n X dX8_round_254 rfl ?_
                                      refine w_get X (by decide) (σ_473 G n0 _ _) rfl gW_X8 19 (by decide) gF_X8_47 rfl dX8_round_255 ?_
                                      refine w_iconst X dX8_round_258 ?_
                                      refine w_iload X dX8_round_259 rfl ?_
                                      refine w_imul X dX8_round_261 ?_
                                      refine w_iload X dX8_round_262 rfl ?_
                                      refine w_iadd X dX8_round_264 ?_
                                      refine s_iald X ((5 * a + i)) (by decide) (fun _ => σ_m505 G n0 _ _ (by decide)) dX8_round_265 ?_
                                      refine w_aload_n X dX8_round_266 rfl ?_
                                      refine w_get X (by decide) (σ_473 G n0 _ _) rfl gW_X8 17 (by decide) gF_X8_44 rfl dX8_round_267 ?_
                                      refine w_iconst X dX8_round_270 ?_
                                      refine w_iload_n X dX8_round_271 rfl ?_
                                      refine w_imul X dX8_round_272 ?_
                                      refine w_iload X dX8_round_273 rfl ?_
                                      refine w_iadd X dX8_round_275 ?_
                                      refine s_iald X ((5 * b + i)) (by decide) (fun _ => σ_m505 G n0 _ _ (by decide)) dX8_round_276 ?_
                                      rw [h483e]
                                      refine w_icmp_ne X 284 dX8_round_277 (by decide) (fun c277_12 => ?_) (fun c277_12 => ?_)
                                      ·
                                        refine w_iconst X dX8_round_284 ?_
                                        refine w_ist8_6 X dX8_round_285 ?_
                                        refine w_iinc8_7 X dX8_round_287 ?_
                                        refine w_goto X 243 dX8_round_290 (by decide) ?_
                                        exact ih_floop _ (by omega) (i + 1) 0 (by omega) (by first | exact FL_k hf6 (by omega) | exact FL_f (show ¬ m1 484 (5 * a + i) = mi 483 (5 * b + i) by omega)) rfl
                                      ·
                                        refine w_iconst X dX8_round_280 ?_
                                        refine w_goto X 285 dX8_round_281 (by decide) ?_
                                        refine w_ist8_6 X dX8_round_285 ?_
                                        refine w_iinc8_7 X dX8_round_287 ?_
                                        refine w_goto X 243 dX8_round_290 (by decide) ?_
                                        exact ih_floop _ (by omega) (i + 1) 1 (by omega) (FL_t hf6 (by omega) (show m1 484 (5 * a + i) = mi 483 (5 * b + i) by omega)) rfl
                              exact floop _ 0 1 (by omega) FL_0 rfl
                        exact eloop _ 0 0 _ _ (by omega) EL_0 rfl
                exact dloop _ 0 0 _ _ _ _ (by omega) (flg_f (fun w => by rcases w with w | ⟨j, hj, -⟩; omega; exact absurd hj (by omega))) rfl
              ·
                refine w_iconst X dX8_round_202 ?_
                refine w_goto X 207 dX8_round_203 (by decide) ?_
                refine w_ist8_2 X dX8_round_207 ?_
                refine w_iconst X dX8_round_208 ?_
                refine w_ist8_3 X dX8_round_209 ?_
                have dloop : ∀ (n : Nat) (b : Nat) (w2 : Int) (x4 x5 x6 x7 : Option Value), ((b : Int) ≤ mi 473 16) → (flg w2 (m1 473 18 ≠ mi 473 16 ∨ EU (fun b => ¬ ∃ c : Nat, (c : Int) < m1 473 18 ∧ NRw m1 c = BR mi b) b)) → n = 101 - b → WSi p l e s m args below meth c9 5 (fun r9 mi9 mr9 => RDP L kk mi mi9 r9 ∧ FS mi mi9 ∧ mr = mr9) G n0 8 m1 mr 210 [some (.ref (n0 + 473)), some (.int (jI g)), some (.int (jI w2)), some (.int (jI (b : Int))), x4, x5, x6, x7] [] := by
                  intro n
                  induction n using Nat.strongRecOn with
                  | ind n ih_dloop =>
                    intro b w2 x4 x5 x6 x7 hb hf hn
                    have hw2 := flg_b hf
                    refine w_iload_n X dX8_round_210 rfl ?_
                    refine w_aload_n X dX8_round_211 rfl ?_
                    refine w_get X (by decide) (σ_473 G n0 _ _) rfl gW_X8 16 (by decide) gF_X8_128 rfl dX8_round_212 ?_
                    rw [h16e]
                    refine w_icmp_ge X 333 dX8_round_215 (by decide) (fun c215_13 => ?_) (fun c215_13 => ?_)
                    ·
                      refine w_iload_n X dX8_round_333 rfl ?_
                      refine s_zret X hr dX8_round_334 (by omega) ?_
                      refine ⟨RD_all hA.1 hB hgg (by omega) hni hend (flg_i hf ?_), hfs, rfl⟩
                      constructor
                      · rintro (q | ⟨j, hj, hq⟩)
                        · exact Or.inl q
                        · exact Or.inr ⟨j, by omega, hq⟩
                      · rintro (q | ⟨j, hj, hq⟩)
                        · exact Or.inl q
                        · first | (exfalso; clear hf hni; omega) | exact flg_1 hf (by omega) | exact Or.inr ⟨j, by omega, hq⟩
                    ·
                      refine w_iload_n X dX8_round_218 rfl ?_
                      refine w_if_ne X 333 dX8_round_219 (by decide) (fun c219_14 => ?_) (fun c219_14 => ?_)
                      ·
                        refine w_iload_n X dX8_round_333 rfl ?_
                        refine s_zret X hr dX8_round_334 (by omega) ?_
                        refine ⟨RD_all hA.1 hB hgg (by omega) hni hend (flg_i hf ?_), hfs, rfl⟩
                        constructor
                        · rintro (q | ⟨j, hj, hq⟩)
                          · exact Or.inl q
                          · exact Or.inr ⟨j, by omega, hq⟩
                        · rintro (q | ⟨j, hj, hq⟩)
                          · exact Or.inl q
                          · first | (exfalso; clear hf hni; omega) | exact flg_1 hf (by omega) | exact Or.inr ⟨j, by omega, hq⟩
                      ·
                        refine w_iconst X dX8_round_222 ?_
                        refine w_ist8_4 X dX8_round_223 ?_
                        refine w_iconst X dX8_round_225 ?_
                        refine w_ist8_5 X dX8_round_226 ?_
                        have eloop : ∀ (n : Nat) (a : Nat) (w4 : Int) (x6 x7 : Option Value), ((a : Int) ≤ m1 473 18) → (ELg w4 (fun c => NRw m1 c = BR mi b) a) → n = 102 - a → WSi p l e s m args below meth c9 5 (fun r9 mi9 mr9 => RDP L kk mi mi9 r9 ∧ FS mi mi9 ∧ mr = mr9) G n0 8 m1 mr 228 [some (.ref (n0 + 473)), some (.int (jI g)), some (.int (jI w2)), some (.int (jI (b : Int))), some (.int (jI w4)), some (.int (jI (a : Int))), x6, x7] [] := by
                          intro n
                          induction n using Nat.strongRecOn with
                          | ind n ih_eloop =>
                            intro a w4 x6 x7 ha hf4 hn
                            have hw4 := EL_b hf4
                            have hn1 := hni.1
                            refine w_iload X dX8_round_228 rfl ?_
                            refine w_aload_n X dX8_round_230 rfl ?_
                            refine w_get X (by decide) (σ_473 G n0 _ _) rfl gW_X8 18 (by decide) gF_X8_145 rfl dX8_round_231 ?_
                            refine w_icmp_ge X 316 dX8_round_234 (by decide) (fun c234_15 => ?_) (fun c234_15 => ?_)
                            ·
                              refine w_iload X dX8_round_316 rfl ?_
                              refine w_if_ne X 325 dX8_round_318 (by decide) (fun c318_16 => ?_) (fun c318_16 => ?_)
                              ·
                                refine w_iconst X dX8_round_325 ?_
                                refine w_ist8_2 X dX8_round_326 ?_
                                refine w_iinc8_3 X dX8_round_327 ?_
                                refine w_goto X 210 dX8_round_330 (by decide) ?_
                                have hff := flg_0 hf (by omega)
                                exact ih_dloop _ (by omega) (b + 1) 0 _ _ _ _ (by omega) (flg_f (fun w => by
                                  rcases w with w | ⟨j, hj, hq⟩
                                  · exact hff (Or.inl w)
                                  · rcases (show j < b ∨ j = b by omega) with q | q
                                    · exact hff (Or.inr ⟨j, q, hq⟩)
                                    · subst q
                                      obtain ⟨c, c1, c2⟩ := flg_1 hf4 (by omega)
                                      exact hq ⟨c, by omega, c2⟩)) rfl
                              ·
                                refine w_iconst X dX8_round_321 ?_
                                refine w_goto X 326 dX8_round_322 (by decide) ?_
                                refine w_ist8_2 X dX8_round_326 ?_
                                refine w_iinc8_3 X dX8_round_327 ?_
                                refine w_goto X 210 dX8_round_330 (by decide) ?_
                                exact ih_dloop _ (by omega) (b + 1) 1 _ _ _ _ (by omega) (flg_t (Or.inr ⟨b, by omega, fun ⟨c, c1, c2⟩ => flg_0 hf4 (by omega) ⟨c, by omega, c2⟩⟩)) rfl
                            ·
                              refine w_iconst X dX8_round_237 ?_
                              refine w_ist8_6 X dX8_round_238 ?_
                              refine w_iconst X dX8_round_240 ?_
                              refine w_ist8_7 X dX8_round_241 ?_
                              have floop : ∀ (n : Nat) (i : Nat) (w6 : Int), (i ≤ 5) → (FLg w6 (fun j => m1 484 (5 * a + j) = mi 483 (5 * b + j)) i) → n = 5 - i → WSi p l e s m args below meth c9 5 (fun r9 mi9 mr9 => RDP L kk mi mi9 r9 ∧ FS mi mi9 ∧ mr = mr9) G n0 8 m1 mr 243 [some (.ref (n0 + 473)), some (.int (jI g)), some (.int (jI w2)), some (.int (jI (b : Int))), some (.int (jI w4)), some (.int (jI (a : Int))), some (.int (jI w6)), some (.int (jI (i : Int)))] [] := by
                                intro n
                                induction n using Nat.strongRecOn with
                                | ind n ih_floop =>
                                  intro i w6 hi hf6 hn
                                  have hw6 := FL_b hf6
                                  refine w_iload X dX8_round_243 rfl ?_
                                  refine w_iconst X dX8_round_245 ?_
                                  refine w_icmp_ge X 293 dX8_round_246 (by decide) (fun c246_17 => ?_) (fun c246_17 => ?_)
                                  ·
                                    refine w_iload X dX8_round_293 rfl ?_
                                    refine w_if_ne X 303 dX8_round_295 (by decide) (fun c295_18 => ?_) (fun c295_18 => ?_)
                                    ·
                                      refine w_iconst X dX8_round_303 ?_
                                      refine w_goto X 308 dX8_round_304 (by decide) ?_
                                      refine w_ist8_4 X dX8_round_308 ?_
                                      refine w_iinc8_5 X dX8_round_310 ?_
                                      refine w_goto X 228 dX8_round_313 (by decide) ?_
                                      have h5 : i = 5 := by omega
                                      subst h5
                                      have hrow := row_eq (m := m1) (m2 := mi) (a := a) (b := b)
                                      exact ih_eloop _ (by omega) (a + 1) 1 _ _ (by omega) (by first | exact EL_k hf4 (by omega) | exact EL_t (hrow.mp (flg_1 hf6 (by omega)))) rfl
                                    ·
                                      refine w_iload X dX8_round_298 rfl ?_
                                      refine w_if_eq X 307 dX8_round_300 (by decide) (fun c300_19 => ?_) (fun c300_19 => ?_)
                                      ·
                                        refine w_iconst X dX8_round_307 ?_
                                        refine w_ist8_4 X dX8_round_308 ?_
                                        refine w_iinc8_5 X dX8_round_310 ?_
                                        refine w_goto X 228 dX8_round_313 (by decide) ?_
                                        have h5 : i = 5 := by omega
                                        subst h5
                                        have hrow := row_eq (m := m1) (m2 := mi) (a := a) (b := b)
                                        exact ih_eloop _ (by omega) (a + 1) 0 _ _ (by omega) (EL_f hf4 (by omega) (fun w => flg_0 hf6 (by omega) (hrow.mpr w))) rfl
                                      ·
                                        refine w_iconst X dX8_round_303 ?_
                                        refine w_goto X 308 dX8_round_304 (by decide) ?_
                                        refine w_ist8_4 X dX8_round_308 ?_
                                        refine w_iinc8_5 X dX8_round_310 ?_
                                        refine w_goto X 228 dX8_round_313 (by decide) ?_
                                        have h5 : i = 5 := by omega
                                        subst h5
                                        have hrow := row_eq (m := m1) (m2 := mi) (a := a) (b := b)
                                        exact ih_eloop _ (by omega) (a + 1) 1 _ _ (by omega) (by first | exact EL_k hf4 (by omega) | exact EL_t (hrow.mp (flg_1 hf6 (by omega)))) rfl
                                  ·
                                    refine w_iload X dX8_round_249 rfl ?_
                                    refine w_if_eq X 284 dX8_round_251 (by decide) (fun c251_20 => ?_) (fun c251_20 => ?_)
                                    ·
                                      refine w_iconst X dX8_round_284 ?_
                                      refine w_ist8_6 X dX8_round_285 ?_
                                      refine w_iinc8_7 X dX8_round_287 ?_
                                      refine w_goto X 243 dX8_round_290 (by decide) ?_
                                      exact ih_floop _ (by omega) (i + 1) 0 (by omega) (by first | exact FL_k hf6 (by omega) | exact FL_f (show ¬ m1 484 (5 * a + i) = mi 483 (5 * b + i) by omega)) rfl
                                    ·
                                      have q1 := hrn a (by omega) i (by omega)
                                      have q2 := hrb b (by omega) i (by omega)
                                      refine w_aload_n X dX8_round_254 rfl ?_
                                      refine w_get X (by decide) (σ_473 G n0 _ _) rfl gW_X8 19 (by decide) gF_X8_47 rfl dX8_round_255 ?_
                                      refine w_iconst X dX8_round_258 ?_
                                      refine w_iload X dX8_round_259 rfl ?_
                                      refine w_imul X dX8_round_261 ?_
                                      refine w_iload X dX8_round_262 rfl ?_
                                      refine w_iadd X dX8_round_264 ?_
                                      refine s_iald X ((5 * a + i)) (by decide) (fun _ => σ_m505 G n0 _ _ (by decide)) dX8_round_265 ?_
                                      refine w_aload_n X dX8_round_266 rfl ?_
                                      refine w_get X (by decide) (σ_473 G n0 _ _) rfl gW_X8 17 (by decide) gF_X8_44 rfl dX8_round_267 ?_
                                      refine w_iconst X dX8_round_270 ?_
                                      refine w_iload_n X dX8_round_271 rfl ?_
                                      refine w_imul X dX8_round_272 ?_
                                      refine w_iload X dX8_round_273 rfl ?_
                                      refine w_iadd X dX8_round_275 ?_
                                      refine s_iald X ((5 * b + i)) (by decide) (fun _ => σ_m505 G n0 _ _ (by decide)) dX8_round_276 ?_
                                      rw [h483e]
                                      refine w_icmp_ne X 284 dX8_round_277 (by decide) (fun c277_21 => ?_) (fun c277_21 => ?_)
                                      ·
                                        refine w_iconst X dX8_round_284 ?_
                                        refine w_ist8_6 X dX8_round_285 ?_
                                        refine w_iinc8_7 X dX8_round_287 ?_
                                        refine w_goto X 243 dX8_round_290 (by decide) ?_
                                        exact ih_floop _ (by omega) (i + 1) 0 (by omega) (by first | exact FL_k hf6 (by omega) | exact FL_f (show ¬ m1 484 (5 * a + i) = mi 483 (5 * b + i) by omega)) rfl
                                      ·
                                        refine w_iconst X dX8_round_280 ?_
                                        refine w_goto X 285 dX8_round_281 (by decide) ?_
                                        refine w_ist8_6 X dX8_round_285 ?_
                                        refine w_iinc8_7 X dX8_round_287 ?_
                                        refine w_goto X 243 dX8_round_290 (by decide) ?_
                                        exact ih_floop _ (by omega) (i + 1) 1 (by omega) (FL_t hf6 (by omega) (show m1 484 (5 * a + i) = mi 483 (5 * b + i) by omega)) rfl
                              exact floop _ 0 1 (by omega) FL_0 rfl
                        exact eloop _ 0 0 _ _ (by omega) EL_0 rfl
                exact dloop _ 0 1 _ _ _ _ (by omega) (flg_t (Or.inl (by omega))) rfl
            ·
              refine w_aload_n X dX8_round_61 rfl ?_
              refine w_get X (by decide) (σ_473 G n0 _ _) rfl gW_X8 18 (by decide) gF_X8_145 rfl dX8_round_62 ?_
              refine w_bipush X dX8_round_65 rfl ?_
              refine w_icmp_gt X 191 dX8_round_67 (by decide) (fun c67_22 => ?_) (fun c67_22 => ?_)
              ·
                have hend : 100 < m1 473 18 ∨ t = g + 4 := by omega
                have h16e : m1 473 16 = mi 473 16 := hfs.2 16 (by decide)
                have h483e : m1 483 = mi 483 := hfs.1 483 (by decide) (by decide) (by decide) (by decide)
                have hgg : ∀ i : Nat, (i : Int) < mi 473 16 → sm (BR mi i) ≤ g := fun i hi => hgb i (by omega)
                have hrn := NI_rg hDn hni (by omega)
                have hrb : ∀ i : Nat, (i : Int) < mi 473 16 → ∀ j : Nat, j < 5 → rg (mi 483 (5 * i + j)) := fun i hi j hj => by have := (BI_u hA.1 hB hi).2.1 j hj; unfold Ub at this; exact ⟨by omega, by omega⟩
                refine w_aload_n X dX8_round_191 rfl ?_
                refine w_get X (by decide) (σ_473 G n0 _ _) rfl gW_X8 18 (by decide) gF_X8_145 rfl dX8_round_192 ?_
                refine w_aload_n X dX8_round_195 rfl ?_
                refine w_get X (by decide) (σ_473 G n0 _ _) rfl gW_X8 16 (by decide) gF_X8_128 rfl dX8_round_196 ?_
                rw [h16e]
                refine w_icmp_eq X 206 dX8_round_199 (by decide) (fun c199_23 => ?_) (fun c199_23 => ?_)
                ·
                  refine w_iconst X dX8_round_206 ?_
                  refine w_ist8_2 X dX8_round_207 ?_
                  refine w_iconst X dX8_round_208 ?_
                  refine w_ist8_3 X dX8_round_209 ?_
                  have dloop : ∀ (n : Nat) (b : Nat) (w2 : Int) (x4 x5 x6 x7 : Option Value), ((b : Int) ≤ mi 473 16) → (flg w2 (m1 473 18 ≠ mi 473 16 ∨ EU (fun b => ¬ ∃ c : Nat, (c : Int) < m1 473 18 ∧ NRw m1 c = BR mi b) b)) → n = 101 - b → WSi p l e s m args below meth c9 5 (fun r9 mi9 mr9 => RDP L kk mi mi9 r9 ∧ FS mi mi9 ∧ mr = mr9) G n0 8 m1 mr 210 [some (.ref (n0 + 473)), some (.int (jI g)), some (.int (jI w2)), some (.int (jI (b : Int))), x4, x5, x6, x7] [] := by
                    intro n
                    induction n using Nat.strongRecOn with
                    | ind n ih_dloop =>
                      intro b w2 x4 x5 x6 x7 hb hf hn
                      have hw2 := flg_b hf
                      refine w_iload_n X dX8_round_210 rfl ?_
                      refine w_aload_n X dX8_round_211 rfl ?_
                      refine w_get X (by decide) (σ_473 G n0 _ _) rfl gW_X8 16 (by decide) gF_X8_128 rfl dX8_round_212 ?_
                      rw [h16e]
                      refine w_icmp_ge X 333 dX8_round_215 (by decide) (fun c215_24 => ?_) (fun c215_24 => ?_)
                      ·
                        refine w_iload_n X dX8_round_333 rfl ?_
                        refine s_zret X hr dX8_round_334 (by omega) ?_
                        refine ⟨RD_all hA.1 hB hgg (by omega) hni hend (flg_i hf ?_), hfs, rfl⟩
                        constructor
                        · rintro (q | ⟨j, hj, hq⟩)
                          · exact Or.inl q
                          · exact Or.inr ⟨j, by omega, hq⟩
                        · rintro (q | ⟨j, hj, hq⟩)
                          · exact Or.inl q
                          · first | (exfalso; clear hf hni; omega) | exact flg_1 hf (by omega) | exact Or.inr ⟨j, by omega, hq⟩
                      ·
                        refine w_iload_n X dX8_round_218 rfl ?_
                        refine w_if_ne X 333 dX8_round_219 (by decide) (fun c219_25 => ?_) (fun c219_25 => ?_)
                        ·
                          refine w_iload_n X dX8_round_333 rfl ?_
                          refine s_zret X hr dX8_round_334 (by omega) ?_
                          refine ⟨RD_all hA.1 hB hgg (by omega) hni hend (flg_i hf ?_), hfs, rfl⟩
                          constructor
                          · rintro (q | ⟨j, hj, hq⟩)
                            · exact Or.inl q
                            · exact Or.inr ⟨j, by omega, hq⟩
                          · rintro (q | ⟨j, hj, hq⟩)
                            · exact Or.inl q
                            · first | (exfalso; clear hf hni; omega) | exact flg_1 hf (by omega) | exact Or.inr ⟨j, by omega, hq⟩
                        ·
                          refine w_iconst X dX8_round_222 ?_
                          refine w_ist8_4 X dX8_round_223 ?_
                          refine w_iconst X dX8_round_225 ?_
                          refine w_ist8_5 X dX8_round_226 ?_
                          have eloop : ∀ (n : Nat) (a : Nat) (w4 : Int) (x6 x7 : Option Value), ((a : Int) ≤ m1 473 18) → (ELg w4 (fun c => NRw m1 c = BR mi b) a) → n = 102 - a → WSi p l e s m args below meth c9 5 (fun r9 mi9 mr9 => RDP L kk mi mi9 r9 ∧ FS mi mi9 ∧ mr = mr9) G n0 8 m1 mr 228 [some (.ref (n0 + 473)), some (.int (jI g)), some (.int (jI w2)), some (.int (jI (b : Int))), some (.int (jI w4)), some (.int (jI (a : Int))), x6, x7] [] := by
                            intro n
                            induction n using Nat.strongRecOn with
                            | ind n ih_eloop =>
                              intro a w4 x6 x7 ha hf4 hn
                              have hw4 := EL_b hf4
                              have hn1 := hni.1
                              refine w_iload X dX8_round_228 rfl ?_
                              refine w_aload_n X dX8_round_230 rfl ?_
                              refine w_get X (by decide) (σ_473 G n0 _ _) rfl gW_X8 18 (by decide) gF_X8_145 rfl dX8_round_231 ?_
                              refine w_icmp_ge X 316 dX8_round_234 (by decide) (fun c234_26 => ?_) (fun c234_26 => ?_)
                              ·
                                refine w_iload X dX8_round_316 rfl ?_
                                refine w_if_ne X 325 dX8_round_318 (by decide) (fun c318_27 => ?_) (fun c318_27 => ?_)
                                ·
                                  refine w_iconst X dX8_round_325 ?_
                                  refine w_ist8_2 X dX8_round_326 ?_
                                  refine w_iinc8_3 X dX8_round_327 ?_
                                  refine w_goto X 210 dX8_round_330 (by decide) ?_
                                  have hff := flg_0 hf (by omega)
                                  exact ih_dloop _ (by omega) (b + 1) 0 _ _ _ _ (by omega) (flg_f (fun w => by
                                    rcases w with w | ⟨j, hj, hq⟩
                                    · exact hff (Or.inl w)
                                    · rcases (show j < b ∨ j = b by omega) with q | q
                                      · exact hff (Or.inr ⟨j, q, hq⟩)
                                      · subst q
                                        obtain ⟨c, c1, c2⟩ := flg_1 hf4 (by omega)
                                        exact hq ⟨c, by omega, c2⟩)) rfl
                                ·
                                  refine w_iconst X dX8_round_321 ?_
                                  refine w_goto X 326 dX8_round_322 (by decide) ?_
                                  refine w_ist8_2 X dX8_round_326 ?_
                                  refine w_iinc8_3 X dX8_round_327 ?_
                                  refine w_goto X 210 dX8_round_330 (by decide) ?_
                                  exact ih_dloop _ (by omega) (b + 1) 1 _ _ _ _ (by omega) (flg_t (Or.inr ⟨b, by omega, fun ⟨c, c1, c2⟩ => flg_0 hf4 (by omega) ⟨c, by omega, c2⟩⟩)) rfl
                              ·
                                refine w_iconst X dX8_round_237 ?_
                                refine w_ist8_6 X dX8_round_238 ?_
                                refine w_iconst X dX8_round_240 ?_
                                refine w_ist8_7 X dX8_round_241 ?_
                                have floop : ∀ (n : Nat) (i : Nat) (w6 : Int), (i ≤ 5) → (FLg w6 (fun j => m1 484 (5 * a + j) = mi 483 (5 * b + j)) i) → n = 5 - i → WSi p l e s m args below meth c9 5 (fun r9 mi9 mr9 => RDP L kk mi mi9 r9 ∧ FS mi mi9 ∧ mr = mr9) G n0 8 m1 mr 243 [some (.ref (n0 + 473)), some (.int (jI g)), some (.int (jI w2)), some (.int (jI (b : Int))), some (.int (jI w4)), some (.int (jI (a : Int))), some (.int (jI w6)), some (.int (jI (i : Int)))] [] := by
                                  intro n
                                  induction n using Nat.strongRecOn with
                                  | ind n ih_floop =>
                                    intro i w6 hi hf6 hn
                                    have hw6 := FL_b hf6
                                    refine w_iload X dX8_round_243 rfl ?_
                                    refine w_iconst X dX8_round_245 ?_
                                    refine w_icmp_ge X 293 dX8_round_246 (by decide) (fun c246_28 => ?_) (fun c246_28 => ?_)
                                    ·
                                      refine w_iload X dX8_round_293 rfl ?_
                                      refine w_if_ne X 303 dX8_round_295 (by decide) (fun c295_29 => ?_) (fun c295_29 => ?_)
                                      ·
                                        refine w_iconst X dX8_round_303 ?_
                                        refine w_goto X 308 dX8_round_304 (by decide) ?_
                                        refine w_ist8_4 X dX8_round_308 ?_
                                        refine w_iinc8_5 X dX8_round_310 ?_
                                        refine w_goto X 228 dX8_round_313 (by decide) ?_
                                        have h5 : i = 5 := by omega
                                        subst h5
                                        have hrow := row_eq (m := m1) (m2 := mi) (a := a) (b := b)
                                        exact ih_eloop _ (by omega) (a + 1) 1 _ _ (by omega) (by first | exact EL_k hf4 (by omega) | exact EL_t (hrow.mp (flg_1 hf6 (by omega)))) rfl
                                      ·
                                        refine w_iload X dX8_round_298 rfl ?_
                                        refine w_if_eq X 307 dX8_round_300 (by decide) (fun c300_30 => ?_) (fun c300_30 => ?_)
                                        ·
                                          refine w_iconst X dX8_round_307 ?_
                                          refine w_ist8_4 X dX8_round_308 ?_
                                          refine w_iinc8_5 X dX8_round_310 ?_
                                          refine w_goto X 228 dX8_round_313 (by decide) ?_
                                          have h5 : i = 5 := by omega
                                          subst h5
                                          have hrow := row_eq (m := m1) (m2 := mi) (a := a) (b := b)
                                          exact ih_eloop _ (by omega) (a + 1) 0 _ _ (by omega) (EL_f hf4 (by omega) (fun w => flg_0 hf6 (by omega) (hrow.mpr w))) rfl
                                        ·
                                          refine w_iconst X dX8_round_303 ?_
                                          refine w_goto X 308 dX8_round_304 (by decide) ?_
                                          refine w_ist8_4 X dX8_round_308 ?_
                                          refine w_iinc8_5 X dX8_round_310 ?_
                                          refine w_goto X 228 dX8_round_313 (by decide) ?_
                                          have h5 : i = 5 := by omega
                                          subst h5
                                          have hrow := row_eq (m := m1) (m2 := mi) (a := a) (b := b)
                                          exact ih_eloop _ (by omega) (a + 1) 1 _ _ (by omega) (by first | exact EL_k hf4 (by omega) | exact EL_t (hrow.mp (flg_1 hf6 (by omega)))) rfl
                                    ·
                                      refine w_iload X dX8_round_249 rfl ?_
                                      refine w_if_eq X 284 dX8_round_251 (by decide) (fun c251_31 => ?_) (fun c251_31 => ?_)
                                      ·
                                        refine w_iconst X dX8_round_284 ?_
                                        refine w_ist8_6 X dX8_round_285 ?_
                                        refine w_iinc8_7 X dX8_round_287 ?_
                                        refine w_goto X 243 dX8_round_290 (by decide) ?_
                                        exact ih_floop _ (by omega) (i + 1) 0 (by omega) (by first | exact FL_k hf6 (by omega) | exact FL_f (show ¬ m1 484 (5 * a + i) = mi 483 (5 * b + i) by omega)) rfl
                                      ·
                                        have q1 := hrn a (by omega) i (by omega)
                                        have q2 := hrb b (by omega) i (by omega)
                                        refine w_aload_n X dX8_round_254 rfl ?_
                                        refine w_get X (by decide) (σ_473 G n0 _ _) rfl gW_X8 19 (by decide) gF_X8_47 rfl dX8_round_255 ?_
                                        refine w_iconst X dX8_round_258 ?_
                                        refine w_iload X dX8_round_259 rfl ?_
                                        refine w_imul X dX8_round_261 ?_
                                        refine w_iload X dX8_round_262 rfl ?_
                                        refine w_iadd X dX8_round_264 ?_
                                        refine s_iald X ((5 * a + i)) (by decide) (fun _ => σ_m505 G n0 _ _ (by decide)) dX8_round_265 ?_
                                        refine w_aload_n X dX8_round_266 rfl ?_
                                        refine w_get X (by decide) (σ_473 G n0 _ _) rfl gW_X8 17 (by decide) gF_X8_44 rfl dX8_round_267 ?_
                                        refine w_iconst X dX8_round_270 ?_
                                        refine w_iload_n X dX8_round_271 rfl ?_
                                        refine w_imul X dX8_round_272 ?_
                                        refine w_iload X dX8_round_273 rfl ?_
                                        refine w_iadd X dX8_round_275 ?_
                                        refine s_iald X ((5 * b + i)) (by decide) (fun _ => σ_m505 G n0 _ _ (by decide)) dX8_round_276 ?_
                                        rw [h483e]
                                        refine w_icmp_ne X 284 dX8_round_277 (by decide) (fun c277_32 => ?_) (fun c277_32 => ?_)
                                        ·
                                          refine w_iconst X dX8_round_284 ?_
                                          refine w_ist8_6 X dX8_round_285 ?_
                                          refine w_iinc8_7 X dX8_round_287 ?_
                                          refine w_goto X 243 dX8_round_290 (by decide) ?_
                                          exact ih_floop _ (by omega) (i + 1) 0 (by omega) (by first | exact FL_k hf6 (by omega) | exact FL_f (show ¬ m1 484 (5 * a + i) = mi 483 (5 * b + i) by omega)) rfl
                                        ·
                                          refine w_iconst X dX8_round_280 ?_
                                          refine w_goto X 285 dX8_round_281 (by decide) ?_
                                          refine w_ist8_6 X dX8_round_285 ?_
                                          refine w_iinc8_7 X dX8_round_287 ?_
                                          refine w_goto X 243 dX8_round_290 (by decide) ?_
                                          exact ih_floop _ (by omega) (i + 1) 1 (by omega) (FL_t hf6 (by omega) (show m1 484 (5 * a + i) = mi 483 (5 * b + i) by omega)) rfl
                                exact floop _ 0 1 (by omega) FL_0 rfl
                          exact eloop _ 0 0 _ _ (by omega) EL_0 rfl
                  exact dloop _ 0 0 _ _ _ _ (by omega) (flg_f (fun w => by rcases w with w | ⟨j, hj, -⟩; omega; exact absurd hj (by omega))) rfl
                ·
                  refine w_iconst X dX8_round_202 ?_
                  refine w_goto X 207 dX8_round_203 (by decide) ?_
                  refine w_ist8_2 X dX8_round_207 ?_
                  refine w_iconst X dX8_round_208 ?_
                  refine w_ist8_3 X dX8_round_209 ?_
                  have dloop : ∀ (n : Nat) (b : Nat) (w2 : Int) (x4 x5 x6 x7 : Option Value), ((b : Int) ≤ mi 473 16) → (flg w2 (m1 473 18 ≠ mi 473 16 ∨ EU (fun b => ¬ ∃ c : Nat, (c : Int) < m1 473 18 ∧ NRw m1 c = BR mi b) b)) → n = 101 - b → WSi p l e s m args below meth c9 5 (fun r9 mi9 mr9 => RDP L kk mi mi9 r9 ∧ FS mi mi9 ∧ mr = mr9) G n0 8 m1 mr 210 [some (.ref (n0 + 473)), some (.int (jI g)), some (.int (jI w2)), some (.int (jI (b : Int))), x4, x5, x6, x7] [] := by
                    intro n
                    induction n using Nat.strongRecOn with
                    | ind n ih_dloop =>
                      intro b w2 x4 x5 x6 x7 hb hf hn
                      have hw2 := flg_b hf
                      refine w_iload_n X dX8_round_210 rfl ?_
                      refine w_aload_n X dX8_round_211 rfl ?_
                      refine w_get X (by decide) (σ_473 G n0 _ _) rfl gW_X8 16 (by decide) gF_X8_128 rfl dX8_round_212 ?_
                      rw [h16e]
                      refine w_icmp_ge X 333 dX8_round_215 (by decide) (fun c215_33 => ?_) (fun c215_33 => ?_)
                      ·
                        refine w_iload_n X dX8_round_333 rfl ?_
                        refine s_zret X hr dX8_round_334 (by omega) ?_
                        refine ⟨RD_all hA.1 hB hgg (by omega) hni hend (flg_i hf ?_), hfs, rfl⟩
                        constructor
                        · rintro (q | ⟨j, hj, hq⟩)
                          · exact Or.inl q
                          · exact Or.inr ⟨j, by omega, hq⟩
                        · rintro (q | ⟨j, hj, hq⟩)
                          · exact Or.inl q
                          · first | (exfalso; clear hf hni; omega) | exact flg_1 hf (by omega) | exact Or.inr ⟨j, by omega, hq⟩
                      ·
                        refine w_iload_n X dX8_round_218 rfl ?_
                        refine w_if_ne X 333 dX8_round_219 (by decide) (fun c219_34 => ?_) (fun c219_34 => ?_)
                        ·
                          refine w_iload_n X dX8_round_333 rfl ?_
                          refine s_zret X hr dX8_round_334 (by omega) ?_
                          refine ⟨RD_all hA.1 hB hgg (by omega) hni hend (flg_i hf ?_), hfs, rfl⟩
                          constructor
                          · rintro (q | ⟨j, hj, hq⟩)
                            · exact Or.inl q
                            · exact Or.inr ⟨j, by omega, hq⟩
                          · rintro (q | ⟨j, hj, hq⟩)
                            · exact Or.inl q
                            · first | (exfalso; clear hf hni; omega) | exact flg_1 hf (by omega) | exact Or.inr ⟨j, by omega, hq⟩
                        ·
                          refine w_iconst X dX8_round_222 ?_
                          refine w_ist8_4 X dX8_round_223 ?_
                          refine w_iconst X dX8_round_225 ?_
                          refine w_ist8_5 X dX8_round_226 ?_
                          have eloop : ∀ (n : Nat) (a : Nat) (w4 : Int) (x6 x7 : Option Value), ((a : Int) ≤ m1 473 18) → (ELg w4 (fun c => NRw m1 c = BR mi b) a) → n = 102 - a → WSi p l e s m args below meth c9 5 (fun r9 mi9 mr9 => RDP L kk mi mi9 r9 ∧ FS mi mi9 ∧ mr = mr9) G n0 8 m1 mr 228 [some (.ref (n0 + 473)), some (.int (jI g)), some (.int (jI w2)), some (.int (jI (b : Int))), some (.int (jI w4)), some (.int (jI (a : Int))), x6, x7] [] := by
                            intro n
                            induction n using Nat.strongRecOn with
                            | ind n ih_eloop =>
                              intro a w4 x6 x7 ha hf4 hn
                              have hw4 := EL_b hf4
                              have hn1 := hni.1
                              refine w_iload X dX8_round_228 rfl ?_
                              refine w_aload_n X dX8_round_230 rfl ?_
                              refine w_get X (by decide) (σ_473 G n0 _ _) rfl gW_X8 18 (by decide) gF_X8_145 rfl dX8_round_231 ?_
                              refine w_icmp_ge X 316 dX8_round_234 (by decide) (fun c234_35 => ?_) (fun c234_35 => ?_)
                              ·
                                refine w_iload X dX8_round_316 rfl ?_
                                refine w_if_ne X 325 dX8_round_318 (by decide) (fun c318_36 => ?_) (fun c318_36 => ?_)
                                ·
                                  refine w_iconst X dX8_round_325 ?_
                                  refine w_ist8_2 X dX8_round_326 ?_
                                  refine w_iinc8_3 X dX8_round_327 ?_
                                  refine w_goto X 210 dX8_round_330 (by decide) ?_
                                  have hff := flg_0 hf (by omega)
                                  exact ih_dloop _ (by omega) (b + 1) 0 _ _ _ _ (by omega) (flg_f (fun w => by
                                    rcases w with w | ⟨j, hj, hq⟩
                                    · exact hff (Or.inl w)
                                    · rcases (show j < b ∨ j = b by omega) with q | q
                                      · exact hff (Or.inr ⟨j, q, hq⟩)
                                      · subst q
                                        obtain ⟨c, c1, c2⟩ := flg_1 hf4 (by omega)
                                        exact hq ⟨c, by omega, c2⟩)) rfl
                                ·
                                  refine w_iconst X dX8_round_321 ?_
                                  refine w_goto X 326 dX8_round_322 (by decide) ?_
                                  refine w_ist8_2 X dX8_round_326 ?_
                                  refine w_iinc8_3 X dX8_round_327 ?_
                                  refine w_goto X 210 dX8_round_330 (by decide) ?_
                                  exact ih_dloop _ (by omega) (b + 1) 1 _ _ _ _ (by omega) (flg_t (Or.inr ⟨b, by omega, fun ⟨c, c1, c2⟩ => flg_0 hf4 (by omega) ⟨c, by omega, c2⟩⟩)) rfl
                              ·
                                refine w_iconst X dX8_round_237 ?_
                                refine w_ist8_6 X dX8_round_238 ?_
                                refine w_iconst X dX8_round_240 ?_
                                refine w_ist8_7 X dX8_round_241 ?_
                                have floop : ∀ (n : Nat) (i : Nat) (w6 : Int), (i ≤ 5) → (FLg w6 (fun j => m1 484 (5 * a + j) = mi 483 (5 * b + j)) i) → n = 5 - i → WSi p l e s m args below meth c9 5 (fun r9 mi9 mr9 => RDP L kk mi mi9 r9 ∧ FS mi mi9 ∧ mr = mr9) G n0 8 m1 mr 243 [some (.ref (n0 + 473)), some (.int (jI g)), some (.int (jI w2)), some (.int (jI (b : Int))), some (.int (jI w4)), some (.int (jI (a : Int))), some (.int (jI w6)), some (.int (jI (i : Int)))] [] := by
                                  intro n
                                  induction n using Nat.strongRecOn with
                                  | ind n ih_floop =>
                                    intro i w6 hi hf6 hn
                                    have hw6 := FL_b hf6
                                    refine w_iload X dX8_round_243 rfl ?_
                                    refine w_iconst X dX8_round_245 ?_
                                    refine w_icmp_ge X 293 dX8_round_246 (by decide) (fun c246_37 => ?_) (fun c246_37 => ?_)
                                    ·
                                      refine w_iload X dX8_round_293 rfl ?_
                                      refine w_if_ne X 303 dX8_round_295 (by decide) (fun c295_38 => ?_) (fun c295_38 => ?_)
                                      ·
                                        refine w_iconst X dX8_round_303 ?_
                                        refine w_goto X 308 dX8_round_304 (by decide) ?_
                                        refine w_ist8_4 X dX8_round_308 ?_
                                        refine w_iinc8_5 X dX8_round_310 ?_
                                        refine w_goto X 228 dX8_round_313 (by decide) ?_
                                        have h5 : i = 5 := by omega
                                        subst h5
                                        have hrow := row_eq (m := m1) (m2 := mi) (a := a) (b := b)
                                        exact ih_eloop _ (by omega) (a + 1) 1 _ _ (by omega) (by first | exact EL_k hf4 (by omega) | exact EL_t (hrow.mp (flg_1 hf6 (by omega)))) rfl
                                      ·
                                        refine w_iload X dX8_round_298 rfl ?_
                                        refine w_if_eq X 307 dX8_round_300 (by decide) (fun c300_39 => ?_) (fun c300_39 => ?_)
                                        ·
                                          refine w_iconst X dX8_round_307 ?_
                                          refine w_ist8_4 X dX8_round_308 ?_
                                          refine w_iinc8_5 X dX8_round_310 ?_
                                          refine w_goto X 228 dX8_round_313 (by decide) ?_
                                          have h5 : i = 5 := by omega
                                          subst h5
                                          have hrow := row_eq (m := m1) (m2 := mi) (a := a) (b := b)
                                          exact ih_eloop _ (by omega) (a + 1) 0 _ _ (by omega) (EL_f hf4 (by omega) (fun w => flg_0 hf6 (by omega) (hrow.mpr w))) rfl
                                        ·
                                          refine w_iconst X dX8_round_303 ?_
                                          refine w_goto X 308 dX8_round_304 (by decide) ?_
                                          refine w_ist8_4 X dX8_round_308 ?_
                                          refine w_iinc8_5 X dX8_round_310 ?_
                                          refine w_goto X 228 dX8_round_313 (by decide) ?_
                                          have h5 : i = 5 := by omega
                                          subst h5
                                          have hrow := row_eq (m := m1) (m2 := mi) (a := a) (b := b)
                                          exact ih_eloop _ (by omega) (a + 1) 1 _ _ (by omega) (by first | exact EL_k hf4 (by omega) | exact EL_t (hrow.mp (flg_1 hf6 (by omega)))) rfl
                                    ·
                                      refine w_iload X dX8_round_249 rfl ?_
                                      refine w_if_eq X 284 dX8_round_251 (by decide) (fun c251_40 => ?_) (fun c251_40 => ?_)
                                      ·
                                        refine w_iconst X dX8_round_284 ?_
                                        refine w_ist8_6 X dX8_round_285 ?_
                                        refine w_iinc8_7 X dX8_round_287 ?_
                                        refine w_goto X 243 dX8_round_290 (by decide) ?_
                                        exact ih_floop _ (by omega) (i + 1) 0 (by omega) (by first | exact FL_k hf6 (by omega) | exact FL_f (show ¬ m1 484 (5 * a + i) = mi 483 (5 * b + i) by omega)) rfl
                                      ·
                                        have q1 := hrn a (by omega) i (by omega)
                                        have q2 := hrb b (by omega) i (by omega)
                                        refine w_aload_n X dX8_round_254 rfl ?_
                                        refine w_get X (by decide) (σ_473 G n0 _ _) rfl gW_X8 19 (by decide) gF_X8_47 rfl dX8_round_255 ?_
                                        refine w_iconst X dX8_round_258 ?_
                                        refine w_iload X dX8_round_259 rfl ?_
                                        refine w_imul X dX8_round_261 ?_
                                        refine w_iload X dX8_round_262 rfl ?_
                                        refine w_iadd X dX8_round_264 ?_
                                        refine s_iald X ((5 * a + i)) (by decide) (fun _ => σ_m505 G n0 _ _ (by decide)) dX8_round_265 ?_
                                        refine w_aload_n X dX8_round_266 rfl ?_
                                        refine w_get X (by decide) (σ_473 G n0 _ _) rfl gW_X8 17 (by decide) gF_X8_44 rfl dX8_round_267 ?_
                                        refine w_iconst X dX8_round_270 ?_
                                        refine w_iload_n X dX8_round_271 rfl ?_
                                        refine w_imul X dX8_round_272 ?_
                                        refine w_iload X dX8_round_273 rfl ?_
                                        refine w_iadd X dX8_round_275 ?_
                                        refine s_iald X ((5 * b + i)) (by decide) (fun _ => σ_m505 G n0 _ _ (by decide)) dX8_round_276 ?_
                                        rw [h483e]
                                        refine w_icmp_ne X 284 dX8_round_277 (by decide) (fun c277_41 => ?_) (fun c277_41 => ?_)
                                        ·
                                          refine w_iconst X dX8_round_284 ?_
                                          refine w_ist8_6 X dX8_round_285 ?_
                                          refine w_iinc8_7 X dX8_round_287 ?_
                                          refine w_goto X 243 dX8_round_290 (by decide) ?_
                                          exact ih_floop _ (by omega) (i + 1) 0 (by omega) (by first | exact FL_k hf6 (by omega) | exact FL_f (show ¬ m1 484 (5 * a + i) = mi 483 (5 * b + i) by omega)) rfl
                                        ·
                                          refine w_iconst X dX8_round_280 ?_
                                          refine w_goto X 285 dX8_round_281 (by decide) ?_
                                          refine w_ist8_6 X dX8_round_285 ?_
                                          refine w_iinc8_7 X dX8_round_287 ?_
                                          refine w_goto X 243 dX8_round_290 (by decide) ?_
                                          exact ih_floop _ (by omega) (i + 1) 1 (by omega) (FL_t hf6 (by omega) (show m1 484 (5 * a + i) = mi 483 (5 * b + i) by omega)) rfl
                                exact floop _ 0 1 (by omega) FL_0 rfl
                          exact eloop _ 0 0 _ _ (by omega) EL_0 rfl
                  exact dloop _ 0 1 _ _ _ _ (by omega) (flg_t (Or.inl (by omega))) rfl
              ·
                refine w_iconst X dX8_round_70 ?_
                refine w_ist8_3 X dX8_round_71 ?_
                have bloop : ∀ (n : Nat) (m1 : Nat → Nat → Int) (b : Nat) (x4 x5 x6 x7 : Option Value), ((b : Int) ≤ mi 473 16) → (FS mi m1) → (NI (Dk L (kk + 1)) (CD L mi) t (WB L mi t b) m1) → n = 101 - b → WSi p l e s m args below meth c9 5 (fun r9 mi9 mr9 => RDP L kk mi mi9 r9 ∧ FS mi mi9 ∧ mr = mr9) G n0 8 m1 mr 72 [some (.ref (n0 + 473)), some (.int (jI g)), some (.int (jI t)), some (.int (jI (b : Int))), x4, x5, x6, x7] [] := by
                  intro n
                  induction n using Nat.strongRecOn with
                  | ind n ih_bloop =>
                    intro m1 b x4 x5 x6 x7 hb hfs hni hn
                    have h16m : m1 473 16 = mi 473 16 := hfs.2 16 (by decide)
                    refine w_iload_n X dX8_round_72 rfl ?_
                    refine w_aload_n X dX8_round_73 rfl ?_
                    refine w_get X (by decide) (σ_473 G n0 _ _) rfl gW_X8 16 (by decide) gF_X8_128 rfl dX8_round_74 ?_
                    rw [h16m]
                    refine w_icmp_ge X 185 dX8_round_77 (by decide) (fun c77_42 => ?_) (fun c77_42 => ?_)
                    ·
                      refine w_iinc8_2 X dX8_round_185 ?_
                      refine w_goto X 54 dX8_round_188 (by decide) ?_
                      exact ih_tloop _ (by omega) _ (t + 1) _ _ _ _ _ (by omega) hfs (NI_next hni (fun y hy hyt => by
                        obtain ⟨a, ha, q⟩ := hy
                        exact ⟨hyt, a, by omega, q⟩)) rfl
                    ·
                      have hBb := hB.2.1 b (by omega)
                      have hsz := (Dk_z hA.1 kk hBb.1.1).2.2
                      obtain ⟨u1, u2, u3⟩ := BI_u hA.1 hB (b := b) (by omega)
                      have hbb : RB mi b := ⟨by omega, fun j hj => by have := u2 j hj; unfold Ub at this; omega⟩
                      have htr : 0 ≤ t ∧ t ≤ 100000 := by omega
                      refine w_aload_n X dX8_round_80 rfl ?_
                      refine w_get X (by decide) (σ_473 G n0 _ _) rfl gW_X8 17 (by decide) gF_X8_44 rfl dX8_round_81 ?_
                      refine w_iconst X dX8_round_84 ?_
                      refine w_iload_n X dX8_round_85 rfl ?_
                      refine w_imul X dX8_round_86 ?_
                      refine s_callSi X _ (c_X8_sum (b := 5 * b) (l := l) (G := G) (n0 := n0) IA_483 (by decide) (by omega)) gM_X8_116 gT_yX8_sum gN_X8 gC_yX8_sum dX8_round_87 hl_yX8_sum ⟨Nat.le_of_ble_eq_true rfl, Nat.le_of_ble_eq_true rfl⟩ (Nat.le_of_ble_eq_true rfl) rfl (fun r1 mi1 mr1 h1 => ?_)
                      obtain ⟨rfl, rfl, h1⟩ := h1
                      have hsb : r1 = sm (BR mi b) := by rw [h1, hfs.1 483 (by decide) (by decide) (by decide) (by decide)]; rfl
                      refine w_iload_n X dX8_round_90 rfl ?_
                      refine w_icmp_ne X 131 dX8_round_91 (by decide) (fun c91_43 => ?_) (fun c91_43 => ?_)
                      ·
                        refine w_iconst X dX8_round_131 ?_
                        refine w_ist8_4 X dX8_round_132 ?_
                        have kloop : ∀ (n : Nat) (m1 : Nat → Nat → Int) (i : Nat), ((i : Int) ≤ L.2.1) → (FS mi m1) → (NI (Dk L (kk + 1)) (CD L mi) t (WK2 L mi t b i) m1) → n = 12 - i → WSi p l e s m args below meth c9 5 (fun r9 mi9 mr9 => RDP L kk mi mi9 r9 ∧ FS mi mi9 ∧ mr = mr9) G n0 8 m1 mr 134 [some (.ref (n0 + 473)), some (.int (jI g)), some (.int (jI t)), some (.int (jI (b : Int))), some (.int (jI (i : Int))), x5, x6, x7] [] := by
                          intro n
                          induction n using Nat.strongRecOn with
                          | ind n ih_kloop =>
                            intro m1 i hi hfs hni hn
                            have h3m : m1 473 3 = L.2.1 := (FS_ML hM hfs).2.1
                            refine w_iload X dX8_round_134 rfl ?_
                            refine w_aload_n X dX8_round_136 rfl ?_
                            refine w_get X (by decide) (σ_473 G n0 _ _) rfl gW_X8 3 (by decide) gF_X8_80 rfl dX8_round_137 ?_
                            refine w_icmp_ge X 179 dX8_round_140 (by decide) (fun c140_44 => ?_) (fun c140_44 => ?_)
                            ·
                              refine w_iinc8_3 X dX8_round_179 ?_
                              refine w_goto X 72 dX8_round_182 (by decide) ?_
                              exact ih_bloop _ (by omega) _ (b + 1) _ _ _ _ (by omega) hfs (NI_e hni (fun y hy => WB_s (k := i) (by omega) hy)) rfl
                            ·
                              refine w_aload_n X dX8_round_143 rfl ?_
                              refine w_get X (by decide) (σ_473 G n0 _ _) rfl gW_X8 4 (by decide) gF_X8_16 rfl dX8_round_144 ?_
                              refine w_iload X dX8_round_147 rfl ?_
                              refine s_iald X (i) (by decide) (fun _ => σ_m12 G n0 _ _ (by decide)) dX8_round_149 ?_
                              have e1i : m1 474 i = L.2.2.2.1 i 1 := (ML_rule (FS_ML hM hfs) (k := i) (by omega)).1
                              have hRi := hA.1.2.1 i (by omega)
                              have hR1 := hRi.1
                              have hzuf : zf L.1 (Ub m1 b) := by rw [(FS_RB hbb hfs).2]; exact u1
                              refine w_iconst X dX8_round_150 ?_
                              refine w_icmp_ne X 165 dX8_round_151 (by decide) (fun c151_45 => ?_) (fun c151_45 => ?_)
                              ·
                                refine w_aload_n X dX8_round_165 rfl ?_
                                refine w_iload_n X dX8_round_166 rfl ?_
                                refine w_iload X dX8_round_167 rfl ?_
                                refine w_iload_n X dX8_round_169 rfl ?_
                                refine s_callVv X _ (c_X8_plain (l := l) (G := G) (n0 := n0) hA (FS_ML hM hfs) (k := i) (by omega) (by omega) (FS_RB hbb hfs).1 hni.1 (NI_rg hDn hni htr.2) ⟨by omega, by omega⟩) gM_X8_169 gI_yX8_plain gS_yX8_plain gN_X8 gC_yX8_plain (by decide) (σ_473 G n0 _ _) rfl dX8_round_170 hl_yX8_plain ⟨Nat.le_of_ble_eq_true rfl, Nat.le_of_ble_eq_true rfl⟩ (Nat.le_of_ble_eq_true rfl) rfl (fun mi2 mr2 h2 => ?_)
                                obtain ⟨⟨mp, hmp, hFp, hkp⟩, rfl⟩ := h2
                                rw [(FS_RB hbb hfs).2] at hFp hkp
                                refine w_iinc8_4 X dX8_round_173 ?_
                                refine w_goto X 134 dX8_round_176 (by decide) ?_
                                obtain ⟨hnp, hfp⟩ := NI_pl hGc hni hmp hFp hkp (CD_s hA.1 hB (b := b) (by omega) (j := i) (by omega) (Or.inr ⟨by rw [← e1i]; assumption, rfl⟩))
                                exact ih_kloop _ (by omega) _ (i + 1) (by omega) (FS_tr hfs hfp) (NI_e hnp (fun y hy => by
                                  rcases WK_s hy with z | ⟨z1, z2 | z2⟩
                                  · exact Or.inl z
                                  · exact absurd z2.1 (by rw [← e1i]; assumption)
                                  · exact Or.inr ⟨z2.2, z1⟩)) rfl
                              ·
                                have hsh : ∀ y, ShC L.1 (L.2.2.2.1 i) (Ub m1 b) y → CbJ L mi b i y := fun y hy => Or.inl ⟨by omega, by rw [(FS_RB hbb hfs).2] at hy; exact hy⟩
                                refine w_aload_n X dX8_round_154 rfl ?_
                                refine w_iload_n X dX8_round_155 rfl ?_
                                refine w_iload X dX8_round_156 rfl ?_
                                refine w_iload_n X dX8_round_158 rfl ?_
                                refine s_callVv X _ (c_X8_shared (l := l) (G := G) (n0 := n0) hA (FS_ML hM hfs) (k := i) (by omega) (by omega) (FS_RB hbb hfs).1 hzuf htr hDn hGc (fun y hy => CD_s hA.1 hB (b := b) (by omega) (j := i) (by omega) (hsh y hy)) hni) gM_X8_165 gI_yX8_shared gS_yX8_shared gN_X8 gC_yX8_shared (by decide) (σ_473 G n0 _ _) rfl dX8_round_159 hl_yX8_shared ⟨Nat.le_of_ble_eq_true rfl, Nat.le_of_ble_eq_true rfl⟩ (Nat.le_of_ble_eq_true rfl) rfl (fun mi2 mr2 h2 => ?_)
                                obtain ⟨hnis, hfss, rfl⟩ := h2
                                refine w_goto X 173 dX8_round_162 (by decide) ?_
                                refine w_iinc8_4 X dX8_round_173 ?_
                                refine w_goto X 134 dX8_round_176 (by decide) ?_
                                exact ih_kloop _ (by omega) _ (i + 1) (by omega) (FS_tr hfs hfss) (NI_e hnis (fun y hy => by
                                  rcases WK_s hy with z | ⟨z1, z2 | z2⟩
                                  · exact Or.inl z
                                  · rw [(FS_RB hbb hfs).2]; exact Or.inr ⟨z2.2, z1⟩
                                  · exact absurd (by rw [← e1i]; assumption) z2.1)) rfl
                        exact kloop _ m1 0 (by omega) hfs (NI_e hni (fun y hy => by rcases hy with z | ⟨z1, z2 | ⟨j, hj, -⟩⟩; exact z; exact absurd z1 (by rw [z2]; omega); exact absurd hj (by omega))) rfl
                      ·
                        refine w_iconst X dX8_round_94 ?_
                        refine w_ist8_4 X dX8_round_95 ?_
                        have cloop : ∀ (n : Nat) (m2 : Nat → Nat → Int) (i : Nat), (i ≤ 5) → (∀ a, a ≠ 485 → m2 a = m1 a) → (∀ j : Nat, j < i → m2 485 j = mi 483 (5 * b + j)) → n = 5 - i → WSi p l e s m args below meth c9 5 (fun r9 mi9 mr9 => RDP L kk mi mi9 r9 ∧ FS mi mi9 ∧ mr = mr9) G n0 8 m2 mr 97 [some (.ref (n0 + 473)), some (.int (jI g)), some (.int (jI t)), some (.int (jI (b : Int))), some (.int (jI (i : Int))), x5, x6, x7] [] := by
                          intro n
                          induction n using Nat.strongRecOn with
                          | ind n ih_cloop =>
                            intro m2 i hi hm2 hF hn
                            refine w_iload X dX8_round_97 rfl ?_
                            refine w_iconst X dX8_round_99 ?_
                            refine w_icmp_ge X 127 dX8_round_100 (by decide) (fun c100_46 => ?_) (fun c100_46 => ?_)
                            ·
                              have h5 : i = 5 := by omega
                              subst h5
                              have hn18 : 0 ≤ m2 473 18 ∧ m2 473 18 ≤ 101 := by rw [hm2 473 (by decide)]; exact hni.1
                              have hone9 : ∀ j : Nat, j < 5 → rg (m2 485 j) := fun j hj => by rw [hF j hj]; have := hbb.2 j hj; exact ⟨by omega, by omega⟩
                              have hnx : ∀ i : Nat, (i : Int) < m2 473 18 → ∀ j : Nat, j < 5 → rg (m2 484 (5 * i + j)) := fun i hi j hj => by rw [hm2 473 (by decide)] at hi; rw [hm2 484 (by decide)]; exact NI_rg hDn hni htr.2 i hi j hj
                              have hfs2 : FS mi m2 := ⟨fun a h1 h2 h3 h4 => (hm2 a h3).trans (hfs.1 a h1 h2 h3 h4), fun j hj => by rw [hm2 473 (by decide)]; exact hfs.2 j hj⟩
                              refine w_aload_n X dX8_round_127 rfl ?_
                              refine s_callVv X _ (c_X8_take (l := l) (G := G) (n0 := n0) hn18 hone9 hnx) gM_X8_152 gI_yX8_take gS_yX8_take gN_X8 gC_yX8_take (by decide) (σ_473 G n0 _ _) rfl dX8_round_128 hl_yX8_take ⟨Nat.le_of_ble_eq_true rfl, Nat.le_of_ble_eq_true rfl⟩ (Nat.le_of_ble_eq_true rfl) rfl (fun mi2 mr2 h2 => ?_)
                              obtain ⟨htk, rfl⟩ := h2
                              have hfk := (FS_tk hfs2 htk).1
                              have hnk := NI_take (g := BR mi b) hGc (NI_fr hni (by rw [hm2 473 (by decide)]) (hm2 484 (by decide))) htk (T5_c hF) (Or.inl hBb.1.1) (by omega)
                              refine w_iconst X dX8_round_131 ?_
                              refine w_ist8_4 X dX8_round_132 ?_
                              have kloop : ∀ (n : Nat) (m1 : Nat → Nat → Int) (i : Nat), ((i : Int) ≤ L.2.1) → (FS mi m1) → (NI (Dk L (kk + 1)) (CD L mi) t (WK2 L mi t b i) m1) → n = 12 - i → WSi p l e s m args below meth c9 5 (fun r9 mi9 mr9 => RDP L kk mi mi9 r9 ∧ FS mi mi9 ∧ mr = mr9) G n0 8 m1 mr 134 [some (.ref (n0 + 473)), some (.int (jI g)), some (.int (jI t)), some (.int (jI (b : Int))), some (.int (jI (i : Int))), x5, x6, x7] [] := by
                                intro n
                                induction n using Nat.strongRecOn with
                                | ind n ih_kloop =>
                                  intro m1 i hi hfs hni hn
                                  have h3m : m1 473 3 = L.2.1 := (FS_ML hM hfs).2.1
                                  refine w_iload X dX8_round_134 rfl ?_
                                  refine w_aload_n X dX8_round_136 rfl ?_
                                  refine w_get X (by decide) (σ_473 G n0 _ _) rfl gW_X8 3 (by decide) gF_X8_80 rfl dX8_round_137 ?_
                                  refine w_icmp_ge X 179 dX8_round_140 (by decide) (fun c140_47 => ?_) (fun c140_47 => ?_)
                                  ·
                                    refine w_iinc8_3 X dX8_round_179 ?_
                                    refine w_goto X 72 dX8_round_182 (by decide) ?_
                                    exact ih_bloop _ (by omega) _ (b + 1) _ _ _ _ (by omega) hfs (NI_e hni (fun y hy => WB_s (k := i) (by omega) hy)) rfl
                                  ·
                                    refine w_aload_n X dX8_round_143 rfl ?_
                                    refine w_get X (by decide) (σ_473 G n0 _ _) rfl gW_X8 4 (by decide) gF_X8_16 rfl dX8_round_144 ?_
                                    refine w_iload X dX8_round_147 rfl ?_
                                    refine s_iald X (i) (by decide) (fun _ => σ_m12 G n0 _ _ (by decide)) dX8_round_149 ?_
                                    have e1i : m1 474 i = L.2.2.2.1 i 1 := (ML_rule (FS_ML hM hfs) (k := i) (by omega)).1
                                    have hRi := hA.1.2.1 i (by omega)
                                    have hR1 := hRi.1
                                    have hzuf : zf L.1 (Ub m1 b) := by rw [(FS_RB hbb hfs).2]; exact u1
                                    refine w_iconst X dX8_round_150 ?_
                                    refine w_icmp_ne X 165 dX8_round_151 (by decide) (fun c151_48 => ?_) (fun c151_48 => ?_)
                                    ·
                                      refine w_aload_n X dX8_round_165 rfl ?_
                                      refine w_iload_n X dX8_round_166 rfl ?_
                                      refine w_iload X dX8_round_167 rfl ?_
                                      refine w_iload_n X dX8_round_169 rfl ?_
                                      refine s_callVv X _ (c_X8_plain (l := l) (G := G) (n0 := n0) hA (FS_ML hM hfs) (k := i) (by omega) (by omega) (FS_RB hbb hfs).1 hni.1 (NI_rg hDn hni htr.2) ⟨by omega, by omega⟩) gM_X8_169 gI_yX8_plain gS_yX8_plain gN_X8 gC_yX8_plain (by decide) (σ_473 G n0 _ _) rfl dX8_round_170 hl_yX8_plain ⟨Nat.le_of_ble_eq_true rfl, Nat.le_of_ble_eq_true rfl⟩ (Nat.le_of_ble_eq_true rfl) rfl (fun mi3 mr3 h3 => ?_)
                                      obtain ⟨⟨mp, hmp, hFp, hkp⟩, rfl⟩ := h3
                                      rw [(FS_RB hbb hfs).2] at hFp hkp
                                      refine w_iinc8_4 X dX8_round_173 ?_
                                      refine w_goto X 134 dX8_round_176 (by decide) ?_
                                      obtain ⟨hnp, hfp⟩ := NI_pl hGc hni hmp hFp hkp (CD_s hA.1 hB (b := b) (by omega) (j := i) (by omega) (Or.inr ⟨by rw [← e1i]; assumption, rfl⟩))
                                      exact ih_kloop _ (by omega) _ (i + 1) (by omega) (FS_tr hfs hfp) (NI_e hnp (fun y hy => by
                                        rcases WK_s hy with z | ⟨z1, z2 | z2⟩
                                        · exact Or.inl z
                                        · exact absurd z2.1 (by rw [← e1i]; assumption)
                                        · exact Or.inr ⟨z2.2, z1⟩)) rfl
                                    ·
                                      have hsh : ∀ y, ShC L.1 (L.2.2.2.1 i) (Ub m1 b) y → CbJ L mi b i y := fun y hy => Or.inl ⟨by omega, by rw [(FS_RB hbb hfs).2] at hy; exact hy⟩
                                      refine w_aload_n X dX8_round_154 rfl ?_
                                      refine w_iload_n X dX8_round_155 rfl ?_
                                      refine w_iload X dX8_round_156 rfl ?_
                                      refine w_iload_n X dX8_round_158 rfl ?_
                                      refine s_callVv X _ (c_X8_shared (l := l) (G := G) (n0 := n0) hA (FS_ML hM hfs) (k := i) (by omega) (by omega) (FS_RB hbb hfs).1 hzuf htr hDn hGc (fun y hy => CD_s hA.1 hB (b := b) (by omega) (j := i) (by omega) (hsh y hy)) hni) gM_X8_165 gI_yX8_shared gS_yX8_shared gN_X8 gC_yX8_shared (by decide) (σ_473 G n0 _ _) rfl dX8_round_159 hl_yX8_shared ⟨Nat.le_of_ble_eq_true rfl, Nat.le_of_ble_eq_true rfl⟩ (Nat.le_of_ble_eq_true rfl) rfl (fun mi3 mr3 h3 => ?_)
                                      obtain ⟨hnis, hfss, rfl⟩ := h3
                                      refine w_goto X 173 dX8_round_162 (by decide) ?_
                                      refine w_iinc8_4 X dX8_round_173 ?_
                                      refine w_goto X 134 dX8_round_176 (by decide) ?_
                                      exact ih_kloop _ (by omega) _ (i + 1) (by omega) (FS_tr hfs hfss) (NI_e hnis (fun y hy => by
                                        rcases WK_s hy with z | ⟨z1, z2 | z2⟩
                                        · exact Or.inl z
                                        · rw [(FS_RB hbb hfs).2]; exact Or.inr ⟨z2.2, z1⟩
                                        · exact absurd (by rw [← e1i]; assumption) z2.1)) rfl
                              exact kloop _ _ 0 (by omega) hfk (NI_e hnk (fun y hy => by rcases hy with z | ⟨z1, z2 | ⟨j, hj, -⟩⟩; exact Or.inl z; exact Or.inr z2; exact absurd hj (by omega))) rfl
                            ·
                              refine w_aload_n X dX8_round_103 rfl ?_
                              refine w_get X (by decide) (σ_473 G n0 _ _) rfl gW_X8 20 (by decide) gF_X8_50 rfl dX8_round_104 ?_
                              refine w_iload X dX8_round_107 rfl ?_
                              refine w_aload_n X dX8_round_109 rfl ?_
                              refine w_get X (by decide) (σ_473 G n0 _ _) rfl gW_X8 17 (by decide) gF_X8_44 rfl dX8_round_110 ?_
                              refine w_iconst X dX8_round_113 ?_
                              refine w_iload_n X dX8_round_114 rfl ?_
                              refine w_imul X dX8_round_115 ?_
                              refine w_iload X dX8_round_116 rfl ?_
                              refine w_iadd X dX8_round_118 ?_
                              refine s_iald X ((5 * b + i)) (by decide) (fun _ => σ_m505 G n0 _ _ (by decide)) dX8_round_119 ?_
                              refine s_iast X (i) (by decide) (fun _ => σ_m5 G n0 _ _ (by decide)) dX8_round_120 ?_
                              refine w_iinc8_4 X dX8_round_121 ?_
                              refine w_goto X 97 dX8_round_124 (by decide) ?_
                              rw [hm2 483 (by decide), hfs.1 483 (by decide) (by decide) (by decide) (by decide)]
                              exact ih_cloop _ (by omega) _ (i + 1) (by omega) (fun a ha => (up2_k _ _ _ _ ha).trans (hm2 a ha)) (fun j hj => by
                                rcases (show j < i ∨ j = i by omega) with q | q
                                · rw [up2_j _ _ _ _ (by omega)]; exact hF j q
                                · subst q; rw [up2_s]) rfl
                        exact cloop _ m1 0 (by omega) (fun _ _ => rfl) (fun j hj => absurd hj (by omega)) rfl
                exact bloop _ m1 0 _ _ _ _ (by omega) hfs (NI_e hni (fun y hy => by obtain ⟨-, a, ha, -⟩ := hy; exact absurd ha (by omega))) rfl
        exact tloop _ m0 1 _ _ _ _ _ (by omega) hfs0 ⟨by omega, fun i hi => by omega, fun i j _ hj => by omega, fun _ => ⟨fun y hy hlt => by have := (Dk_z hA.1 (kk + 1) (CD_D hA.1 hB hy)).2.2; omega, fun y hy => absurd hy id⟩⟩ rfl
      ·
        refine w_aload_n X dX8_round_17 rfl ?_
        refine w_get X (by decide) (σ_473 G n0 _ _) rfl gW_X8 17 (by decide) gF_X8_44 rfl dX8_round_18 ?_
        refine w_iconst X dX8_round_21 ?_
        refine w_iload_n X dX8_round_22 rfl ?_
        refine w_imul X dX8_round_23 ?_
        refine s_callSi X _ (c_X8_sum (b := 5 * b) (l := l) (G := G) (n0 := n0) IA_483 (by decide) (by omega)) gM_X8_116 gT_yX8_sum gN_X8 gC_yX8_sum dX8_round_24 hl_yX8_sum ⟨Nat.le_of_ble_eq_true rfl, Nat.le_of_ble_eq_true rfl⟩ (Nat.le_of_ble_eq_true rfl) rfl (fun r1 mi1 mr1 h1 => ?_)
        obtain ⟨rfl, rfl, h1⟩ := h1
        have hsb : r1 = sm (BR mi b) := by rw [h1, h483]; rfl
        have hBb := (hB.2.1 b (by omega))
        have hsz := (Dk_z hA.1 kk hBb.1.1).2.2
        refine w_iload_n X dX8_round_27 rfl ?_
        refine w_icmp_le X 44 dX8_round_28 (by decide) (fun c28_49 => ?_) (fun c28_49 => ?_)
        ·
          refine w_iload_n X dX8_round_44 rfl ?_
          refine w_ist8_1 X dX8_round_45 ?_
          refine w_iinc8_2 X dX8_round_46 ?_
          refine w_goto X 9 dX8_round_49 (by decide) ?_
          exact ih_gloop _ (by omega) (b + 1) _ _ _ _ _ _ (by omega) (by omega) (fun i hi => by rcases (show i < b ∨ i = b by omega) with q | q; have := hgb i q; omega; subst q; omega) rfl
        ·
          refine w_aload_n X dX8_round_31 rfl ?_
          refine w_get X (by decide) (σ_473 G n0 _ _) rfl gW_X8 17 (by decide) gF_X8_44 rfl dX8_round_32 ?_
          refine w_iconst X dX8_round_35 ?_
          refine w_iload_n X dX8_round_36 rfl ?_
          refine w_imul X dX8_round_37 ?_
          refine s_callSi X _ (c_X8_sum (b := 5 * b) (l := l) (G := G) (n0 := n0) IA_483 (by decide) (by omega)) gM_X8_116 gT_yX8_sum gN_X8 gC_yX8_sum dX8_round_38 hl_yX8_sum ⟨Nat.le_of_ble_eq_true rfl, Nat.le_of_ble_eq_true rfl⟩ (Nat.le_of_ble_eq_true rfl) rfl (fun r2 mi2 mr2 h2 => ?_)
          obtain ⟨rfl, rfl, h2⟩ := h2
          have hsb2 : r2 = sm (BR mi b) := by rw [h2, h483]; rfl
          refine w_goto X 45 dX8_round_41 (by decide) ?_
          refine w_ist8_1 X dX8_round_45 ?_
          refine w_iinc8_2 X dX8_round_46 ?_
          refine w_goto X 9 dX8_round_49 (by decide) ?_
          exact ih_gloop _ (by omega) (b + 1) _ _ _ _ _ _ (by omega) (by omega) (fun i hi => by rcases (show i < b ∨ i = b by omega) with q | q; have := hgb i q; omega; subst q; omega) rfl
  exact gloop _ 0 0 none none none none none (by omega) (by omega) (fun i hi => absurd hi (by omega)) rfl
