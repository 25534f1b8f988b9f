def IFF (P Q : Prop) : Prop := P ↔ Q
def RUP (L : Lws) (set z x y r : Int) : Prop := ∃ f : Int, SNP L set z f ∧ (r = -9 ∧ ¬ (0 ≤ x ∧ x ≤ f) ∨ (0 ≤ x ∧ x ≤ f) ∧ ∃ v, Rn L (St L.1 z set) f.toNat x.toNat v ∧ r = F5 v y.toNat)
/-- where the run stands -/
def ATP (L : Lws) (set z f : Int) (k : Nat) (m : Nat → Nat → Int) (x a : Nat) : Prop := a < k ∧ m 490 a = f - (x : Int) ∧ Rn L (St L.1 z set) f.toNat x (Pm m a)
theorem ATP_fr {L : Lws} {set z f : Int} {k x a : Nat} {m m' : Nat → Nat → Int} (h : ATP L set z f k m x a) (hf : ∀ a, 488 ≤ a → a ≤ 491 → m' a = m a) : ATP L set z f k m' x a := by
  unfold ATP Pm at *
  rw [hf 488 (by decide) (by decide), hf 490 (by decide) (by decide)]
  exact h
theorem NPn_0 {L : Lws} {set n : Int} {k b : Nat} {m : Nat → Nat → Int} (hg : GT L set n k m) (h : NPn L set n m k (b : Int)) : ATP L set n (m 490 b) k m 0 b ∧ 0 ≤ m 490 b ∧ m 490 b < 1000000 := by
  rcases h with ⟨q, -⟩ | ⟨b', hb, q, q1, q2, q3⟩
  · omega
  · have e : b = b' := by omega
    subst e
    exact ⟨⟨hb, by omega, Rn_z hg hb q1 q2 q3⟩, (hg.2.2.2 b hb).1.1, q2⟩
theorem dX8_run_0 : decode cX8_run 0 = .ok (.aload_n 0, 1) := by decide +kernel
theorem dX8_run_1 : decode cX8_run 1 = .ok (.iconst 0, 1) := by decide +kernel
theorem dX8_run_2 : decode cX8_run 2 = .ok (.putfield 73, 3) := by decide +kernel
theorem dX8_run_5 : decode cX8_run 5 = .ok (.iload_n 1, 1) := by decide +kernel
theorem dX8_run_6 : decode cX8_run 6 = .ok (.i2l, 1) := by decide +kernel
theorem dX8_run_7 : decode cX8_run 7 = .ok (.lconst 1, 1) := by decide +kernel
theorem dX8_run_8 : decode cX8_run 8 = .ok (.ldc2_w 200, 3) := by decide +kernel
theorem dX8_run_11 : decode cX8_run 11 = .ok (.invokestatic 76, 3) := by decide +kernel
theorem dX8_run_14 : decode cX8_run 14 = .ok (.ifCond .ne 6, 3) := by decide +kernel
theorem dX8_run_17 : decode cX8_run 17 = .ok (.bipush (-2), 2) := by decide +kernel
theorem dX8_run_19 : decode cX8_run 19 = .ok (.ireturn, 1) := by decide +kernel
theorem dX8_run_20 : decode cX8_run 20 = .ok (.aload_n 0, 1) := by decide +kernel
theorem dX8_run_21 : decode cX8_run 21 = .ok (.iload_n 3, 1) := by decide +kernel
theorem dX8_run_22 : decode cX8_run 22 = .ok (.invokevirtual 92, 3) := by decide +kernel
theorem dX8_run_25 : decode cX8_run 25 = .ok (.ifCond .eq 5, 3) := by decide +kernel
theorem dX8_run_28 : decode cX8_run 28 = .ok (.iconst (-1), 1) := by decide +kernel
theorem dX8_run_29 : decode cX8_run 29 = .ok (.ireturn, 1) := by decide +kernel
theorem dX8_run_30 : decode cX8_run 30 = .ok (.aload_n 0, 1) := by decide +kernel
theorem dX8_run_31 : decode cX8_run 31 = .ok (.iload_n 1, 1) := by decide +kernel
theorem dX8_run_32 : decode cX8_run 32 = .ok (.invokevirtual 202, 3) := by decide +kernel
theorem dX8_run_35 : decode cX8_run 35 = .ok (.aload_n 0, 1) := by decide +kernel
theorem dX8_run_36 : decode cX8_run 36 = .ok (.invokevirtual 206, 3) := by decide +kernel
theorem dX8_run_39 : decode cX8_run 39 = .ok (.istore 4, 2) := by decide +kernel
theorem dX8_run_41 : decode cX8_run 41 = .ok (.iload 4, 2) := by decide +kernel
theorem dX8_run_43 : decode cX8_run 43 = .ok (.bipush (-9), 2) := by decide +kernel
theorem dX8_run_45 : decode cX8_run 45 = .ok (.if_icmp .eq 20, 3) := by decide +kernel
theorem dX8_run_48 : decode cX8_run 48 = .ok (.iload_n 2, 1) := by decide +kernel
theorem dX8_run_49 : decode cX8_run 49 = .ok (.i2l, 1) := by decide +kernel
theorem dX8_run_50 : decode cX8_run 50 = .ok (.lconst 0, 1) := by decide +kernel
theorem dX8_run_51 : decode cX8_run 51 = .ok (.aload_n 0, 1) := by decide +kernel
theorem dX8_run_52 : decode cX8_run 52 = .ok (.getfield 66, 3) := by decide +kernel
theorem dX8_run_55 : decode cX8_run 55 = .ok (.iload 4, 2) := by decide +kernel
theorem dX8_run_57 : decode cX8_run 57 = .ok (.iaload, 1) := by decide +kernel
theorem dX8_run_58 : decode cX8_run 58 = .ok (.i2l, 1) := by decide +kernel
theorem dX8_run_59 : decode cX8_run 59 = .ok (.invokestatic 76, 3) := by decide +kernel
theorem dX8_run_62 : decode cX8_run 62 = .ok (.ifCond .ne 6, 3) := by decide +kernel
theorem dX8_run_65 : decode cX8_run 65 = .ok (.bipush (-9), 2) := by decide +kernel
theorem dX8_run_67 : decode cX8_run 67 = .ok (.ireturn, 1) := by decide +kernel
theorem dX8_run_68 : decode cX8_run 68 = .ok (.iconst 0, 1) := by decide +kernel
theorem dX8_run_69 : decode cX8_run 69 = .ok (.istore 5, 2) := by decide +kernel
theorem dX8_run_71 : decode cX8_run 71 = .ok (.iload 5, 2) := by decide +kernel
theorem dX8_run_73 : decode cX8_run 73 = .ok (.iload_n 2, 1) := by decide +kernel
theorem dX8_run_74 : decode cX8_run 74 = .ok (.if_icmp .ge 129, 3) := by decide +kernel
theorem dX8_run_77 : decode cX8_run 77 = .ok (.bipush (-9), 2) := by decide +kernel
theorem dX8_run_79 : decode cX8_run 79 = .ok (.istore 6, 2) := by decide +kernel
theorem dX8_run_81 : decode cX8_run 81 = .ok (.aload_n 0, 1) := by decide +kernel
theorem dX8_run_82 : decode cX8_run 82 = .ok (.aload_n 0, 1) := by decide +kernel
theorem dX8_run_83 : decode cX8_run 83 = .ok (.getfield 59, 3) := by decide +kernel
theorem dX8_run_86 : decode cX8_run 86 = .ok (.iload 4, 2) := by decide +kernel
theorem dX8_run_88 : decode cX8_run 88 = .ok (.iaload, 1) := by decide +kernel
theorem dX8_run_89 : decode cX8_run 89 = .ok (.aload_n 0, 1) := by decide +kernel
theorem dX8_run_90 : decode cX8_run 90 = .ok (.getfield 50, 3) := by decide +kernel
theorem dX8_run_93 : decode cX8_run 93 = .ok (.invokevirtual 188, 3) := by decide +kernel
theorem dX8_run_96 : decode cX8_run 96 = .ok (.iconst 0, 1) := by decide +kernel
theorem dX8_run_97 : decode cX8_run 97 = .ok (.istore 7, 2) := by decide +kernel
theorem dX8_run_99 : decode cX8_run 99 = .ok (.iload 7, 2) := by decide +kernel
theorem dX8_run_101 : decode cX8_run 101 = .ok (.aload_n 0, 1) := by decide +kernel
theorem dX8_run_102 : decode cX8_run 102 = .ok (.getfield 80, 3) := by decide +kernel
theorem dX8_run_105 : decode cX8_run 105 = .ok (.if_icmp .ge 88, 3) := by decide +kernel
theorem dX8_run_108 : decode cX8_run 108 = .ok (.aload_n 0, 1) := by decide +kernel
theorem dX8_run_109 : decode cX8_run 109 = .ok (.aload_n 0, 1) := by decide +kernel
theorem dX8_run_110 : decode cX8_run 110 = .ok (.getfield 50, 3) := by decide +kernel
theorem dX8_run_113 : decode cX8_run 113 = .ok (.iload 7, 2) := by decide +kernel
theorem dX8_run_115 : decode cX8_run 115 = .ok (.invokevirtual 106, 3) := by decide +kernel
theorem dX8_run_118 : decode cX8_run 118 = .ok (.ifCond .eq 69, 3) := by decide +kernel
theorem dX8_run_121 : decode cX8_run 121 = .ok (.aload_n 0, 1) := by decide +kernel
theorem dX8_run_122 : decode cX8_run 122 = .ok (.aload_n 0, 1) := by decide +kernel
theorem dX8_run_123 : decode cX8_run 123 = .ok (.getfield 50, 3) := by decide +kernel
theorem dX8_run_126 : decode cX8_run 126 = .ok (.iload 7, 2) := by decide +kernel
theorem dX8_run_128 : decode cX8_run 128 = .ok (.invokevirtual 120, 3) := by decide +kernel
theorem dX8_run_131 : decode cX8_run 131 = .ok (.aload_n 0, 1) := by decide +kernel
theorem dX8_run_132 : decode cX8_run 132 = .ok (.getfield 63, 3) := by decide +kernel
theorem dX8_run_135 : decode cX8_run 135 = .ok (.aload_n 0, 1) := by decide +kernel
theorem dX8_run_136 : decode cX8_run 136 = .ok (.getfield 56, 3) := by decide +kernel
theorem dX8_run_139 : decode cX8_run 139 = .ok (.invokestatic 196, 3) := by decide +kernel
theorem dX8_run_142 : decode cX8_run 142 = .ok (.iaload, 1) := by decide +kernel
theorem dX8_run_143 : decode cX8_run 143 = .ok (.istore 8, 2) := by decide +kernel
theorem dX8_run_145 : decode cX8_run 145 = .ok (.aload_n 0, 1) := by decide +kernel
theorem dX8_run_146 : decode cX8_run 146 = .ok (.getfield 66, 3) := by decide +kernel
theorem dX8_run_149 : decode cX8_run 149 = .ok (.iload 8, 2) := by decide +kernel
theorem dX8_run_151 : decode cX8_run 151 = .ok (.iaload, 1) := by decide +kernel
theorem dX8_run_152 : decode cX8_run 152 = .ok (.aload_n 0, 1) := by decide +kernel
theorem dX8_run_153 : decode cX8_run 153 = .ok (.getfield 66, 3) := by decide +kernel
theorem dX8_run_156 : decode cX8_run 156 = .ok (.iload 4, 2) := by decide +kernel
theorem dX8_run_158 : decode cX8_run 158 = .ok (.iaload, 1) := by decide +kernel
theorem dX8_run_159 : decode cX8_run 159 = .ok (.iconst 1, 1) := by decide +kernel
theorem dX8_run_160 : decode cX8_run 160 = .ok (.isub, 1) := by decide +kernel
theorem dX8_run_161 : decode cX8_run 161 = .ok (.if_icmp .ne 22, 3) := by decide +kernel
theorem dX8_run_164 : decode cX8_run 164 = .ok (.iload 6, 2) := by decide +kernel
theorem dX8_run_166 : decode cX8_run 166 = .ok (.bipush (-9), 2) := by decide +kernel
theorem dX8_run_168 : decode cX8_run 168 = .ok (.if_icmp .eq 10, 3) := by decide +kernel
theorem dX8_run_171 : decode cX8_run 171 = .ok (.iload 8, 2) := by decide +kernel
theorem dX8_run_173 : decode cX8_run 173 = .ok (.iload 6, 2) := by decide +kernel
theorem dX8_run_175 : decode cX8_run 175 = .ok (.if_icmp .ge 8, 3) := by decide +kernel
theorem dX8_run_178 : decode cX8_run 178 = .ok (.iload 8, 2) := by decide +kernel
theorem dX8_run_180 : decode cX8_run 180 = .ok (.goto 5, 3) := by decide +kernel
theorem dX8_run_183 : decode cX8_run 183 = .ok (.iload 6, 2) := by decide +kernel
theorem dX8_run_185 : decode cX8_run 185 = .ok (.istore 6, 2) := by decide +kernel
theorem dX8_run_187 : decode cX8_run 187 = .ok (.iinc 7 1, 3) := by decide +kernel
theorem dX8_run_190 : decode cX8_run 190 = .ok (.goto (-91), 3) := by decide +kernel
theorem dX8_run_193 : decode cX8_run 193 = .ok (.iload 6, 2) := by decide +kernel
theorem dX8_run_195 : decode cX8_run 195 = .ok (.istore 4, 2) := by decide +kernel
theorem dX8_run_197 : decode cX8_run 197 = .ok (.iinc 5 1, 3) := by decide +kernel
theorem dX8_run_200 : decode cX8_run 200 = .ok (.goto (-129), 3) := by decide +kernel
theorem dX8_run_203 : decode cX8_run 203 = .ok (.aload_n 0, 1) := by decide +kernel
theorem dX8_run_204 : decode cX8_run 204 = .ok (.aload_n 0, 1) := by decide +kernel
theorem dX8_run_205 : decode cX8_run 205 = .ok (.getfield 59, 3) := by decide +kernel
theorem dX8_run_208 : decode cX8_run 208 = .ok (.iload 4, 2) := by decide +kernel
theorem dX8_run_210 : decode cX8_run 210 = .ok (.iaload, 1) := by decide +kernel
theorem dX8_run_211 : decode cX8_run 211 = .ok (.aload_n 0, 1) := by decide +kernel
theorem dX8_run_212 : decode cX8_run 212 = .ok (.getfield 50, 3) := by decide +kernel
theorem dX8_run_215 : decode cX8_run 215 = .ok (.invokevirtual 188, 3) := by decide +kernel
theorem dX8_run_218 : decode cX8_run 218 = .ok (.aload_n 0, 1) := by decide +kernel
theorem dX8_run_219 : decode cX8_run 219 = .ok (.getfield 50, 3) := by decide +kernel
theorem dX8_run_222 : decode cX8_run 222 = .ok (.iload_n 3, 1) := by decide +kernel
theorem dX8_run_223 : decode cX8_run 223 = .ok (.iaload, 1) := by decide +kernel
theorem dX8_run_224 : decode cX8_run 224 = .ok (.ireturn, 1) := by decide +kernel
theorem hl_yX8_run : (yX8_run.cls ≠ "java/lang/invoke/MethodHandle" ∧ yX8_run.cls ≠ "java/lang/invoke/VarHandle") ∧ (parseMethodDescriptor yX8_run.desc).map (fun d => d.parameters.length) = some 3 := by decide +kernel
set_option maxRecDepth 20000 in
set_option maxHeartbeats 4000000 in
theorem c_X8_run {l : Launch} {G : Gt} {n0 : Nat} {mi : Nat → Nat → Int} {mr : Nat → Nat → Nat} {L : Lws} {set : Int} {H : V5} {o : Int} (hA : AV L set H) (hV : MV L set H o mi) {z x y : Int} (hz : rg z) (hx : rg x) (hy : rg y) : Ci l yX8_run cX8_run 9 .int 5 G n0 [.ref (n0 + 473), .int (jI z), .int (jI x), .int (jI y)] mi mr (fun r9 mi9 mr9 => ((¬ (1 ≤ z ∧ z ≤ 8) ∧ r9 = -2 ∧ MV L set H o mi9) ∨ ((1 ≤ z ∧ z ≤ 8) ∧ ¬ (0 ≤ y ∧ y < L.1) ∧ r9 = -1 ∧ MV L set H o mi9) ∨ ((1 ≤ z ∧ z ≤ 8) ∧ (0 ≤ y ∧ y < L.1) ∧ RUP L set z x y r9 ∧ MV L set H o mi9)) ∧ (∀ a, a < 473 → mi9 a = mi a) ∧ mr = mr9) := by
  refine Ct_of (by decide +kernel) (by intro v hv; simp at hv; rcases hv with rfl | rfl | rfl | rfl <;> rfl) (Nat.le_of_ble_eq_true rfl) ?_
  intro p e s m args below meth c9 X hr hname
  show WW _ _ _ _ _ _ _ _ _ _ _ _ _ _ _ _ _ _ _ [some (.ref (n0 + 473)), some (.int (jI z)), some (.int (jI x)), some (.int (jI y)), none, none, none, none, none] _
  refine w_aload_n X dX8_run_0 rfl ?_
  refine w_iconst X dX8_run_1 ?_
  refine w_put X (by decide) (σ_473 G n0 _ _) rfl gW_X8 tyX8 tyX8_ok nmX8 0 (by decide) gF_X8_73 rfl rfl rfl (Nat.le_of_ble_eq_true rfl) dX8_run_2 (WW.eqf (sp_473_0 _) ?_)
  have hV1 := MV_t hV
  have hfr0 : ∀ a, a < 473 → up2 mi 473 0 0 a = mi a := fun a ha => up2_k _ _ _ _ (by omega)
  generalize up2 mi 473 0 0 = m0 at *
  obtain ⟨hM, hset, hH, hS⟩ := id hV1
  have hM1 := hM.1
  have hM2 := hM.2.1
  have hM3 := hM.2.2.1
  have hsc : 1 ≤ m0 473 1 ∧ m0 473 1 ≤ 5 := by rw [hM1]; exact hA.1.1.1
  have hrc : 0 ≤ m0 473 3 ∧ m0 473 3 ≤ 12 := by rw [hM2]; exact hA.1.2.1
  have hset2 := hA.2.1
  refine w_iload_n X dX8_run_5 rfl ?_
  refine w_i2l X dX8_run_6 ?_
  refine w_lconst X dX8_run_7 1 rfl ?_
  refine w_ldc2 X (z := 8) gK_X8_200 rfl dX8_run_8 ?_
  refine s_callSi X _ (c_X8_in (l := l) (G := G) (n0 := n0) (by first | assumption | (refine ⟨?_, ?_⟩ <;> omega)) (by first | assumption | (refine ⟨?_, ?_⟩ <;> omega)) (by first | assumption | (refine ⟨?_, ?_⟩ <;> omega))) gM_X8_76 gT_yX8_in gN_X8 gC_yX8_in dX8_run_11 hl_yX8_in ⟨Nat.le_of_ble_eq_true rfl, Nat.le_of_ble_eq_true rfl⟩ (Nat.le_of_ble_eq_true rfl) rfl (fun r1 mi1 mr1 h1 => ?_)
  obtain ⟨rfl, rfl, h1⟩ := h1
  refine w_if_ne X 20 dX8_run_14 (by decide) (fun c14_1 => ?_) (fun c14_1 => ?_)
  ·
    refine w_aload_n X dX8_run_20 rfl ?_
    refine w_iload_n X dX8_run_21 rfl ?_
    refine s_callVi X _ (c_X8_noState (l := l) (G := G) (n0 := n0) hsc (by first | assumption | (refine ⟨?_, ?_⟩ <;> omega))) gM_X8_92 gI_yX8_noState gS_yX8_noState gN_X8 gC_yX8_noState (by decide) (σ_473 G n0 _ _) rfl dX8_run_22 hl_yX8_noState ⟨Nat.le_of_ble_eq_true rfl, Nat.le_of_ble_eq_true rfl⟩ (Nat.le_of_ble_eq_true rfl) rfl (fun r2 mi2 mr2 h2 => ?_)
    obtain ⟨rfl, rfl, h2⟩ := h2
    refine w_if_eq X 30 dX8_run_25 (by decide) (fun c25_2 => ?_) (fun c25_2 => ?_)
    ·
      have hz8 : 1 ≤ z ∧ z ≤ 8 := by omega
      refine w_aload_n X dX8_run_30 rfl ?_
      refine w_iload_n X dX8_run_31 rfl ?_
      refine s_callVv X _ (c_X8_goThrough (l := l) (G := G) (n0 := n0) hA.1 hM hset hset2 hz8) gM_X8_202 gI_yX8_goThrough gS_yX8_goThrough gN_X8 gC_yX8_goThrough (by decide) (σ_473 G n0 _ _) rfl dX8_run_32 hl_yX8_goThrough ⟨Nat.le_of_ble_eq_true rfl, Nat.le_of_ble_eq_true rfl⟩ (Nat.le_of_ble_eq_true rfl) rfl (fun mi3 mr3 h3 => ?_)
      obtain ⟨⟨k, hk23, hgt⟩, hfg, rfl⟩ := h3
      have hk95 := Inc_l hgt.1.1 (by omega)
      refine w_aload_n X dX8_run_35 rfl ?_
      refine s_callVi X _ (c_X8_nearest (l := l) (G := G) (n0 := n0) (set := set) (z := z) (k := k) hA.1.1.1 (by rw [hfg.2 2 (by decide)]; exact hset) hset2 hk95 hk23 hgt) gM_X8_206 gI_yX8_nearest gS_yX8_nearest gN_X8 gC_yX8_nearest (by decide) (σ_473 G n0 _ _) rfl dX8_run_36 hl_yX8_nearest ⟨Nat.le_of_ble_eq_true rfl, Nat.le_of_ble_eq_true rfl⟩ (Nat.le_of_ble_eq_true rfl) rfl (fun r4 mi4 mr4 h4 => ?_)
      obtain ⟨hnp, hmn, rfl⟩ := h4
      have hnb := NPn_b hnp
      have hg2 : GT L set z k mi4 := GT_fr hgt (fun a h1 h2 => hmn a (by omega))
      have hV2 : MV L set H o mi4 := MV_g (MV_g hV1 hfg) ⟨fun a h1 h2 => hmn a (by omega), fun j hj => by rw [hmn 473 (by decide)]⟩
      have hfr2 : ∀ a, a < 473 → mi4 a = mi a := fun a ha => by rw [hmn a (by omega), hfg.1 a (by omega) (by omega)]; exact hfr0 a ha
      have hsn : SNP L set z (if r4 = -9 then -9 else mi4 490 r4.toNat) := ⟨k, mi4, r4, hg2, hnp, rfl⟩
      generalize mi4 = m2 at *
      generalize r4 = near at *
      refine w_ist9_4 X dX8_run_39 ?_
      refine w_iload X dX8_run_41 rfl ?_
      refine w_bipush X dX8_run_43 rfl ?_
      refine w_icmp_eq X 65 dX8_run_45 (by decide) (fun c45_3 => ?_) (fun c45_3 => ?_)
      ·
        refine w_bipush X dX8_run_65 rfl ?_
        refine s_iret X hr dX8_run_67 ?_
        first
        | exact ⟨Or.inr (Or.inr ⟨hz8, by omega, ⟨-9, by rw [if_pos (by omega)] at hsn; exact hsn, Or.inl ⟨rfl, by omega⟩⟩, hV2⟩), hfr2, rfl⟩
        | exact ⟨Or.inr (Or.inr ⟨hz8, by omega, ⟨_, hsn, Or.inl ⟨rfl, by omega⟩⟩, hV2⟩), hfr2, rfl⟩
      ·
        obtain ⟨b, rfl⟩ := Int.eq_ofNat_of_zero_le (show 0 ≤ near by omega)
        rw [if_neg (by omega), Int.toNat_natCast] at hsn
        obtain ⟨hat0, hf0, hf9⟩ := NPn_0 hg2 hnp
        refine w_iload_n X dX8_run_48 rfl ?_
        refine w_i2l X dX8_run_49 ?_
        refine w_lconst X dX8_run_50 0 rfl ?_
        refine w_aload_n X dX8_run_51 rfl ?_
        refine w_get X (by decide) (σ_473 G n0 _ _) rfl gW_X8 26 (by decide) gF_X8_66 rfl dX8_run_52 ?_
        refine w_iload X dX8_run_55 rfl ?_
        refine s_iald X (b) (by decide) (fun _ => σ_m500 G n0 _ _ (by decide)) dX8_run_57 ?_
        refine w_i2l X dX8_run_58 ?_
        refine s_callSi X _ (c_X8_in (l := l) (G := G) (n0 := n0) (by first | assumption | (refine ⟨?_, ?_⟩ <;> omega)) (by first | assumption | (refine ⟨?_, ?_⟩ <;> omega)) (by first | assumption | (refine ⟨?_, ?_⟩ <;> omega))) gM_X8_76 gT_yX8_in gN_X8 gC_yX8_in dX8_run_59 hl_yX8_in ⟨Nat.le_of_ble_eq_true rfl, Nat.le_of_ble_eq_true rfl⟩ (Nat.le_of_ble_eq_true rfl) rfl (fun r5 mi5 mr5 h5 => ?_)
        obtain ⟨rfl, rfl, h5⟩ := h5
        refine w_if_ne X 68 dX8_run_62 (by decide) (fun c62_4 => ?_) (fun c62_4 => ?_)
        ·
          have hxr : 0 ≤ x ∧ x ≤ m2 490 b := by omega
          have hyr : 0 ≤ y ∧ y < L.1 := by omega
          have hsc5 := hA.1.1.1
          refine w_iconst X dX8_run_68 ?_
          refine w_ist9_5 X dX8_run_69 ?_
          have xloop : ∀ (n : Nat) (m3 : Nat → Nat → Int) (a xx : Nat) (x6 x7 x8 : Option Value), ((xx : Int) ≤ x) → (∀ c, c ≠ 485 → c ≠ 486 → c ≠ 487 → m3 c = m2 c) → (ATP L set z (m2 490 b) k m3 xx a) → n = x.toNat - xx → WSi p l e s m args below meth c9 5 (fun r9 mi9 mr9 => ((¬ (1 ≤ z ∧ z ≤ 8) ∧ r9 = -2 ∧ MV L set H o mi9) ∨ ((1 ≤ z ∧ z ≤ 8) ∧ ¬ (0 ≤ y ∧ y < L.1) ∧ r9 = -1 ∧ MV L set H o mi9) ∨ ((1 ≤ z ∧ z ≤ 8) ∧ (0 ≤ y ∧ y < L.1) ∧ RUP L set z x y r9 ∧ MV L set H o mi9)) ∧ (∀ a, a < 473 → mi9 a = mi a) ∧ mr = mr9) G n0 9 m3 mr 71 [some (.ref (n0 + 473)), some (.int (jI z)), some (.int (jI x)), some (.int (jI y)), some (.int (jI (a : Int))), some (.int (jI (xx : Int))), x6, x7, x8] [] := by
            intro n
            induction n using Nat.strongRecOn with
            | ind n ih_xloop =>
              intro m3 a xx x6 x7 x8 hxx hm3 hat hn
              refine w_iload X dX8_run_71 rfl ?_
              refine w_iload_n X dX8_run_73 rfl ?_
              refine w_icmp_ge X 203 dX8_run_74 (by decide) (fun c74_5 => ?_) (fun c74_5 => ?_)
              ·
                have hg3 : GT L set z k m3 := GT_fr hg2 (fun a h1 h2 => hm3 a (by omega) (by omega) (by omega))
                have hak := hat.1
                have hxc := (hg3.2.1 a hat.1).1
                obtain ⟨q5, hq5⟩ := Int.eq_ofNat_of_zero_le hyr.1
                refine w_aload_n X dX8_run_203 rfl ?_
                refine w_aload_n X dX8_run_204 rfl ?_
                refine w_get X (by decide) (σ_473 G n0 _ _) rfl gW_X8 24 (by decide) gF_X8_59 rfl dX8_run_205 ?_
                refine w_iload X dX8_run_208 rfl ?_
                refine s_iald X (a) (by decide) (fun _ => σ_m500 G n0 _ _ (by decide)) dX8_run_210 ?_
                refine w_aload_n X dX8_run_211 rfl ?_
                refine w_get X (by decide) (σ_473 G n0 _ _) rfl gW_X8 20 (by decide) gF_X8_50 rfl dX8_run_212 ?_
                refine s_callVv X _ (c_X8_crowdOf (l := l) (G := G) (n0 := n0) IA_485 (z := m3 488 a) hxc) gM_X8_188 gI_yX8_crowdOf gS_yX8_crowdOf gN_X8 gC_yX8_crowdOf (by decide) (σ_473 G n0 _ _) rfl dX8_run_215 hl_yX8_crowdOf ⟨Nat.le_of_ble_eq_true rfl, Nat.le_of_ble_eq_true rfl⟩ (Nat.le_of_ble_eq_true rfl) rfl (fun mi6 mr6 h6 => ?_)
                obtain ⟨hOc, hPc, rfl⟩ := h6
                refine w_aload_n X dX8_run_218 rfl ?_
                refine w_get X (by decide) (σ_473 G n0 _ _) rfl gW_X8 20 (by decide) gF_X8_50 rfl dX8_run_219 ?_
                refine w_iload_n X dX8_run_222 rfl ?_
                refine s_iald X (q5) (by decide) (fun _ => σ_m5 G n0 _ _ (by decide)) dX8_run_223 ?_
                refine s_iret X hr dX8_run_224 ?_
                refine ⟨Or.inr (Or.inr ⟨hz8, by omega, ⟨_, hsn, Or.inr ⟨by omega, Pm m3 a, ?_, ?_⟩⟩, ?_⟩), fun a ha => ?_, rfl⟩
                · rw [show x.toNat = xx by omega]; exact hat.2.2
                · rw [show y.toNat = q5 by omega, hOc q5 (by omega)]; exact (T9_j (by omega)).symm
                · exact MV_fr hV2 (fun j _ _ _ => by rw [hPc 473 (by decide), hm3 473 (by omega) (by omega) (by omega)]) (fun a h1 h2 => by rw [hPc a (by omega), hm3 a (by omega) (by omega) (by omega)])
                · rw [hPc a (by omega), hm3 a (by omega) (by omega) (by omega)]; exact hfr2 a ha
              ·
                have hg3 : GT L set z k m3 := GT_fr hg2 (fun a h1 h2 => hm3 a (by omega) (by omega) (by omega))
                have hak := hat.1
                have hxc := (hg3.2.1 a hat.1).1
                refine w_bipush X dX8_run_77 rfl ?_
                refine w_ist9_6 X dX8_run_79 ?_
                refine w_aload_n X dX8_run_81 rfl ?_
                refine w_aload_n X dX8_run_82 rfl ?_
                refine w_get X (by decide) (σ_473 G n0 _ _) rfl gW_X8 24 (by decide) gF_X8_59 rfl dX8_run_83 ?_
                refine w_iload X dX8_run_86 rfl ?_
                refine s_iald X (a) (by decide) (fun _ => σ_m500 G n0 _ _ (by decide)) dX8_run_88 ?_
                refine w_aload_n X dX8_run_89 rfl ?_
                refine w_get X (by decide) (σ_473 G n0 _ _) rfl gW_X8 20 (by decide) gF_X8_50 rfl dX8_run_90 ?_
                refine s_callVv X _ (c_X8_crowdOf (l := l) (G := G) (n0 := n0) IA_485 (z := m3 488 a) hxc) gM_X8_188 gI_yX8_crowdOf gS_yX8_crowdOf gN_X8 gC_yX8_crowdOf (by decide) (σ_473 G n0 _ _) rfl dX8_run_93 hl_yX8_crowdOf ⟨Nat.le_of_ble_eq_true rfl, Nat.le_of_ble_eq_true rfl⟩ (Nat.le_of_ble_eq_true rfl) rfl (fun mi6 mr6 h6 => ?_)
                obtain ⟨hOc, hPc, rfl⟩ := h6
                refine w_iconst X dX8_run_96 ?_
                refine w_ist9_7 X dX8_run_97 ?_
                have kloop : ∀ (n : Nat) (m4 : Nat → Nat → Int) (j : Nat) (best : Int) (x8 : Option Value), ((j : Int) ≤ L.2.1) → (∀ c, c ≠ 485 → c ≠ 486 → c ≠ 487 → m4 c = m2 c) → (∀ i : Nat, i < 5 → m4 485 i = dg9 (m4 488 a) i) → (BSn L k m4 a j best) → n = 12 - j → WSi p l e s m args below meth c9 5 (fun r9 mi9 mr9 => ((¬ (1 ≤ z ∧ z ≤ 8) ∧ r9 = -2 ∧ MV L set H o mi9) ∨ ((1 ≤ z ∧ z ≤ 8) ∧ ¬ (0 ≤ y ∧ y < L.1) ∧ r9 = -1 ∧ MV L set H o mi9) ∨ ((1 ≤ z ∧ z ≤ 8) ∧ (0 ≤ y ∧ y < L.1) ∧ RUP L set z x y r9 ∧ MV L set H o mi9)) ∧ (∀ a, a < 473 → mi9 a = mi a) ∧ mr = mr9) G n0 9 m4 mr 99 [some (.ref (n0 + 473)), some (.int (jI z)), some (.int (jI x)), some (.int (jI y)), some (.int (jI (a : Int))), some (.int (jI (xx : Int))), some (.int (jI best)), some (.int (jI (j : Int))), x8] [] := by
                  intro n
                  induction n using Nat.strongRecOn with
                  | ind n ih_kloop =>
                    intro m4 j best x8 hj hm4 hone hbs hn
                    have hbb := BSn_b hbs
                    have hV4 : MV L set H o m4 := MV_fr hV2 (fun i _ _ _ => by rw [hm4 473 (by decide) (by decide) (by decide)]) (fun c h1 h2 => hm4 c (by omega) (by omega) (by omega))
                    have hM4 := hV4.1
                    have h43 : m4 473 3 = L.2.1 := hM4.2.1
                    have hg4 : GT L set z k m4 := GT_fr hg2 (fun c h1 h2 => hm4 c (by omega) (by omega) (by omega))
                    have h40 : m4 490 a = m3 490 a := by rw [hm4 490 (by decide) (by decide) (by decide), hm3 490 (by decide) (by decide) (by decide)]
                    have hPa : Pm m4 a = Pm m3 a := by unfold Pm; rw [hm4 488 (by decide) (by decide) (by decide), hm3 488 (by decide) (by decide) (by decide)]
                    have hva4 : ∀ i : Nat, i < 5 → 0 ≤ m4 485 i ∧ m4 485 i ≤ 1000 := fun i hi => by rw [hone i hi]; have := dg9_b (m4 488 a) i; omega
                    have hPj : ∀ i : Nat, i < 5 → m4 485 i = F5 (Pm m4 a) i := fun i hi => by rw [hone i hi]; exact (T9_j hi).symm
                    have hrc12 := hA.1.2.1
                    refine w_iload X dX8_run_99 rfl ?_
                    refine w_aload_n X dX8_run_101 rfl ?_
                    refine w_get X (by decide) (σ_473 G n0 _ _) rfl gW_X8 3 (by decide) gF_X8_80 rfl dX8_run_102 ?_
                    rw [h43]
                    refine w_icmp_ge X 193 dX8_run_105 (by decide) (fun c105_6 => ?_) (fun c105_6 => ?_)
                    ·
                      refine w_iload X dX8_run_193 rfl ?_
                      refine w_ist9_4 X dX8_run_195 ?_
                      refine w_iinc9_5 X dX8_run_197 ?_
                      refine w_goto X 71 dX8_run_200 (by decide) ?_
                      obtain ⟨b9, hb9, hbq, hb0, hb1⟩ := Rn_y (f := m2 490 b) (x := xx) hA.1.1 (GT_fr hg2 (m' := m4) (fun a h1 h2 => hm4 a (by omega) (by omega) (by omega))) hat.1 (by omega) (by rw [h40]; exact hat.2.1) (by omega) (by rw [hPa]; exact hat.2.2) (by rw [show L.2.1.toNat = j by omega]; exact hbs)
                      subst hbq
                      exact ih_xloop _ (by omega) m4 b9 (xx + 1) _ _ _ (by omega) hm4 ⟨hb9, hb0, hb1⟩ rfl
                    ·
                      refine w_aload_n X dX8_run_108 rfl ?_
                      refine w_aload_n X dX8_run_109 rfl ?_
                      refine w_get X (by decide) (σ_473 G n0 _ _) rfl gW_X8 20 (by decide) gF_X8_50 rfl dX8_run_110 ?_
                      refine w_iload X dX8_run_113 rfl ?_
                      refine s_callVi X _ (c_X8_leaves (l := l) (G := G) (n0 := n0) hA.1 hM4 IA_485 (by decide) hva4 (k := j) (by omega)) gM_X8_106 gI_yX8_leaves gS_yX8_leaves gN_X8 gC_yX8_leaves (by decide) (σ_473 G n0 _ _) rfl dX8_run_115 hl_yX8_leaves ⟨Nat.le_of_ble_eq_true rfl, Nat.le_of_ble_eq_true rfl⟩ (Nat.le_of_ble_eq_true rfl) rfl (fun r7 mi7 mr7 h7 => ?_)
                      obtain ⟨hgl, hFl, hml, rfl⟩ := h7
                      have bgl := flg_b hgl
                      have hfc := fit_c (ρ := L.2.2.2.1 j) (f := m4 485) (g := F5 (Pm m4 a)) hPj
                      refine w_if_eq X 187 dX8_run_118 (by decide) (fun c118_7 => ?_) (fun c118_7 => ?_)
                      ·
                        refine w_iinc9_7 X dX8_run_187 ?_
                        refine w_goto X 99 dX8_run_190 (by decide) ?_
                        exact ih_kloop _ (by omega) _ (j + 1) best _ (by omega) (fun c h1 h2 h3 => (hml c h2).trans (hm4 c h1 h2 h3)) (fun i hi => by rw [hml 485 (by decide), hml 488 (by decide)]; exact hone i hi) (BSn_fr (BSn_n hbs (fun u hu h1 _ => absurd (hfc.mpr h1) (flg_0 hgl (by omega)))) (fun c h1 h2 => hml c (by omega))) rfl
                      ·
                        have hM5 : ML L mi7 := ML_fr hM4 (by rw [hml 473 (by decide)]) (by rw [hml 473 (by decide)]) (by rw [hml 473 (by decide)]) (fun b h1 h2 => hml b (by omega))
                        have hva5 : ∀ i : Nat, i < 5 → 0 ≤ mi7 485 i ∧ mi7 485 i ≤ 1000 := fun i hi => by rw [hml 485 (by decide)]; exact hva4 i hi
                        have hfit5 : fit (L.2.2.2.1 j) (mi7 485) := by rw [hml 485 (by decide)]; exact flg_1 hgl (by omega)
                        have hfitP : fit (L.2.2.2.1 j) (F5 (Pm m4 a)) := hfc.mp (flg_1 hgl (by omega))
                        refine w_aload_n X dX8_run_121 rfl ?_
                        refine w_aload_n X dX8_run_122 rfl ?_
                        refine w_get X (by decide) (σ_473 G n0 _ _) rfl gW_X8 20 (by decide) gF_X8_50 rfl dX8_run_123 ?_
                        refine w_iload X dX8_run_126 rfl ?_
                        refine s_callVv X _ (c_X8_goBy (l := l) (G := G) (n0 := n0) hA.1 hM5 IA_485 (by decide) hva5 (k := j) (by omega) (by decide) hfit5) gM_X8_120 gI_yX8_goBy gS_yX8_goBy gN_X8 gC_yX8_goBy (by decide) (σ_473 G n0 _ _) rfl dX8_run_128 hl_yX8_goBy ⟨Nat.le_of_ble_eq_true rfl, Nat.le_of_ble_eq_true rfl⟩ (Nat.le_of_ble_eq_true rfl) rfl (fun mi8 mr8 h8 => ?_)
                        obtain ⟨hF6, hm6, rfl⟩ := h8
                        have h6f : ∀ c, c ≠ 486 → c ≠ 487 → mi8 c = m4 c := fun c h1 h2 => (hm6 c h1 h2).trans (hml c h1)
                        have hal : ∀ i : Nat, i < 5 → mi8 487 i = F5 (T5 (led (L.2.2.2.1 j) (F5 (Pm m4 a)))) i := fun i hi => by rw [hF6 i hi, F5_T5 _ hi]; exact led_c (fun c hc => by rw [hml 485 (by decide)]; exact hPj c hc) i
                        generalize mi8 = m6 at *
                        have hcrW := led_cro (hA.1.1.2.1 j (by omega)) (hg4.1.1.1 a hak) hfitP
                        obtain ⟨w, hwk, hew⟩ := hg4.1.2 _ hcrW
                        have hcd := dg_cd (v := m6 487) (fun i hi => by rw [hal i hi]; exact Cro_8 hcrW hz8.2 i hi)
                        have hT9 : T9 (cd9 (m6 487)) = Pm m4 w := by rw [hcd.2, hew, T5_c hal]; rfl
                        have hwr := hg4.2.1 w hwk
                        have hce : cd9 (m6 487) = m4 488 w := by
                          have q1 : cd9 (dg9 (cd9 (m6 487))) = cd9 (m6 487) := cd9_dg hcd.1
                          have q2 : cd9 (dg9 (m4 488 w)) = m4 488 w := cd9_dg hwr.1
                          rw [← q1, ← q2]
                          have q3 : T9 (cd9 (m6 487)) = T9 (m4 488 w) := hT9
                          have q4 : ∀ i : Nat, i < 5 → dg9 (cd9 (m6 487)) i = dg9 (m4 488 w) i := fun i hi => by rw [← T9_j hi, ← T9_j hi, q3]
                          unfold cd9
                          show _ * 6561 + _ * 729 + _ * 81 + _ * 9 + _ = _ * 6561 + _ * 729 + _ * 81 + _ * 9 + _
                          have := q4 0 (by decide); have := q4 1 (by decide); have := q4 2 (by decide); have := q4 3 (by decide); have := q4 4 (by decide)
                          unfold cd9 at *
                          omega
                        have gw0 := (hg4.2.2.2 w hwk).1
                        have ga0 := (hg4.2.2.2 a hak).1
                        have hwk500 : w < 500 := by omega
                        have hak500 : a < 500 := by omega
                        have hm6b : ∀ c, c ≠ 485 → c ≠ 486 → c ≠ 487 → m6 c = m2 c := fun c h1 h2 h3 => (h6f c h2 h3).trans (hm4 c h1 h2 h3)
                        have hone6 : ∀ i : Nat, i < 5 → m6 485 i = dg9 (m6 488 a) i := fun i hi => by rw [h6f 485 (by decide) (by decide), h6f 488 (by decide) (by decide)]; exact hone i hi
                        have hbs6 : BSn L k m6 a j best := BSn_fr hbs (fun c h1 h2 => h6f c (by omega) (by omega))
                        have hP6 : ∀ i, Pm m6 i = Pm m4 i := fun i => by unfold Pm; rw [h6f 488 (by decide) (by decide)]
                        have h60 : m6 490 = m4 490 := h6f 490 (by decide) (by decide)
                        have hwu : ∀ u : Nat, u < k → Pm m6 u = T5 (led (L.2.2.2.1 j) (F5 (Pm m6 a))) → u = w := fun u hu e => Inc_i hg4.1.1 hu hwk (by rw [← hP6 u, e, hP6 a, hew])
                        refine w_aload_n X dX8_run_131 rfl ?_
                        refine w_get X (by decide) (σ_473 G n0 _ _) rfl gW_X8 25 (by decide) gF_X8_63 rfl dX8_run_132 ?_
                        refine w_aload_n X dX8_run_135 rfl ?_
                        refine w_get X (by decide) (σ_473 G n0 _ _) rfl gW_X8 22 (by decide) gF_X8_56 rfl dX8_run_136 ?_
                        refine s_callSi X _ (c_X8_codeOf (l := l) (G := G) (n0 := n0) IA_487) gM_X8_196 gT_yX8_codeOf gN_X8 gC_yX8_codeOf dX8_run_139 hl_yX8_codeOf ⟨Nat.le_of_ble_eq_true rfl, Nat.le_of_ble_eq_true rfl⟩ (Nat.le_of_ble_eq_true rfl) rfl (fun r9 mi9 mr9 h9 => ?_)
                        obtain ⟨rfl, rfl, h9⟩ := h9
                        rw [h9, hce]
                        refine s_iald X _ (by decide) (fun _ => σ_489 G n0 _ _) dX8_run_142 ?_ (hz := hwr.1) (hj := rfl)
                        rw [show m6 489 (m4 488 w).toNat = (w : Int) by rw [h6f 489 (by decide) (by decide)]; exact hwr.2]
                        refine w_ist9_8 X dX8_run_143 ?_
                        refine w_aload_n X dX8_run_145 rfl ?_
                        refine w_get X (by decide) (σ_473 G n0 _ _) rfl gW_X8 26 (by decide) gF_X8_66 rfl dX8_run_146 ?_
                        refine w_iload X dX8_run_149 rfl ?_
                        refine s_iald X (w) (by decide) (fun _ => σ_m500 G n0 _ _ (by decide)) dX8_run_151 ?_
                        rw [h60]
                        refine w_aload_n X dX8_run_152 rfl ?_
                        refine w_get X (by decide) (σ_473 G n0 _ _) rfl gW_X8 26 (by decide) gF_X8_66 rfl dX8_run_153 ?_
                        refine w_iload X dX8_run_156 rfl ?_
                        refine s_iald X (a) (by decide) (fun _ => σ_m500 G n0 _ _ (by decide)) dX8_run_158 ?_
                        rw [h60]
                        refine w_iconst X dX8_run_159 ?_
                        refine w_isub X dX8_run_160 ?_
                        refine w_icmp_ne X 183 dX8_run_161 (by decide) (fun c161_8 => ?_) (fun c161_8 => ?_)
                        ·
                          refine w_iload X dX8_run_183 rfl ?_
                          refine w_ist9_6 X dX8_run_185 ?_
                          refine w_iinc9_7 X dX8_run_187 ?_
                          refine w_goto X 99 dX8_run_190 (by decide) ?_
                          exact ih_kloop _ (by omega) _ (j + 1) best _ (by omega) hm6b hone6 (BSn_n hbs6 (fun u hu h1 h2 => by have e := hwu u hu h2; subst e; exact Or.inl (by rw [h60]; omega))) rfl
                        ·
                          refine w_iload X dX8_run_164 rfl ?_
                          refine w_bipush X dX8_run_166 rfl ?_
                          refine w_icmp_eq X 178 dX8_run_168 (by decide) (fun c168_9 => ?_) (fun c168_9 => ?_)
                          ·
                            refine w_iload X dX8_run_178 rfl ?_
                            refine w_goto X 185 dX8_run_180 (by decide) ?_
                            refine w_ist9_6 X dX8_run_185 ?_
                            refine w_iinc9_7 X dX8_run_187 ?_
                            refine w_goto X 99 dX8_run_190 (by decide) ?_
                            exact ih_kloop _ (by omega) _ (j + 1) (w : Int) _ (by omega) hm6b hone6 (BSn_t (set := set) (n := z) (by have q := GT_fr hg4 (m' := m6) (fun c h1 h2 => h6f c (by omega) (by omega)); exact q.1.1) hbs6 hwk (by rw [hP6]; exact hfitP) (by rw [hP6, hP6]; exact hew) (by rw [h60]; omega) (by omega)) rfl
                          ·
                            refine w_iload X dX8_run_171 rfl ?_
                            refine w_iload X dX8_run_173 rfl ?_
                            refine w_icmp_ge X 183 dX8_run_175 (by decide) (fun c175_10 => ?_) (fun c175_10 => ?_)
                            ·
                              refine w_iload X dX8_run_183 rfl ?_
                              refine w_ist9_6 X dX8_run_185 ?_
                              refine w_iinc9_7 X dX8_run_187 ?_
                              refine w_goto X 99 dX8_run_190 (by decide) ?_
                              exact ih_kloop _ (by omega) _ (j + 1) best _ (by omega) hm6b hone6 (BSn_n hbs6 (fun u hu h1 h2 => by have e := hwu u hu h2; subst e; exact Or.inr (by omega))) rfl
                            ·
                              refine w_iload X dX8_run_178 rfl ?_
                              refine w_goto X 185 dX8_run_180 (by decide) ?_
                              refine w_ist9_6 X dX8_run_185 ?_
                              refine w_iinc9_7 X dX8_run_187 ?_
                              refine w_goto X 99 dX8_run_190 (by decide) ?_
                              exact ih_kloop _ (by omega) _ (j + 1) (w : Int) _ (by omega) hm6b hone6 (BSn_t (set := set) (n := z) (by have q := GT_fr hg4 (m' := m6) (fun c h1 h2 => h6f c (by omega) (by omega)); exact q.1.1) hbs6 hwk (by rw [hP6]; exact hfitP) (by rw [hP6, hP6]; exact hew) (by rw [h60]; omega) (by omega)) rfl
                exact kloop _ _ 0 (-9) _ (by omega) (fun c h1 h2 h3 => (hPc c h1).trans (hm3 c h1 h2 h3)) (fun i hi => by rw [hPc 488 (by decide)]; exact hOc i hi) (Or.inl ⟨rfl, fun i hi => absurd hi (by omega)⟩) rfl
          exact xloop _ m2 b 0 _ _ _ (by omega) (fun _ _ _ _ => rfl) hat0 rfl
        ·
          refine w_bipush X dX8_run_65 rfl ?_
          refine s_iret X hr dX8_run_67 ?_
          first
          | exact ⟨Or.inr (Or.inr ⟨hz8, by omega, ⟨-9, by rw [if_pos (by omega)] at hsn; exact hsn, Or.inl ⟨rfl, by omega⟩⟩, hV2⟩), hfr2, rfl⟩
          | exact ⟨Or.inr (Or.inr ⟨hz8, by omega, ⟨_, hsn, Or.inl ⟨rfl, by omega⟩⟩, hV2⟩), hfr2, rfl⟩
    ·
      refine w_iconst X dX8_run_28 ?_
      refine s_iret X hr dX8_run_29 ?_
      exact ⟨Or.inr (Or.inl ⟨by omega, by omega, rfl, hV1⟩), hfr0, rfl⟩
  ·
    refine w_bipush X dX8_run_17 rfl ?_
    refine s_iret X hr dX8_run_19 ?_
    exact ⟨Or.inl ⟨by omega, rfl, hV1⟩, hfr0, rfl⟩
theorem dX8_doomedOf_0 : decode cX8_doomedOf 0 = .ok (.aload_n 0, 1) := by decide +kernel
theorem dX8_doomedOf_1 : decode cX8_doomedOf 1 = .ok (.iconst 0, 1) := by decide +kernel
theorem dX8_doomedOf_2 : decode cX8_doomedOf 2 = .ok (.putfield 73, 3) := by decide +kernel
theorem dX8_doomedOf_5 : decode cX8_doomedOf 5 = .ok (.iload_n 1, 1) := by decide +kernel
theorem dX8_doomedOf_6 : decode cX8_doomedOf 6 = .ok (.i2l, 1) := by decide +kernel
theorem dX8_doomedOf_7 : decode cX8_doomedOf 7 = .ok (.lconst 1, 1) := by decide +kernel
theorem dX8_doomedOf_8 : decode cX8_doomedOf 8 = .ok (.ldc2_w 200, 3) := by decide +kernel
theorem dX8_doomedOf_11 : decode cX8_doomedOf 11 = .ok (.invokestatic 76, 3) := by decide +kernel
theorem dX8_doomedOf_14 : decode cX8_doomedOf 14 = .ok (.ifCond .ne 6, 3) := by decide +kernel
theorem dX8_doomedOf_17 : decode cX8_doomedOf 17 = .ok (.bipush (-2), 2) := by decide +kernel
theorem dX8_doomedOf_19 : decode cX8_doomedOf 19 = .ok (.ireturn, 1) := by decide +kernel
theorem dX8_doomedOf_20 : decode cX8_doomedOf 20 = .ok (.aload_n 0, 1) := by decide +kernel
theorem dX8_doomedOf_21 : decode cX8_doomedOf 21 = .ok (.invokevirtual 138, 3) := by decide +kernel
theorem dX8_doomedOf_24 : decode cX8_doomedOf 24 = .ok (.ifCond .eq 8, 3) := by decide +kernel
theorem dX8_doomedOf_27 : decode cX8_doomedOf 27 = .ok (.aload_n 0, 1) := by decide +kernel
theorem dX8_doomedOf_28 : decode cX8_doomedOf 28 = .ok (.invokevirtual 138, 3) := by decide +kernel
theorem dX8_doomedOf_31 : decode cX8_doomedOf 31 = .ok (.ireturn, 1) := by decide +kernel
theorem dX8_doomedOf_32 : decode cX8_doomedOf 32 = .ok (.aload_n 0, 1) := by decide +kernel
theorem dX8_doomedOf_33 : decode cX8_doomedOf 33 = .ok (.iload_n 1, 1) := by decide +kernel
theorem dX8_doomedOf_34 : decode cX8_doomedOf 34 = .ok (.invokevirtual 202, 3) := by decide +kernel
theorem dX8_doomedOf_37 : decode cX8_doomedOf 37 = .ok (.iconst 0, 1) := by decide +kernel
theorem dX8_doomedOf_38 : decode cX8_doomedOf 38 = .ok (.istore_n 2, 1) := by decide +kernel
theorem dX8_doomedOf_39 : decode cX8_doomedOf 39 = .ok (.iconst 0, 1) := by decide +kernel
theorem dX8_doomedOf_40 : decode cX8_doomedOf 40 = .ok (.istore_n 3, 1) := by decide +kernel
theorem dX8_doomedOf_41 : decode cX8_doomedOf 41 = .ok (.iload_n 3, 1) := by decide +kernel
theorem dX8_doomedOf_42 : decode cX8_doomedOf 42 = .ok (.aload_n 0, 1) := by decide +kernel
theorem dX8_doomedOf_43 : decode cX8_doomedOf 43 = .ok (.getfield 185, 3) := by decide +kernel
theorem dX8_doomedOf_46 : decode cX8_doomedOf 46 = .ok (.if_icmp .ge 51, 3) := by decide +kernel
theorem dX8_doomedOf_49 : decode cX8_doomedOf 49 = .ok (.aload_n 0, 1) := by decide +kernel
theorem dX8_doomedOf_50 : decode cX8_doomedOf 50 = .ok (.aload_n 0, 1) := by decide +kernel
theorem dX8_doomedOf_51 : decode cX8_doomedOf 51 = .ok (.getfield 59, 3) := by decide +kernel
theorem dX8_doomedOf_54 : decode cX8_doomedOf 54 = .ok (.iload_n 3, 1) := by decide +kernel
theorem dX8_doomedOf_55 : decode cX8_doomedOf 55 = .ok (.iaload, 1) := by decide +kernel
theorem dX8_doomedOf_56 : decode cX8_doomedOf 56 = .ok (.aload_n 0, 1) := by decide +kernel
theorem dX8_doomedOf_57 : decode cX8_doomedOf 57 = .ok (.getfield 50, 3) := by decide +kernel
theorem dX8_doomedOf_60 : decode cX8_doomedOf 60 = .ok (.invokevirtual 188, 3) := by decide +kernel
theorem dX8_doomedOf_63 : decode cX8_doomedOf 63 = .ok (.iload_n 2, 1) := by decide +kernel
theorem dX8_doomedOf_64 : decode cX8_doomedOf 64 = .ok (.aload_n 0, 1) := by decide +kernel
theorem dX8_doomedOf_65 : decode cX8_doomedOf 65 = .ok (.getfield 69, 3) := by decide +kernel
theorem dX8_doomedOf_68 : decode cX8_doomedOf 68 = .ok (.iload_n 3, 1) := by decide +kernel
theorem dX8_doomedOf_69 : decode cX8_doomedOf 69 = .ok (.baload, 1) := by decide +kernel
theorem dX8_doomedOf_70 : decode cX8_doomedOf 70 = .ok (.ifCond .eq 18, 3) := by decide +kernel
theorem dX8_doomedOf_73 : decode cX8_doomedOf 73 = .ok (.aload_n 0, 1) := by decide +kernel
theorem dX8_doomedOf_74 : decode cX8_doomedOf 74 = .ok (.aload_n 0, 1) := by decide +kernel
theorem dX8_doomedOf_75 : decode cX8_doomedOf 75 = .ok (.getfield 50, 3) := by decide +kernel
theorem dX8_doomedOf_78 : decode cX8_doomedOf 78 = .ok (.invokevirtual 142, 3) := by decide +kernel
theorem dX8_doomedOf_81 : decode cX8_doomedOf 81 = .ok (.ifCond .eq 7, 3) := by decide +kernel
theorem dX8_doomedOf_84 : decode cX8_doomedOf 84 = .ok (.iconst 1, 1) := by decide +kernel
theorem dX8_doomedOf_85 : decode cX8_doomedOf 85 = .ok (.goto 4, 3) := by decide +kernel
theorem dX8_doomedOf_88 : decode cX8_doomedOf 88 = .ok (.iconst 0, 1) := by decide +kernel
theorem dX8_doomedOf_89 : decode cX8_doomedOf 89 = .ok (.iadd, 1) := by decide +kernel
theorem dX8_doomedOf_90 : decode cX8_doomedOf 90 = .ok (.istore_n 2, 1) := by decide +kernel
theorem dX8_doomedOf_91 : decode cX8_doomedOf 91 = .ok (.iinc 3 1, 3) := by decide +kernel
theorem dX8_doomedOf_94 : decode cX8_doomedOf 94 = .ok (.goto (-53), 3) := by decide +kernel
theorem dX8_doomedOf_97 : decode cX8_doomedOf 97 = .ok (.iload_n 2, 1) := by decide +kernel
theorem dX8_doomedOf_98 : decode cX8_doomedOf 98 = .ok (.ireturn, 1) := by decide +kernel
theorem hl_yX8_doomedOf : (yX8_doomedOf.cls ≠ "java/lang/invoke/MethodHandle" ∧ yX8_doomedOf.cls ≠ "java/lang/invoke/VarHandle") ∧ (parseMethodDescriptor yX8_doomedOf.desc).map (fun d => d.parameters.length) = some 1 := by decide +kernel
set_option maxRecDepth 20000 in
set_option maxHeartbeats 4000000 in
theorem c_X8_doomedOf {l : Launch} {G : Gt} {n0 : Nat} {mi : Nat → Nat → Int} {mr : Nat → Nat → Nat} {L : Lws} {set : Int} {H : V5} {o : Int} (hA : AV L set H) (hV : MV L set H o mi) {z : Int} (hz : rg z) : Ci l yX8_doomedOf cX8_doomedOf 4 .int 5 G n0 [.ref (n0 + 473), .int (jI z)] mi mr (fun r9 mi9 mr9 => ((¬ (1 ≤ z ∧ z ≤ 8) ∧ r9 = -2 ∧ MV L set H o mi9) ∨ ((1 ≤ z ∧ z ≤ 8) ∧ o < 0 ∧ r9 = o ∧ MV L set H o mi9) ∨ ((1 ≤ z ∧ z ≤ 8) ∧ 0 ≤ o ∧ Num (fun v => (∃ t : Nat, Rk L (St L.1 z set) t v) ∧ Dk L o.toNat v) r9 ∧ MV L set H o mi9)) ∧ (∀ a, a < 473 → mi9 a = mi a) ∧ mr = mr9) := by
  refine Ct_of (by decide +kernel) (by intro v hv; simp at hv; rcases hv with rfl | rfl <;> rfl) (Nat.le_of_ble_eq_true rfl) ?_
  intro p e s m args below meth c9 X hr hname
  show WW _ _ _ _ _ _ _ _ _ _ _ _ _ _ _ _ _ _ _ [some (.ref (n0 + 473)), some (.int (jI z)), none, none] _
  refine w_aload_n X dX8_doomedOf_0 rfl ?_
  refine w_iconst X dX8_doomedOf_1 ?_
  refine w_put X (by decide) (σ_473 G n0 _ _) rfl gW_X8 tyX8 tyX8_ok nmX8 0 (by decide) gF_X8_73 rfl rfl rfl (Nat.le_of_ble_eq_true rfl) dX8_doomedOf_2 (WW.eqf (sp_473_0 _) ?_)
  have hV1 := MV_t hV
  have hfr0 : ∀ a, a < 473 → up2 mi 473 0 0 a = mi a := fun a ha => up2_k _ _ _ _ (by omega)
  generalize up2 mi 473 0 0 = m0 at *
  obtain ⟨hM, hset, hH, hS⟩ := id hV1
  have hM1 := hM.1
  have hM2 := hM.2.1
  have hM3 := hM.2.2.1
  have hsc : 1 ≤ m0 473 1 ∧ m0 473 1 ≤ 5 := by rw [hM1]; exact hA.1.1.1
  have hrc : 0 ≤ m0 473 3 ∧ m0 473 3 ≤ 12 := by rw [hM2]; exact hA.1.2.1
  have hset2 := hA.2.1
  have hsr := SO_rg hS
  have hsn := SO_nn hS
  refine w_iload_n X dX8_doomedOf_5 rfl ?_
  refine w_i2l X dX8_doomedOf_6 ?_
  refine w_lconst X dX8_doomedOf_7 1 rfl ?_
  refine w_ldc2 X (z := 8) gK_X8_200 rfl dX8_doomedOf_8 ?_
  refine s_callSi X _ (c_X8_in (l := l) (G := G) (n0 := n0) (by first | assumption | (refine ⟨?_, ?_⟩ <;> omega)) (by first | assumption | (refine ⟨?_, ?_⟩ <;> omega)) (by first | assumption | (refine ⟨?_, ?_⟩ <;> omega))) gM_X8_76 gT_yX8_in gN_X8 gC_yX8_in dX8_doomedOf_11 hl_yX8_in ⟨Nat.le_of_ble_eq_true rfl, Nat.le_of_ble_eq_true rfl⟩ (Nat.le_of_ble_eq_true rfl) rfl (fun r1 mi1 mr1 h1 => ?_)
  obtain ⟨rfl, rfl, h1⟩ := h1
  refine w_if_ne X 20 dX8_doomedOf_14 (by decide) (fun c14_1 => ?_) (fun c14_1 => ?_)
  ·
    have hz8 : 1 ≤ z ∧ z ≤ 8 := by omega
    refine w_aload_n X dX8_doomedOf_20 rfl ?_
    refine s_callVi X _ (c_X8_noSearch (l := l) (G := G) (n0 := n0) hsr.1 hsr.2) gM_X8_138 gI_yX8_noSearch gS_yX8_noSearch gN_X8 gC_yX8_noSearch (by decide) (σ_473 G n0 _ _) rfl dX8_doomedOf_21 hl_yX8_noSearch ⟨Nat.le_of_ble_eq_true rfl, Nat.le_of_ble_eq_true rfl⟩ (Nat.le_of_ble_eq_true rfl) rfl (fun r2 mi2 mr2 h2 => ?_)
    obtain ⟨rfl, rfl, h2⟩ := h2
    have hno1 : rg r2 := by rw [h2]; unfold NSv; split; exact ⟨by decide, by decide⟩; split; exact ⟨by decide, by decide⟩; exact ⟨by decide, by decide⟩
    refine w_if_eq X 32 dX8_doomedOf_24 (by decide) (fun c24_2 => ?_) (fun c24_2 => ?_)
    ·
      have ho0 : 0 ≤ o := by omega
      have hSB := SO_s hS ho0
      refine w_aload_n X dX8_doomedOf_32 rfl ?_
      refine w_iload_n X dX8_doomedOf_33 rfl ?_
      refine s_callVv X _ (c_X8_goThrough (l := l) (G := G) (n0 := n0) hA.1 hM hset hset2 hz8) gM_X8_202 gI_yX8_goThrough gS_yX8_goThrough gN_X8 gC_yX8_goThrough (by decide) (σ_473 G n0 _ _) rfl dX8_doomedOf_34 hl_yX8_goThrough ⟨Nat.le_of_ble_eq_true rfl, Nat.le_of_ble_eq_true rfl⟩ (Nat.le_of_ble_eq_true rfl) rfl (fun mi3 mr3 h3 => ?_)
      obtain ⟨⟨k, hk23, hgt⟩, hfg, rfl⟩ := h3
      have hk95 := Inc_l hgt.1.1 (by omega)
      generalize mi3 = m2 at *
      have h16 : m2 473 16 = m0 473 16 := hfg.2 16 (by decide)
      have h483 : m2 483 = m0 483 := hfg.1 483 (by decide) (by decide)
      have hSB2 : SB L o m2 := SB_fr hSB h16 h483
      refine w_iconst X dX8_doomedOf_37 ?_
      refine w_ist4_2 X dX8_doomedOf_38 ?_
      refine w_iconst X dX8_doomedOf_39 ?_
      refine w_ist4_3 X dX8_doomedOf_40 ?_
      have loop : ∀ (n : Nat) (m3 : Nat → Nat → Int) (i : Nat) (t : Int), (i ≤ k) → (∀ a, a ≠ 485 → m3 a = m2 a) → (0 ≤ t ∧ t ≤ (i : Int) ∧ t = cnt (fun i => m2 491 i = 1 ∧ Dk L o.toNat (Pm m2 i)) i) → n = k - i → WSi p l e s m args below meth c9 5 (fun r9 mi9 mr9 => ((¬ (1 ≤ z ∧ z ≤ 8) ∧ r9 = -2 ∧ MV L set H o mi9) ∨ ((1 ≤ z ∧ z ≤ 8) ∧ o < 0 ∧ r9 = o ∧ MV L set H o mi9) ∨ ((1 ≤ z ∧ z ≤ 8) ∧ 0 ≤ o ∧ Num (fun v => (∃ t : Nat, Rk L (St L.1 z set) t v) ∧ Dk L o.toNat v) r9 ∧ MV L set H o mi9)) ∧ (∀ a, a < 473 → mi9 a = mi a) ∧ mr = mr9) G n0 4 m3 mr 41 [some (.ref (n0 + 473)), some (.int (jI z)), some (.int (jI t)), some (.int (jI (i : Int)))] [] := by
        intro n
        induction n using Nat.strongRecOn with
        | ind n ih_loop =>
          intro m3 i t hi hm3 ht hn
          have h23m : m3 473 23 = (k : Int) := by rw [hm3 473 (by decide)]; exact hk23
          refine w_iload_n X dX8_doomedOf_41 rfl ?_
          refine w_aload_n X dX8_doomedOf_42 rfl ?_
          refine w_get X (by decide) (σ_473 G n0 _ _) rfl gW_X8 23 (by decide) gF_X8_185 rfl dX8_doomedOf_43 ?_
          rw [h23m]
          refine w_icmp_ge X 97 dX8_doomedOf_46 (by decide) (fun c46_3 => ?_) (fun c46_3 => ?_)
          ·
            refine w_iload_n X dX8_doomedOf_97 rfl ?_
            refine s_iret X hr dX8_doomedOf_98 ?_
            exact ⟨Or.inr (Or.inr ⟨hz8, ho0, by rw [ht.2.2, show i = k by omega]; exact GT_num (X := fun v => Dk L o.toNat v) hA.1.1 hgt (fun i _ => Iff.rfl), MV_g (MV_g hV1 hfg) ⟨fun a h1 h2 => hm3 a (by omega), fun j hj => by rw [hm3 473 (by decide)]⟩⟩), fun a ha => by rw [hm3 a (by omega), hfg.1 a (by omega) (by omega)]; exact hfr0 a ha, rfl⟩
          ·
            have hg3 : GT L set z k m3 := GT_fr hgt (fun a h1 h2 => hm3 a (by omega))
            have hxc := (hg3.2.1 i (by omega)).1
            refine w_aload_n X dX8_doomedOf_49 rfl ?_
            refine w_aload_n X dX8_doomedOf_50 rfl ?_
            refine w_get X (by decide) (σ_473 G n0 _ _) rfl gW_X8 24 (by decide) gF_X8_59 rfl dX8_doomedOf_51 ?_
            refine w_iload_n X dX8_doomedOf_54 rfl ?_
            refine s_iald X (i) (by decide) (fun _ => σ_m500 G n0 _ _ (by decide)) dX8_doomedOf_55 ?_
            refine w_aload_n X dX8_doomedOf_56 rfl ?_
            refine w_get X (by decide) (σ_473 G n0 _ _) rfl gW_X8 20 (by decide) gF_X8_50 rfl dX8_doomedOf_57 ?_
            refine s_callVv X _ (c_X8_crowdOf (l := l) (G := G) (n0 := n0) IA_485 (z := m3 488 i) hxc) gM_X8_188 gI_yX8_crowdOf gS_yX8_crowdOf gN_X8 gC_yX8_crowdOf (by decide) (σ_473 G n0 _ _) rfl dX8_doomedOf_60 hl_yX8_crowdOf ⟨Nat.le_of_ble_eq_true rfl, Nat.le_of_ble_eq_true rfl⟩ (Nat.le_of_ble_eq_true rfl) rfl (fun mi4 mr4 h4 => ?_)
            obtain ⟨hOc, hPc, rfl⟩ := h4
            have hm5 : ∀ a, a ≠ 485 → mi4 a = m2 a := fun a ha => (hPc a ha).trans (hm3 a ha)
            have h1i : mi4 491 i = m2 491 i := by rw [hm5 491 (by decide)]
            have hg1 := (hgt.2.2.1 i (by omega)).1
            have hSB5 : SB L o mi4 := SB_fr hSB2 (by rw [hm5 473 (by decide)]) (hm5 483 (by decide))
            have hv5 : ∀ j : Nat, j < 5 → 0 ≤ mi4 485 j ∧ mi4 485 j ≤ 1000 := fun j hj => by rw [hOc j hj]; have := dg9_b (m3 488 i) j; omega
            have hone5 : ∀ j : Nat, j < 5 → mi4 485 j = F5 (Pm m2 i) j := fun j hj => by rw [hOc j hj, hm3 488 (by decide)]; exact (T9_j hj).symm
            have hdq : IFF (∃ b : Nat, (b : Int) < mi4 473 16 ∧ ∀ j : Nat, j < 5 → mi4 483 (5 * b + j) ≤ mi4 485 j) (Dk L o.toNat (Pm m2 i)) := by
              unfold IFF
              rw [← SB_d hA.1.1 hSB5 (hgt.1.1.1 i (by omega)).1]
              constructor
              · rintro ⟨b, b1, b2⟩; exact ⟨b, b1, fun j hj => by rw [← hone5 j hj]; exact b2 j hj⟩
              · rintro ⟨b, b1, b2⟩; exact ⟨b, b1, fun j hj => by rw [hone5 j hj]; exact b2 j hj⟩
            refine w_iload_n X dX8_doomedOf_63 rfl ?_
            refine w_aload_n X dX8_doomedOf_64 rfl ?_
            refine w_get X (by decide) (σ_473 G n0 _ _) rfl gW_X8 27 (by decide) gF_X8_69 rfl dX8_doomedOf_65 ?_
            refine w_iload_n X dX8_doomedOf_68 rfl ?_
            refine s_zald X (i) (by decide) (fun _ => σ_491 G n0 _ _) dX8_doomedOf_69 ?_
            have h1b := h1i
            refine w_if_eq X 88 dX8_doomedOf_70 (by decide) (fun c70_4 => ?_) (fun c70_4 => ?_)
            ·
              refine w_iconst X dX8_doomedOf_88 ?_
              refine w_iadd X dX8_doomedOf_89 ?_
              refine w_ist4_2 X dX8_doomedOf_90 ?_
              refine w_iinc4_3 X dX8_doomedOf_91 ?_
              refine w_goto X 41 dX8_doomedOf_94 (by decide) ?_
              have hct := cnt_f (P := (fun i => m2 491 i = 1 ∧ Dk L o.toNat (Pm m2 i))) (n := i) (fun w => by have w1 := w.1; rw [← h1i] at w1; omega)
              exact ih_loop _ (by omega) _ (i + 1) _ (by omega) hm5 ⟨by omega, by omega, by omega⟩ rfl
            ·
              refine w_aload_n X dX8_doomedOf_73 rfl ?_
              refine w_aload_n X dX8_doomedOf_74 rfl ?_
              refine w_get X (by decide) (σ_473 G n0 _ _) rfl gW_X8 20 (by decide) gF_X8_50 rfl dX8_doomedOf_75 ?_
              refine s_callVi X _ (c_X8_isDoomed (l := l) (G := G) (n0 := n0) hSB5.1 (fun i hi => SB_rb hA.1.1 hSB5 hi) IA_485 hv5) gM_X8_142 gI_yX8_isDoomed gS_yX8_isDoomed gN_X8 gC_yX8_isDoomed (by decide) (σ_473 G n0 _ _) rfl dX8_doomedOf_78 hl_yX8_isDoomed ⟨Nat.le_of_ble_eq_true rfl, Nat.le_of_ble_eq_true rfl⟩ (Nat.le_of_ble_eq_true rfl) rfl (fun r5 mi5 mr5 h5 => ?_)
              obtain ⟨rfl, rfl, h5⟩ := h5
              have bd := flg_b h5
              have hdm := h5
              refine w_if_eq X 88 dX8_doomedOf_81 (by decide) (fun c81_5 => ?_) (fun c81_5 => ?_)
              ·
                refine w_iconst X dX8_doomedOf_88 ?_
                refine w_iadd X dX8_doomedOf_89 ?_
                refine w_ist4_2 X dX8_doomedOf_90 ?_
                refine w_iinc4_3 X dX8_doomedOf_91 ?_
                refine w_goto X 41 dX8_doomedOf_94 (by decide) ?_
                have hct := cnt_f (P := (fun i => m2 491 i = 1 ∧ Dk L o.toNat (Pm m2 i))) (n := i) (fun w => flg_0 hdm (by omega) (Iff.mpr hdq w.2))
                exact ih_loop _ (by omega) _ (i + 1) _ (by omega) hm5 ⟨by omega, by omega, by omega⟩ rfl
              ·
                refine w_iconst X dX8_doomedOf_84 ?_
                refine w_goto X 89 dX8_doomedOf_85 (by decide) ?_
                refine w_iadd X dX8_doomedOf_89 ?_
                refine w_ist4_2 X dX8_doomedOf_90 ?_
                refine w_iinc4_3 X dX8_doomedOf_91 ?_
                refine w_goto X 41 dX8_doomedOf_94 (by decide) ?_
                have hct := cnt_t (P := (fun i => m2 491 i = 1 ∧ Dk L o.toNat (Pm m2 i))) (n := i) ⟨by rw [← h1i]; omega, Iff.mp hdq (flg_1 hdm (by omega))⟩
                exact ih_loop _ (by omega) _ (i + 1) _ (by omega) hm5 ⟨by omega, by omega, by omega⟩ rfl
      exact loop _ m2 0 0 (by omega) (fun _ _ => rfl) ⟨by decide, by decide, rfl⟩ rfl
    ·
      refine w_aload_n X dX8_doomedOf_27 rfl ?_
      refine s_callVi X _ (c_X8_noSearch (l := l) (G := G) (n0 := n0) hsr.1 hsr.2) gM_X8_138 gI_yX8_noSearch gS_yX8_noSearch gN_X8 gC_yX8_noSearch (by decide) (σ_473 G n0 _ _) rfl dX8_doomedOf_28 hl_yX8_noSearch ⟨Nat.le_of_ble_eq_true rfl, Nat.le_of_ble_eq_true rfl⟩ (Nat.le_of_ble_eq_true rfl) rfl (fun r3 mi3 mr3 h3 => ?_)
      obtain ⟨rfl, rfl, h3⟩ := h3
      refine s_iret X hr dX8_doomedOf_31 ?_
      exact ⟨Or.inr (Or.inl ⟨by omega, by omega, by omega, hV1⟩), hfr0, rfl⟩
  ·
    refine w_bipush X dX8_doomedOf_17 rfl ?_
    refine s_iret X hr dX8_doomedOf_19 ?_
    exact ⟨Or.inl ⟨by omega, rfl, hV1⟩, hfr0, rfl⟩
