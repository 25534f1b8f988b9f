def C0 (L : Lws) (g : V5) : Prop := ∃ b : Nat, (b : Int) < L.2.2.1 ∧ L.2.2.2.2 b = g
theorem C0_D {L : Lws} (hL : LO L) {g : V5} (h : C0 L g) : Dk L 0 g ∧ sm g ≤ 45 := by
  obtain ⟨b, hb, rfl⟩ := h
  obtain ⟨a1, a2, a3, a4⟩ := hL.2.2 b hb
  exact ⟨⟨a1, b, hb, gv_r _⟩, a4⟩
theorem C0_G {L : Lws} (v : V5) (h : Dk L 0 v) : ∃ g, C0 L g ∧ gv v g := by
  obtain ⟨-, b, hb, q⟩ := h
  exact ⟨_, ⟨b, hb, rfl⟩, q⟩
theorem Mn_0 {L : Lws} (hL : LO L) {v : V5} (h : Mn (Dk L 0) v) : C0 L v := by
  obtain ⟨g, g1, g2⟩ := C0_G v h.1
  rw [← h.2 g (C0_D hL g1).1 g2]
  exact g1
def WQ (L : Lws) (t : Int) (b : Nat) (y : V5) : Prop := sm y = t ∧ ∃ a : Nat, a < b ∧ L.2.2.2.2 a = y
def FS3 (mi m : Nat → Nat → Int) : Prop := (∀ a, a ≠ 473 → a ≠ 483 → a ≠ 484 → a ≠ 485 → a ≠ 486 → m a = mi a) ∧ ∀ j : Nat, j ≠ 0 → j ≠ 14 → j ≠ 15 → j ≠ 16 → j ≠ 18 → m 473 j = mi 473 j
theorem FS3_t {a b c : Nat → Nat → Int} (h : FS3 a b) (h2 : FS b c) : FS3 a c := ⟨fun x h1 h3 h4 h5 h6 => (h2.1 x h1 h4 h5 h6).trans (h.1 x h1 h3 h4 h5 h6), fun j q0 q1 q2 q3 q4 => (h2.2 j q4).trans (h.2 j q0 q1 q2 q3 q4)⟩
theorem FS3_ML {L : Lws} {mi m : Nat → Nat → Int} (hM : ML L mi) (h : FS3 mi m) : ML L m := ML_fr hM (h.2 1 (by decide) (by decide) (by decide) (by decide) (by decide)) (h.2 3 (by decide) (by decide) (by decide) (by decide) (by decide)) (h.2 11 (by decide) (by decide) (by decide) (by decide) (by decide)) (fun a h1 h2 => h.1 a (by omega) (by omega) (by omega) (by omega) (by omega))
theorem FS3_k {mi m m9 : Nat → Nat → Int} (h : FS3 mi m) (k1 : ∀ a, a ≠ 473 → a ≠ 483 → m9 a = m a) (k2 : ∀ j : Nat, j ≠ 16 → m9 473 j = m 473 j) : FS3 mi m9 := ⟨fun a h1 h2 h3 h4 h5 => (k1 a h1 h2).trans (h.1 a h1 h2 h3 h4 h5), fun j q0 q1 q2 q3 q4 => (k2 j q3).trans (h.2 j q0 q1 q2 q3 q4)⟩
theorem keep_BI {L : Lws} {k : Nat} {m m9 : Nat → Nat → Int} (hn : 0 ≤ m 473 18 ∧ m 473 18 ≤ 100) (h1 : ∀ i : Nat, (i : Int) < m 473 18 → Mn (Dk L k) (NRw m i) ∧ sm (NRw m i) ≤ 45 + 3 * (k : Int)) (h2 : ∀ i j : Nat, i < j → (j : Int) < m 473 18 → NRw m i ≠ NRw m j) (h3 : ∀ v, Mn (Dk L k) v → ∃ i : Nat, (i : Int) < m 473 18 ∧ NRw m i = v) (h16 : m9 473 16 = m 473 18) (hF : ∀ j : Nat, (j : Int) < 5 * m 473 18 → m9 483 j = m 484 j) : BI L k m9 := by
  have e : ∀ i : Nat, (i : Int) < m 473 18 → BR m9 i = NRw m i := fun i hi => T5_c (fun j hj => hF _ (by omega))
  refine ⟨by rw [h16]; exact hn, fun i hi => ?_, fun i j hij hj => ?_, fun v hv => ?_⟩
  · rw [h16] at hi; rw [e i hi]; exact h1 i hi
  · rw [h16] at hj; rw [e i (by omega), e j hj]; exact h2 i j hij hj
  · obtain ⟨i, hi, q⟩ := h3 v hv
    exact ⟨i, by rw [h16]; exact hi, by rw [e i hi]; exact q⟩
theorem BI_fr {L : Lws} {k : Nat} {m m9 : Nat → Nat → Int} (h : BI L k m) (h16 : m9 473 16 = m 473 16) (h3 : m9 483 = m 483) : BI L k m9 := by
  unfold BI BR at *
  rw [h16, h3]
  exact h
def Pri (L : Lws) (k : Nat) : Prop := ∀ i : Nat, i < k → ¬ Nnw L i ∧ ¬ Big L (i + 1)
def SCs (L : Lws) (k : Nat) (m : Nat → Nat → Int) : Prop := (m 473 15 = 0 ∧ k ≤ 40 ∧ BI L k m ∧ Pri L k) ∨ (m 473 15 = 1 ∧ Res L (-5))
theorem SCs_15 {L : Lws} {k : Nat} {m : Nat → Nat → Int} (h : SCs L k m) : m 473 15 = 0 ∨ m 473 15 = 1 := by rcases h with ⟨q, -⟩ | ⟨q, -⟩ <;> omega
theorem SCs_0 {L : Lws} {k : Nat} {m : Nat → Nat → Int} (h : SCs L k m) (q : m 473 15 = 0) : k ≤ 40 ∧ BI L k m ∧ Pri L k := by rcases h with ⟨-, w⟩ | ⟨w, -⟩; exact w; omega
theorem SCs_1 {L : Lws} {k : Nat} {m : Nat → Nat → Int} (h : SCs L k m) (q : ¬ m 473 15 = 0) : Res L (-5) := by rcases h with ⟨w, -⟩ | ⟨-, w⟩; omega; exact w
theorem BI_rb {L : Lws} {k : Nat} {m : Nat → Nat → Int} (hL : LO L) (hk : k ≤ 40) (h : BI L k m) {i : Nat} (hi : (i : Int) < m 473 16) : RB m i := ⟨by have := h.1; omega, fun j hj => by have := (BI_u hL h hi).2.1 j hj; unfold Ub at this; omega⟩
theorem RDP_0 {L : Lws} {k : Nat} {m m9 : Nat → Nat → Int} {z : Int} (h : RDP L k m m9 z) : (z = 0 ∨ z = 1) ∧ (0 ≤ m9 473 18 ∧ m9 473 18 ≤ 101) := ⟨by rcases h.1 with ⟨q, -⟩ | ⟨q, -⟩ <;> omega, h.2.1⟩
theorem RDP_n {L : Lws} {k : Nat} {m m9 : Nat → Nat → Int} {z : Int} (h : RDP L k m m9 z) : (z = 0 → Nnw L k) ∧ (¬ z = 0 → ¬ Nnw L k) := by
  rcases h.1 with ⟨q, q2⟩ | ⟨q, q2⟩
  · exact ⟨fun _ => q2, fun w => absurd q w⟩
  · exact ⟨fun w => by omega, fun _ => q2⟩
theorem dX8_search_0 : decode cX8_search 0 = .ok (.aload_n 0, 1) := by decide +kernel
theorem dX8_search_1 : decode cX8_search 1 = .ok (.iconst 0, 1) := by decide +kernel
theorem dX8_search_2 : decode cX8_search 2 = .ok (.putfield 73, 3) := by decide +kernel
theorem dX8_search_5 : decode cX8_search 5 = .ok (.aload_n 0, 1) := by decide +kernel
theorem dX8_search_6 : decode cX8_search 6 = .ok (.iconst 1, 1) := by decide +kernel
theorem dX8_search_7 : decode cX8_search 7 = .ok (.putfield 88, 3) := by decide +kernel
theorem dX8_search_10 : decode cX8_search 10 = .ok (.aload_n 0, 1) := by decide +kernel
theorem dX8_search_11 : decode cX8_search 11 = .ok (.iconst 0, 1) := by decide +kernel
theorem dX8_search_12 : decode cX8_search 12 = .ok (.putfield 135, 3) := by decide +kernel
theorem dX8_search_15 : decode cX8_search 15 = .ok (.aload_n 0, 1) := by decide +kernel
theorem dX8_search_16 : decode cX8_search 16 = .ok (.iconst 0, 1) := by decide +kernel
theorem dX8_search_17 : decode cX8_search 17 = .ok (.putfield 145, 3) := by decide +kernel
theorem dX8_search_20 : decode cX8_search 20 = .ok (.iconst 1, 1) := by decide +kernel
theorem dX8_search_21 : decode cX8_search 21 = .ok (.istore_n 1, 1) := by decide +kernel
theorem dX8_search_22 : decode cX8_search 22 = .ok (.iload_n 1, 1) := by decide +kernel
theorem dX8_search_23 : decode cX8_search 23 = .ok (.bipush 46, 2) := by decide +kernel
theorem dX8_search_25 : decode cX8_search 25 = .ok (.if_icmp .ge 72, 3) := by decide +kernel
theorem dX8_search_28 : decode cX8_search 28 = .ok (.iconst 0, 1) := by decide +kernel
theorem dX8_search_29 : decode cX8_search 29 = .ok (.istore_n 2, 1) := by decide +kernel
theorem dX8_search_30 : decode cX8_search 30 = .ok (.iload_n 2, 1) := by decide +kernel
theorem dX8_search_31 : decode cX8_search 31 = .ok (.aload_n 0, 1) := by decide +kernel
theorem dX8_search_32 : decode cX8_search 32 = .ok (.getfield 85, 3) := by decide +kernel
theorem dX8_search_35 : decode cX8_search 35 = .ok (.if_icmp .ge 56, 3) := by decide +kernel
theorem dX8_search_38 : decode cX8_search 38 = .ok (.aload_n 0, 1) := by decide +kernel
theorem dX8_search_39 : decode cX8_search 39 = .ok (.getfield 38, 3) := by decide +kernel
theorem dX8_search_42 : decode cX8_search 42 = .ok (.iconst 5, 1) := by decide +kernel
theorem dX8_search_43 : decode cX8_search 43 = .ok (.iload_n 2, 1) := by decide +kernel
theorem dX8_search_44 : decode cX8_search 44 = .ok (.imul, 1) := by decide +kernel
theorem dX8_search_45 : decode cX8_search 45 = .ok (.invokestatic 116, 3) := by decide +kernel
theorem dX8_search_48 : decode cX8_search 48 = .ok (.iload_n 1, 1) := by decide +kernel
theorem dX8_search_49 : decode cX8_search 49 = .ok (.if_icmp .ne 36, 3) := by decide +kernel
theorem dX8_search_52 : decode cX8_search 52 = .ok (.iconst 0, 1) := by decide +kernel
theorem dX8_search_53 : decode cX8_search 53 = .ok (.istore_n 3, 1) := by decide +kernel
theorem dX8_search_54 : decode cX8_search 54 = .ok (.iload_n 3, 1) := by decide +kernel
theorem dX8_search_55 : decode cX8_search 55 = .ok (.iconst 5, 1) := by decide +kernel
theorem dX8_search_56 : decode cX8_search 56 = .ok (.if_icmp .ge 25, 3) := by decide +kernel
theorem dX8_search_59 : decode cX8_search 59 = .ok (.aload_n 0, 1) := by decide +kernel
theorem dX8_search_60 : decode cX8_search 60 = .ok (.getfield 50, 3) := by decide +kernel
theorem dX8_search_63 : decode cX8_search 63 = .ok (.iload_n 3, 1) := by decide +kernel
theorem dX8_search_64 : decode cX8_search 64 = .ok (.aload_n 0, 1) := by decide +kernel
theorem dX8_search_65 : decode cX8_search 65 = .ok (.getfield 38, 3) := by decide +kernel
theorem dX8_search_68 : decode cX8_search 68 = .ok (.iconst 5, 1) := by decide +kernel
theorem dX8_search_69 : decode cX8_search 69 = .ok (.iload_n 2, 1) := by decide +kernel
theorem dX8_search_70 : decode cX8_search 70 = .ok (.imul, 1) := by decide +kernel
theorem dX8_search_71 : decode cX8_search 71 = .ok (.iload_n 3, 1) := by decide +kernel
theorem dX8_search_72 : decode cX8_search 72 = .ok (.iadd, 1) := by decide +kernel
theorem dX8_search_73 : decode cX8_search 73 = .ok (.iaload, 1) := by decide +kernel
theorem dX8_search_74 : decode cX8_search 74 = .ok (.iastore, 1) := by decide +kernel
theorem dX8_search_75 : decode cX8_search 75 = .ok (.iinc 3 1, 3) := by decide +kernel
theorem dX8_search_78 : decode cX8_search 78 = .ok (.goto (-24), 3) := by decide +kernel
theorem dX8_search_81 : decode cX8_search 81 = .ok (.aload_n 0, 1) := by decide +kernel
theorem dX8_search_82 : decode cX8_search 82 = .ok (.invokevirtual 152, 3) := by decide +kernel
theorem dX8_search_85 : decode cX8_search 85 = .ok (.iinc 2 1, 3) := by decide +kernel
theorem dX8_search_88 : decode cX8_search 88 = .ok (.goto (-58), 3) := by decide +kernel
theorem dX8_search_91 : decode cX8_search 91 = .ok (.iinc 1 1, 3) := by decide +kernel
theorem dX8_search_94 : decode cX8_search 94 = .ok (.goto (-72), 3) := by decide +kernel
theorem dX8_search_97 : decode cX8_search 97 = .ok (.aload_n 0, 1) := by decide +kernel
theorem dX8_search_98 : decode cX8_search 98 = .ok (.invokevirtual 175, 3) := by decide +kernel
theorem dX8_search_101 : decode cX8_search 101 = .ok (.iconst 0, 1) := by decide +kernel
theorem dX8_search_102 : decode cX8_search 102 = .ok (.istore_n 1, 1) := by decide +kernel
theorem dX8_search_103 : decode cX8_search 103 = .ok (.aload_n 0, 1) := by decide +kernel
theorem dX8_search_104 : decode cX8_search 104 = .ok (.getfield 135, 3) := by decide +kernel
theorem dX8_search_107 : decode cX8_search 107 = .ok (.ifCond .ne 43, 3) := by decide +kernel
theorem dX8_search_110 : decode cX8_search 110 = .ok (.aload_n 0, 1) := by decide +kernel
theorem dX8_search_111 : decode cX8_search 111 = .ok (.invokevirtual 178, 3) := by decide +kernel
theorem dX8_search_114 : decode cX8_search 114 = .ok (.ifCond .eq 36, 3) := by decide +kernel
theorem dX8_search_117 : decode cX8_search 117 = .ok (.aload_n 0, 1) := by decide +kernel
theorem dX8_search_118 : decode cX8_search 118 = .ok (.getfield 145, 3) := by decide +kernel
theorem dX8_search_121 : decode cX8_search 121 = .ok (.bipush 100, 2) := by decide +kernel
theorem dX8_search_123 : decode cX8_search 123 = .ok (.if_icmp .gt 9, 3) := by decide +kernel
theorem dX8_search_126 : decode cX8_search 126 = .ok (.iload_n 1, 1) := by decide +kernel
theorem dX8_search_127 : decode cX8_search 127 = .ok (.bipush 40, 2) := by decide +kernel
theorem dX8_search_129 : decode cX8_search 129 = .ok (.if_icmp .ne 11, 3) := by decide +kernel
theorem dX8_search_132 : decode cX8_search 132 = .ok (.aload_n 0, 1) := by decide +kernel
theorem dX8_search_133 : decode cX8_search 133 = .ok (.iconst 1, 1) := by decide +kernel
theorem dX8_search_134 : decode cX8_search 134 = .ok (.putfield 135, 3) := by decide +kernel
theorem dX8_search_137 : decode cX8_search 137 = .ok (.goto (-34), 3) := by decide +kernel
theorem dX8_search_140 : decode cX8_search 140 = .ok (.aload_n 0, 1) := by decide +kernel
theorem dX8_search_141 : decode cX8_search 141 = .ok (.invokevirtual 175, 3) := by decide +kernel
theorem dX8_search_144 : decode cX8_search 144 = .ok (.iinc 1 1, 3) := by decide +kernel
theorem dX8_search_147 : decode cX8_search 147 = .ok (.goto (-44), 3) := by decide +kernel
theorem dX8_search_150 : decode cX8_search 150 = .ok (.aload_n 0, 1) := by decide +kernel
theorem dX8_search_151 : decode cX8_search 151 = .ok (.getfield 135, 3) := by decide +kernel
theorem dX8_search_154 : decode cX8_search 154 = .ok (.ifCond .eq 6, 3) := by decide +kernel
theorem dX8_search_157 : decode cX8_search 157 = .ok (.bipush (-5), 2) := by decide +kernel
theorem dX8_search_159 : decode cX8_search 159 = .ok (.ireturn, 1) := by decide +kernel
theorem dX8_search_160 : decode cX8_search 160 = .ok (.aload_n 0, 1) := by decide +kernel
theorem dX8_search_161 : decode cX8_search 161 = .ok (.invokevirtual 182, 3) := by decide +kernel
theorem dX8_search_164 : decode cX8_search 164 = .ok (.iload_n 1, 1) := by decide +kernel
theorem dX8_search_165 : decode cX8_search 165 = .ok (.ireturn, 1) := by decide +kernel
theorem hl_yX8_search : (yX8_search.cls ≠ "java/lang/invoke/MethodHandle" ∧ yX8_search.cls ≠ "java/lang/invoke/VarHandle") ∧ (parseMethodDescriptor yX8_search.desc).map (fun d => d.parameters.length) = some 0 := by decide +kernel
set_option maxRecDepth 20000 in
set_option maxHeartbeats 4000000 in
theorem c_X8_search {l : Launch} {G : Gt} {n0 : Nat} {mi : Nat → Nat → Int} {mr : Nat → Nat → Nat} {L : Lws} {set : Int} {H : V5} {o : Int} (hA : AV L set H) (hV : MV L set H o mi) : Ci l yX8_search cX8_search 4 .int 6 G n0 [.ref (n0 + 473)] mi mr (fun r9 mi9 mr9 => Res L r9 ∧ MV L set H r9 mi9 ∧ (∀ a, a < 473 → mi9 a = mi a) ∧ mr = mr9) := by
  refine Ct_of (by decide +kernel) (by intro v hv; simp at hv; rcases hv with rfl <;> rfl) (Nat.le_of_ble_eq_true rfl) ?_
  intro p e s m args below meth c9 X hr hname
  show WW _ _ _ _ _ _ _ _ _ _ _ _ _ _ _ _ _ _ _ [some (.ref (n0 + 473)), none, none, none] _
  have hbc := hA.1.2.2
  refine w_aload_n X dX8_search_0 rfl ?_
  refine w_iconst X dX8_search_1 ?_
  refine w_put X (by decide) (σ_473 G n0 _ _) rfl gW_X8 tyX8 tyX8_ok nmX8 0 (by decide) gF_X8_73 rfl rfl rfl (Nat.le_of_ble_eq_true rfl) dX8_search_2 (WW.eqf (sp_473_0 _) ?_)
  refine w_aload_n X dX8_search_5 rfl ?_
  refine w_iconst X dX8_search_6 ?_
  refine w_put X (by decide) (σ_473 G n0 _ _) rfl gW_X8 tyX8 tyX8_ok nmX8 14 (by decide) gF_X8_88 rfl rfl rfl (Nat.le_of_ble_eq_true rfl) dX8_search_7 (WW.eqf (sp_473_14 _) ?_)
  refine w_aload_n X dX8_search_10 rfl ?_
  refine w_iconst X dX8_search_11 ?_
  refine w_put X (by decide) (σ_473 G n0 _ _) rfl gW_X8 tyX8 tyX8_ok nmX8 15 (by decide) gF_X8_135 rfl rfl rfl (Nat.le_of_ble_eq_true rfl) dX8_search_12 (WW.eqf (sp_473_15 _) ?_)
  refine w_aload_n X dX8_search_15 rfl ?_
  refine w_iconst X dX8_search_16 ?_
  refine w_put X (by decide) (σ_473 G n0 _ _) rfl gW_X8 tyX8 tyX8_ok nmX8 18 (by decide) gF_X8_145 rfl rfl rfl (Nat.le_of_ble_eq_true rfl) dX8_search_17 (WW.eqf (sp_473_18 _) ?_)
  have hf30 : FS3 mi (up2 (up2 (up2 (up2 mi 473 0 0) 473 14 1) 473 15 0) 473 18 0) := ⟨fun a h1 _ _ _ _ => by rw [up2_k _ _ _ _ h1, up2_k _ _ _ _ h1, up2_k _ _ _ _ h1, up2_k _ _ _ _ h1], fun j q0 q1 q2 q3 q4 => by rw [up2_j _ _ _ _ q4, up2_j _ _ _ _ q2, up2_j _ _ _ _ q1, up2_j _ _ _ _ q0]⟩
  have g18 : (up2 (up2 (up2 (up2 mi 473 0 0) 473 14 1) 473 15 0) 473 18 0) 473 18 = 0 := up2_s _ _ _ _
  have g15 : (up2 (up2 (up2 (up2 mi 473 0 0) 473 14 1) 473 15 0) 473 18 0) 473 15 = 0 := by simp [up2]
  have g14 : (up2 (up2 (up2 (up2 mi 473 0 0) 473 14 1) 473 15 0) 473 18 0) 473 14 = 1 := by simp [up2]
  generalize (up2 (up2 (up2 (up2 mi 473 0 0) 473 14 1) 473 15 0) 473 18 0) = m0 at *
  have hM0 := FS3_ML hV.1 hf30
  have h11 : m0 473 11 = L.2.2.1 := hM0.2.2.1
  refine w_iconst X dX8_search_20 ?_
  refine w_ist4_1 X dX8_search_21 ?_
  have tloop : ∀ (n : Nat) (m1 : Nat → Nat → Int) (t : Int) (x2 x3 : Option Value), (1 ≤ t ∧ t ≤ 46) → (FS m0 m1) → (NI (Dk L 0) (C0 L) t (fun _ => False) m1) → n = (46 - t).toNat → WSi p l e s m args below meth c9 6 (fun r9 mi9 mr9 => Res L r9 ∧ MV L set H r9 mi9 ∧ (∀ a, a < 473 → mi9 a = mi a) ∧ mr = mr9) G n0 4 m1 mr 22 [some (.ref (n0 + 473)), some (.int (jI t)), x2, x3] [] := by
    intro n
    induction n using Nat.strongRecOn with
    | ind n ih_tloop =>
      intro m1 t x2 x3 ht hfs hni hn
      refine w_iload_n X dX8_search_22 rfl ?_
      refine w_bipush X dX8_search_23 rfl ?_
      refine w_icmp_ge X 97 dX8_search_25 (by decide) (fun c25_1 => ?_) (fun c25_1 => ?_)
      ·
        have hall := fun (hc : m1 473 18 ≤ 100) => NI_all C0_G hni hc (fun g hg => by have := (C0_D hA.1.1 hg).2; omega)
        have hcnt : m1 473 18 ≤ 6 := by
          have nn : ((List.range (m1 473 18).toNat).map (NRw m1)).Nodup := rows_nd (fun i j h1 h2 => hni.2.2.1 i j h1 (by omega))
          have q := nd_len nn (l2 := (List.range L.2.2.1.toNat).map L.2.2.2.2) (fun x hx => by
            obtain ⟨i, hi, rfl⟩ := List.mem_map.mp hx
            obtain ⟨b, hb, e⟩ := Mn_0 hA.1.1 (hni.2.1 i (by have := List.mem_range.mp hi; omega)).1
            exact List.mem_map.mpr ⟨b, List.mem_range.mpr (by omega), e⟩)
          rw [List.length_map, List.length_map, List.length_range, List.length_range] at q
          omega
        have hnk : 0 ≤ m1 473 18 ∧ m1 473 18 ≤ 100 := ⟨hni.1.1, by omega⟩
        refine w_aload_n X dX8_search_97 rfl ?_
        refine s_callVv X _ (c_X8_keep (l := l) (G := G) (n0 := n0) hnk) gM_X8_175 gI_yX8_keep gS_yX8_keep gN_X8 gC_yX8_keep (by decide) (σ_473 G n0 _ _) rfl dX8_search_98 hl_yX8_keep ⟨Nat.le_of_ble_eq_true rfl, Nat.le_of_ble_eq_true rfl⟩ (Nat.le_of_ble_eq_true rfl) rfl (fun mi1 mr1 h1 => ?_)
        obtain ⟨hk1, hk2, hk3, hk4, rfl⟩ := h1
        have hBI0 : BI L 0 mi1 := keep_BI hnk (fun i hi => ⟨(hni.2.1 i hi).1, by have := (C0_D hA.1.1 (Mn_0 hA.1.1 (hni.2.1 i hi).1)).2; omega⟩) hni.2.2.1 (fun v hv => (hall hnk.2 v).mp hv) hk3 hk4
        have hf3k := FS3_k (FS3_t hf30 hfs) hk1 hk2
        refine w_iconst X dX8_search_101 ?_
        refine w_ist4_1 X dX8_search_102 ?_
        have wloop : ∀ (n : Nat) (m1 : Nat → Nat → Int) (kk : Nat) (x2 x3 : Option Value), (FS3 mi m1) → (m1 473 14 = 1) → (SCs L kk m1) → n = (if m1 473 15 = 0 then 1 + (41 - kk) else 0) → WSi p l e s m args below meth c9 6 (fun r9 mi9 mr9 => Res L r9 ∧ MV L set H r9 mi9 ∧ (∀ a, a < 473 → mi9 a = mi a) ∧ mr = mr9) G n0 4 m1 mr 103 [some (.ref (n0 + 473)), some (.int (jI (kk : Int))), x2, x3] [] := by
          intro n
          induction n using Nat.strongRecOn with
          | ind n ih_wloop =>
            intro m1 kk x2 x3 hf3 h14 hc hn
            have h15 := SCs_15 hc
            refine w_aload_n X dX8_search_103 rfl ?_
            refine w_get X (by decide) (σ_473 G n0 _ _) rfl gW_X8 15 (by decide) gF_X8_135 rfl dX8_search_104 ?_
            refine w_if_ne X 150 dX8_search_107 (by decide) (fun c107_2 => ?_) (fun c107_2 => ?_)
            ·
              refine w_aload_n X dX8_search_150 rfl ?_
              refine w_get X (by decide) (σ_473 G n0 _ _) rfl gW_X8 15 (by decide) gF_X8_135 rfl dX8_search_151 ?_
              refine w_if_eq X 160 dX8_search_154 (by decide) (fun h9 => absurd h9 (by omega)) (fun h154_ => ?_)
              refine w_bipush X dX8_search_157 rfl ?_
              refine s_iret X hr dX8_search_159 ?_
              have hre := SCs_1 hc (by omega)
              refine ⟨hre, ⟨FS3_ML hV.1 hf3, by rw [hf3.2 2 (by decide) (by decide) (by decide) (by decide) (by decide)]; exact hV.2.1, fun j hj => by rw [hf3.1 482 (by decide) (by decide) (by decide) (by decide) (by decide)]; exact hV.2.2.1 j hj, Or.inr (Or.inl ⟨rfl, h14, by omega⟩)⟩, fun a ha => hf3.1 a (by omega) (by omega) (by omega) (by omega) (by omega), rfl⟩
            ·
              have c0q : m1 473 15 = 0 := by omega
              obtain ⟨hkk, hBI, hpri⟩ := SCs_0 hc c0q
              have hM1 := FS3_ML hV.1 hf3
              refine w_aload_n X dX8_search_110 rfl ?_
              refine s_callVi X _ (c_X8_round (l := l) (G := G) (n0 := n0) hA.1 hM1 hkk hBI) gM_X8_178 gI_yX8_round gS_yX8_round gN_X8 gC_yX8_round (by decide) (σ_473 G n0 _ _) rfl dX8_search_111 hl_yX8_round ⟨Nat.le_of_ble_eq_true rfl, Nat.le_of_ble_eq_true rfl⟩ (Nat.le_of_ble_eq_true rfl) rfl (fun r2 mi2 mr2 h2 => ?_)
              obtain ⟨hrd, hfr, rfl⟩ := h2
              have hr0 := RDP_0 hrd
              have hrn := RDP_n hrd
              have hf3r := FS3_t hf3 hfr
              have h14r : mi2 473 14 = 1 := by rw [hfr.2 14 (by decide)]; exact h14
              have h15r : mi2 473 15 = 0 := by rw [hfr.2 15 (by decide)]; exact c0q
              refine w_if_eq X 150 dX8_search_114 (by decide) (fun c114_3 => ?_) (fun c114_3 => ?_)
              ·
                refine w_aload_n X dX8_search_150 rfl ?_
                refine w_get X (by decide) (σ_473 G n0 _ _) rfl gW_X8 15 (by decide) gF_X8_135 rfl dX8_search_151 ?_
                refine w_if_eq X 160 dX8_search_154 (by decide) (fun h154_ => ?_) (fun h9 => absurd (by omega) h9)
                have hBIr : BI L kk mi2 := BI_fr hBI (hfr.2 16 (by decide)) (hfr.1 483 (by decide) (by decide) (by decide) (by decide))
                have hn16 := hBIr.1
                have hrb : ∀ i : Nat, (i : Int) < mi2 473 16 → RB mi2 i := fun i hi => BI_rb hA.1.1 hkk hBIr hi
                have hds := hBIr.2.2.1
                refine w_aload_n X dX8_search_160 rfl ?_
                refine s_callVv X _ (c_X8_order (l := l) (G := G) (n0 := n0) hn16 hrb hds) gM_X8_182 gI_yX8_order gS_yX8_order gN_X8 gC_yX8_order (by decide) (σ_473 G n0 _ _) rfl dX8_search_161 hl_yX8_order ⟨Nat.le_of_ble_eq_true rfl, Nat.le_of_ble_eq_true rfl⟩ (Nat.le_of_ble_eq_true rfl) rfl (fun mi3 mr3 h3 => ?_)
                obtain ⟨ho1, ho2, ho3, rfl⟩ := h3
                refine w_iload_n X dX8_search_164 rfl ?_
                refine s_iret X hr dX8_search_165 ?_
                refine ⟨Or.inl ⟨kk, rfl, hkk, hrn.1 (by omega), hpri⟩, ⟨ML_fr (FS3_ML hV.1 hf3r) (by rw [ho1 473 (by decide)]) (by rw [ho1 473 (by decide)]) (by rw [ho1 473 (by decide)]) (fun a h1 h2 => ho1 a (by omega)), by rw [ho1 473 (by decide), hf3r.2 2 (by decide) (by decide) (by decide) (by decide) (by decide)]; exact hV.2.1, fun j hj => by rw [ho1 482 (by decide), hf3r.1 482 (by decide) (by decide) (by decide) (by decide) (by decide)]; exact hV.2.2.1 j hj, Or.inr (Or.inr ⟨by omega, by rw [ho1 473 (by decide)]; exact h14r, by rw [ho1 473 (by decide)]; exact h15r, by rw [ho1 473 (by decide)]; exact hn16, fun i j hij hj => ho2 i j hij (by rw [ho1 473 (by decide)] at hj; exact hj), fun v => ?_, fun i hi => ?_⟩)⟩, fun a ha => (ho1 a (by omega)).trans (hf3r.1 a (by omega) (by omega) (by omega) (by omega) (by omega)), rfl⟩
                · rw [Int.toNat_natCast, ho1 473 (by decide), ho3 v]
                  exact ⟨fun q => hBIr.2.2.2 v q, fun ⟨i, hi, q⟩ => by rw [← q]; exact (hBIr.2.1 i hi).1⟩
                · rw [ho1 473 (by decide)] at hi
                  obtain ⟨i2, hi2, q⟩ := (ho3 (BR mi3 i)).mp ⟨i, hi, rfl⟩
                  rw [← q]
                  have := (hBIr.2.1 i2 hi2).2
                  omega
              ·
                refine w_aload_n X dX8_search_117 rfl ?_
                refine w_get X (by decide) (σ_473 G n0 _ _) rfl gW_X8 18 (by decide) gF_X8_145 rfl dX8_search_118 ?_
                refine w_bipush X dX8_search_121 rfl ?_
                refine w_icmp_gt X 132 dX8_search_123 (by decide) (fun c123_4 => ?_) (fun c123_4 => ?_)
                ·
                  refine w_aload_n X dX8_search_132 rfl ?_
                  refine w_iconst X dX8_search_133 ?_
                  refine w_put X (by decide) (σ_473 G n0 _ _) rfl gW_X8 tyX8 tyX8_ok nmX8 15 (by decide) gF_X8_135 rfl rfl rfl (Nat.le_of_ble_eq_true rfl) dX8_search_134 (WW.eqf (sp_473_15 _) ?_)
                  refine w_goto X 103 dX8_search_137 (by decide) ?_
                  exact ih_wloop _ (by rw [hn, up2_s, if_neg (by decide), if_pos c0q]; omega) _ _ _ _ ⟨fun a h1 h2 h3 h4 h5 => (up2_k _ _ _ _ h1).trans (hf3r.1 a h1 h2 h3 h4 h5), fun j q0 q1 q2 q3 q4 => (up2_j _ _ _ _ q2).trans (hf3r.2 j q0 q1 q2 q3 q4)⟩ (by rw [up2_j _ _ _ _ (show (14 : Nat) ≠ 15 by decide)]; exact h14r) (Or.inr ⟨up2_s _ _ _ _, Or.inr ⟨rfl, kk, hkk, hpri, hrn.2 (by omega), by first | exact Or.inr (by omega) | exact Or.inl (hrd.2.2.1.mp (by omega))⟩⟩) rfl
                ·
                  refine w_iload_n X dX8_search_126 rfl ?_
                  refine w_bipush X dX8_search_127 rfl ?_
                  refine w_icmp_ne X 140 dX8_search_129 (by decide) (fun c129_5 => ?_) (fun c129_5 => ?_)
                  ·
                    have hnk : 0 ≤ mi2 473 18 ∧ mi2 473 18 ≤ 100 := by omega
                    refine w_aload_n X dX8_search_140 rfl ?_
                    refine s_callVv X _ (c_X8_keep (l := l) (G := G) (n0 := n0) hnk) gM_X8_175 gI_yX8_keep gS_yX8_keep gN_X8 gC_yX8_keep (by decide) (σ_473 G n0 _ _) rfl dX8_search_141 hl_yX8_keep ⟨Nat.le_of_ble_eq_true rfl, Nat.le_of_ble_eq_true rfl⟩ (Nat.le_of_ble_eq_true rfl) rfl (fun mi3 mr3 h3 => ?_)
                    obtain ⟨hk1, hk2, hk3, hk4, rfl⟩ := h3
                    refine w_iinc4_1 X dX8_search_144 ?_
                    refine w_goto X 103 dX8_search_147 (by decide) ?_
                    have hBI2 := keep_BI (k := kk + 1) hnk (fun i hi => by have q := (hrd.2.2.2 hnk.2).1 i hi; exact ⟨q.1, by omega⟩) (hrd.2.2.2 hnk.2).2.1 (hrd.2.2.2 hnk.2).2.2 hk3 hk4
                    exact ih_wloop _ (by rw [hn, hk2 15 (by decide), hfr.2 15 (by decide), if_pos c0q, if_pos c0q]; omega) _ (kk + 1) _ _ (FS3_k hf3r hk1 hk2) (by rw [hk2 14 (by decide)]; exact h14r) (Or.inl ⟨by rw [hk2 15 (by decide), hfr.2 15 (by decide)]; exact c0q, by omega, hBI2, fun i hi => by
                      rcases (show i < kk ∨ i = kk by omega) with q | q
                      · exact hpri i q
                      · subst q; exact ⟨hrn.2 (by omega), fun w => by have := hrd.2.2.1.mpr w; omega⟩⟩) rfl
                  ·
                    refine w_aload_n X dX8_search_132 rfl ?_
                    refine w_iconst X dX8_search_133 ?_
                    refine w_put X (by decide) (σ_473 G n0 _ _) rfl gW_X8 tyX8 tyX8_ok nmX8 15 (by decide) gF_X8_135 rfl rfl rfl (Nat.le_of_ble_eq_true rfl) dX8_search_134 (WW.eqf (sp_473_15 _) ?_)
                    refine w_goto X 103 dX8_search_137 (by decide) ?_
                    exact ih_wloop _ (by rw [hn, up2_s, if_neg (by decide), if_pos c0q]; omega) _ _ _ _ ⟨fun a h1 h2 h3 h4 h5 => (up2_k _ _ _ _ h1).trans (hf3r.1 a h1 h2 h3 h4 h5), fun j q0 q1 q2 q3 q4 => (up2_j _ _ _ _ q2).trans (hf3r.2 j q0 q1 q2 q3 q4)⟩ (by rw [up2_j _ _ _ _ (show (14 : Nat) ≠ 15 by decide)]; exact h14r) (Or.inr ⟨up2_s _ _ _ _, Or.inr ⟨rfl, kk, hkk, hpri, hrn.2 (by omega), by first | exact Or.inr (by omega) | exact Or.inl (hrd.2.2.1.mp (by omega))⟩⟩) rfl
        exact wloop _ _ 0 _ _ hf3k (by rw [hk2 14 (by decide), hfs.2 14 (by decide)]; exact g14) (Or.inl ⟨by rw [hk2 15 (by decide), hfs.2 15 (by decide)]; exact g15, by omega, hBI0, fun i hi => absurd hi (by omega)⟩) rfl
      ·
        refine w_iconst X dX8_search_28 ?_
        refine w_ist4_2 X dX8_search_29 ?_
        have bloop : ∀ (n : Nat) (m1 : Nat → Nat → Int) (b : Nat) (x3 : Option Value), ((b : Int) ≤ L.2.2.1) → (FS m0 m1) → (NI (Dk L 0) (C0 L) t (WQ L t b) m1) → n = 6 - b → WSi p l e s m args below meth c9 6 (fun r9 mi9 mr9 => Res L r9 ∧ MV L set H r9 mi9 ∧ (∀ a, a < 473 → mi9 a = mi a) ∧ mr = mr9) G n0 4 m1 mr 30 [some (.ref (n0 + 473)), some (.int (jI t)), some (.int (jI (b : Int))), x3] [] := by
          intro n
          induction n using Nat.strongRecOn with
          | ind n ih_bloop =>
            intro m1 b x3 hb hfs hni hn
            have h11m : m1 473 11 = L.2.2.1 := by rw [hfs.2 11 (by decide)]; exact h11
            refine w_iload_n X dX8_search_30 rfl ?_
            refine w_aload_n X dX8_search_31 rfl ?_
            refine w_get X (by decide) (σ_473 G n0 _ _) rfl gW_X8 11 (by decide) gF_X8_85 rfl dX8_search_32 ?_
            refine w_icmp_ge X 91 dX8_search_35 (by decide) (fun c35_6 => ?_) (fun c35_6 => ?_)
            ·
              refine w_iinc4_1 X dX8_search_91 ?_
              refine w_goto X 22 dX8_search_94 (by decide) ?_
              exact ih_tloop _ (by omega) _ (t + 1) _ _ (by omega) hfs (NI_next hni (fun y hy hyt => by
                obtain ⟨a, ha, q⟩ := hy
                exact ⟨hyt, a, by omega, q⟩)) rfl
            ·
              have hBb := fun j (hj : j < 5) => AB_bad hA.1 (b := b) (by omega) hj
              have hc0 : C0 L (L.2.2.2.2 b) := ⟨b, by omega, rfl⟩
              have hcd := C0_D hA.1.1 hc0
              have h481 : ∀ j : Nat, j < 5 → m1 481 (5 * b + j) = F5 (L.2.2.2.2 b) j := fun j hj => by rw [hfs.1 481 (by decide) (by decide) (by decide) (by decide)]; exact hM0.2.2.2.2 b (by omega) j hj
              refine w_aload_n X dX8_search_38 rfl ?_
              refine w_get X (by decide) (σ_473 G n0 _ _) rfl gW_X8 12 (by decide) gF_X8_38 rfl dX8_search_39 ?_
              refine w_iconst X dX8_search_42 ?_
              refine w_iload_n X dX8_search_43 rfl ?_
              refine w_imul X dX8_search_44 ?_
              refine s_callSi X _ (c_X8_sum (b := 5 * b) (l := l) (G := G) (n0 := n0) IA_481 (by decide) (by omega)) gM_X8_116 gT_yX8_sum gN_X8 gC_yX8_sum dX8_search_45 hl_yX8_sum ⟨Nat.le_of_ble_eq_true rfl, Nat.le_of_ble_eq_true rfl⟩ (Nat.le_of_ble_eq_true rfl) rfl (fun r1 mi1 mr1 h1 => ?_)
              obtain ⟨rfl, rfl, h1⟩ := h1
              have hsb : r1 = sm (L.2.2.2.2 b) := by
                have e0 := h481 0 (by decide); have e1 := h481 1 (by decide); have e2 := h481 2 (by decide); have e3 := h481 3 (by decide); have e4 := h481 4 (by decide)
                rw [Nat.add_zero] at e0
                rw [h1, e0, e1, e2, e3, e4]; rfl
              have hsz := hBb 0 (by decide)
              have hsm1 := (Dk_z hA.1.1 0 hcd.1).2.2
              have hsm2 := hcd.2
              refine w_iload_n X dX8_search_48 rfl ?_
              refine w_icmp_ne X 85 dX8_search_49 (by decide) (fun c49_7 => ?_) (fun c49_7 => ?_)
              ·
                refine w_iinc4_2 X dX8_search_85 ?_
                refine w_goto X 30 dX8_search_88 (by decide) ?_
                exact ih_bloop _ (by omega) _ (b + 1) _ (by omega) hfs (NI_e hni (fun y hy => by
                  obtain ⟨y1, a, ha, y2⟩ := hy
                  rcases (show a < b ∨ a = b by omega) with q | q
                  · exact ⟨y1, a, q, y2⟩
                  · subst q; exfalso; rw [← y2] at y1; omega)) rfl
              ·
                refine w_iconst X dX8_search_52 ?_
                refine w_ist4_3 X dX8_search_53 ?_
                have cloop : ∀ (n : Nat) (m2 : Nat → Nat → Int) (i : Nat), (i ≤ 5) → (∀ a, a ≠ 485 → m2 a = m1 a) → (∀ j : Nat, j < i → m2 485 j = F5 (L.2.2.2.2 b) j) → n = 5 - i → WSi p l e s m args below meth c9 6 (fun r9 mi9 mr9 => Res L r9 ∧ MV L set H r9 mi9 ∧ (∀ a, a < 473 → mi9 a = mi a) ∧ mr = mr9) G n0 4 m2 mr 54 [some (.ref (n0 + 473)), some (.int (jI t)), some (.int (jI (b : Int))), some (.int (jI (i : Int)))] [] := by
                  intro n
                  induction n using Nat.strongRecOn with
                  | ind n ih_cloop =>
                    intro m2 i hi hm2 hF hn
                    refine w_iload_n X dX8_search_54 rfl ?_
                    refine w_iconst X dX8_search_55 ?_
                    refine w_icmp_ge X 81 dX8_search_56 (by decide) (fun c56_8 => ?_) (fun c56_8 => ?_)
                    ·
                      have h5 : i = 5 := by omega
                      subst h5
                      have hn18 : 0 ≤ m2 473 18 ∧ m2 473 18 ≤ 101 := by rw [hm2 473 (by decide)]; exact hni.1
                      have hone9 : ∀ j : Nat, j < 5 → rg (m2 485 j) := fun j hj => by rw [hF j hj]; have := hBb j hj; exact ⟨by omega, by omega⟩
                      have hnx : ∀ i : Nat, (i : Int) < m2 473 18 → ∀ j : Nat, j < 5 → rg (m2 484 (5 * i + j)) := fun i hi j hj => by rw [hm2 473 (by decide)] at hi; rw [hm2 484 (by decide)]; exact NI_rg (fun v hv => (Dk_z hA.1.1 0 hv).2.1) hni (by omega) i hi j hj
                      have hfs2 : FS m0 m2 := ⟨fun a h1 h2 h3 h4 => (hm2 a h3).trans (hfs.1 a h1 h2 h3 h4), fun j hj => by rw [hm2 473 (by decide)]; exact hfs.2 j hj⟩
                      refine w_aload_n X dX8_search_81 rfl ?_
                      refine s_callVv X _ (c_X8_take (l := l) (G := G) (n0 := n0) hn18 hone9 hnx) gM_X8_152 gI_yX8_take gS_yX8_take gN_X8 gC_yX8_take (by decide) (σ_473 G n0 _ _) rfl dX8_search_82 hl_yX8_take ⟨Nat.le_of_ble_eq_true rfl, Nat.le_of_ble_eq_true rfl⟩ (Nat.le_of_ble_eq_true rfl) rfl (fun mi2 mr2 h2 => ?_)
                      obtain ⟨htk, rfl⟩ := h2
                      have hfk := (FS_tk hfs2 htk).1
                      have hnk0 := NI_take (g := L.2.2.2.2 b) C0_G (NI_fr hni (by rw [hm2 473 (by decide)]) (hm2 484 (by decide))) htk (T5_c hF) hcd.1 (by omega)
                      refine w_iinc4_2 X dX8_search_85 ?_
                      refine w_goto X 30 dX8_search_88 (by decide) ?_
                      exact ih_bloop _ (by omega) _ (b + 1) _ (by omega) hfk (NI_e hnk0 (fun y hy => by
                        obtain ⟨y1, a, ha, y2⟩ := hy
                        rcases (show a < b ∨ a = b by omega) with q | q
                        · exact Or.inl ⟨y1, a, q, y2⟩
                        · subst q; exact Or.inr y2.symm)) rfl
                    ·
                      refine w_aload_n X dX8_search_59 rfl ?_
                      refine w_get X (by decide) (σ_473 G n0 _ _) rfl gW_X8 20 (by decide) gF_X8_50 rfl dX8_search_60 ?_
                      refine w_iload_n X dX8_search_63 rfl ?_
                      refine w_aload_n X dX8_search_64 rfl ?_
                      refine w_get X (by decide) (σ_473 G n0 _ _) rfl gW_X8 12 (by decide) gF_X8_38 rfl dX8_search_65 ?_
                      refine w_iconst X dX8_search_68 ?_
                      refine w_iload_n X dX8_search_69 rfl ?_
                      refine w_imul X dX8_search_70 ?_
                      refine w_iload_n X dX8_search_71 rfl ?_
                      refine w_iadd X dX8_search_72 ?_
                      refine s_iald X ((5 * b + i)) (by decide) (fun _ => σ_481 G n0 _ _) dX8_search_73 ?_
                      refine s_iast X (i) (by decide) (fun _ => σ_m5 G n0 _ _ (by decide)) dX8_search_74 ?_
                      refine w_iinc4_3 X dX8_search_75 ?_
                      refine w_goto X 54 dX8_search_78 (by decide) ?_
                      rw [hm2 481 (by decide), h481 i (by omega)]
                      exact ih_cloop _ (by omega) _ (i + 1) (by omega) (fun a ha => (up2_k _ _ _ _ ha).trans (hm2 a ha)) (fun j hj => by
                        rcases (show j < i ∨ j = i by omega) with q | q
                        · rw [up2_j _ _ _ _ (by omega)]; exact hF j q
                        · subst q; rw [up2_s]) rfl
                exact cloop _ m1 0 (by omega) (fun _ _ => rfl) (fun j hj => absurd hj (by omega)) rfl
        exact bloop _ m1 0 _ (by omega) hfs (NI_e hni (fun y hy => by obtain ⟨-, a, ha, -⟩ := hy; exact absurd ha (by omega))) rfl
  exact tloop _ m0 1 _ _ (by omega) ⟨fun _ _ _ _ _ => rfl, fun _ _ => rfl⟩ ⟨by omega, fun i hi => by omega, fun i j _ hj => by omega, fun _ => ⟨fun y hy hlt => by have := (Dk_z hA.1.1 0 (C0_D hA.1.1 hy).1).2.2; omega, fun y hy => absurd hy id⟩⟩ rfl
