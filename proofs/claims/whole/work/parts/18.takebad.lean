theorem few {mi m : Nat → Nat → Int} {r : Nat → Nat → Nat} {A : Nat} (hS : Srt (Ef m r A)) (hb : 0 ≤ mi 1 6 ∧ mi 1 6 ≤ 6) (h : ∀ y ∈ Ef m r A, ∃ b : Nat, (b : Int) < mi 1 6 ∧ T5 (mi (30 + 2 * b + 1)) = y.1) : m A 2 ≤ 6 := by
  have h1 := nd_len (Srt_nd hS) (l2 := (List.range (mi 1 6).toNat).map (fun b => T5 (mi (30 + 2 * b + 1)))) (fun x hx => by
    obtain ⟨y, hy, rfl⟩ := List.mem_map.mp hx
    obtain ⟨b, hb, e⟩ := h y hy
    exact List.mem_map.mpr ⟨b, List.mem_range.mpr (by omega), e⟩)
  rw [List.length_map, Ef_len, List.length_map, List.length_range] at h1
  omega
set_option maxRecDepth 20000 in
set_option maxHeartbeats 4000000 in
theorem c_X0_takeBadOnes {l : Launch} {G : Gt} {n0 : Nat} {mi : Nat → Nat → Int} {mr : Nat → Nat → Nat} {A : Nat} {D : V5 → Prop} (hAb : isBs A) (hA : mr 44 4 = A) (hL : LW mi) (hBA : BO mi mr A) (hBd : ∀ b : Nat, (b : Int) < mi 1 6 → 1 ≤ sum5 (mi (30 + 2 * b + 1)) ∧ sum5 (mi (30 + 2 * b + 1)) ≤ 45) (hG0 : ∀ v, D v → ∃ g, (∃ b : Nat, (b : Int) < mi 1 6 ∧ T5 (mi (30 + 2 * b + 1)) = g) ∧ gv v g) (hCD : ∀ g, (∃ b : Nat, (b : Int) < mi 1 6 ∧ T5 (mi (30 + 2 * b + 1)) = g) → D g) : Cv l yX0_takeBadOnes cX0_takeBadOnes 3 4 G n0 [.ref (n0 + 44)] mi mr (fun mi9 mr9 => BO mi9 mr9 A ∧ Srt (Ef mi9 mr9 A) ∧ FCo mi9 mr9 A ∧ (∀ v, Mn D v ↔ ∃ y ∈ Ef mi9 mr9 A, y.1 = v) ∧ (∀ y ∈ Ef mi9 mr9 A, y.2 = 1) ∧ mi9 A 2 ≤ 6 ∧ (∀ a, a < A ∨ A + 205 ≤ a → mi9 a = mi a) ∧ ∀ a, a ≠ A + 1 → mr9 a = mr a) := by
  refine Ct_of (by decide +kernel) (by intro v hv; simp at hv; rcases hv with rfl <;> rfl) (Nat.le_of_ble_eq_true rfl) ?_
  intro p e s m args below meth c9 X hr hname
  show WW _ _ _ _ _ _ _ _ _ _ _ _ _ _ _ _ _ _ _ [some (.ref (n0 + 44)), none, none] _
  have hL4 := hL.2.2.2.1
  have hAb2 : 51 ≤ A ∧ A ≤ 256 := by unfold isBs at hAb; omega
  refine w_aload_n X dX0_takeBadOnes_0 rfl ?_
  refine w_get X (by decide) (σ_44 G n0 _ _) rfl gW_X0 4 (by decide) gF_X0_33 rfl dX0_takeBadOnes_1 ?_
  rw [hA]
  refine s_callVv X _ (c_X1_clear (l := l) (G := G) (n0 := n0) hAb) gM_X0_81 gI_yX1_clear gS_yX1_clear gN_X1 gC_yX1_clear (isBs_k hAb) (σ_bs G n0 _ _ hAb) rfl dX0_takeBadOnes_4 hl_yX1_clear ⟨Nat.le_of_ble_eq_true rfl, Nat.le_of_ble_eq_true rfl⟩ (Nat.le_of_ble_eq_true rfl) rfl (fun mi1 mr1 h1 => ?_)
  obtain ⟨rfl, rfl⟩ := h1
  refine w_iconst X dX0_takeBadOnes_7 ?_
  refine w_ist3_1 X dX0_takeBadOnes_8 ?_
  obtain ⟨hB0, hE0, hF0, hS0⟩ := BO_0 (mi' := up2 (up2 mi A 2 0) A 3 0) hBA (by rw [up2_j _ _ _ _ (show (2 : Nat) ≠ 3 by decide), up2_s]) (up2_s _ _ _ _)
  have hm0 : ∀ a, a < A ∨ A + 205 ≤ a → up2 (up2 mi A 2 0) A 3 0 a = mi a := fun a ha => by rw [up2_k _ _ _ _ (by omega), up2_k _ _ _ _ (by omega)]
  generalize up2 (up2 mi A 2 0) A 3 0 = mi0 at hB0 hE0 hF0 hS0 hm0 ⊢
  have loop : ∀ (n : Nat) (mi' : Nat → Nat → Int) (mr' : Nat → Nat → Nat) (t : Int) (x2 : Option Value), (1 ≤ t ∧ t ≤ 46) → (Grw nX mi0 mi' mr mr' A (fun y : V5 × Int => y.2 = 1 ∧ (∃ b : Nat, (b : Int) < mi 1 6 ∧ (T5 (mi (30 + 2 * b + 1))) = y.1) ∧ Mn D y.1)) → (∀ b : Nat, (b : Int) < mi 1 6 → sum5 (mi (30 + 2 * b + 1)) < t → ∃ y ∈ Ef mi' mr' A, gv (T5 (mi (30 + 2 * b + 1))) y.1) → n = (46 - t).toNat → WSv p l e s m args below meth c9 4 (fun mi9 mr9 => BO mi9 mr9 A ∧ Srt (Ef mi9 mr9 A) ∧ FCo mi9 mr9 A ∧ (∀ v, Mn D v ↔ ∃ y ∈ Ef mi9 mr9 A, y.1 = v) ∧ (∀ y ∈ Ef mi9 mr9 A, y.2 = 1) ∧ mi9 A 2 ≤ 6 ∧ (∀ a, a < A ∨ A + 205 ≤ a → mi9 a = mi a) ∧ ∀ a, a ≠ A + 1 → mr9 a = mr a) G n0 3 mi' mr' 9 [some (.ref (n0 + 44)), some (.int (jI t)), x2] [] := by
    intro n
    induction n using Nat.strongRecOn with
    | ind n ih_loop =>
      intro mi' mr' t x2 ht hG hc hn
      have hm' : ∀ a, a < A ∨ A + 205 ≤ a → mi' a = mi a := fun a ha => (hG.2.2.2.2.2.1 a ha (fun q => q)).trans (hm0 a ha)
      have hr' : ∀ a, a ≠ A + 1 → mr' a = mr a := hG.2.2.2.2.2.2.1
      have hA' : mr' 44 4 = A := by rw [hr' 44 (by omega)]; exact hA
      have e1' : mi' 1 = mi 1 := hm' 1 (by omega)
      have hin' : ∀ y ∈ Ef mi' mr' A, y.2 = 1 ∧ (∃ b : Nat, (b : Int) < mi 1 6 ∧ (T5 (mi (30 + 2 * b + 1))) = y.1) ∧ Mn D y.1 := fun y hy => by rcases hG.2.2.2.2.1 y hy with q | q; rw [hE0] at q; cases q; exact q.1
      have hfew' := few hG.2.1 hL4 (fun y hy => (hin' y hy).2.1)
      refine w_iload_n X dX0_takeBadOnes_9 rfl ?_
      refine w_bipush X dX0_takeBadOnes_10 rfl ?_
      refine w_icmp_gt X 92 dX0_takeBadOnes_12 (by decide) (fun c12_1 => ?_) (fun c12_1 => ?_)
      ·
        refine s_vret X hr dX0_takeBadOnes_92 ?_
        refine ⟨hG.1, hG.2.1, hG.2.2.1, ?_, fun y hy => (hin' y hy).1, hfew', hm', hr'⟩
        intro v
        refine Iff.trans (Iff.symm (Mn_all (E := fun v => ∃ y ∈ Ef mi' mr' A, y.1 = v) hG0 (fun v hv => by obtain ⟨y, h1, rfl⟩ := hv; exact (hin' y h1).2.2) (fun g hg => by obtain ⟨b, hb, rfl⟩ := hg; obtain ⟨y, h1, h2⟩ := hc b hb (by have := hBd b hb; omega); exact ⟨y.1, ⟨y, h1, rfl⟩, h2⟩) v)) Iff.rfl
      ·
        refine w_iconst X dX0_takeBadOnes_15 ?_
        refine w_ist3_2 X dX0_takeBadOnes_16 ?_
        have loop2 : ∀ (n : Nat) (n2 : Nat → Nat → Int) (s2 : Nat → Nat → Nat) (i : Nat), (1 ≤ t ∧ t ≤ 45) → ((i : Int) ≤ mi 1 6) → (Grw nX mi0 n2 mr s2 A (fun y : V5 × Int => y.2 = 1 ∧ (∃ b : Nat, (b : Int) < mi 1 6 ∧ (T5 (mi (30 + 2 * b + 1))) = y.1) ∧ Mn D y.1)) → (∀ b : Nat, (b : Int) < mi 1 6 → sum5 (mi (30 + 2 * b + 1)) < t → ∃ y ∈ Ef n2 s2 A, gv (T5 (mi (30 + 2 * b + 1))) y.1) → (∀ b : Nat, b < i → sum5 (mi (30 + 2 * b + 1)) = t → ∃ y ∈ Ef n2 s2 A, gv (T5 (mi (30 + 2 * b + 1))) y.1) → n = 6 - i → WSv p l e s m args below meth c9 4 (fun mi9 mr9 => BO mi9 mr9 A ∧ Srt (Ef mi9 mr9 A) ∧ FCo mi9 mr9 A ∧ (∀ v, Mn D v ↔ ∃ y ∈ Ef mi9 mr9 A, y.1 = v) ∧ (∀ y ∈ Ef mi9 mr9 A, y.2 = 1) ∧ mi9 A 2 ≤ 6 ∧ (∀ a, a < A ∨ A + 205 ≤ a → mi9 a = mi a) ∧ ∀ a, a ≠ A + 1 → mr9 a = mr a) G n0 3 n2 s2 17 [some (.ref (n0 + 44)), some (.int (jI t)), some (.int (jI (i : Int)))] [] := by
          intro n
          induction n using Nat.strongRecOn with
          | ind n ih_loop2 =>
            intro n2 s2 i ht2 hi hG2 hc2 hc3 hn
            have hmQ : ∀ a, a < A ∨ A + 205 ≤ a → n2 a = mi a := fun a ha => (hG2.2.2.2.2.2.1 a ha (fun q => q)).trans (hm0 a ha)
            have hrQ : ∀ a, a ≠ A + 1 → s2 a = mr a := hG2.2.2.2.2.2.2.1
            have hAQ : s2 44 4 = A := by rw [hrQ 44 (by omega)]; exact hA
            have e1Q : n2 1 = mi 1 := hmQ 1 (by omega)
            have hinQ : ∀ y ∈ Ef n2 s2 A, y.2 = 1 ∧ (∃ b : Nat, (b : Int) < mi 1 6 ∧ (T5 (mi (30 + 2 * b + 1))) = y.1) ∧ Mn D y.1 := fun y hy => by rcases hG2.2.2.2.2.1 y hy with q | q; rw [hE0] at q; cases q; exact q.1
            have hfewQ := few hG2.2.1 hL4 (fun y hy => (hinQ y hy).2.1)
            refine w_iload_n X dX0_takeBadOnes_17 rfl ?_
            refine w_aload_n X dX0_takeBadOnes_18 rfl ?_
            refine w_get X (by decide) (σ_44 G n0 _ _) rfl gW_X0 0 (by decide) gF_X0_44 rfl dX0_takeBadOnes_19 ?_
            refine w_getN X (by decide) (σ_1 G n0 _ _) rfl gW_X5 6 (by decide) gF_X0_84 rfl dX0_takeBadOnes_22 ?_
            rw [e1Q]
            refine w_icmp_ge X 86 dX0_takeBadOnes_25 (by decide) (fun c25_2 => ?_) (fun c25_2 => ?_)
            ·
              refine w_iinc3_1 X dX0_takeBadOnes_86 ?_
              refine w_goto X 9 dX0_takeBadOnes_89 (by decide) ?_
              exact ih_loop _ (by omega) n2 s2 (t + 1) _ (by omega) hG2 (fun b hb hs => by
                by_cases q : sum5 (mi (30 + 2 * b + 1)) < t
                · exact hc2 b hb q
                · exact hc3 b (by omega) (by omega)) rfl
            ·
              have hrw : n2 (30 + 2 * i + 1) = mi (30 + 2 * i + 1) := hmQ _ (by omega)
              have hcb : CB n2 (30 + 2 * i) := CB_fr (hL.2.2.2.2.2 i (by omega)) hrw
              have hown : ∀ i2 : Nat, i2 < 101 → (30 + 2 * i : Nat) ≠ s2 (A + 1) i2 := fun i2 h2 => by have := hG2.1.2.2.1 i2 h2; omega
              have hs5 := sum5_b (hL.2.2.2.2.2 i (by omega))
              refine w_aload_n X dX0_takeBadOnes_28 rfl ?_
              refine w_get X (by decide) (σ_44 G n0 _ _) rfl gW_X0 0 (by decide) gF_X0_44 rfl dX0_takeBadOnes_29 ?_
              refine w_getN X (by decide) (σ_1 G n0 _ _) rfl gW_X5 1 (by decide) gF_X0_87 rfl dX0_takeBadOnes_32 ?_
              refine w_iload_n X dX0_takeBadOnes_35 rfl ?_
              refine s_aald X (t := 2) (i) (by decide) (σ_3 G n0 _ _) rfl dX0_takeBadOnes_36 ?_
              refine s_callVi X _ (c_X3_sum (l := l) (G := G) (n0 := n0) (cr_3 (by omega))) gM_X0_64 gI_yX3_sum gS_yX3_sum gN_X3 gC_yX3_sum (isCr_k (cr_3 (by omega))) (σ_cr G n0 _ _ (cr_3 (by omega))) rfl dX0_takeBadOnes_37 hl_yX3_sum ⟨Nat.le_of_ble_eq_true rfl, Nat.le_of_ble_eq_true rfl⟩ (Nat.le_of_ble_eq_true rfl) rfl (fun r2 mi2 mr2 h2 => ?_)
              obtain ⟨rfl, rfl, h2⟩ := h2
              rw [hrw] at h2
              refine w_iload_n X dX0_takeBadOnes_40 rfl ?_
              refine w_icmp_ne X 80 dX0_takeBadOnes_41 (by decide) (fun c41_3 => ?_) (fun c41_3 => ?_)
              ·
                refine w_iinc3_2 X dX0_takeBadOnes_80 ?_
                refine w_goto X 17 dX0_takeBadOnes_83 (by decide) ?_
                exact ih_loop2 _ (by omega) n2 s2 (i + 1) ht2 (by omega) hG2 hc2 (fun b hb hs => by
                  rcases (show b < i ∨ b = i by omega) with q | q
                  · exact hc3 b q hs
                  · subst q; omega) rfl
              ·
                refine w_aload_n X dX0_takeBadOnes_44 rfl ?_
                refine w_get X (by decide) (σ_44 G n0 _ _) rfl gW_X0 4 (by decide) gF_X0_33 rfl dX0_takeBadOnes_45 ?_
                rw [hAQ]
                refine w_aload_n X dX0_takeBadOnes_48 rfl ?_
                refine w_get X (by decide) (σ_44 G n0 _ _) rfl gW_X0 0 (by decide) gF_X0_44 rfl dX0_takeBadOnes_49 ?_
                refine w_getN X (by decide) (σ_1 G n0 _ _) rfl gW_X5 1 (by decide) gF_X0_87 rfl dX0_takeBadOnes_52 ?_
                refine w_iload_n X dX0_takeBadOnes_55 rfl ?_
                refine s_aald X (t := 2) (i) (by decide) (σ_3 G n0 _ _) rfl dX0_takeBadOnes_56 ?_
                refine s_callVi X _ (c_X1_cover (l := l) (G := G) (n0 := n0) hG2.1 (cr_3 (by omega)) hcb) gM_X0_48 gI_yX1_cover gS_yX1_cover gN_X1 gC_yX1_cover (isBs_k hAb) (σ_bs G n0 _ _ hAb) rfl dX0_takeBadOnes_57 hl_yX1_cover ⟨Nat.le_of_ble_eq_true rfl, Nat.le_of_ble_eq_true rfl⟩ (Nat.le_of_ble_eq_true rfl) rfl (fun r3 mi3 mr3 h3 => ?_)
                obtain ⟨rfl, rfl, h3⟩ := h3
                have h3 := cov_E h3
                refine w_if_ne X 80 dX0_takeBadOnes_60 (by decide) (fun c60_4 => ?_) (fun c60_4 => ?_)
                ·
                  refine w_iinc3_2 X dX0_takeBadOnes_80 ?_
                  refine w_goto X 17 dX0_takeBadOnes_83 (by decide) ?_
                  exact ih_loop2 _ (by omega) n2 s2 (i + 1) ht2 (by omega) hG2 hc2 (fun b hb hs => by
                    rcases (show b < i ∨ b = i by omega) with q | q
                    · exact hc3 b q hs
                    · subst q
                      rcases h3 with ⟨-, q2⟩ | ⟨q2, -⟩
                      · rw [hrw] at q2; exact q2
                      · exact absurd q2 (by assumption)) rfl
                ·
                  have hunc : ∀ y ∈ Ef n2 s2 A, ¬ gv (T5 (n2 (30 + 2 * i + 1))) y.1 := by
                    rcases h3 with ⟨q2, -⟩ | ⟨-, q2⟩
                    · omega
                    · exact q2
                  refine w_aload_n X dX0_takeBadOnes_63 rfl ?_
                  refine w_get X (by decide) (σ_44 G n0 _ _) rfl gW_X0 4 (by decide) gF_X0_33 rfl dX0_takeBadOnes_64 ?_
                  rw [hAQ]
                  refine w_aload_n X dX0_takeBadOnes_67 rfl ?_
                  refine w_get X (by decide) (σ_44 G n0 _ _) rfl gW_X0 0 (by decide) gF_X0_44 rfl dX0_takeBadOnes_68 ?_
                  refine w_getN X (by decide) (σ_1 G n0 _ _) rfl gW_X5 1 (by decide) gF_X0_87 rfl dX0_takeBadOnes_71 ?_
                  refine w_iload_n X dX0_takeBadOnes_74 rfl ?_
                  refine s_aald X (t := 2) (i) (by decide) (σ_3 G n0 _ _) rfl dX0_takeBadOnes_75 ?_
                  refine w_iconst X dX0_takeBadOnes_76 ?_
                  refine s_callVv X _ (c_X1_take (l := l) (G := G) (n0 := n0) (Or.inr rfl) hG2.1 (cr_3 (by omega)) hcb hown) gM_X0_90 gI_yX1_take gS_yX1_take gN_X1 gC_yX1_take (isBs_k hAb) (σ_bs G n0 _ _ hAb) rfl dX0_takeBadOnes_77 hl_yX1_take ⟨Nat.le_of_ble_eq_true rfl, Nat.le_of_ble_eq_true rfl⟩ (Nat.le_of_ble_eq_true rfl) rfl (fun mi4 mr4 h4 => ?_)
                  refine w_iinc3_2 X dX0_takeBadOnes_80 ?_
                  refine w_goto X 17 dX0_takeBadOnes_83 (by decide) ?_
                  have hT5 : T5 (n2 (30 + 2 * i + 1)) = T5 (mi (30 + 2 * i + 1)) := by rw [hrw]
                  have hMn : Mn D (T5 (mi (30 + 2 * i + 1))) := Mn_new (C := fun g => ∃ b : Nat, (b : Int) < mi 1 6 ∧ T5 (mi (30 + 2 * b + 1)) = g) (E := fun v => ∃ y ∈ Ef n2 s2 A, y.1 = v) hG0 (fun g hg hs => by obtain ⟨b, hb, rfl⟩ := hg; obtain ⟨y, h1, h2⟩ := hc2 b hb hs; exact ⟨y.1, ⟨y, h1, rfl⟩, h2⟩) (hCD _ ⟨i, by omega, rfl⟩) (by rw [sm_T]; omega) (fun y hy => by obtain ⟨y2, h1, rfl⟩ := hy; have := hunc y2 h1; rw [hT5] at this; exact this)
                  obtain ⟨hG3, hin3⟩ := take_G (X := nX) (P := (fun y : V5 × Int => y.2 = 1 ∧ (∃ b : Nat, (b : Int) < mi 1 6 ∧ (T5 (mi (30 + 2 * b + 1))) = y.1) ∧ Mn D y.1)) hG2.1 (Or.inr rfl) hcb hG2.2.1 hG2.2.2.1 hunc (by rw [hT5]; exact ⟨rfl, ⟨i, by omega, rfl⟩, hMn⟩) h4
                  exact ih_loop2 _ (by omega) mi4 mr4 (i + 1) ht2 (by omega) (Grw_t hG2 hG3) (fun b hb hs => by obtain ⟨y, h1, h2⟩ := hc2 b hb hs; exact ⟨y, hG3.2.2.2.1 y h1, h2⟩) (fun b hb hs => by
                    rcases (show b < i ∨ b = i by omega) with q | q
                    · obtain ⟨y, h1, h2⟩ := hc3 b q hs
                      exact ⟨y, hG3.2.2.2.1 y h1, h2⟩
                    · subst q
                      rcases hin3 with q2 | q2
                      · exact ⟨_, q2, by rw [hT5]; exact gv_r _⟩
                      · exfalso
                        have h9 := few (Grw_t hG2 hG3).2.1 hL4 (fun y hy => by rcases (Grw_t hG2 hG3).2.2.2.2.1 y hy with q | q; rw [hE0] at q; cases q; exact q.1.2.1)
                        omega) rfl
        exact loop2 _ mi' mr' 0 (by omega) (by omega) hG hc (fun b hb => absurd hb (by omega)) rfl
  exact loop _ mi0 mr 1 _ (by omega) (Grw_r hB0 hS0 hF0) (fun b hb hs => by have := hBd b hb; omega) rfl
