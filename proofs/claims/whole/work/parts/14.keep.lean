def AN (A N : Nat) : Prop := A = 51 ∧ N = 256 ∨ A = 256 ∧ N = 51
theorem AN.a {A N : Nat} (h : AN A N) : isBs A := by unfold AN at h; unfold isBs; omega
theorem AN.b {A N : Nat} (h : AN A N) : isBs N := by unfold AN at h; unfold isBs; omega
theorem AN.ne {A N : Nat} (h : AN A N) : A ≠ N ∧ 51 ≤ A ∧ A ≤ 256 ∧ 51 ≤ N ∧ N ≤ 256 ∧ (A + 205 ≤ N ∨ N + 205 ≤ A) := by unfold AN at h; omega
theorem AN.nn {A N : Nat} {mr : Nat → Nat → Nat} (h : AN A N) (hA : mr 44 4 = A) (hN : mr 44 5 = N) : NN mr := by unfold AN at h; unfold NN; rw [hA, hN]; exact h
def nX : Nat → Prop := fun _ => False
set_option maxRecDepth 20000 in
set_option maxHeartbeats 4000000 in
theorem c_X0_keepOld {l : Launch} {G : Gt} {n0 : Nat} {mi : Nat → Nat → Int} {mr : Nat → Nat → Nat} {A N : Nat} {t : Int} (hAN : AN A N) (hA : mr 44 4 = A) (hN : mr 44 5 = N) (hBA : BO mi mr A) (hBN : BO mi mr N) (hSN : Srt (Ef mi mr N)) (hFN : FCo mi mr N) (ht : rg t) : Cv l yX0_keepOld cX0_keepOld 3 4 G n0 [.ref (n0 + 44), .int (jI t)] mi mr (fun mi9 mr9 => Grw nX mi mi9 mr mr9 N (fun y => y.2 = 0 ∧ (∃ u ∈ Ef mi mr A, u.1 = y.1) ∧ sm y.1 = t) ∧ ∀ i' : Nat, (i' : Int) < mi A 2 → sum5 (mi (mr (A + 1) i' + 1)) = t → (∃ y ∈ Ef mi9 mr9 N, gv (T5 (mi (mr (A + 1) i' + 1))) y.1) ∨ 100 < mi9 N 2) := by
  refine Ct_of (by decide +kernel) (by intro v hv; simp at hv; rcases hv with rfl | rfl <;> rfl) (Nat.le_of_ble_eq_true rfl) ?_
  intro p e s m args below meth c9 X hr hname
  show WW _ _ _ _ _ _ _ _ _ _ _ _ _ _ _ _ _ _ _ [some (.ref (n0 + 44)), some (.int (jI t)), none] _
  have hBA2 := hBA.2.1
  have hne := hAN.ne
  refine w_iconst X dX0_keepOld_0 ?_
  refine w_ist3_2 X dX0_keepOld_1 ?_
  have loop : ∀ (n : Nat) (mi' : Nat → Nat → Int) (mr' : Nat → Nat → Nat) (i : Nat) (x2 : Option Value), ((i : Int) ≤ mi A 2) → (Grw nX mi mi' mr mr' N (fun y => y.2 = 0 ∧ (∃ u ∈ Ef mi mr A, u.1 = y.1) ∧ sm y.1 = t)) → (∀ i' : Nat, i' < i → sum5 (mi (mr (A + 1) i' + 1)) = t → (∃ y ∈ Ef mi' mr' N, gv (T5 (mi (mr (A + 1) i' + 1))) y.1) ∨ 100 < mi' N 2) → n = 101 - i → WSv p l e s m args below meth c9 4 (fun mi9 mr9 => Grw nX mi mi9 mr mr9 N (fun y => y.2 = 0 ∧ (∃ u ∈ Ef mi mr A, u.1 = y.1) ∧ sm y.1 = t) ∧ ∀ i' : Nat, (i' : Int) < mi A 2 → sum5 (mi (mr (A + 1) i' + 1)) = t → (∃ y ∈ Ef mi9 mr9 N, gv (T5 (mi (mr (A + 1) i' + 1))) y.1) ∨ 100 < mi9 N 2) G n0 3 mi' mr' 2 [some (.ref (n0 + 44)), some (.int (jI t)), some (.int (jI (i : Int)))] [] := by
    intro n
    induction n using Nat.strongRecOn with
    | ind n ih_loop =>
      intro mi' mr' i x2 hi hG hc hn
      have hm' : ∀ a, a < N ∨ N + 205 ≤ a → mi' a = mi a := fun a ha => hG.2.2.2.2.2.1 a ha (fun q => q)
      have hr' : ∀ a, a ≠ N + 1 → mr' a = mr a := hG.2.2.2.2.2.2.1
      have hA' : mr' 44 4 = A := by rw [hr' 44 (by omega)]; exact hA
      have hN' : mr' 44 5 = N := by rw [hr' 44 (by omega)]; exact hN
      have eA : mi' A = mi A := hm' A (by omega)
      have eA1 : mr' (A + 1) = mr (A + 1) := hr' _ (by omega)
      refine w_iload_n X dX0_keepOld_2 rfl ?_
      refine w_aload_n X dX0_keepOld_3 rfl ?_
      refine w_get X (by decide) (σ_44 G n0 _ _) rfl gW_X0 4 (by decide) gF_X0_33 rfl dX0_keepOld_4 ?_
      rw [hA']
      refine w_getN X (isBs_k hAN.a) (σ_bs G n0 _ _ hAN.a) rfl gW_X1 2 (by decide) gF_X0_52 rfl dX0_keepOld_7 ?_
      rw [eA]
      refine w_icmp_ge X 71 dX0_keepOld_10 (by decide) (fun c10_1 => ?_) (fun c10_1 => ?_)
      ·
        refine s_vret X hr dX0_keepOld_71 ?_
        exact ⟨hG, fun i2 hi2 hs2 => hc i2 (by omega) hs2⟩
      ·
        have hcr0 := hBA.2.2.1 i (by omega)
        have hcr : isCr (mr' (A + 1) i) := by rw [eA1]; exact hBA.cr (by omega)
        have hrw : mi' (mr (A + 1) i + 1) = mi (mr (A + 1) i + 1) := hm' _ (by omega)
        have hcb : CB mi' (mr' (A + 1) i) := by rw [eA1]; exact CB_fr (hBA.2.2.2.2.1 i (by omega)) hrw
        have hown : ∀ i2 : Nat, i2 < 101 → mr' (A + 1) i ≠ mr' (N + 1) i2 := fun i2 h2 => by have := hG.1.2.2.1 i2 h2; rw [eA1]; omega
        have hs5 := sum5_b (hBA.2.2.2.2.1 i (by omega))
        refine w_aload_n X dX0_keepOld_13 rfl ?_
        refine w_get X (by decide) (σ_44 G n0 _ _) rfl gW_X0 4 (by decide) gF_X0_33 rfl dX0_keepOld_14 ?_
        rw [hA']
        refine w_getN X (isBs_k hAN.a) (σ_bs G n0 _ _ hAN.a) rfl gW_X1 0 (by decide) gF_X0_55 rfl dX0_keepOld_17 ?_
        refine w_iload_n X dX0_keepOld_20 rfl ?_
        refine s_aald X (t := 2) (i) (isBs_k1 hAN.a) (σ_r1 G n0 _ _ hAN.a) rfl dX0_keepOld_21 ?_
        refine s_callVi X _ (c_X3_sum (l := l) (G := G) (n0 := n0) hcr) gM_X0_64 gI_yX3_sum gS_yX3_sum gN_X3 gC_yX3_sum (isCr_k hcr) (σ_cr G n0 _ _ hcr) rfl dX0_keepOld_22 hl_yX3_sum ⟨Nat.le_of_ble_eq_true rfl, Nat.le_of_ble_eq_true rfl⟩ (Nat.le_of_ble_eq_true rfl) rfl (fun r1 mi1 mr1 h1 => ?_)
        obtain ⟨rfl, rfl, h1⟩ := h1
        rw [eA1, hrw] at h1
        refine w_iload_n X dX0_keepOld_25 rfl ?_
        refine w_icmp_ne X 65 dX0_keepOld_26 (by decide) (fun c26_2 => ?_) (fun c26_2 => ?_)
        ·
          refine w_iinc3_2 X dX0_keepOld_65 ?_
          refine w_goto X 2 dX0_keepOld_68 (by decide) ?_
          exact ih_loop _ (by omega) mi' mr' (i + 1) none (by omega) hG (fun i2 hi2 hs2 => by
            rcases (show i2 < i ∨ i2 = i by omega) with q | q
            · exact hc i2 q hs2
            · subst q; omega) rfl
        ·
          refine w_aload_n X dX0_keepOld_29 rfl ?_
          refine w_get X (by decide) (σ_44 G n0 _ _) rfl gW_X0 5 (by decide) gF_X0_37 rfl dX0_keepOld_30 ?_
          rw [hN']
          refine w_aload_n X dX0_keepOld_33 rfl ?_
          refine w_get X (by decide) (σ_44 G n0 _ _) rfl gW_X0 4 (by decide) gF_X0_33 rfl dX0_keepOld_34 ?_
          rw [hA']
          refine w_getN X (isBs_k hAN.a) (σ_bs G n0 _ _ hAN.a) rfl gW_X1 0 (by decide) gF_X0_55 rfl dX0_keepOld_37 ?_
          refine w_iload_n X dX0_keepOld_40 rfl ?_
          refine s_aald X (t := 2) (i) (isBs_k1 hAN.a) (σ_r1 G n0 _ _ hAN.a) rfl dX0_keepOld_41 ?_
          refine s_callVi X _ (c_X1_cover (l := l) (G := G) (n0 := n0) hG.1 hcr hcb) gM_X0_48 gI_yX1_cover gS_yX1_cover gN_X1 gC_yX1_cover (isBs_k hAN.b) (σ_bs G n0 _ _ hAN.b) rfl dX0_keepOld_42 hl_yX1_cover ⟨Nat.le_of_ble_eq_true rfl, Nat.le_of_ble_eq_true rfl⟩ (Nat.le_of_ble_eq_true rfl) rfl (fun r2 mi2 mr2 h2 => ?_)
          obtain ⟨rfl, rfl, h2⟩ := h2
          have h2 := cov_E h2
          refine w_if_ne X 65 dX0_keepOld_45 (by decide) (fun c45_3 => ?_) (fun c45_3 => ?_)
          ·
            refine w_iinc3_2 X dX0_keepOld_65 ?_
            refine w_goto X 2 dX0_keepOld_68 (by decide) ?_
            exact ih_loop _ (by omega) mi' mr' (i + 1) none (by omega) hG (fun i2 hi2 hs2 => by
              rcases (show i2 < i ∨ i2 = i by omega) with q | q
              · exact hc i2 q hs2
              · subst q
                left
                rcases h2 with ⟨-, q2⟩ | ⟨q2, -⟩
                · rw [eA1, hrw] at q2; exact q2
                · exact absurd q2 (by assumption)) rfl
          ·
            have hunc : ∀ y ∈ Ef mi' mr' N, ¬ gv (T5 (mi' (mr' (A + 1) i + 1))) y.1 := by
              rcases h2 with ⟨q2, -⟩ | ⟨-, q2⟩
              · omega
              · exact q2
            refine w_aload_n X dX0_keepOld_48 rfl ?_
            refine w_get X (by decide) (σ_44 G n0 _ _) rfl gW_X0 5 (by decide) gF_X0_37 rfl dX0_keepOld_49 ?_
            rw [hN']
            refine w_aload_n X dX0_keepOld_52 rfl ?_
            refine w_get X (by decide) (σ_44 G n0 _ _) rfl gW_X0 4 (by decide) gF_X0_33 rfl dX0_keepOld_53 ?_
            rw [hA']
            refine w_getN X (isBs_k hAN.a) (σ_bs G n0 _ _ hAN.a) rfl gW_X1 0 (by decide) gF_X0_55 rfl dX0_keepOld_56 ?_
            refine w_iload_n X dX0_keepOld_59 rfl ?_
            refine s_aald X (t := 2) (i) (isBs_k1 hAN.a) (σ_r1 G n0 _ _ hAN.a) rfl dX0_keepOld_60 ?_
            refine w_iconst X dX0_keepOld_61 ?_
            refine s_callVv X _ (c_X1_take (l := l) (G := G) (n0 := n0) (Or.inl rfl) hG.1 hcr hcb hown) gM_X0_90 gI_yX1_take gS_yX1_take gN_X1 gC_yX1_take (isBs_k hAN.b) (σ_bs G n0 _ _ hAN.b) rfl dX0_keepOld_62 hl_yX1_take ⟨Nat.le_of_ble_eq_true rfl, Nat.le_of_ble_eq_true rfl⟩ (Nat.le_of_ble_eq_true rfl) rfl (fun mi3 mr3 h3 => ?_)
            refine w_iinc3_2 X dX0_keepOld_65 ?_
            refine w_goto X 2 dX0_keepOld_68 (by decide) ?_
            have hT5 : T5 (mi' (mr' (A + 1) i + 1)) = T5 (mi (mr (A + 1) i + 1)) := by rw [eA1, hrw]
            obtain ⟨hG2, hin⟩ := take_G (X := nX) (P := (fun y => y.2 = 0 ∧ (∃ u ∈ Ef mi mr A, u.1 = y.1) ∧ sm y.1 = t)) hG.1 (Or.inl rfl) hcb hG.2.1 hG.2.2.1 hunc (by rw [hT5]; exact ⟨rfl, ⟨_, Ef_mem.mpr ⟨i, by omega, rfl⟩, rfl⟩, by rw [sm_T]; omega⟩) h3
            exact ih_loop _ (by omega) mi3 mr3 (i + 1) none (by omega) (Grw_t hG hG2) (fun i2 hi2 hs2 => by
              rcases (show i2 < i ∨ i2 = i by omega) with q | q
              · rcases hc i2 q hs2 with ⟨y, hy, hy2⟩ | q2
                · exact Or.inl ⟨y, hG2.2.2.2.1 y hy, hy2⟩
                · right; have := hG2.2.2.2.2.2.2.2; omega
              · subst q
                rcases hin with q2 | q2
                · left; exact ⟨_, q2, by rw [hT5]; exact gv_r _⟩
                · exact Or.inr q2) rfl
  exact loop _ mi mr 0 none (by omega) (Grw_r hBN hSN hFN) (fun i hi => absurd hi (by omega)) rfl
