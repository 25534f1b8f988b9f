/-- what a round may take -/
def Cnd (mi : Nat → Nat → Int) (mr : Nat → Nat → Nat) (A : Nat) (g : V5) : Prop := (∃ u ∈ Ef mi mr A, u.1 = g) ∨ ∃ (i j : Nat) (r : Int), (i : Int) < mi A 2 ∧ mi (A + 2) i = 1 ∧ (j : Int) < mi 1 5 ∧ FLr (mi 1 3) (mi (6 + 2 * j)) (mi (mr (A + 1) i + 1)) r ∧ r ≠ -9 ∧ Cd (mi 1 3) (mi (6 + 2 * j)) (mi (mr (A + 1) i + 1)) g
def RdP (D : V5 → Prop) (mi mi9 : Nat → Nat → Int) (mr mr9 : Nat → Nat → Nat) (A N : Nat) : Prop :=
  (∀ y ∈ Ef mi9 mr9 N, Mn D y.1) ∧ (100 < mi9 N 2 ∨ ∀ v, Mn D v → ∃ y ∈ Ef mi9 mr9 N, y.1 = v) ∧ (∀ y ∈ Ef mi9 mr9 N, y.2 = 0 → ∃ u ∈ Ef mi mr A, u.1 = y.1) ∧ (∀ y ∈ Ef mi9 mr9 N, y.2 = 1 → ∀ u ∈ Ef mi mr A, ¬ gv y.1 u.1) ∧ BO mi9 mr9 N ∧ Srt (Ef mi9 mr9 N) ∧ FCo mi9 mr9 N ∧ (∀ a, a < N ∨ N + 205 ≤ a → a ≠ 46 → a ≠ 48 → a ≠ 50 → mi9 a = mi a) ∧ ∀ a, a ≠ N + 1 → mr9 a = mr a
theorem BO_0 {mi mi' : Nat → Nat → Int} {mr : Nat → Nat → Nat} {b : Nat} (h : BO mi mr b) (h2 : mi' b 2 = 0) (h3 : mi' b 3 = 0) : BO mi' mr b ∧ Ef mi' mr b = [] ∧ FCo mi' mr b ∧ Srt (Ef mi' mr b) := by
  have e : Ef mi' mr b = [] := by unfold Ef; rw [h2]; rfl
  refine ⟨⟨h.1, by omega, h.2.2.1, h.2.2.2.1, fun i hi => by omega, fun i hi => by omega, by omega⟩, e, ?_, ?_⟩
  · unfold FCo; rw [e, h3]; rfl
  · rw [e]; exact List.Pairwise.nil
set_option maxRecDepth 20000 in
set_option maxHeartbeats 4000000 in
theorem c_X0_goRound {l : Launch} {G : Gt} {n0 : Nat} {mi : Nat → Nat → Int} {mr : Nat → Nat → Nat} {A N : Nat} {D : V5 → Prop} (hAN : AN A N) (hA : mr 44 4 = A) (hN : mr 44 5 = N) (hL : LW mi) (hBA : BO mi mr A) (hcnt : mi A 2 ≤ 100) (hBN : BO mi mr N) (hSB : ∀ i : Nat, (i : Int) < mi A 2 → sum5 (mi (mr (A + 1) i + 1)) ≤ 200) (hG : ∀ v, D v → ∃ g, Cnd mi mr A g ∧ gv v g) (hCD : ∀ g, Cnd mi mr A g → D g) (hCpos : ∀ g, Cnd mi mr A g → 1 ≤ sm g) (hCS : ∀ (i j : Nat) (r : Int) (g : V5), (i : Int) < mi A 2 → (j : Int) < mi 1 5 → FLr (mi 1 3) (mi (6 + 2 * j)) (mi (mr (A + 1) i + 1)) r → r ≠ -9 → Cd (mi 1 3) (mi (6 + 2 * j)) (mi (mr (A + 1) i + 1)) g → sm g = r) : Cv l yX0_goRound cX0_goRound 3 11 G n0 [.ref (n0 + 44)] mi mr (fun mi9 mr9 => RdP D mi mi9 mr mr9 A N) := by
  refine Ct_of (by decide +kernel) (by intro v hv; simp at hv; rcases hv with rfl <;> rfl) (Nat.le_of_ble_eq_true rfl) ?_
  intro p e s m args below meth c9 X hr hname
  show WW _ _ _ _ _ _ _ _ _ _ _ _ _ _ _ _ _ _ _ [some (.ref (n0 + 44)), none, none] _
  have hBA2 := hBA.2.1
  have hne := hAN.ne
  have hL1 := hL.1
  have hL3 := hL.2.2.1
  refine w_aload_n X dX0_goRound_0 rfl ?_
  refine s_callVi X _ (c_X0_findSums (l := l) (G := G) (n0 := n0) (hAN.nn hA hN) hL (by rw [hA]; exact hBA) (by rw [hA]; exact hcnt)) gM_X0_94 gI_yX0_findSums gS_yX0_findSums gN_X0 gC_yX0_findSums (by decide) (σ_44 G n0 _ _) rfl dX0_goRound_1 hl_yX0_findSums ⟨Nat.le_of_ble_eq_true rfl, Nat.le_of_ble_eq_true rfl⟩ (Nat.le_of_ble_eq_true rfl) rfl (fun r1 mi1 mr1 h1 => ?_)
  obtain ⟨hH0, hH1, hFS, hRS, hfr1, rfl⟩ := h1
  rw [hA] at hFS hRS
  refine w_ist3_1 X dX0_goRound_4 ?_
  refine w_aload_n X dX0_goRound_5 rfl ?_
  refine w_get X (by decide) (σ_44 G n0 _ _) rfl gW_X0 5 (by decide) gF_X0_37 rfl dX0_goRound_6 ?_
  rw [hN]
  refine s_callVv X _ (c_X1_clear (l := l) (G := G) (n0 := n0) hAN.b) gM_X0_81 gI_yX1_clear gS_yX1_clear gN_X1 gC_yX1_clear (isBs_k hAN.b) (σ_bs G n0 _ _ hAN.b) rfl dX0_goRound_9 hl_yX1_clear ⟨Nat.le_of_ble_eq_true rfl, Nat.le_of_ble_eq_true rfl⟩ (Nat.le_of_ble_eq_true rfl) rfl (fun mi2 mr2 h2 => ?_)
  obtain ⟨rfl, rfl⟩ := h2
  obtain ⟨hB0, hE0, hF0, hS0⟩ := BO_0 (mi' := up2 (up2 mi1 N 2 0) N 3 0) hBN (by rw [up2_j _ _ _ _ (show (2 : Nat) ≠ 3 by decide), up2_s]) (up2_s _ _ _ _)
  have hfr0 : ∀ a, a < N ∨ N + 205 ≤ a → a ≠ 46 → a ≠ 48 → a ≠ 50 → up2 (up2 mi1 N 2 0) N 3 0 a = mi a := fun a ha h46 h48 h50 => by rw [up2_k _ _ _ _ (by omega), up2_k _ _ _ _ (by omega)]; exact hfr1 a h46 h48
  have h460 : up2 (up2 mi1 N 2 0) N 3 0 46 = mi1 46 := by rw [up2_k _ _ _ _ (by omega), up2_k _ _ _ _ (by omega)]
  generalize up2 (up2 mi1 N 2 0) N 3 0 = mi0 at hB0 hE0 hF0 hS0 hfr0 h460 ⊢
  refine w_iconst X dX0_goRound_12 ?_
  refine w_ist3_2 X dX0_goRound_13 ?_
  have loop : ∀ (n : Nat) (mi' : Nat → Nat → Int) (mr' : Nat → Nat → Nat) (t : Int), (1 ≤ t ∧ t ≤ r1 + 1) → (BO mi' mr' N) → (Srt (Ef mi' mr' N)) → (FCo mi' mr' N) → (∀ a, a < N ∨ N + 205 ≤ a → a ≠ 46 → a ≠ 48 → a ≠ 50 → mi' a = mi a) → (∀ a, a ≠ N + 1 → mr' a = mr a) → (mi' 46 = mi1 46) → (∀ y ∈ Ef mi' mr' N, Mn D y.1) → (∀ g, Cnd mi mr A g → sm g < t → (∃ y ∈ Ef mi' mr' N, gv g y.1) ∨ 100 < mi' N 2) → (∀ y ∈ Ef mi' mr' N, y.2 = 0 → ∃ u ∈ Ef mi mr A, u.1 = y.1) → (∀ y ∈ Ef mi' mr' N, y.2 = 1 → ∀ u ∈ Ef mi mr A, ¬ gv y.1 u.1) → n = (r1 + 1 - t).toNat → WSv p l e s m args below meth c9 11 (fun mi9 mr9 => RdP D mi mi9 mr mr9 A N) G n0 3 mi' mr' 14 [some (.ref (n0 + 44)), some (.int (jI r1)), some (.int (jI t))] [] := by
    intro n
    induction n using Nat.strongRecOn with
    | ind n ih_loop =>
      intro mi' mr' t ht hBN' hSN' hFN' hm hmr h46 hI1 hI2 hI3 hI4 hn
      have e1' : mi' 1 = mi 1 := hm 1 (by omega) (by decide) (by decide) (by decide)
      have eA' : mi' A = mi A := hm A (by omega) (by omega) (by omega) (by omega)
      have eF' : mi' (A + 2) = mi (A + 2) := hm _ (by omega) (by omega) (by omega) (by omega)
      have eA1' : mr' (A + 1) = mr (A + 1) := hmr _ (by omega)
      have hru' : ∀ j : Nat, (j : Int) < mi 1 5 → mi' (6 + 2 * j) = mi (6 + 2 * j) := fun j hj => hm _ (by omega) (by omega) (by omega) (by omega)
      have hrw' : ∀ i : Nat, (i : Int) < mi A 2 → mi' (mr' (A + 1) i + 1) = mi (mr (A + 1) i + 1) := fun i hi => by have := hBA.2.2.1 i (by omega); rw [eA1']; exact hm _ (by omega) (by omega) (by omega) (by omega)
      have hBA' : BO mi' mr' A := BO_fr hBA (fun a ha ha2 => hm a (by omega) (by omega) (by omega) (by omega)) eA1'
      have hEA' : Ef mi' mr' A = Ef mi mr A := Ef_fr hBA (fun a ha ha2 => hm a (by omega) (by omega) (by omega) (by omega)) eA1'
      have hA' : mr' 44 4 = A := by rw [hmr 44 (by omega)]; exact hA
      have hN' : mr' 44 5 = N := by rw [hmr 44 (by omega)]; exact hN
      have hL' : LW mi' := LW_fr hL (fun a ha ha2 ha3 => hm a (by omega) (by omega) (by omega) (by omega))
      have hBN2' := hBN'.2.1
      refine w_iload_n X dX0_goRound_14 rfl ?_
      refine w_iload_n X dX0_goRound_15 rfl ?_
      refine w_icmp_gt X 45 dX0_goRound_16 (by decide) (fun c16_1 => ?_) (fun c16_1 => ?_)
      ·
        refine s_vret X hr dX0_goRound_45 ?_
        refine ⟨hI1, ?_, hI3, hI4, hBN', hSN', hFN', hm, hmr⟩
        by_cases q : 100 < mi' N 2
        · exact Or.inl q
        right
        intro v hv
        have hall : ∀ g, Cnd mi mr A g → (∃ y ∈ Ef mi' mr' N, gv g y.1) ∨ 100 < mi' N 2 := by
          intro g hg
          refine hI2 g hg ?_
          rcases hg with ⟨u, hu, rfl⟩ | ⟨i, j, r, q2, q3, q4, q5, q6, q7⟩
          · obtain ⟨i, hi, rfl⟩ := Ef_mem.mp hu
            have := hRS i hi
            have e : sm (T5 (mi (mr (A + 1) i + 1))) = sum5 (mi (mr (A + 1) i + 1)) := rfl
            dsimp only
            omega
          · have := hCS i j r g q2 q4 q5 q6 q7
            have h1 := (hFS i j q2 q4)
            unfold FSg at h1
            rw [hA] at h1
            have h2 := FLr_u q5 h1.1
            have h3 := h1.2
            omega
        exact (Mn_all (E := fun v => ∃ y ∈ Ef mi' mr' N, y.1 = v) hG (fun v hv => by obtain ⟨y, h1, rfl⟩ := hv; exact hI1 y h1) (fun g hg => by rcases hall g hg with ⟨y, h1, h2⟩ | h1; exact ⟨y.1, ⟨y, h1, rfl⟩, h2⟩; exact absurd h1 q) v).mpr hv
      ·
        refine w_aload_n X dX0_goRound_19 rfl ?_
        refine w_get X (by decide) (σ_44 G n0 _ _) rfl gW_X0 5 (by decide) gF_X0_37 rfl dX0_goRound_20 ?_
        rw [hN']
        refine s_callVi X _ (c_X1_areTooMany (l := l) (G := G) (n0 := n0) hAN.b (by refine ⟨?_, ?_⟩ <;> omega)) gM_X0_77 gI_yX1_areTooMany gS_yX1_areTooMany gN_X1 gC_yX1_areTooMany (isBs_k hAN.b) (σ_bs G n0 _ _ hAN.b) rfl dX0_goRound_23 hl_yX1_areTooMany ⟨Nat.le_of_ble_eq_true rfl, Nat.le_of_ble_eq_true rfl⟩ (Nat.le_of_ble_eq_true rfl) rfl (fun r3 mi3 mr3 h3 => ?_)
        obtain ⟨rfl, rfl, h3⟩ := h3
        refine w_if_ne X 45 dX0_goRound_26 (by decide) (fun c26_2 => ?_) (fun c26_2 => ?_)
        ·
          refine s_vret X hr dX0_goRound_45 ?_
          refine ⟨hI1, ?_, hI3, hI4, hBN', hSN', hFN', hm, hmr⟩
          left
          rcases h3 with q | q
          · exact q.2
          · omega
        ·
          refine w_aload_n X dX0_goRound_29 rfl ?_
          refine w_iload_n X dX0_goRound_30 rfl ?_
          refine s_callVv X _ (c_X0_keepOld (l := l) (G := G) (n0 := n0) hAN hA' hN' hBA' hBN' hSN' hFN' (by refine ⟨?_, ?_⟩ <;> omega)) gM_X0_97 gI_yX0_keepOld gS_yX0_keepOld gN_X0 gC_yX0_keepOld (by decide) (σ_44 G n0 _ _) rfl dX0_goRound_31 hl_yX0_keepOld ⟨Nat.le_of_ble_eq_true rfl, Nat.le_of_ble_eq_true rfl⟩ (Nat.le_of_ble_eq_true rfl) rfl (fun mi4 mr4 h4 => ?_)
          obtain ⟨hG3, hK3⟩ := h4
          have hm3 : ∀ a, a < N ∨ N + 205 ≤ a → a ≠ 46 → a ≠ 48 → a ≠ 50 → mi4 a = mi a := fun a ha h46 h48 h50 => (hG3.2.2.2.2.2.1 a ha (fun q => q)).trans (hm a ha h46 h48 h50)
          have hr3 : ∀ a, a ≠ N + 1 → mr4 a = mr a := fun a ha => (hG3.2.2.2.2.2.2.1 a ha).trans (hmr a ha)
          have h463 : mi4 46 = mi1 46 := (hG3.2.2.2.2.2.1 46 (by omega) (fun q => q)).trans h46
          have e13 : mi4 1 = mi 1 := hm3 1 (by omega) (by decide) (by decide) (by decide)
          have eA3 : mi4 A = mi A := hm3 A (by omega) (by omega) (by omega) (by omega)
          have eF3 : mi4 (A + 2) = mi (A + 2) := hm3 _ (by omega) (by omega) (by omega) (by omega)
          have eA13 : mr4 (A + 1) = mr (A + 1) := hr3 _ (by omega)
          have hru3 : ∀ j : Nat, (j : Int) < mi 1 5 → mi4 (6 + 2 * j) = mi (6 + 2 * j) := fun j hj => hm3 _ (by omega) (by omega) (by omega) (by omega)
          have hrw3 : ∀ i : Nat, (i : Int) < mi A 2 → mi4 (mr4 (A + 1) i + 1) = mi (mr (A + 1) i + 1) := fun i hi => by have := hBA.2.2.1 i (by omega); rw [eA13]; exact hm3 _ (by omega) (by omega) (by omega) (by omega)
          have hBA3 : BO mi4 mr4 A := BO_fr hBA (fun a ha ha2 => hm3 a (by omega) (by omega) (by omega) (by omega)) eA13
          have hEA3 : Ef mi4 mr4 A = Ef mi mr A := Ef_fr hBA (fun a ha ha2 => hm3 a (by omega) (by omega) (by omega) (by omega)) eA13
          have hA3 : mr4 44 4 = A := by rw [hr3 44 (by omega)]; exact hA
          have hN3 : mr4 44 5 = N := by rw [hr3 44 (by omega)]; exact hN
          have hL3 : LW mi4 := LW_fr hL (fun a ha ha2 ha3 => hm3 a (by omega) (by omega) (by omega) (by omega))
          have hcnt3 : mi4 A 2 ≤ 100 := by rw [eA3]; exact hcnt
          have hSB3 : ∀ i : Nat, (i : Int) < mi4 A 2 → sum5 (mi4 (mr4 (A + 1) i + 1)) ≤ 200 := fun i hi => by rw [eA3] at hi; rw [hrw3 i hi]; exact hSB i hi
          have hST3 : ∀ i j : Nat, (i : Int) < mi4 A 2 → (j : Int) < mi4 1 5 → FLr (mi4 1 3) (mi4 (6 + 2 * j)) (mi4 (mr4 (A + 1) i + 1)) (mi4 46 (12 * i + j)) := fun i j hi hj => by
            rw [eA3] at hi
            rw [e13] at hj
            rw [e13, hru3 j hj, hrw3 i hi, h463]
            have := (hFS i j hi hj).1
            rw [hA] at this
            exact this
          refine w_aload_n X dX0_goRound_34 rfl ?_
          refine w_iload_n X dX0_goRound_35 rfl ?_
          refine s_callVv X _ (c_X0_bringNew (l := l) (G := G) (n0 := n0) hAN hA3 hN3 hL3 hBA3 hcnt3 hG3.1 hG3.2.1 hG3.2.2.1 (by omega) hSB3 hST3) gM_X0_101 gI_yX0_bringNew gS_yX0_bringNew gN_X0 gC_yX0_bringNew (by decide) (σ_44 G n0 _ _) rfl dX0_goRound_36 hl_yX0_bringNew ⟨Nat.le_of_ble_eq_true rfl, Nat.le_of_ble_eq_true rfl⟩ (Nat.le_of_ble_eq_true rfl) rfl (fun mi5 mr5 h5 => ?_)
          obtain ⟨hG4, hK4⟩ := h5
          refine w_iinc3_2 X dX0_goRound_39 ?_
          refine w_goto X 14 dX0_goRound_42 (by decide) ?_
          have hm4 : ∀ a, a < N ∨ N + 205 ≤ a → a ≠ 46 → a ≠ 48 → a ≠ 50 → mi5 a = mi a := fun a ha h46 h48 h50 => (hG4.2.2.2.2.2.1 a ha (fun q => by rcases q with q | q; exact h48 q; exact h50 q)).trans (hm3 a ha h46 h48 h50)
          have hr4 : ∀ a, a ≠ N + 1 → mr5 a = mr a := fun a ha => (hG4.2.2.2.2.2.2.1 a ha).trans (hr3 a ha)
          have h464 : mi5 46 = mi1 46 := (hG4.2.2.2.2.2.1 46 (by omega) (fun q => by rcases q with q | q <;> omega)).trans h463
          have hcv3 : ∀ g, Cnd mi mr A g → sm g < t → ∃ y, (y ∈ Ef mi' mr' N) ∧ gv g y.1 := fun g hg hs => by rcases hI2 g hg hs with q | q; exact q; exfalso; omega
          have hnew3 : ∀ y ∈ Ef mi4 mr4 N, y ∈ Ef mi' mr' N ∨ (y.2 = 0 ∧ (∃ u ∈ Ef mi mr A, u.1 = y.1) ∧ Mn D y.1) := by
            intro y hy
            rcases hG3.2.2.2.2.1 y hy with q | ⟨⟨q1, q2, q3⟩, q4⟩
            · exact Or.inl q
            · rw [hEA'] at q2
              refine Or.inr ⟨q1, q2, ?_⟩
              exact Mn_new (E := fun v => ∃ y ∈ Ef mi' mr' N, y.1 = v) hG (fun g hg hs => by obtain ⟨y2, h1, h2⟩ := hcv3 g hg hs; exact ⟨y2.1, ⟨y2, h1, rfl⟩, h2⟩) (hCD _ (Or.inl q2)) q3 (fun v hv => by obtain ⟨y2, h1, rfl⟩ := hv; exact q4 y2 h1)
          have hcov3 : ∀ u ∈ Ef mi mr A, sm u.1 ≤ t → (∃ y ∈ Ef mi4 mr4 N, gv u.1 y.1) ∨ 100 < mi4 N 2 := by
            intro u hu hs
            by_cases q : sm u.1 < t
            · obtain ⟨y2, h1, h2⟩ := hcv3 u.1 (Or.inl ⟨u, hu, rfl⟩) q
              exact Or.inl ⟨y2, hG3.2.2.2.1 y2 h1, h2⟩
            · obtain ⟨i, hi, rfl⟩ := Ef_mem.mp hu
              have := hK3 i (by rw [eA']; exact hi) (by rw [hrw' i hi]; have : sm (T5 (mi (mr (A + 1) i + 1))) = sum5 (mi (mr (A + 1) i + 1)) := rfl; dsimp only at q hs; omega)
              rw [hrw' i hi] at this
              exact this
          have hnew4 : ∀ y ∈ Ef mi5 mr5 N, y ∈ Ef mi4 mr4 N ∨ (y.2 = 1 ∧ Mn D y.1 ∧ ∀ u ∈ Ef mi mr A, ¬ gv y.1 u.1) := by
            intro y hy
            by_cases hfull : 100 < mi4 N 2
            · exact Or.inl (Grw_full hG3.2.1 hG4 hfull y hy)
            rcases hG4.2.2.2.2.1 y hy with q | ⟨⟨q1, i, j, q2, q3, q4, q5, q6⟩, q7⟩
            · exact Or.inl q
            · rw [eA3] at q2
              rw [e13] at q4
              rw [eF3] at q3
              rw [e13, hru3 j q4, hrw3 i q2] at q5 q6
              have hC : Cnd mi mr A y.1 := Or.inr ⟨i, j, t, q2, q3, q4, q5, by omega, q6⟩
              have hs : sm y.1 = t := hCS i j t y.1 q2 q4 q5 (by omega) q6
              refine Or.inr ⟨q1, ?_, ?_⟩
              · exact Mn_new (E := fun v => ∃ y ∈ Ef mi' mr' N, y.1 = v) hG (fun g hg hs => by obtain ⟨y2, h1, h2⟩ := hcv3 g hg hs; exact ⟨y2.1, ⟨y2, h1, rfl⟩, h2⟩) (hCD _ hC) hs (fun v hv => by obtain ⟨y2, h1, rfl⟩ := hv; exact q7 y2 (hG3.2.2.2.1 y2 h1))
              · intro u hu hg
                have := gv_s hg
                rcases hcov3 u hu (by omega) with ⟨y2, h1, h2⟩ | h1
                · exact q7 y2 h1 (gv_t hg h2)
                · exact hfull h1
          exact ih_loop _ (by omega) mi5 mr5 (t + 1) (by omega) hG4.1 hG4.2.1 hG4.2.2.1 hm4 hr4 h464 (fun y hy => by
            rcases hnew4 y hy with q | ⟨-, q, -⟩
            · rcases hnew3 y q with q | ⟨-, -, q⟩
              · exact hI1 y q
              · exact q
            · exact q) (fun g hg hs => by
            by_cases q : sm g < t
            · obtain ⟨y2, h1, h2⟩ := hcv3 g hg q
              exact Or.inl ⟨y2, hG4.2.2.2.1 y2 (hG3.2.2.2.1 y2 h1), h2⟩
            · rcases hg with ⟨u, hu, rfl⟩ | ⟨i, j, r, q2, q3, q4, q5, q6, q7⟩
              · rcases hcov3 u hu (by omega) with ⟨y2, h1, h2⟩ | h1
                · exact Or.inl ⟨y2, hG4.2.2.2.1 y2 h1, h2⟩
                · right; have := hG4.2.2.2.2.2.2.2; omega
              · have hs2 := hCS i j r g q2 q4 q5 q6 q7
                have e : r = t := by omega
                subst e
                have := hK4 i j (by rw [eA3]; exact q2) (by rw [eF3]; exact q3) (by rw [e13]; exact q4)
                rw [e13, hru3 j q4, hrw3 i q2] at this
                exact this q5 g q7) (fun y hy q => by
            rcases hnew4 y hy with q2 | ⟨q2, -, -⟩
            · rcases hnew3 y q2 with q2 | ⟨-, q2, -⟩
              · exact hI3 y q2 q
              · exact q2
            · omega) (fun y hy q => by
            rcases hnew4 y hy with q2 | ⟨-, -, q2⟩
            · rcases hnew3 y q2 with q2 | ⟨q3, -, -⟩
              · exact hI4 y q2 q
              · omega
            · exact q2) rfl
  exact loop _ mi0 mr 1 (by omega) hB0 hS0 hF0 hfr0 (fun _ _ => rfl) h460 (fun y hy => by rw [hE0] at hy; cases hy) (fun g hg hs => by have := hCpos g hg; omega) (fun y hy => by rw [hE0] at hy; cases hy) (fun y hy => by rw [hE0] at hy; cases hy) rfl
