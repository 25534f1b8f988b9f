/-- what a search leaves -/
def SkP (L : Lws) (mi9 : Nat → Nat → Int) (mr9 : Nat → Nat → Nat) : Prop := ∃ A N : Nat, AN A N ∧ mr9 44 4 = A ∧ mr9 44 5 = N ∧ BO mi9 mr9 A ∧ BO mi9 mr9 N ∧ (mi9 44 6 = -3 ∨ Res L (mi9 44 6) ∧ (0 ≤ mi9 44 6 → Srt (Ef mi9 mr9 A) ∧ mi9 A 2 ≤ 100 ∧ ∀ v, Mn (Dk L (mi9 44 6).toNat) v ↔ ∃ y ∈ Ef mi9 mr9 A, y.1 = v))
theorem SkP_of {L : Lws} {mi mi9 : Nat → Nat → Int} {mr mr9 : Nat → Nat → Nat} {A N : Nat} (hAN : AN A N) (hA : mr9 44 4 = A) (hN : mr9 44 5 = N) (hBA : BO mi mr A) (hBN : BO mi mr N) (hm : ∀ a, 51 ≤ a → a < 461 → mi9 a = mi a) (hr : ∀ a, a ≠ 44 → mr9 a = mr a) (hR : mi9 44 6 = -3 ∨ Res L (mi9 44 6) ∧ (0 ≤ mi9 44 6 → Srt (Ef mi mr A) ∧ mi A 2 ≤ 100 ∧ ∀ v, Mn (Dk L (mi9 44 6).toNat) v ↔ ∃ y ∈ Ef mi mr A, y.1 = v)) : SkP L mi9 mr9 := by
  have hne := hAN.ne
  have e : Ef mi9 mr9 A = Ef mi mr A := Ef_fr hBA (fun a h1 h2 => hm a (by omega) (by omega)) (hr _ (by omega))
  refine ⟨A, N, hAN, hA, hN, BO_fr hBA (fun a h1 h2 => hm a (by omega) (by omega)) (hr _ (by omega)), BO_fr hBN (fun a h1 h2 => hm a (by omega) (by omega)) (hr _ (by omega)), ?_⟩
  rw [e, hm A (by omega) (by omega)]
  exact hR
theorem dX0_seek_0 : decode cX0_seek 0 = .ok (.aload_n 0, 1) := by decide +kernel
theorem dX0_seek_1 : decode cX0_seek 1 = .ok (.getfield 40, 3) := by decide +kernel
theorem dX0_seek_4 : decode cX0_seek 4 = .ok (.bipush (-3), 2) := by decide +kernel
theorem dX0_seek_6 : decode cX0_seek 6 = .ok (.if_icmp .eq 4, 3) := by decide +kernel
theorem dX0_seek_9 : decode cX0_seek 9 = .ok (.return_, 1) := by decide +kernel
theorem dX0_seek_10 : decode cX0_seek 10 = .ok (.aload_n 0, 1) := by decide +kernel
theorem dX0_seek_11 : decode cX0_seek 11 = .ok (.invokevirtual 68, 3) := by decide +kernel
theorem dX0_seek_14 : decode cX0_seek 14 = .ok (.aload_n 0, 1) := by decide +kernel
theorem dX0_seek_15 : decode cX0_seek 15 = .ok (.bipush (-5), 2) := by decide +kernel
theorem dX0_seek_17 : decode cX0_seek 17 = .ok (.putfield 40, 3) := by decide +kernel
theorem dX0_seek_20 : decode cX0_seek 20 = .ok (.iconst 0, 1) := by decide +kernel
theorem dX0_seek_21 : decode cX0_seek 21 = .ok (.istore_n 1, 1) := by decide +kernel
theorem dX0_seek_22 : decode cX0_seek 22 = .ok (.iload_n 1, 1) := by decide +kernel
theorem dX0_seek_23 : decode cX0_seek 23 = .ok (.bipush 40, 2) := by decide +kernel
theorem dX0_seek_25 : decode cX0_seek 25 = .ok (.if_icmp .gt 58, 3) := by decide +kernel
theorem dX0_seek_28 : decode cX0_seek 28 = .ok (.aload_n 0, 1) := by decide +kernel
theorem dX0_seek_29 : decode cX0_seek 29 = .ok (.invokevirtual 71, 3) := by decide +kernel
theorem dX0_seek_32 : decode cX0_seek 32 = .ok (.aload_n 0, 1) := by decide +kernel
theorem dX0_seek_33 : decode cX0_seek 33 = .ok (.getfield 37, 3) := by decide +kernel
theorem dX0_seek_36 : decode cX0_seek 36 = .ok (.getfield 74, 3) := by decide +kernel
theorem dX0_seek_39 : decode cX0_seek 39 = .ok (.ifCond .ne 9, 3) := by decide +kernel
theorem dX0_seek_42 : decode cX0_seek 42 = .ok (.aload_n 0, 1) := by decide +kernel
theorem dX0_seek_43 : decode cX0_seek 43 = .ok (.iload_n 1, 1) := by decide +kernel
theorem dX0_seek_44 : decode cX0_seek 44 = .ok (.putfield 40, 3) := by decide +kernel
theorem dX0_seek_47 : decode cX0_seek 47 = .ok (.return_, 1) := by decide +kernel
theorem dX0_seek_48 : decode cX0_seek 48 = .ok (.aload_n 0, 1) := by decide +kernel
theorem dX0_seek_49 : decode cX0_seek 49 = .ok (.getfield 37, 3) := by decide +kernel
theorem dX0_seek_52 : decode cX0_seek 52 = .ok (.invokevirtual 77, 3) := by decide +kernel
theorem dX0_seek_55 : decode cX0_seek 55 = .ok (.ifCond .eq 4, 3) := by decide +kernel
theorem dX0_seek_58 : decode cX0_seek 58 = .ok (.return_, 1) := by decide +kernel
theorem dX0_seek_59 : decode cX0_seek 59 = .ok (.aload_n 0, 1) := by decide +kernel
theorem dX0_seek_60 : decode cX0_seek 60 = .ok (.getfield 33, 3) := by decide +kernel
theorem dX0_seek_63 : decode cX0_seek 63 = .ok (.astore_n 2, 1) := by decide +kernel
theorem dX0_seek_64 : decode cX0_seek 64 = .ok (.aload_n 0, 1) := by decide +kernel
theorem dX0_seek_65 : decode cX0_seek 65 = .ok (.aload_n 0, 1) := by decide +kernel
theorem dX0_seek_66 : decode cX0_seek 66 = .ok (.getfield 37, 3) := by decide +kernel
theorem dX0_seek_69 : decode cX0_seek 69 = .ok (.putfield 33, 3) := by decide +kernel
theorem dX0_seek_72 : decode cX0_seek 72 = .ok (.aload_n 0, 1) := by decide +kernel
theorem dX0_seek_73 : decode cX0_seek 73 = .ok (.aload_n 2, 1) := by decide +kernel
theorem dX0_seek_74 : decode cX0_seek 74 = .ok (.putfield 37, 3) := by decide +kernel
theorem dX0_seek_77 : decode cX0_seek 77 = .ok (.iinc 1 1, 3) := by decide +kernel
theorem dX0_seek_80 : decode cX0_seek 80 = .ok (.goto (-58), 3) := by decide +kernel
theorem dX0_seek_83 : decode cX0_seek 83 = .ok (.return_, 1) := by decide +kernel
theorem hl_yX0_seek : (yX0_seek.cls ≠ "java/lang/invoke/MethodHandle" ∧ yX0_seek.cls ≠ "java/lang/invoke/VarHandle") ∧ (parseMethodDescriptor yX0_seek.desc).map (fun d => d.parameters.length) = some 0 := by decide +kernel
theorem AN_sw {A N : Nat} (h : AN A N) : AN N A := by unfold AN at *; omega
set_option maxRecDepth 20000 in
set_option maxHeartbeats 4000000 in
theorem c_X0_seek {l : Launch} {G : Gt} {n0 : Nat} {mi : Nat → Nat → Int} {mr : Nat → Nat → Nat} {A N : Nat} {L : Lws} (hAN : AN A N) (hA : mr 44 4 = A) (hN : mr 44 5 = N) (hW : LW mi) (hBA : BO mi mr A) (hBN : BO mi mr N) (hO : LO L) (hLC : LwC mi L) (h6 : rg (mi 44 6)) : Cv l yX0_seek cX0_seek 3 12 G n0 [.ref (n0 + 44)] mi mr (fun mi9 mr9 => (mi 44 6 ≠ -3 → mi = mi9 ∧ mr = mr9) ∧ (mi 44 6 = -3 → SkP L mi9 mr9 ∧ (∀ a, a < 44 ∨ 461 ≤ a → mi9 a = mi a) ∧ (∀ a, a < 44 ∨ 461 ≤ a → mr9 a = mr a) ∧ mi9 44 6 ≠ -3)) := by
  refine Ct_of (by decide +kernel) (by intro v hv; simp at hv; rcases hv with rfl <;> rfl) (Nat.le_of_ble_eq_true rfl) ?_
  intro p e s m args below meth c9 X hr hname
  show WW _ _ _ _ _ _ _ _ _ _ _ _ _ _ _ _ _ _ _ [some (.ref (n0 + 44)), none, none] _
  have hne := hAN.ne
  obtain ⟨h6a, h6b⟩ := h6
  have hBd : ∀ b : Nat, (b : Int) < mi 1 6 → 1 ≤ sum5 (mi (30 + 2 * b + 1)) ∧ sum5 (mi (30 + 2 * b + 1)) ≤ 45 := fun b hb => by have := (hO.2.2 b (by rw [hLC.2.2.1]; exact hb)).2.2; rw [hLC.2.2.2.2 b hb] at this; exact this
  have hG0 : ∀ v, Dk L 0 v → ∃ g, (∃ b : Nat, (b : Int) < mi 1 6 ∧ T5 (mi (30 + 2 * b + 1)) = g) ∧ gv v g := fun v hv => by obtain ⟨-, b, hb, hg⟩ := hv; rw [hLC.2.2.1] at hb; rw [hLC.2.2.2.2 b hb] at hg; exact ⟨_, ⟨b, hb, rfl⟩, hg⟩
  have hCD0 : ∀ g, (∃ b : Nat, (b : Int) < mi 1 6 ∧ T5 (mi (30 + 2 * b + 1)) = g) → Dk L 0 g := fun g hg => by
    obtain ⟨b, hb, rfl⟩ := hg
    have hb2 : (b : Int) < L.2.2.1 := by rw [hLC.2.2.1]; exact hb
    have := hO.2.2 b hb2
    rw [← hLC.2.2.2.2 b hb]
    exact ⟨this.1, b, hb2, gv_r _⟩
  refine w_aload_n X dX0_seek_0 rfl ?_
  refine w_get X (by decide) (σ_44 G n0 _ _) rfl gW_X0 6 (by decide) gF_X0_40 rfl dX0_seek_1 ?_
  refine w_bipush X dX0_seek_4 rfl ?_
  refine w_icmp_eq X 10 dX0_seek_6 (by decide) (fun c6_1 => ?_) (fun c6_1 => ?_)
  ·
    have h0 : mi 44 6 = -3 := by assumption
    refine w_aload_n X dX0_seek_10 rfl ?_
    refine s_callVv X _ (c_X0_takeBadOnes (l := l) (G := G) (n0 := n0) (D := Dk L 0) hAN.a hA hW hBA hBd hG0 hCD0) gM_X0_68 gI_yX0_takeBadOnes gS_yX0_takeBadOnes gN_X0 gC_yX0_takeBadOnes (by decide) (σ_44 G n0 _ _) rfl dX0_seek_11 hl_yX0_takeBadOnes ⟨Nat.le_of_ble_eq_true rfl, Nat.le_of_ble_eq_true rfl⟩ (Nat.le_of_ble_eq_true rfl) rfl (fun mi1 mr1 h1 => ?_)
    obtain ⟨hB1, hS1, hC1, hD1, hE1, hn1, hm1, hr1⟩ := h1
    refine w_aload_n X dX0_seek_14 rfl ?_
    refine w_bipush X dX0_seek_15 rfl ?_
    refine w_put X (by decide) (σ_44 G n0 _ _) rfl gW_X0 tyX0 tyX0_ok nmX0 6 (by decide) gF_X0_40 rfl rfl rfl (Nat.le_of_ble_eq_true rfl) dX0_seek_17 (WW.eqf (sp_44_6 _) ?_)
    refine w_iconst X dX0_seek_20 ?_
    refine w_ist3_1 X dX0_seek_21 ?_
    have loop : ∀ (n : Nat) (mi' : Nat → Nat → Int) (mr' : Nat → Nat → Nat) (A' N' k : Nat) (x2 : Option Value), (k ≤ 41) → (AN A' N') → (mr' 44 4 = A') → (mr' 44 5 = N') → (BO mi' mr' A') → (BO mi' mr' N') → (mi' A' 2 ≤ 100) → (FI L k (Ef mi' mr' A')) → (Srt (Ef mi' mr' A')) → (∀ a, a < 44 ∨ 461 ≤ a → mi' a = mi a) → (∀ a, a < 44 ∨ 461 ≤ a → mr' a = mr a) → (mi' 44 6 = -5) → (∀ i : Nat, i < k → ¬ Nnw L i ∧ ¬ Big L (i + 1)) → n = 41 - k → WSv p l e s m args below meth c9 12 (fun mi9 mr9 => (mi 44 6 ≠ -3 → mi = mi9 ∧ mr = mr9) ∧ (mi 44 6 = -3 → SkP L mi9 mr9 ∧ (∀ a, a < 44 ∨ 461 ≤ a → mi9 a = mi a) ∧ (∀ a, a < 44 ∨ 461 ≤ a → mr9 a = mr a) ∧ mi9 44 6 ≠ -3)) G n0 3 mi' mr' 22 [some (.ref (n0 + 44)), some (.int (jI (k : Int))), x2] [] := by
      intro n
      induction n using Nat.strongRecOn with
      | ind n ih_loop =>
        intro mi' mr' A' N' k x2 hk hAN' hA' hN' hBA' hBN' hcnt' hF' hS' hm' hr' h6' hP hn
        have hne' := hAN'.ne
        have hW' : LW mi' := LW_fr hW (fun a ha _ _ => hm' a (by omega))
        have hLC' : LwC mi' L := LwC_fr hW hLC (fun a ha _ _ => hm' a (by omega))
        have hBA2' := hBA'.2.1
        have hBN2' := hBN'.2.1
        have hSB : k ≤ 40 → ∀ i : Nat, (i : Int) < mi' A' 2 → sum5 (mi' (mr' (A' + 1) i + 1)) ≤ 200 := fun hk4 i hi => by have := (row_z hO hF' hi).2.2.2; omega
        refine w_iload_n X dX0_seek_22 rfl ?_
        refine w_bipush X dX0_seek_23 rfl ?_
        refine w_icmp_gt X 83 dX0_seek_25 (by decide) (fun c25_2 => ?_) (fun c25_2 => ?_)
        ·
          refine s_vret X hr dX0_seek_83 ?_
          have hk41 : k = 41 := by omega
          refine ⟨fun q => absurd h0 q, fun _ => ⟨SkP_of hAN' hA' hN' hBA' hBN' (fun _ _ _ => rfl) (fun _ _ => rfl) (Or.inr ?_), hm', hr', by rw [h6']; decide⟩⟩
          rw [h6']
          exact ⟨Or.inr ⟨rfl, 40, by omega, fun i hi => hP i (by omega), (hP 40 (by omega)).1, Or.inr rfl⟩, fun q => absurd q (by decide)⟩
        ·
          replace hSB := hSB (by omega)
          refine w_aload_n X dX0_seek_28 rfl ?_
          refine s_callVv X _ (c_X0_goRound (l := l) (G := G) (n0 := n0) (D := Dk L (k + 1)) hAN' hA' hN' hW' hBA' hcnt' hBN' hSB (rd_G hO hLC' hF') (rd_C hO hLC' hF') (fun g hg => (Dk_z hO _ (rd_C hO hLC' hF' g hg)).2.2) (fun i j r g a b c d e => (rd_S hO hLC' hF' i j r g a b c d e).2)) gM_X0_71 gI_yX0_goRound gS_yX0_goRound gN_X0 gC_yX0_goRound (by decide) (σ_44 G n0 _ _) rfl dX0_seek_29 hl_yX0_goRound ⟨Nat.le_of_ble_eq_true rfl, Nat.le_of_ble_eq_true rfl⟩ (Nat.le_of_ble_eq_true rfl) rfl (fun mi2 mr2 h2 => ?_)
          have hR2 := h2
          obtain ⟨-, -, -, -, hB2, hS2, -, hm2, hr2⟩ := h2
          have hN2 := rd_N hO hLC' hF' hcnt' hR2
          have hA2 : mr2 44 4 = A' := by rw [hr2 44 (by omega)]; exact hA'
          have hN5 : mr2 44 5 = N' := by rw [hr2 44 (by omega)]; exact hN'
          have hB22 := hB2.2.1
          have hB23 := hB2.2.2.2.2.2.2
          refine w_aload_n X dX0_seek_32 rfl ?_
          refine w_get X (by decide) (σ_44 G n0 _ _) rfl gW_X0 5 (by decide) gF_X0_37 rfl dX0_seek_33 ?_
          rw [hN5]
          refine w_getN X (isBs_k hAN'.b) (σ_bs G n0 _ _ hAN'.b) rfl gW_X1 3 (by decide) gF_X0_74 rfl dX0_seek_36 ?_
          refine w_if_ne X 48 dX0_seek_39 (by decide) (fun c39_3 => ?_) (fun c39_3 => ?_)
          ·
            have hz : ¬ mi2 N' 3 = 0 := by assumption
            refine w_aload_n X dX0_seek_48 rfl ?_
            refine w_get X (by decide) (σ_44 G n0 _ _) rfl gW_X0 5 (by decide) gF_X0_37 rfl dX0_seek_49 ?_
            rw [hN5]
            refine s_callVi X _ (c_X1_areTooMany (l := l) (G := G) (n0 := n0) hAN'.b (by refine ⟨?_, ?_⟩ <;> omega)) gM_X0_77 gI_yX1_areTooMany gS_yX1_areTooMany gN_X1 gC_yX1_areTooMany (isBs_k hAN'.b) (σ_bs G n0 _ _ hAN'.b) rfl dX0_seek_52 hl_yX1_areTooMany ⟨Nat.le_of_ble_eq_true rfl, Nat.le_of_ble_eq_true rfl⟩ (Nat.le_of_ble_eq_true rfl) rfl (fun r3 mi3 mr3 h3 => ?_)
            obtain ⟨rfl, rfl, h3⟩ := h3
            refine w_if_eq X 59 dX0_seek_55 (by decide) (fun c55_4 => ?_) (fun c55_4 => ?_)
            ·
              refine w_aload_n X dX0_seek_59 rfl ?_
              refine w_get X (by decide) (σ_44 G n0 _ _) rfl gW_X0 4 (by decide) gF_X0_33 rfl dX0_seek_60 ?_
              rw [hA2]
              refine w_ast3_2 X dX0_seek_63 ?_
              refine w_aload_n X dX0_seek_64 rfl ?_
              refine w_aload_n X dX0_seek_65 rfl ?_
              refine w_get X (by decide) (σ_44 G n0 _ _) rfl gW_X0 5 (by decide) gF_X0_37 rfl dX0_seek_66 ?_
              rw [hN5]
              refine w_put X (by decide) (σ_44 G n0 _ _) rfl gW_X0 tyX0 tyX0_ok nmX0 4 (by decide) gF_X0_33 rfl rfl rfl (Nat.le_of_ble_eq_true rfl) dX0_seek_69 (WW.eqf (sq_44_4 _) ?_)
              refine w_aload_n X dX0_seek_72 rfl ?_
              refine w_aload_n X dX0_seek_73 rfl ?_
              refine w_put X (by decide) (σ_44 G n0 _ _) rfl gW_X0 tyX0 tyX0_ok nmX0 5 (by decide) gF_X0_37 rfl rfl rfl (Nat.le_of_ble_eq_true rfl) dX0_seek_74 (WW.eqf (sq_44_5 _) ?_)
              refine w_iinc3_1 X dX0_seek_77 ?_
              refine w_goto X 22 dX0_seek_80 (by decide) ?_
              have hmS : ∀ a, a < 44 ∨ 461 ≤ a → mi2 a = mi a := fun a ha => (hm2 a (by omega) (by omega) (by omega) (by omega)).trans (hm' a ha)
              have hu : ∀ a, a ≠ 44 → up2 (up2 mr2 44 4 N') 44 5 A' a = mr2 a := fun a ha => by rw [up2_k _ _ _ _ ha, up2_k _ _ _ _ ha]
              have eE : Ef mi2 (up2 (up2 mr2 44 4 N') 44 5 A') N' = Ef mi2 mr2 N' := Ef_fr hR2.2.2.2.2.1 (fun a _ _ => rfl) (hu _ (by omega))
              exact ih_loop _ (by omega) mi2 (up2 (up2 mr2 44 4 N') 44 5 A') N' A' (k + 1) _ (by omega) (AN_sw hAN') (by rw [up2_j _ _ _ _ (show (4 : Nat) ≠ 5 by decide), up2_s]) (up2_s _ _ _ _) (BO_fr hR2.2.2.2.2.1 (fun a _ _ => rfl) (hu _ (by omega))) (BO_fr hBA' (fun a h1 h2 => hm2 a (by omega) (by omega) (by omega) (by omega)) ((hu _ (by omega)).trans (hr2 _ (by omega)))) (by omega) (by rw [eE]; exact rd_F hO hLC' hF' hR2 (by omega)) (by rw [eE]; exact hR2.2.2.2.2.2.1) hmS (fun a ha => ((hu a (by omega)).trans (hr2 a (by omega))).trans (hr' a ha)) ((congrFun (hm2 44 (by omega) (by omega) (by omega) (by omega)) 6).trans h6') (fun i hi => by
                rcases (show i < k ∨ i = k by omega) with q | q
                · exact hP i q
                · subst q; exact ⟨fun q => hz (hN2.1.mpr q), fun q => by have := hN2.2.mpr q; omega⟩) rfl
            ·
              refine s_vret X hr dX0_seek_58 ?_
              refine ⟨fun q => absurd h0 q, fun _ => ⟨SkP_of hAN' hA2 hN5 (BO_fr hBA' (fun a h1 h2 => hm2 a (by omega) (by omega) (by omega) (by omega)) (hr2 _ (by omega))) hB2 (fun a h1 h2 => rfl) (fun _ _ => rfl) (Or.inr ?_), fun a ha => (hm2 a (by omega) (by omega) (by omega) (by omega)).trans (hm' a ha), fun a ha => (hr2 a (by omega)).trans (hr' a ha), ?_⟩⟩
              · rw [hm2 44 (by omega) (by omega) (by omega) (by omega), h6']
                exact ⟨Or.inr ⟨rfl, k, by omega, hP, fun q => hz (hN2.1.mpr q), Or.inl (hN2.2.mp (by omega))⟩, fun q => absurd q (by decide)⟩
              · rw [hm2 44 (by omega) (by omega) (by omega) (by omega), h6']; decide
          ·
            refine w_aload_n X dX0_seek_42 rfl ?_
            refine w_iload_n X dX0_seek_43 rfl ?_
            refine w_put X (by decide) (σ_44 G n0 _ _) rfl gW_X0 tyX0 tyX0_ok nmX0 6 (by decide) gF_X0_40 rfl rfl rfl (Nat.le_of_ble_eq_true rfl) dX0_seek_44 (WW.eqf (sp_44_6 _) ?_)
            refine s_vret X hr dX0_seek_47 ?_
            have hz : mi2 N' 3 = 0 := by assumption
            have hu : ∀ a, a ≠ 44 → up2 mi2 44 6 (k : Int) a = mi2 a := fun a ha => up2_k _ _ _ _ ha
            have eE : Ef mi2 mr2 A' = Ef mi' mr' A' := Ef_fr hBA' (fun a h1 h2 => hm2 a (by omega) (by omega) (by omega) (by omega)) (hr2 _ (by omega))
            refine ⟨fun q => absurd h0 q, fun _ => ⟨SkP_of hAN' hA2 hN5 (BO_fr hBA' (fun a h1 h2 => hm2 a (by omega) (by omega) (by omega) (by omega)) (hr2 _ (by omega))) hB2 (fun a h1 h2 => hu a (by omega)) (fun _ _ => rfl) (Or.inr ?_), fun a ha => (hu a (by omega)).trans ((hm2 a (by omega) (by omega) (by omega) (by omega)).trans (hm' a ha)), fun a ha => (hr2 a (by omega)).trans (hr' a ha), by rw [up2_s]; omega⟩⟩
            rw [up2_s, eE, Int.toNat_natCast, hm2 A' (by omega) (by omega) (by omega) (by omega)]
            exact ⟨Or.inl ⟨k, rfl, by omega, hN2.1.mp hz, hP⟩, fun _ => ⟨hS', hcnt', hF'.1⟩⟩
    have hF1 : FI L 0 (Ef mi1 mr1 A) := ⟨hD1, fun y hy q => by have := hE1 y hy; omega, fun y hy => Or.inr (hE1 y hy), fun y hy => by
      obtain ⟨-, b, hb, hg⟩ := ((hD1 y.1).mpr ⟨y, hy, rfl⟩).1
      have h9 := ((hD1 y.1).mpr ⟨y, hy, rfl⟩).2 _ (⟨(hO.2.2 b hb).1, b, hb, gv_r _⟩ : Dk L 0 (L.2.2.2.2 b)) hg
      have := (hO.2.2 b hb).2.2.2
      rw [h9] at this
      omega⟩
    have hu : ∀ a, a ≠ 44 → up2 mi1 44 6 (-5) a = mi1 a := fun a ha => up2_k _ _ _ _ ha
    have eE : Ef (up2 mi1 44 6 (-5)) mr1 A = Ef mi1 mr1 A := Ef_fr hB1 (fun a _ _ => hu a (by omega)) rfl
    exact loop _ (up2 mi1 44 6 (-5)) mr1 A N 0 _ (by omega) hAN (by rw [hr1 44 (by omega)]; exact hA) (by rw [hr1 44 (by omega)]; exact hN) (BO_fr hB1 (fun a _ _ => hu a (by omega)) rfl) (BO_fr hBN (fun a _ _ => (hu a (by omega)).trans (hm1 a (by omega))) (hr1 _ (by omega))) (by rw [hu A (by omega)]; omega) (by rw [eE]; exact hF1) (by rw [eE]; exact hS1) (fun a ha => (hu a (by omega)).trans (hm1 a (by omega))) (fun a ha => hr1 a (by omega)) (up2_s _ _ _ _) (fun i hi => absurd hi (by omega)) rfl
  ·
    refine s_vret X hr dX0_seek_9 ?_
    exact ⟨fun _ => ⟨rfl, rfl⟩, fun q => absurd q (by assumption)⟩
