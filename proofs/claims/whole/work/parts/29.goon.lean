theorem St_cro {sc n set : Int} {v : V5} (h : St sc n set v) : Cro sc n v := h.1
set_option maxRecDepth 20000 in
set_option maxHeartbeats 4000000 in
theorem c_X4_goOn {l : Launch} {G : Gt} {n0 : Nat} {mi : Nat → Nat → Int} {mr : Nat → Nat → Nat} {L : Lws} {N : Int} {k c0 : Nat} {P : Nat → V5} (hN : 1 ≤ N ∧ N ≤ 8) (hO : LO L) (hE : FE L N k P mi) (hc0 : mi 461 11 = (c0 : Int)) (hQ0 : QV L (St (mi 1 3) N (mi 1 4)) k c0 P (mi 467) (mi 468)) (hS00 : ∀ pl : Nat, pl < k → (St (mi 1 3) N (mi 1 4)) (P pl) → mi 467 pl = 0) (hz0 : ∀ a : Nat, a < c0 → mi 467 (mi 468 a).toNat = 0) : Cv l yX4_goOn cX4_goOn 6 3 G n0 [.ref (n0 + 461)] mi mr (fun mi9 mr9 => ∃ c : Nat, mi9 461 11 = (c : Int) ∧ QV L (St (mi 1 3) N (mi 1 4)) k c P (mi9 467) (mi9 468) ∧ (∀ pl : Nat, pl < k → (St (mi 1 3) N (mi 1 4)) (P pl) → mi9 467 pl = 0) ∧ (∀ a : Nat, a < c → ∀ j : Nat, (j : Int) < L.2.1 → GEn L P k (mi9 467) (mi9 470) (mi9 468 a).toNat j) ∧ (∀ a, a ≠ 461 → a ≠ 463 → a ≠ 465 → a ≠ 467 → a ≠ 468 → a ≠ 470 → mi9 a = mi a) ∧ (∀ j : Nat, j ≠ 11 → mi9 461 j = mi 461 j) ∧ mr = mr9) := by
  refine Ct_of (by decide +kernel) (by intro v hv; simp at hv; rcases hv with rfl <;> rfl) (Nat.le_of_ble_eq_true rfl) ?_
  intro p e s m args below meth c9 X hr hname
  show WW _ _ _ _ _ _ _ _ _ _ _ _ _ _ _ _ _ _ _ [some (.ref (n0 + 461)), none, none, none, none, none] _
  have hsc := hE.1.1
  have hL3 := hE.1.2.2.1
  have hLs : L.1 = mi 1 3 := hE.2.1.1
  refine w_iconst X dX4_goOn_0 ?_
  refine w_ist6_1 X dX4_goOn_1 ?_
  have loop : ∀ (n : Nat) (mi' : Nat → Nat → Int) (i c : Nat) (x2 x3 x4 x5 : Option Value), (i ≤ c) → (mi' 461 11 = (c : Int)) → (QV L (St (mi 1 3) N (mi 1 4)) k c P (mi' 467) (mi' 468)) → (∀ pl : Nat, pl < k → (St (mi 1 3) N (mi 1 4)) (P pl) → mi' 467 pl = 0) → (i < c → ∀ a : Nat, a < c → mi' 467 (mi' 468 a).toNat ≤ mi' 467 (mi' 468 i).toNat + 1) → (∀ a : Nat, a < i → ∀ j : Nat, (j : Int) < L.2.1 → GEn L P k (mi' 467) (mi' 470) (mi' 468 a).toNat j) → (∀ a, a ≠ 461 → a ≠ 463 → a ≠ 465 → a ≠ 467 → a ≠ 468 → a ≠ 470 → mi' a = mi a) → (∀ j : Nat, j ≠ 11 → mi' 461 j = mi 461 j) → n = k - i → WSv p l e s m args below meth c9 3 (fun mi9 mr9 => ∃ c : Nat, mi9 461 11 = (c : Int) ∧ QV L (St (mi 1 3) N (mi 1 4)) k c P (mi9 467) (mi9 468) ∧ (∀ pl : Nat, pl < k → (St (mi 1 3) N (mi 1 4)) (P pl) → mi9 467 pl = 0) ∧ (∀ a : Nat, a < c → ∀ j : Nat, (j : Int) < L.2.1 → GEn L P k (mi9 467) (mi9 470) (mi9 468 a).toNat j) ∧ (∀ a, a ≠ 461 → a ≠ 463 → a ≠ 465 → a ≠ 467 → a ≠ 468 → a ≠ 470 → mi9 a = mi a) ∧ (∀ j : Nat, j ≠ 11 → mi9 461 j = mi 461 j) ∧ mr = mr9) G n0 6 mi' mr 2 [some (.ref (n0 + 461)), some (.int (jI (i : Int))), x2, x3, x4, x5] [] := by
    intro n
    induction n using Nat.strongRecOn with
    | ind n ih_loop =>
      intro mi' i c x2 x3 x4 x5 hi hc hQ hS0 hb hd hfr h461 hn
      have hE' : FE L N k P mi' := FE_fr hE (fun a ha _ _ => hfr a (by omega) (by omega) (by omega) (by omega) (by omega) (by omega)) (h461 10 (by decide)) (hfr 466 (by decide) (by decide) (by decide) (by decide) (by decide) (by decide))
      have h10' : mi' 461 10 = (k : Int) := hE'.2.2.1
      have e1' : mi' 1 = mi 1 := hfr 1 (by decide) (by decide) (by decide) (by decide) (by decide) (by decide)
      have hck := QV_c hQ
      have hk495 := Inc_l hE.2.2.2.1.1 (by omega)
      have hsc' : 1 ≤ mi' 1 3 ∧ mi' 1 3 ≤ 5 := by rw [e1']; exact hsc
      have hcc1 : 0 ≤ mi' 461 10 ∧ mi' 461 10 ≤ 495 := by rw [h10']; omega
      refine w_iload_n X dX4_goOn_2 rfl ?_
      refine w_aload_n X dX4_goOn_3 rfl ?_
      refine w_get X (by decide) (σ_461 G n0 _ _) rfl gW_X4 11 (by decide) gF_X4_54 rfl dX4_goOn_4 ?_
      refine w_icmp_ge X 139 dX4_goOn_7 (by decide) (fun c7_1 => ?_) (fun c7_1 => ?_)
      ·
        refine s_vret X hr dX4_goOn_139 ?_
        have hic : i = c := by omega
        subst hic
        exact ⟨i, hc, hQ, hS0, hd, hfr, h461, rfl⟩
      ·
        have hic : i < c := by omega
        obtain ⟨pl, hpq, hpk⟩ : ∃ pl : Nat, mi' 468 i = (pl : Int) ∧ pl < k := by
          have := hQ.1 i hic
          exact ⟨(mi' 468 i).toNat, by omega, by omega⟩
        have hn9 := QV_n9 hQ hic
        rw [hpq, Int.toNat_natCast] at hn9
        have hp9 := hn9.2.1
        refine w_aload_n X dX4_goOn_10 rfl ?_
        refine w_get X (by decide) (σ_461 G n0 _ _) rfl gW_X4 5 (by decide) gF_X4_28 rfl dX4_goOn_11 ?_
        refine w_iload_n X dX4_goOn_14 rfl ?_
        refine s_iald X (i) (by decide) (fun _ => σ_f4 G n0 _ _ (by decide)) dX4_goOn_15 ?_
        rw [hpq]
        refine w_ist6_2 X dX4_goOn_16 ?_
        refine w_aload_n X dX4_goOn_17 rfl ?_
        refine w_iload_n X dX4_goOn_18 rfl ?_
        refine s_callVi X _ (c_X4_levelOf (l := l) (G := G) (n0 := n0) hcc1 (by first | assumption | (refine ⟨?_, ?_⟩ <;> omega))) gM_X4_132 gI_yX4_levelOf gS_yX4_levelOf gN_X4 gC_yX4_levelOf (by decide) (σ_461 G n0 _ _) rfl dX4_goOn_19 hl_yX4_levelOf ⟨Nat.le_of_ble_eq_true rfl, Nat.le_of_ble_eq_true rfl⟩ (Nat.le_of_ble_eq_true rfl) rfl (fun r1 mi1 mr1 h1 => ?_)
        obtain ⟨rfl, rfl, h1⟩ := h1
        rw [if_pos ⟨by omega, by omega⟩, Int.toNat_natCast] at h1
        subst h1
        refine w_iconst X dX4_goOn_22 ?_
        refine w_iadd X dX4_goOn_23 ?_
        refine w_ist6_3 X dX4_goOn_24 ?_
        refine w_aload_n X dX4_goOn_25 rfl ?_
        refine w_aload_n X dX4_goOn_26 rfl ?_
        refine w_iload_n X dX4_goOn_27 rfl ?_
        refine s_callVi X _ (c_X4_codeAt (l := l) (G := G) (n0 := n0) hcc1 (by first | assumption | (refine ⟨?_, ?_⟩ <;> omega))) gM_X4_83 gI_yX4_codeAt gS_yX4_codeAt gN_X4 gC_yX4_codeAt (by decide) (σ_461 G n0 _ _) rfl dX4_goOn_28 hl_yX4_codeAt ⟨Nat.le_of_ble_eq_true rfl, Nat.le_of_ble_eq_true rfl⟩ (Nat.le_of_ble_eq_true rfl) rfl (fun r2 mi2 mr2 h2 => ?_)
        obtain ⟨rfl, rfl, h2⟩ := h2
        rw [if_pos ⟨by omega, by omega⟩, Int.toNat_natCast] at h2
        subst h2
        have hzz := FE_z hE' hN hpk
        refine s_callVv X _ (c_X4_decode (l := l) (G := G) (n0 := n0) hsc' ⟨by omega, by omega⟩) gM_X4_87 gI_yX4_decode gS_yX4_decode gN_X4 gC_yX4_decode (by decide) (σ_461 G n0 _ _) rfl dX4_goOn_31 hl_yX4_decode ⟨Nat.le_of_ble_eq_true rfl, Nat.le_of_ble_eq_true rfl⟩ (Nat.le_of_ble_eq_true rfl) rfl (fun mi3 mr3 h3 => ?_)
        obtain ⟨hd31, hf31, rfl⟩ := h3
        refine w_iconst X dX4_goOn_34 ?_
        refine w_ist6_4 X dX4_goOn_35 ?_
        have loop2 : ∀ (n : Nat) (n2 : Nat → Nat → Int) (c2 j : Nat) (x5 : Option Value), ((j : Int) ≤ mi 1 5) → (n2 461 11 = (c2 : Int)) → (GI L (St (mi 1 3) N (mi 1 4)) k P (mi' 467) (mi' 468) i c pl j (n2 467) (n2 468) (n2 470) c2) → (∀ j : Nat, j < 5 → n2 463 j = F5 (P pl) j) → (∀ a, a ≠ 461 → a ≠ 463 → a ≠ 465 → a ≠ 467 → a ≠ 468 → a ≠ 470 → n2 a = mi a) → (∀ j : Nat, j ≠ 11 → n2 461 j = mi 461 j) → n = 12 - j → WSv p l e s m args below meth c9 3 (fun mi9 mr9 => ∃ c : Nat, mi9 461 11 = (c : Int) ∧ QV L (St (mi 1 3) N (mi 1 4)) k c P (mi9 467) (mi9 468) ∧ (∀ pl : Nat, pl < k → (St (mi 1 3) N (mi 1 4)) (P pl) → mi9 467 pl = 0) ∧ (∀ a : Nat, a < c → ∀ j : Nat, (j : Int) < L.2.1 → GEn L P k (mi9 467) (mi9 470) (mi9 468 a).toNat j) ∧ (∀ a, a ≠ 461 → a ≠ 463 → a ≠ 465 → a ≠ 467 → a ≠ 468 → a ≠ 470 → mi9 a = mi a) ∧ (∀ j : Nat, j ≠ 11 → mi9 461 j = mi 461 j) ∧ mr = mr9) G n0 6 n2 mr 37 [some (.ref (n0 + 461)), some (.int (jI (i : Int))), some (.int (jI (pl : Int))), some (.int (jI (mi' 467 pl + 1))), some (.int (jI (j : Int))), x5] [] := by
          intro n
          induction n using Nat.strongRecOn with
          | ind n ih_loop2 =>
            intro n2 c2 j x5 hj hc2 hGI hrow2 hfr2 h4612 hn
            have hE2 : FE L N k P n2 := FE_fr hE (fun a ha _ _ => hfr2 a (by omega) (by omega) (by omega) (by omega) (by omega) (by omega)) (h4612 10 (by decide)) (hfr2 466 (by decide) (by decide) (by decide) (by decide) (by decide) (by decide))
            have h102 : n2 461 10 = (k : Int) := hE2.2.2.1
            have e12 : n2 1 = mi 1 := hfr2 1 (by decide) (by decide) (by decide) (by decide) (by decide) (by decide)
            have hck2 := QV_c hGI.1
            refine w_iload X dX4_goOn_37 rfl ?_
            refine w_aload_n X dX4_goOn_39 rfl ?_
            refine w_get X (by decide) (σ_461 G n0 _ _) rfl gW_X4 0 (by decide) gF_X4_60 rfl dX4_goOn_40 ?_
            refine w_getN X (by decide) (σ_1 G n0 _ _) rfl gW_X5 5 (by decide) gF_X4_135 rfl dX4_goOn_43 ?_
            rw [e12]
            refine w_icmp_ge X 133 dX4_goOn_46 (by decide) (fun c46_2 => ?_) (fun c46_2 => ?_)
            ·
              refine w_iinc6_1 X dX4_goOn_133 ?_
              refine w_goto X 2 dX4_goOn_136 (by decide) ?_
              obtain ⟨g1, g2, g3, g4, g5, g6, g7, g8⟩ := hGI
              have hj5 : L.2.1 = (j : Int) := by rw [hE.2.1.2.1]; omega
              have q3 : n2 468 i = (pl : Int) := by rw [g3 i hic]; exact hpq
              exact ih_loop _ (by clear g7 g8 hd; omega) n2 (i + 1) c2 _ _ _ _ (by clear g7 g8 hd; omega) hc2 g1 g6 (fun q a ha => by
                have h1 := g5 a ha
                have h2 := g1.2.2.2.2.1 i (i + 1) (by omega) q
                rw [q3, Int.toNat_natCast, g4 pl hpk hp9] at h2
                clear g7 g8 hd
                omega) (fun a ha j' hj' => by
                by_cases q : a = i
                · subst q
                  rw [q3, Int.toNat_natCast]
                  exact g8 j' (by rw [hj5] at hj'; clear g7 g8 hd; omega)
                · have h3 := g7 a (by clear g7 g8 hd; omega) j' hj'
                  rw [g3 a (by clear g7 g8 hd h3; omega)]
                  exact h3) hfr2 h4612 rfl
            ·
              have hjL : (j : Int) < L.2.1 := by rw [hE.2.1.2.1]; omega
              have hL12 : L.2.1 ≤ 12 := by rw [hE.2.1.2.1]; exact hE.1.2.2.1.2
              have hru : n2 (6 + 2 * j) = L.2.2.2.1 j := by rw [hE2.2.1.2.2.2.1 j (by rw [e12]; omega)]
              have hv2 : RV (n2 1 3) n2 (6 + 2 * j) := hE2.1.2.2.2.2.1 j (by rw [e12]; omega)
              have hcP := hE.2.2.2.1.1.1 pl hpk
              have hcb2 : CB n2 462 := CB_row hcP hN.2 hrow2
              refine w_bipush X dX4_goOn_49 rfl ?_
              refine w_ist6_5 X dX4_goOn_51 ?_
              refine w_aload_n X dX4_goOn_53 rfl ?_
              refine w_get X (by decide) (σ_461 G n0 _ _) rfl gW_X4 0 (by decide) gF_X4_60 rfl dX4_goOn_54 ?_
              refine w_getN X (by decide) (σ_1 G n0 _ _) rfl gW_X5 0 (by decide) gF_X4_138 rfl dX4_goOn_57 ?_
              refine w_iload X dX4_goOn_60 rfl ?_
              refine s_aald X (t := 3) (j) (by decide) (σ_2 G n0 _ _) rfl dX4_goOn_62 ?_
              refine w_aload_n X dX4_goOn_63 rfl ?_
              refine w_get X (by decide) (σ_461 G n0 _ _) rfl gW_X4 1 (by decide) gF_X4_12 rfl dX4_goOn_64 ?_
              refine s_callVi X _ (c_X6_fits (l := l) (G := G) (n0 := n0) (ru_2 (by omega)) hv2 cr_462 hcb2) gM_X4_142 gI_yX6_fits gS_yX6_fits gN_X6 gC_yX6_fits (isRu_k (ru_2 (by omega))) (σ_ru G n0 _ _ (ru_2 (by omega))) rfl dX4_goOn_67 hl_yX6_fits ⟨Nat.le_of_ble_eq_true rfl, Nat.le_of_ble_eq_true rfl⟩ (Nat.le_of_ble_eq_true rfl) rfl (fun r4 mi4 mr4 h4 => ?_)
              obtain ⟨rfl, rfl, h4⟩ := h4
              refine w_if_eq X 115 dX4_goOn_70 (by decide) (fun c70_3 => ?_) (fun c70_3 => ?_)
              ·
                have hnf : ¬ fit (L.2.2.2.1 j) (F5 (P pl)) := by
                  rcases h4 with ⟨q, -⟩ | ⟨-, q⟩
                  · clear hGI hd; omega
                  · rw [hru] at q; exact fun w => q ((fit_c hrow2).mpr w)
                obtain ⟨c3, hc3, hG3⟩ : ∃ c3 : Nat, n2 461 11 = (c3 : Int) ∧ GI L (St (mi 1 3) N (mi 1 4)) k P (mi' 467) (mi' 468) i c pl j (n2 467) (n2 468) (n2 470) c3 := ⟨c2, hc2, hGI⟩
                have hfr3 : ∀ a, a ≠ 461 → a ≠ 465 → a ≠ 467 → a ≠ 468 → n2 a = n2 a := fun _ _ _ _ _ => rfl
                have h4613 : ∀ j : Nat, j ≠ 11 → n2 461 j = n2 461 j := fun _ _ => rfl
                have hE3 : ∀ gl : Nat → Int, gl (12 * pl + j) = -9 → GEn L P k (n2 467) gl pl j := fun gl hg => Or.inr ⟨hnf, hg⟩
                refine w_aload_n X dX4_goOn_115 rfl ?_
                refine w_get X (by decide) (σ_461 G n0 _ _) rfl gW_X4 6 (by decide) gF_X4_36 rfl dX4_goOn_116 ?_
                refine w_iload_n X dX4_goOn_119 rfl ?_
                refine w_iload X dX4_goOn_120 rfl ?_
                refine w_iload X dX4_goOn_122 rfl ?_
                refine s_callVv X _ (c_X2_set_g (l := l) (G := G) (n0 := n0) ⟨by omega, by omega⟩) gM_X4_154 gI_yX2_set gS_yX2_set gN_X2 gC_yX2_set (by decide) (σ_469 G n0 _ _) rfl dX4_goOn_124 hl_yX2_set ⟨Nat.le_of_ble_eq_true rfl, Nat.le_of_ble_eq_true rfl⟩ (Nat.le_of_ble_eq_true rfl) rfl (fun mi5 mr5 h5 => ?_)
                obtain ⟨h5, rfl⟩ := h5
                rw [if_pos ⟨by omega, by omega⟩, show ((pl : Int) * 12 + (j : Int)).toNat = 12 * pl + j by omega] at h5
                refine w_iinc6_4 X dX4_goOn_127 ?_
                refine w_goto X 37 dX4_goOn_130 (by decide) ?_
                have hm9 : ∀ a, a ≠ 470 → mi5 a = n2 a := fun a ha => by rw [← h5, up2_k _ _ _ _ ha]
                have hg9 : ∀ x : Nat, mi5 470 x = if x = 12 * pl + j then (-9) else n2 470 x := fun x => by rw [← h5, up2_a]; by_cases q : x = 12 * pl + j; rw [if_pos ⟨rfl, q⟩, if_pos q]; rw [if_neg (fun w => q w.2), if_neg q]
                exact ih_loop2 _ (by clear hGI hd hG3; omega) mi5 c3 (j + 1) _ (by clear hGI hd hG3; omega) (by rw [hm9 461 (by decide)]; exact hc3) (by rw [hm9 467 (by decide), hm9 468 (by decide)]; exact GI_set hL12 hQ hic hpq hjL hG3 (fun x hx => by rw [hg9, if_neg hx]) (hE3 _ (by rw [hg9, if_pos rfl]))) (fun j hj => by rw [hm9 463 (by decide), hfr3 463 (by decide) (by decide) (by decide) (by decide)]; exact hrow2 j hj) (fun a h1 h2 h3 h4 h5 h6 => by rw [hm9 a h6, hfr3 a h1 h3 h4 h5]; exact hfr2 a h1 h2 h3 h4 h5 h6) (fun j hj => by rw [hm9 461 (by decide), h4613 j hj]; exact h4612 j hj) rfl
              ·
                have hfit : fit (L.2.2.2.1 j) (F5 (P pl)) := by
                  rcases h4 with ⟨-, q⟩ | ⟨q, -⟩
                  · rw [hru] at q; exact (fit_c hrow2).mp q
                  · clear hGI hd; omega
                have hcW := led_cro (hO.2.1 j hjL) hcP hfit
                refine w_aload_n X dX4_goOn_73 rfl ?_
                refine w_get X (by decide) (σ_461 G n0 _ _) rfl gW_X4 0 (by decide) gF_X4_60 rfl dX4_goOn_74 ?_
                refine w_getN X (by decide) (σ_1 G n0 _ _) rfl gW_X5 0 (by decide) gF_X4_138 rfl dX4_goOn_77 ?_
                refine w_iload X dX4_goOn_80 rfl ?_
                refine s_aald X (t := 3) (j) (by decide) (σ_2 G n0 _ _) rfl dX4_goOn_82 ?_
                refine w_aload_n X dX4_goOn_83 rfl ?_
                refine w_get X (by decide) (σ_461 G n0 _ _) rfl gW_X4 1 (by decide) gF_X4_12 rfl dX4_goOn_84 ?_
                refine w_aload_n X dX4_goOn_87 rfl ?_
                refine w_get X (by decide) (σ_461 G n0 _ _) rfl gW_X4 2 (by decide) gF_X4_18 rfl dX4_goOn_88 ?_
                refine s_callVv X _ (c_X6_lead (l := l) (G := G) (n0 := n0) (ru_2 (by omega)) hv2 cr_462 cr_464 (show (462 : Nat) ≠ 464 by decide)) gM_X4_147 gI_yX6_lead gS_yX6_lead gN_X6 gC_yX6_lead (isRu_k (ru_2 (by omega))) (σ_ru G n0 _ _ (ru_2 (by omega))) rfl dX4_goOn_91 hl_yX6_lead ⟨Nat.le_of_ble_eq_true rfl, Nat.le_of_ble_eq_true rfl⟩ (Nat.le_of_ble_eq_true rfl) rfl (fun mi5 mr5 h5 => ?_)
                obtain ⟨⟨hw9, hf9⟩, rfl⟩ := h5
                simp only [Nat.reduceAdd] at hw9 hf9
                have hto : ∀ x : Nat, x < 5 → mi5 465 x = F5 (T5 (led (L.2.2.2.1 j) (F5 (P pl)))) x := fun x hx => by
                  rw [hw9 x hx, hru, F5_T5 _ hx]
                  exact Int.le_antisymm (led_mono (fun a ha => by rw [hrow2 a ha]; exact Int.le_refl _) x) (led_mono (fun a ha => by rw [hrow2 a ha]; exact Int.le_refl _) x)
                have e15 : mi5 1 = mi 1 := by rw [hf9 1 (by decide)]; exact e12
                have hsc5 : 1 ≤ mi5 1 3 ∧ mi5 1 3 ≤ 5 := by rw [e15]; exact hsc
                have h095 : ∀ x : Nat, x < 5 → 0 ≤ mi5 (464 + 1) x ∧ mi5 (464 + 1) x ≤ 9 := fun x hx => by have := Cro_9 hcW hN.2 x hx; show 0 ≤ mi5 465 x ∧ mi5 465 x ≤ 9; rw [hto x hx]; exact this
                refine w_aload_n X dX4_goOn_94 rfl ?_
                refine w_aload_n X dX4_goOn_95 rfl ?_
                refine w_aload_n X dX4_goOn_96 rfl ?_
                refine w_get X (by decide) (σ_461 G n0 _ _) rfl gW_X4 2 (by decide) gF_X4_18 rfl dX4_goOn_97 ?_
                refine s_callVi X _ (c_X4_codeOf (l := l) (G := G) (n0 := n0) hsc5 cr_464 h095) gM_X4_111 gI_yX4_codeOf gS_yX4_codeOf gN_X4 gC_yX4_codeOf (by decide) (σ_461 G n0 _ _) rfl dX4_goOn_100 hl_yX4_codeOf ⟨Nat.le_of_ble_eq_true rfl, Nat.le_of_ble_eq_true rfl⟩ (Nat.le_of_ble_eq_true rfl) rfl (fun r6 mi6 mr6 h6 => ?_)
                obtain ⟨rfl, rfl, h6⟩ := h6
                simp only [Nat.reduceAdd] at h6
                obtain ⟨w0, hw0, hPw0⟩ := hE.2.2.2.1.2 _ hcW
                have hcode : mi5 466 w0 = r6 := by
                  rw [h6, hf9 466 (by decide), hE2.2.2.2.2 w0 hw0, hPw0, e15, e12]
                  exact cdn_c (fun x hx => (hto x (by clear hGI hd; omega)).symm)
                have hcc5 : 1 ≤ mi5 461 10 ∧ mi5 461 10 ≤ 495 := by rw [hf9 461 (by decide), h102]; clear hGI hd; omega
                have hin := FE_pl hE2 hN
                have hinc5 : ∀ a b : Nat, a < b → (b : Int) < mi5 461 10 → mi5 466 a < mi5 466 b := fun a b h1 h2 => by rw [hf9 461 (by decide), h102] at h2; rw [hf9 466 (by decide)]; exact hin a b h1 (by clear hGI hd; omega)
                have hcr5 : ∀ a : Nat, (a : Int) < mi5 461 10 → rg (mi5 466 a) := fun a h2 => by rw [hf9 461 (by decide), h102] at h2; rw [hf9 466 (by decide)]; have := FE_z hE2 hN (show a < k by clear hGI hd; omega); exact ⟨by clear hGI hd; omega, by clear hGI hd; omega⟩
                have hrg6 : rg r6 := by rw [← hcode]; exact hcr5 w0 (by rw [hf9 461 (by decide), h102]; clear hGI hd; omega)
                have h005 : mi5 466 0 ≤ r6 := by
                  rw [← hcode]
                  by_cases q : w0 = 0
                  · rw [q]; exact Int.le_refl _
                  · have := hinc5 0 w0 (by clear hGI hd; omega) (by rw [hf9 461 (by decide), h102]; clear hGI hd; omega)
                    exact Int.le_of_lt this
                refine s_callVi X _ (c_X4_placeOf (l := l) (G := G) (n0 := n0) hcc5 hrg6 h005 hcr5 hinc5) gM_X4_151 gI_yX4_placeOf gS_yX4_placeOf gN_X4 gC_yX4_placeOf (by decide) (σ_461 G n0 _ _) rfl dX4_goOn_103 hl_yX4_placeOf ⟨Nat.le_of_ble_eq_true rfl, Nat.le_of_ble_eq_true rfl⟩ (Nat.le_of_ble_eq_true rfl) rfl (fun r7 mi7 mr7 h7 => ?_)
                obtain ⟨rfl, rfl, p9, h7, hpX⟩ := h7
                subst h7
                refine w_ist6_5 X dX4_goOn_106 ?_
                have hpl9 : p9 < k := by have := hpX.1; rw [hf9 461 (by decide), h102] at this; clear hGI hd; omega
                have hpe : p9 = w0 := by
                  rcases Nat.lt_trichotomy p9 w0 with q | q | q
                  · have := hpX.2.2 w0 (by rw [hf9 461 (by decide), h102]; clear hGI hd; omega) q
                    clear hGI hd; omega
                  · exact q
                  · have h1 := hinc5 w0 p9 q hpX.1
                    have h2 := hpX.2.1
                    clear hGI hd; omega
                have hPp9 : P p9 = T5 (led (L.2.2.2.1 j) (F5 (P pl))) := by rw [hpe]; exact hPw0
                have hcc5' : 0 ≤ mi5 461 10 ∧ mi5 461 10 ≤ 495 := by clear hGI hd; omega
                have hcm5 : 0 ≤ mi5 461 11 ∧ mi5 461 11 ≤ 495 := by rw [hf9 461 (by decide), hc2]; clear hGI hd; omega
                have hlv5 : 0 ≤ (p9 : Int) → (p9 : Int) < mi5 461 10 → rg (mi5 467 (p9 : Int).toNat) := fun _ _ => by
                  rw [Int.toNat_natCast, hf9 467 (by decide)]
                  rcases hGI.1.2.2.1 p9 hpl9 with ⟨q, -⟩ | ⟨q, a, q1, q2⟩
                  · rw [q]; exact ⟨by decide, by decide⟩
                  · have h1 := hGI.2.2.2.2.1 a q1
                    rw [q2, Int.toNat_natCast] at h1
                    exact ⟨by clear hGI hd; omega, by clear hGI hd; omega⟩
                refine w_aload_n X dX4_goOn_108 rfl ?_
                refine w_iload X dX4_goOn_109 rfl ?_
                refine w_iload_n X dX4_goOn_111 rfl ?_
                refine s_callVv X _ (c_X4_come (l := l) (G := G) (n0 := n0) hcc5' hcm5 ⟨by omega, by omega⟩ hlv5) gM_X4_129 gI_yX4_come gS_yX4_come gN_X4 gC_yX4_come (by decide) (σ_461 G n0 _ _) rfl dX4_goOn_112 hl_yX4_come ⟨Nat.le_of_ble_eq_true rfl, Nat.le_of_ble_eq_true rfl⟩ (Nat.le_of_ble_eq_true rfl) rfl (fun mi8 mr8 h8 => ?_)
                obtain ⟨h8, rfl⟩ := h8
                have hGI' := hGI
                obtain ⟨c3, hc3, hG3, hn3, hfr3, h4613⟩ : ∃ c3 : Nat, mi8 461 11 = (c3 : Int) ∧ GI L (St (mi 1 3) N (mi 1 4)) k P (mi' 467) (mi' 468) i c pl j (mi8 467) (mi8 468) (mi8 470) c3 ∧ (mi8 467 p9 ≠ -9 ∧ mi8 467 p9 ≤ mi8 467 pl + 1) ∧ (∀ a, a ≠ 461 → a ≠ 465 → a ≠ 467 → a ≠ 468 → mi8 a = n2 a) ∧ ∀ j : Nat, j ≠ 11 → mi8 461 j = n2 461 j := by
                  obtain ⟨g1, g2, g3, g4, g5, g6, g7, g8⟩ := hGI
                  have hlp := g4 pl hpk hp9
                  by_cases h9w : n2 467 p9 = -9
                  · have hcm := fun le' qu' a b => GI_come (le' := le') (qu' := qu') hQ hic hpq hGI' hpl9 h9w ⟨j, hjL, hfit, hPp9⟩ a b
                    have hcl := QV_c (hcm _ _ (fun _ => rfl) (fun _ => rfl)).1
                    obtain ⟨q1, q2, q3, q4, q5⟩ := come_q (by rw [Int.toNat_natCast, hf9 461 (by decide), hf9 467 (by decide), h102, hc2]; exact ⟨by clear g7 g8 hd; omega, by clear g7 g8 hd; omega, h9w, by clear g7 g8 hd; omega⟩) h8
                    rw [Int.toNat_natCast, hf9 467 (by decide)] at q1
                    rw [hf9 461 (by decide), hf9 468 (by decide), hc2, Int.toNat_natCast] at q2
                    rw [hf9 461 (by decide), hc2] at q3
                    rw [hf9 461 (by decide)] at q4
                    have hpne : pl ≠ p9 := fun e => by rw [← e, hlp] at h9w; exact hp9 h9w
                    refine ⟨c2 + 1, by rw [q3]; clear g7 g8 hd; omega, ?_, ⟨?_, ?_⟩, fun a h1 h2 h3 h4 => by rw [q5 a h1 h3 h4, hf9 a h2], q4⟩
                    · rw [q5 470 (by decide) (by decide) (by decide), hf9 470 (by decide)]; exact hcm _ _ q1 q2
                    · rw [q1, if_pos rfl]; clear g7 g8 hd; omega
                    · rw [q1, q1, if_pos rfl, if_neg hpne, hlp]; exact Int.le_refl _
                  · rw [if_neg (fun q => h9w (by have := q.2.2.1; rw [Int.toNat_natCast, hf9 467 (by decide)] at this; exact this))] at h8
                    subst h8
                    refine ⟨c2, by rw [hf9 461 (by decide)]; exact hc2, by rw [hf9 467 (by decide), hf9 468 (by decide), hf9 470 (by decide)]; exact hGI', ?_, fun a _ h2 _ _ => hf9 a h2, fun j _ => by rw [hf9 461 (by decide)]⟩
                    rw [hf9 467 (by decide)]
                    refine ⟨h9w, ?_⟩
                    rcases g1.2.2.1 p9 hpl9 with ⟨q, -⟩ | ⟨-, a, q1, q2⟩
                    · exact absurd q h9w
                    · have := g5 a q1
                      rw [q2, Int.toNat_natCast] at this
                      rw [hlp]; exact this
                have hE3 : ∀ gl : Nat → Int, gl (12 * pl + j) = (p9 : Int) → GEn L P k (mi8 467) gl pl j := fun gl hg => Or.inl ⟨hfit, p9, hpl9, hg, hPp9, hn3.1, hn3.2⟩
                refine w_aload_n X dX4_goOn_115 rfl ?_
                refine w_get X (by decide) (σ_461 G n0 _ _) rfl gW_X4 6 (by decide) gF_X4_36 rfl dX4_goOn_116 ?_
                refine w_iload_n X dX4_goOn_119 rfl ?_
                refine w_iload X dX4_goOn_120 rfl ?_
                refine w_iload X dX4_goOn_122 rfl ?_
                refine s_callVv X _ (c_X2_set_g (l := l) (G := G) (n0 := n0) ⟨by omega, by omega⟩) gM_X4_154 gI_yX2_set gS_yX2_set gN_X2 gC_yX2_set (by decide) (σ_469 G n0 _ _) rfl dX4_goOn_124 hl_yX2_set ⟨Nat.le_of_ble_eq_true rfl, Nat.le_of_ble_eq_true rfl⟩ (Nat.le_of_ble_eq_true rfl) rfl (fun mi9 mr9 h9 => ?_)
                obtain ⟨h9, rfl⟩ := h9
                rw [if_pos ⟨by omega, by omega⟩, show ((pl : Int) * 12 + (j : Int)).toNat = 12 * pl + j by omega] at h9
                refine w_iinc6_4 X dX4_goOn_127 ?_
                refine w_goto X 37 dX4_goOn_130 (by decide) ?_
                have hm9 : ∀ a, a ≠ 470 → mi9 a = mi8 a := fun a ha => by rw [← h9, up2_k _ _ _ _ ha]
                have hg9 : ∀ x : Nat, mi9 470 x = if x = 12 * pl + j then (p9 : Int) else mi8 470 x := fun x => by rw [← h9, up2_a]; by_cases q : x = 12 * pl + j; rw [if_pos ⟨rfl, q⟩, if_pos q]; rw [if_neg (fun w => q w.2), if_neg q]
                exact ih_loop2 _ (by clear hGI hd hG3; omega) mi9 c3 (j + 1) _ (by clear hGI hd hG3; omega) (by rw [hm9 461 (by decide)]; exact hc3) (by rw [hm9 467 (by decide), hm9 468 (by decide)]; exact GI_set hL12 hQ hic hpq hjL hG3 (fun x hx => by rw [hg9, if_neg hx]) (hE3 _ (by rw [hg9, if_pos rfl]))) (fun j hj => by rw [hm9 463 (by decide), hfr3 463 (by decide) (by decide) (by decide) (by decide)]; exact hrow2 j hj) (fun a h1 h2 h3 h4 h5 h6 => by rw [hm9 a h6, hfr3 a h1 h3 h4 h5]; exact hfr2 a h1 h2 h3 h4 h5 h6) (fun j hj => by rw [hm9 461 (by decide), h4613 j hj]; exact h4612 j hj) rfl
        have hrow := FE_row hE' hN hpk hd31
        exact loop2 _ mi3 c 0 _ (by omega) (by rw [hf31 461 (by decide)]; exact hc) ⟨by rw [hf31 467 (by decide), hf31 468 (by decide)]; exact hQ, by omega, fun a _ => by rw [hf31 468 (by decide)], fun a _ _ => by rw [hf31 467 (by decide)], fun a ha => by rw [hf31 467 (by decide), hf31 468 (by decide)]; have := hb hic a ha; rw [hpq, Int.toNat_natCast] at this; exact this, fun q hq hs => by rw [hf31 467 (by decide)]; exact hS0 q hq hs, fun a ha j' hj' => by rw [hf31 467 (by decide), hf31 470 (by decide)]; exact hd a ha j' hj', fun j' hj' => absurd hj' (by omega)⟩ hrow (fun a h1 h2 h3 h4 h5 h6 => by rw [hf31 a h2]; exact hfr a h1 h2 h3 h4 h5 h6) (fun j hj => by rw [hf31 461 (by decide)]; exact h461 j hj) rfl
  exact loop _ mi 0 c0 _ _ _ _ (by omega) hc0 hQ0 hS00 (fun q a ha => by have h1 := hz0 a ha; have h2 := hz0 0 q; omega) (fun a ha => absurd ha (by omega)) (fun _ _ _ _ _ _ _ => rfl) (fun _ _ => rfl) rfl
