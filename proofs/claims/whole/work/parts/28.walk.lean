/-- crowds of the start -/
def St (sc n set : Int) (v : V5) : Prop := Cro sc n v ∧ inst set (F5 v) sc
theorem inst_c {s sc : Int} {f g : Nat → Int} (hs : sc ≤ 5) (h : ∀ j : Nat, j < 5 → f j = g j) : inst s f sc ↔ inst s g sc := by
  unfold inst
  constructor
  · intro q j hj; rw [← h j (by omega)]; exact q j hj
  · intro q j hj; rw [h j (by omega)]; exact q j hj
theorem fit_c {ρ f g : Nat → Int} (h : ∀ j : Nat, j < 5 → f j = g j) : fit ρ f ↔ fit ρ g := by
  unfold fit
  constructor
  · intro q j hj; rw [← h j hj]; exact q j hj
  · intro q j hj; rw [h j hj]; exact q j hj
theorem CB_row {mi : Nat → Nat → Int} {c : Nat} {v : V5} {sc n : Int} (h : Cro sc n v) (hn : n ≤ 8) (hr : ∀ j : Nat, j < 5 → mi (c + 1) j = F5 v j) : CB mi c := CB_of (fun j hj => by have := Cro_9 h hn j hj; rw [hr j hj]; omega)
theorem dX4_beginAtStart_0 : decode cX4_beginAtStart 0 = .ok (.aload_n 0, 1) := by decide +kernel
theorem dX4_beginAtStart_1 : decode cX4_beginAtStart 1 = .ok (.iconst 0, 1) := by decide +kernel
theorem dX4_beginAtStart_2 : decode cX4_beginAtStart 2 = .ok (.putfield 54, 3) := by decide +kernel
theorem dX4_beginAtStart_5 : decode cX4_beginAtStart 5 = .ok (.iconst 0, 1) := by decide +kernel
theorem dX4_beginAtStart_6 : decode cX4_beginAtStart 6 = .ok (.istore_n 1, 1) := by decide +kernel
theorem dX4_beginAtStart_7 : decode cX4_beginAtStart 7 = .ok (.iload_n 1, 1) := by decide +kernel
theorem dX4_beginAtStart_8 : decode cX4_beginAtStart 8 = .ok (.aload_n 0, 1) := by decide +kernel
theorem dX4_beginAtStart_9 : decode cX4_beginAtStart 9 = .ok (.getfield 51, 3) := by decide +kernel
theorem dX4_beginAtStart_12 : decode cX4_beginAtStart 12 = .ok (.if_icmp .ge 39, 3) := by decide +kernel
theorem dX4_beginAtStart_15 : decode cX4_beginAtStart 15 = .ok (.aload_n 0, 1) := by decide +kernel
theorem dX4_beginAtStart_16 : decode cX4_beginAtStart 16 = .ok (.aload_n 0, 1) := by decide +kernel
theorem dX4_beginAtStart_17 : decode cX4_beginAtStart 17 = .ok (.getfield 21, 3) := by decide +kernel
theorem dX4_beginAtStart_20 : decode cX4_beginAtStart 20 = .ok (.iload_n 1, 1) := by decide +kernel
theorem dX4_beginAtStart_21 : decode cX4_beginAtStart 21 = .ok (.iaload, 1) := by decide +kernel
theorem dX4_beginAtStart_22 : decode cX4_beginAtStart 22 = .ok (.invokevirtual 87, 3) := by decide +kernel
theorem dX4_beginAtStart_25 : decode cX4_beginAtStart 25 = .ok (.aload_n 0, 1) := by decide +kernel
theorem dX4_beginAtStart_26 : decode cX4_beginAtStart 26 = .ok (.getfield 60, 3) := by decide +kernel
theorem dX4_beginAtStart_29 : decode cX4_beginAtStart 29 = .ok (.aload_n 0, 1) := by decide +kernel
theorem dX4_beginAtStart_30 : decode cX4_beginAtStart 30 = .ok (.getfield 12, 3) := by decide +kernel
theorem dX4_beginAtStart_33 : decode cX4_beginAtStart 33 = .ok (.invokevirtual 126, 3) := by decide +kernel
theorem dX4_beginAtStart_36 : decode cX4_beginAtStart 36 = .ok (.ifCond .eq 9, 3) := by decide +kernel
theorem dX4_beginAtStart_39 : decode cX4_beginAtStart 39 = .ok (.aload_n 0, 1) := by decide +kernel
theorem dX4_beginAtStart_40 : decode cX4_beginAtStart 40 = .ok (.iload_n 1, 1) := by decide +kernel
theorem dX4_beginAtStart_41 : decode cX4_beginAtStart 41 = .ok (.iconst 0, 1) := by decide +kernel
theorem dX4_beginAtStart_42 : decode cX4_beginAtStart 42 = .ok (.invokevirtual 129, 3) := by decide +kernel
theorem dX4_beginAtStart_45 : decode cX4_beginAtStart 45 = .ok (.iinc 1 1, 3) := by decide +kernel
theorem dX4_beginAtStart_48 : decode cX4_beginAtStart 48 = .ok (.goto (-41), 3) := by decide +kernel
theorem dX4_beginAtStart_51 : decode cX4_beginAtStart 51 = .ok (.return_, 1) := by decide +kernel
theorem hl_yX4_beginAtStart : (yX4_beginAtStart.cls ≠ "java/lang/invoke/MethodHandle" ∧ yX4_beginAtStart.cls ≠ "java/lang/invoke/VarHandle") ∧ (parseMethodDescriptor yX4_beginAtStart.desc).map (fun d => d.parameters.length) = some 0 := by decide +kernel
theorem dX4_goOn_0 : decode cX4_goOn 0 = .ok (.iconst 0, 1) := by decide +kernel
theorem dX4_goOn_1 : decode cX4_goOn 1 = .ok (.istore_n 1, 1) := by decide +kernel
theorem dX4_goOn_2 : decode cX4_goOn 2 = .ok (.iload_n 1, 1) := by decide +kernel
theorem dX4_goOn_3 : decode cX4_goOn 3 = .ok (.aload_n 0, 1) := by decide +kernel
theorem dX4_goOn_4 : decode cX4_goOn 4 = .ok (.getfield 54, 3) := by decide +kernel
theorem dX4_goOn_7 : decode cX4_goOn 7 = .ok (.if_icmp .ge 132, 3) := by decide +kernel
theorem dX4_goOn_10 : decode cX4_goOn 10 = .ok (.aload_n 0, 1) := by decide +kernel
theorem dX4_goOn_11 : decode cX4_goOn 11 = .ok (.getfield 28, 3) := by decide +kernel
theorem dX4_goOn_14 : decode cX4_goOn 14 = .ok (.iload_n 1, 1) := by decide +kernel
theorem dX4_goOn_15 : decode cX4_goOn 15 = .ok (.iaload, 1) := by decide +kernel
theorem dX4_goOn_16 : decode cX4_goOn 16 = .ok (.istore_n 2, 1) := by decide +kernel
theorem dX4_goOn_17 : decode cX4_goOn 17 = .ok (.aload_n 0, 1) := by decide +kernel
theorem dX4_goOn_18 : decode cX4_goOn 18 = .ok (.iload_n 2, 1) := by decide +kernel
theorem dX4_goOn_19 : decode cX4_goOn 19 = .ok (.invokevirtual 132, 3) := by decide +kernel
theorem dX4_goOn_22 : decode cX4_goOn 22 = .ok (.iconst 1, 1) := by decide +kernel
theorem dX4_goOn_23 : decode cX4_goOn 23 = .ok (.iadd, 1) := by decide +kernel
theorem dX4_goOn_24 : decode cX4_goOn 24 = .ok (.istore_n 3, 1) := by decide +kernel
theorem dX4_goOn_25 : decode cX4_goOn 25 = .ok (.aload_n 0, 1) := by decide +kernel
theorem dX4_goOn_26 : decode cX4_goOn 26 = .ok (.aload_n 0, 1) := by decide +kernel
theorem dX4_goOn_27 : decode cX4_goOn 27 = .ok (.iload_n 2, 1) := by decide +kernel
theorem dX4_goOn_28 : decode cX4_goOn 28 = .ok (.invokevirtual 83, 3) := by decide +kernel
theorem dX4_goOn_31 : decode cX4_goOn 31 = .ok (.invokevirtual 87, 3) := by decide +kernel
theorem dX4_goOn_34 : decode cX4_goOn 34 = .ok (.iconst 0, 1) := by decide +kernel
theorem dX4_goOn_35 : decode cX4_goOn 35 = .ok (.istore 4, 2) := by decide +kernel
theorem dX4_goOn_37 : decode cX4_goOn 37 = .ok (.iload 4, 2) := by decide +kernel
theorem dX4_goOn_39 : decode cX4_goOn 39 = .ok (.aload_n 0, 1) := by decide +kernel
theorem dX4_goOn_40 : decode cX4_goOn 40 = .ok (.getfield 60, 3) := by decide +kernel
theorem dX4_goOn_43 : decode cX4_goOn 43 = .ok (.getfield 135, 3) := by decide +kernel
theorem dX4_goOn_46 : decode cX4_goOn 46 = .ok (.if_icmp .ge 87, 3) := by decide +kernel
theorem dX4_goOn_49 : decode cX4_goOn 49 = .ok (.bipush (-9), 2) := by decide +kernel
theorem dX4_goOn_51 : decode cX4_goOn 51 = .ok (.istore 5, 2) := by decide +kernel
theorem dX4_goOn_53 : decode cX4_goOn 53 = .ok (.aload_n 0, 1) := by decide +kernel
theorem dX4_goOn_54 : decode cX4_goOn 54 = .ok (.getfield 60, 3) := by decide +kernel
theorem dX4_goOn_57 : decode cX4_goOn 57 = .ok (.getfield 138, 3) := by decide +kernel
theorem dX4_goOn_60 : decode cX4_goOn 60 = .ok (.iload 4, 2) := by decide +kernel
theorem dX4_goOn_62 : decode cX4_goOn 62 = .ok (.aaload, 1) := by decide +kernel
theorem dX4_goOn_63 : decode cX4_goOn 63 = .ok (.aload_n 0, 1) := by decide +kernel
theorem dX4_goOn_64 : decode cX4_goOn 64 = .ok (.getfield 12, 3) := by decide +kernel
theorem dX4_goOn_67 : decode cX4_goOn 67 = .ok (.invokevirtual 142, 3) := by decide +kernel
theorem dX4_goOn_70 : decode cX4_goOn 70 = .ok (.ifCond .eq 45, 3) := by decide +kernel
theorem dX4_goOn_73 : decode cX4_goOn 73 = .ok (.aload_n 0, 1) := by decide +kernel
theorem dX4_goOn_74 : decode cX4_goOn 74 = .ok (.getfield 60, 3) := by decide +kernel
theorem dX4_goOn_77 : decode cX4_goOn 77 = .ok (.getfield 138, 3) := by decide +kernel
theorem dX4_goOn_80 : decode cX4_goOn 80 = .ok (.iload 4, 2) := by decide +kernel
theorem dX4_goOn_82 : decode cX4_goOn 82 = .ok (.aaload, 1) := by decide +kernel
theorem dX4_goOn_83 : decode cX4_goOn 83 = .ok (.aload_n 0, 1) := by decide +kernel
theorem dX4_goOn_84 : decode cX4_goOn 84 = .ok (.getfield 12, 3) := by decide +kernel
theorem dX4_goOn_87 : decode cX4_goOn 87 = .ok (.aload_n 0, 1) := by decide +kernel
theorem dX4_goOn_88 : decode cX4_goOn 88 = .ok (.getfield 18, 3) := by decide +kernel
theorem dX4_goOn_91 : decode cX4_goOn 91 = .ok (.invokevirtual 147, 3) := by decide +kernel
theorem dX4_goOn_94 : decode cX4_goOn 94 = .ok (.aload_n 0, 1) := by decide +kernel
theorem dX4_goOn_95 : decode cX4_goOn 95 = .ok (.aload_n 0, 1) := by decide +kernel
theorem dX4_goOn_96 : decode cX4_goOn 96 = .ok (.aload_n 0, 1) := by decide +kernel
theorem dX4_goOn_97 : decode cX4_goOn 97 = .ok (.getfield 18, 3) := by decide +kernel
theorem dX4_goOn_100 : decode cX4_goOn 100 = .ok (.invokevirtual 111, 3) := by decide +kernel
theorem dX4_goOn_103 : decode cX4_goOn 103 = .ok (.invokevirtual 151, 3) := by decide +kernel
theorem dX4_goOn_106 : decode cX4_goOn 106 = .ok (.istore 5, 2) := by decide +kernel
theorem dX4_goOn_108 : decode cX4_goOn 108 = .ok (.aload_n 0, 1) := by decide +kernel
theorem dX4_goOn_109 : decode cX4_goOn 109 = .ok (.iload 5, 2) := by decide +kernel
theorem dX4_goOn_111 : decode cX4_goOn 111 = .ok (.iload_n 3, 1) := by decide +kernel
theorem dX4_goOn_112 : decode cX4_goOn 112 = .ok (.invokevirtual 129, 3) := by decide +kernel
theorem dX4_goOn_115 : decode cX4_goOn 115 = .ok (.aload_n 0, 1) := by decide +kernel
theorem dX4_goOn_116 : decode cX4_goOn 116 = .ok (.getfield 36, 3) := by decide +kernel
theorem dX4_goOn_119 : decode cX4_goOn 119 = .ok (.iload_n 2, 1) := by decide +kernel
theorem dX4_goOn_120 : decode cX4_goOn 120 = .ok (.iload 4, 2) := by decide +kernel
theorem dX4_goOn_122 : decode cX4_goOn 122 = .ok (.iload 5, 2) := by decide +kernel
theorem dX4_goOn_124 : decode cX4_goOn 124 = .ok (.invokevirtual 154, 3) := by decide +kernel
theorem dX4_goOn_127 : decode cX4_goOn 127 = .ok (.iinc 4 1, 3) := by decide +kernel
theorem dX4_goOn_130 : decode cX4_goOn 130 = .ok (.goto (-93), 3) := by decide +kernel
theorem dX4_goOn_133 : decode cX4_goOn 133 = .ok (.iinc 1 1, 3) := by decide +kernel
theorem dX4_goOn_136 : decode cX4_goOn 136 = .ok (.goto (-134), 3) := by decide +kernel
theorem dX4_goOn_139 : decode cX4_goOn 139 = .ok (.return_, 1) := by decide +kernel
theorem hl_yX4_goOn : (yX4_goOn.cls ≠ "java/lang/invoke/MethodHandle" ∧ yX4_goOn.cls ≠ "java/lang/invoke/VarHandle") ∧ (parseMethodDescriptor yX4_goOn.desc).map (fun d => d.parameters.length) = some 0 := by decide +kernel
set_option maxRecDepth 20000 in
set_option maxHeartbeats 4000000 in
theorem c_X4_beginAtStart {l : Launch} {G : Gt} {n0 : Nat} {mi : Nat → Nat → Int} {mr : Nat → Nat → Nat} {L : Lws} {N : Int} {k : Nat} {P : Nat → V5} (hN : 1 ≤ N ∧ N ≤ 8) (hE : FE L N k P mi) (h90 : ∀ p : Nat, p < k → mi 467 p = -9) : Cv l yX4_beginAtStart cX4_beginAtStart 2 3 G n0 [.ref (n0 + 461)] mi mr (fun mi9 mr9 => ∃ c : Nat, mi9 461 11 = (c : Int) ∧ QV L (St (mi 1 3) N (mi 1 4)) k c P (mi9 467) (mi9 468) ∧ (∀ p : Nat, p < k → (St (mi 1 3) N (mi 1 4)) (P p) → mi9 467 p = 0) ∧ (∀ a : Nat, a < c → mi9 467 (mi9 468 a).toNat = 0) ∧ (∀ a, a ≠ 461 → a ≠ 463 → a ≠ 467 → a ≠ 468 → mi9 a = mi a) ∧ (∀ j : Nat, j ≠ 11 → mi9 461 j = mi 461 j) ∧ mr = mr9) := by
  refine Ct_of (by decide +kernel) (by intro v hv; simp at hv; rcases hv with rfl <;> rfl) (Nat.le_of_ble_eq_true rfl) ?_
  intro p e s m args below meth c9 X hr hname
  show WW _ _ _ _ _ _ _ _ _ _ _ _ _ _ _ _ _ _ _ [some (.ref (n0 + 461)), none] _
  have hsc := hE.1.1
  have hLs : L.1 = mi 1 3 := hE.2.1.1
  refine w_aload_n X dX4_beginAtStart_0 rfl ?_
  refine w_iconst X dX4_beginAtStart_1 ?_
  refine w_put X (by decide) (σ_461 G n0 _ _) rfl gW_X4 tyX4 tyX4_ok nmX4 11 (by decide) gF_X4_54 rfl rfl rfl (Nat.le_of_ble_eq_true rfl) dX4_beginAtStart_2 (WW.eqf (sp_461_11 _) ?_)
  refine w_iconst X dX4_beginAtStart_5 ?_
  refine w_ist2_1 X dX4_beginAtStart_6 ?_
  have loop : ∀ (n : Nat) (mi' : Nat → Nat → Int) (i c : Nat), (i ≤ k) → (mi' 461 11 = (c : Int)) → (QV L (St (mi 1 3) N (mi 1 4)) k c P (mi' 467) (mi' 468)) → (∀ p : Nat, p < i → (St (mi 1 3) N (mi 1 4)) (P p) → mi' 467 p = 0) → (∀ p : Nat, i ≤ p → p < k → mi' 467 p = -9) → (∀ a : Nat, a < c → mi' 467 (mi' 468 a).toNat = 0) → (∀ a, a ≠ 461 → a ≠ 463 → a ≠ 467 → a ≠ 468 → mi' a = mi a) → (∀ j : Nat, j ≠ 11 → mi' 461 j = mi 461 j) → n = k - i → WSv p l e s m args below meth c9 3 (fun mi9 mr9 => ∃ c : Nat, mi9 461 11 = (c : Int) ∧ QV L (St (mi 1 3) N (mi 1 4)) k c P (mi9 467) (mi9 468) ∧ (∀ p : Nat, p < k → (St (mi 1 3) N (mi 1 4)) (P p) → mi9 467 p = 0) ∧ (∀ a : Nat, a < c → mi9 467 (mi9 468 a).toNat = 0) ∧ (∀ a, a ≠ 461 → a ≠ 463 → a ≠ 467 → a ≠ 468 → mi9 a = mi a) ∧ (∀ j : Nat, j ≠ 11 → mi9 461 j = mi 461 j) ∧ mr = mr9) G n0 2 mi' mr 7 [some (.ref (n0 + 461)), some (.int (jI (i : Int)))] [] := by
    intro n
    induction n using Nat.strongRecOn with
    | ind n ih_loop =>
      intro mi' i c hi hc hQ h0 h9 hz hfr h461 hn
      have hE' : FE L N k P mi' := FE_fr hE (fun a ha h4 h5 => hfr a (by omega) (by omega) (by omega) (by omega)) (h461 10 (by decide)) (hfr 466 (by decide) (by decide) (by decide) (by decide))
      have h10 : mi' 461 10 = (k : Int) := hE'.2.2.1
      have e1 : mi' 1 = mi 1 := hfr 1 (by decide) (by decide) (by decide) (by decide)
      have hck := QV_c hQ
      have hk495 := Inc_l hE.2.2.2.1.1 (by omega)
      have hsc' : 1 ≤ mi' 1 3 ∧ mi' 1 3 ≤ 5 := by rw [e1]; exact hsc
      refine w_iload_n X dX4_beginAtStart_7 rfl ?_
      refine w_aload_n X dX4_beginAtStart_8 rfl ?_
      refine w_get X (by decide) (σ_461 G n0 _ _) rfl gW_X4 10 (by decide) gF_X4_51 rfl dX4_beginAtStart_9 ?_
      rw [h10]
      refine w_icmp_ge X 51 dX4_beginAtStart_12 (by decide) (fun c12_1 => ?_) (fun c12_1 => ?_)
      ·
        refine s_vret X hr dX4_beginAtStart_51 ?_
        have hik : i = k := by omega
        subst hik
        exact ⟨c, hc, hQ, h0, hz, hfr, h461, rfl⟩
      ·
        refine w_aload_n X dX4_beginAtStart_15 rfl ?_
        refine w_aload_n X dX4_beginAtStart_16 rfl ?_
        refine w_get X (by decide) (σ_461 G n0 _ _) rfl gW_X4 3 (by decide) gF_X4_21 rfl dX4_beginAtStart_17 ?_
        refine w_iload_n X dX4_beginAtStart_20 rfl ?_
        refine s_iald X (i) (by decide) (fun _ => σ_f4 G n0 _ _ (by decide)) dX4_beginAtStart_21 ?_
        have hzz := FE_z hE' hN (show i < k by omega)
        refine s_callVv X _ (c_X4_decode (l := l) (G := G) (n0 := n0) hsc' ⟨by omega, by omega⟩) gM_X4_87 gI_yX4_decode gS_yX4_decode gN_X4 gC_yX4_decode (by decide) (σ_461 G n0 _ _) rfl dX4_beginAtStart_22 hl_yX4_decode ⟨Nat.le_of_ble_eq_true rfl, Nat.le_of_ble_eq_true rfl⟩ (Nat.le_of_ble_eq_true rfl) rfl (fun mi1 mr1 h1 => ?_)
        obtain ⟨hd22, hf22, rfl⟩ := h1
        have hrow := FE_row hE' hN (show i < k by omega) hd22
        have e11 : mi1 1 = mi 1 := by rw [hf22 1 (by decide)]; exact e1
        have hW1 : LW mi1 := LW_fr hE'.1 (fun a ha _ _ => hf22 a (by omega))
        have hcb1 : CB mi1 462 := CB_row (hE'.2.2.2.1.1.1 i (by omega)) hN.2 hrow
        refine w_aload_n X dX4_beginAtStart_25 rfl ?_
        refine w_get X (by decide) (σ_461 G n0 _ _) rfl gW_X4 0 (by decide) gF_X4_60 rfl dX4_beginAtStart_26 ?_
        refine w_aload_n X dX4_beginAtStart_29 rfl ?_
        refine w_get X (by decide) (σ_461 G n0 _ _) rfl gW_X4 1 (by decide) gF_X4_12 rfl dX4_beginAtStart_30 ?_
        refine s_callVi X _ (c_X5_isInStart (l := l) (G := G) (n0 := n0) hW1 cr_462 hcb1) gM_X4_126 gI_yX5_isInStart gS_yX5_isInStart gN_X5 gC_yX5_isInStart (by decide) (σ_1 G n0 _ _) rfl dX4_beginAtStart_33 hl_yX5_isInStart ⟨Nat.le_of_ble_eq_true rfl, Nat.le_of_ble_eq_true rfl⟩ (Nat.le_of_ble_eq_true rfl) rfl (fun r2 mi2 mr2 h2 => ?_)
        obtain ⟨rfl, rfl, h2⟩ := h2
        refine w_if_eq X 45 dX4_beginAtStart_36 (by decide) (fun c36_2 => ?_) (fun c36_2 => ?_)
        ·
          refine w_iinc2_1 X dX4_beginAtStart_45 ?_
          refine w_goto X 7 dX4_beginAtStart_48 (by decide) ?_
          have hno : ¬ inst (mi 1 4) (F5 (P i)) (mi 1 3) := by
            rcases h2 with ⟨q, -⟩ | ⟨-, q⟩
            · omega
            · rw [e11] at q; exact fun w => q ((inst_c hsc.2 hrow).mpr w)
          exact ih_loop _ (by omega) mi1 (i + 1) c (by omega) (by rw [hf22 461 (by decide)]; exact hc) (by rw [hf22 467 (by decide), hf22 468 (by decide)]; exact hQ) (fun p hp hs => by
            rw [hf22 467 (by decide)]
            by_cases q : p = i
            · subst q; exact absurd hs.2 hno
            · exact h0 p (by omega) hs) (fun p hp hp2 => by rw [hf22 467 (by decide)]; exact h9 p (by omega) hp2) (fun a ha => by rw [hf22 467 (by decide), hf22 468 (by decide)]; exact hz a ha) (fun a h1 h2 h3 h4 => by rw [hf22 a h2]; exact hfr a h1 h2 h3 h4) (fun j hj => by rw [hf22 461 (by decide)]; exact h461 j hj) rfl
        ·
          have hcc1 : 0 ≤ mi1 461 10 ∧ mi1 461 10 ≤ 495 := by rw [hf22 461 (by decide), h10]; omega
          have hcm1 : 0 ≤ mi1 461 11 ∧ mi1 461 11 ≤ 495 := by rw [hf22 461 (by decide), hc]; omega
          have hlv1 : 0 ≤ (i : Int) → (i : Int) < mi1 461 10 → rg (mi1 467 (i : Int).toNat) := fun _ _ => by rw [Int.toNat_natCast, hf22 467 (by decide), h9 i (by omega) (by omega)]; exact ⟨by decide, by decide⟩
          refine w_aload_n X dX4_beginAtStart_39 rfl ?_
          refine w_iload_n X dX4_beginAtStart_40 rfl ?_
          refine w_iconst X dX4_beginAtStart_41 ?_
          refine s_callVv X _ (c_X4_come (l := l) (G := G) (n0 := n0) hcc1 hcm1 (by first | assumption | (refine ⟨?_, ?_⟩ <;> omega)) hlv1) gM_X4_129 gI_yX4_come gS_yX4_come gN_X4 gC_yX4_come (by decide) (σ_461 G n0 _ _) rfl dX4_beginAtStart_42 hl_yX4_come ⟨Nat.le_of_ble_eq_true rfl, Nat.le_of_ble_eq_true rfl⟩ (Nat.le_of_ble_eq_true rfl) rfl (fun mi3 mr3 h3 => ?_)
          obtain ⟨h3, rfl⟩ := h3
          refine w_iinc2_1 X dX4_beginAtStart_45 ?_
          refine w_goto X 7 dX4_beginAtStart_48 (by decide) ?_
          have hyes : inst (mi 1 4) (F5 (P i)) (mi 1 3) := by
            rcases h2 with ⟨-, q⟩ | ⟨q, -⟩
            · rw [e11] at q; exact (inst_c hsc.2 hrow).mp q
            · omega
          have hQ1 : ∀ le' qu' : Nat → Int, (∀ a, le' a = if a = i then 0 else mi' 467 a) → (∀ a, qu' a = if a = c then (i : Int) else mi' 468 a) → QV L (St (mi 1 3) N (mi 1 4)) k (c + 1) P le' qu' := fun le' qu' a b => QV_s (x := 0) hQ (show i < k by omega) (h9 i (by omega) (by omega)) (by omega) (fun a ha => by have := hz a ha; omega) (show St (mi 1 3) N (mi 1 4) (P i) from ⟨by rw [← hLs]; exact hE'.2.2.2.1.1.1 i (by omega), hyes⟩) a b
          have hcl := QV_c (hQ1 _ _ (fun _ => rfl) (fun _ => rfl))
          obtain ⟨q1, q2, q3, q4, q5⟩ := come_q (by rw [Int.toNat_natCast, hf22 461 (by decide), hf22 467 (by decide), h10, hc]; exact ⟨by omega, by omega, h9 i (by omega) (by omega), by omega⟩) h3
          rw [Int.toNat_natCast, hf22 467 (by decide)] at q1
          rw [hf22 461 (by decide), hf22 468 (by decide), hc, Int.toNat_natCast] at q2
          rw [hf22 461 (by decide), hc] at q3
          rw [hf22 461 (by decide)] at q4
          have hnw : ∀ a : Nat, a < c → mi' 468 a ≠ (i : Int) := fun a ha e => by have := QV_n9 hQ ha; rw [e, Int.toNat_natCast] at this; exact this.2.1 (h9 i (by omega) (by omega))
          exact ih_loop _ (by omega) mi3 (i + 1) (c + 1) (by omega) (by rw [q3]; omega) (hQ1 _ _ q1 q2) (fun p hp hs => by
            rw [q1]
            by_cases q : p = i
            · rw [if_pos q]
            · rw [if_neg q]; exact h0 p (by omega) hs) (fun p hp hp2 => by rw [q1, if_neg (by omega)]; exact h9 p (by omega) hp2) (fun a ha => by
            rw [q2]
            by_cases q : a = c
            · rw [if_pos q, Int.toNat_natCast, q1, if_pos rfl]
            · have := hQ.1 a (by omega)
              have := hnw a (by omega)
              rw [if_neg q, q1, if_neg (by omega)]; exact hz a (by omega)) (fun a h1 h2 h3 h4 => by rw [q5 a h1 h3 h4, hf22 a h2]; exact hfr a h1 h2 h3 h4) (fun j hj => by rw [q4 j hj]; exact h461 j hj) rfl
  have u0 : ∀ a, a ≠ 461 → up2 mi 461 11 0 a = mi a := fun a ha => up2_k _ _ _ _ ha
  exact loop _ (up2 mi 461 11 0) 0 0 (by omega) (up2_s _ _ _ _) (QV_0 (fun p hp => by rw [u0 467 (by decide)]; exact h90 p hp)) (fun p hp => absurd hp (by omega)) (fun p _ hp => by rw [u0 467 (by decide)]; exact h90 p hp) (fun a ha => absurd ha (by omega)) (fun a h1 _ _ _ => u0 a h1) (fun j hj => up2_j _ _ _ _ hj) rfl
