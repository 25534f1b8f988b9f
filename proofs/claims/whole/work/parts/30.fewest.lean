theorem bad_iff {mi : Nat → Nat → Int} {L : Lws} {f : Nat → Int} {v : V5} {n : Int} (hC : LwC mi L) (hv : Cro L.1 n v) (hf : ∀ j : Nat, j < 5 → f j = F5 v j) : (∃ b : Nat, (b : Int) < mi 1 6 ∧ ge5 f (mi (30 + 2 * b + 1))) ↔ Dk L 0 v := by
  constructor
  · rintro ⟨b, hb, hg⟩
    refine ⟨hv.1, b, by rw [hC.2.2.1]; exact hb, ?_⟩
    rw [hC.2.2.2.2 b hb]
    refine gv_i.mpr (fun j hj => ?_)
    have := ge5_i.mp hg j hj
    rw [F5_T5 _ hj, ← hf j hj]; exact this
  · rintro ⟨-, b, hb, hg⟩
    rw [hC.2.2.1] at hb
    rw [hC.2.2.2.2 b hb] at hg
    refine ⟨b, hb, ge5_i.mpr (fun j hj => ?_)⟩
    have := gv_i.mp hg j hj
    rw [F5_T5 _ hj] at this
    rw [hf j hj]; exact this
/-- no bad one ahead of the i-th in the queue; the first bad one -/
def NoB (L : Lws) (P : Nat → V5) (qu : Nat → Int) (i : Nat) : Prop := ∀ a : Nat, a < i → ¬ Dk L 0 (P (qu a).toNat)
def Fnd (L : Lws) (P : Nat → V5) (le qu : Nat → Int) (c : Nat) (f : Int) : Prop := ∃ a : Nat, a < c ∧ f = le (qu a).toNat ∧ Dk L 0 (P (qu a).toNat) ∧ NoB L P qu a
theorem dX4_findFewest_0 : decode cX4_findFewest 0 = .ok (.aload_n 0, 1) := by decide +kernel
theorem dX4_findFewest_1 : decode cX4_findFewest 1 = .ok (.bipush (-9), 2) := by decide +kernel
theorem dX4_findFewest_3 : decode cX4_findFewest 3 = .ok (.putfield 57, 3) := by decide +kernel
theorem dX4_findFewest_6 : decode cX4_findFewest 6 = .ok (.iconst 0, 1) := by decide +kernel
theorem dX4_findFewest_7 : decode cX4_findFewest 7 = .ok (.istore_n 1, 1) := by decide +kernel
theorem dX4_findFewest_8 : decode cX4_findFewest 8 = .ok (.iload_n 1, 1) := by decide +kernel
theorem dX4_findFewest_9 : decode cX4_findFewest 9 = .ok (.aload_n 0, 1) := by decide +kernel
theorem dX4_findFewest_10 : decode cX4_findFewest 10 = .ok (.getfield 54, 3) := by decide +kernel
theorem dX4_findFewest_13 : decode cX4_findFewest 13 = .ok (.if_icmp .ge 60, 3) := by decide +kernel
theorem dX4_findFewest_16 : decode cX4_findFewest 16 = .ok (.aload_n 0, 1) := by decide +kernel
theorem dX4_findFewest_17 : decode cX4_findFewest 17 = .ok (.getfield 57, 3) := by decide +kernel
theorem dX4_findFewest_20 : decode cX4_findFewest 20 = .ok (.bipush (-9), 2) := by decide +kernel
theorem dX4_findFewest_22 : decode cX4_findFewest 22 = .ok (.if_icmp .ne 51, 3) := by decide +kernel
theorem dX4_findFewest_25 : decode cX4_findFewest 25 = .ok (.aload_n 0, 1) := by decide +kernel
theorem dX4_findFewest_26 : decode cX4_findFewest 26 = .ok (.aload_n 0, 1) := by decide +kernel
theorem dX4_findFewest_27 : decode cX4_findFewest 27 = .ok (.aload_n 0, 1) := by decide +kernel
theorem dX4_findFewest_28 : decode cX4_findFewest 28 = .ok (.getfield 28, 3) := by decide +kernel
theorem dX4_findFewest_31 : decode cX4_findFewest 31 = .ok (.iload_n 1, 1) := by decide +kernel
theorem dX4_findFewest_32 : decode cX4_findFewest 32 = .ok (.iaload, 1) := by decide +kernel
theorem dX4_findFewest_33 : decode cX4_findFewest 33 = .ok (.invokevirtual 83, 3) := by decide +kernel
theorem dX4_findFewest_36 : decode cX4_findFewest 36 = .ok (.invokevirtual 87, 3) := by decide +kernel
theorem dX4_findFewest_39 : decode cX4_findFewest 39 = .ok (.aload_n 0, 1) := by decide +kernel
theorem dX4_findFewest_40 : decode cX4_findFewest 40 = .ok (.getfield 60, 3) := by decide +kernel
theorem dX4_findFewest_43 : decode cX4_findFewest 43 = .ok (.aload_n 0, 1) := by decide +kernel
theorem dX4_findFewest_44 : decode cX4_findFewest 44 = .ok (.getfield 12, 3) := by decide +kernel
theorem dX4_findFewest_47 : decode cX4_findFewest 47 = .ok (.invokevirtual 157, 3) := by decide +kernel
theorem dX4_findFewest_50 : decode cX4_findFewest 50 = .ok (.ifCond .eq 17, 3) := by decide +kernel
theorem dX4_findFewest_53 : decode cX4_findFewest 53 = .ok (.aload_n 0, 1) := by decide +kernel
theorem dX4_findFewest_54 : decode cX4_findFewest 54 = .ok (.aload_n 0, 1) := by decide +kernel
theorem dX4_findFewest_55 : decode cX4_findFewest 55 = .ok (.aload_n 0, 1) := by decide +kernel
theorem dX4_findFewest_56 : decode cX4_findFewest 56 = .ok (.getfield 28, 3) := by decide +kernel
theorem dX4_findFewest_59 : decode cX4_findFewest 59 = .ok (.iload_n 1, 1) := by decide +kernel
theorem dX4_findFewest_60 : decode cX4_findFewest 60 = .ok (.iaload, 1) := by decide +kernel
theorem dX4_findFewest_61 : decode cX4_findFewest 61 = .ok (.invokevirtual 132, 3) := by decide +kernel
theorem dX4_findFewest_64 : decode cX4_findFewest 64 = .ok (.putfield 57, 3) := by decide +kernel
theorem dX4_findFewest_67 : decode cX4_findFewest 67 = .ok (.iinc 1 1, 3) := by decide +kernel
theorem dX4_findFewest_70 : decode cX4_findFewest 70 = .ok (.goto (-62), 3) := by decide +kernel
theorem dX4_findFewest_73 : decode cX4_findFewest 73 = .ok (.return_, 1) := by decide +kernel
theorem hl_yX4_findFewest : (yX4_findFewest.cls ≠ "java/lang/invoke/MethodHandle" ∧ yX4_findFewest.cls ≠ "java/lang/invoke/VarHandle") ∧ (parseMethodDescriptor yX4_findFewest.desc).map (fun d => d.parameters.length) = some 0 := by decide +kernel
set_option maxRecDepth 20000 in
set_option maxHeartbeats 4000000 in
theorem c_X4_findFewest {l : Launch} {G : Gt} {n0 : Nat} {mi : Nat → Nat → Int} {mr : Nat → Nat → Nat} {L : Lws} {N : Int} {k c : Nat} {P : Nat → V5} {S : V5 → Prop} (hN : 1 ≤ N ∧ N ≤ 8) (hE : FE L N k P mi) (hc : mi 461 11 = (c : Int)) (hQ : QV L S k c P (mi 467) (mi 468)) : Cv l yX4_findFewest cX4_findFewest 2 4 G n0 [.ref (n0 + 461)] mi mr (fun mi9 mr9 => (mi9 461 12 = -9 ∧ NoB L P (mi 468) c ∨ Fnd L P (mi 467) (mi 468) c (mi9 461 12)) ∧ (∀ a, a ≠ 461 → a ≠ 463 → mi9 a = mi a) ∧ (∀ j : Nat, j ≠ 12 → mi9 461 j = mi 461 j) ∧ mr = mr9) := by
  refine Ct_of (by decide +kernel) (by intro v hv; simp at hv; rcases hv with rfl <;> rfl) (Nat.le_of_ble_eq_true rfl) ?_
  intro p e s m args below meth c9 X hr hname
  show WW _ _ _ _ _ _ _ _ _ _ _ _ _ _ _ _ _ _ _ [some (.ref (n0 + 461)), none] _
  have hsc := hE.1.1
  have hck := QV_c hQ
  have hk495 := Inc_l hE.2.2.2.1.1 (by omega)
  refine w_aload_n X dX4_findFewest_0 rfl ?_
  refine w_bipush X dX4_findFewest_1 rfl ?_
  refine w_put X (by decide) (σ_461 G n0 _ _) rfl gW_X4 tyX4 tyX4_ok nmX4 12 (by decide) gF_X4_57 rfl rfl rfl (Nat.le_of_ble_eq_true rfl) dX4_findFewest_3 (WW.eqf (sp_461_12 _) ?_)
  refine w_iconst X dX4_findFewest_6 ?_
  refine w_ist2_1 X dX4_findFewest_7 ?_
  have loop : ∀ (n : Nat) (mi' : Nat → Nat → Int) (i : Nat), (i ≤ c) → (mi' 461 12 = -9 ∧ NoB L P (mi 468) i ∨ (0 ≤ mi' 461 12 ∧ mi' 461 12 ≤ 495) ∧ Fnd L P (mi 467) (mi 468) c (mi' 461 12)) → (∀ a, a ≠ 461 → a ≠ 463 → mi' a = mi a) → (∀ j : Nat, j ≠ 12 → mi' 461 j = mi 461 j) → n = k - i → WSv p l e s m args below meth c9 4 (fun mi9 mr9 => (mi9 461 12 = -9 ∧ NoB L P (mi 468) c ∨ Fnd L P (mi 467) (mi 468) c (mi9 461 12)) ∧ (∀ a, a ≠ 461 → a ≠ 463 → mi9 a = mi a) ∧ (∀ j : Nat, j ≠ 12 → mi9 461 j = mi 461 j) ∧ mr = mr9) G n0 2 mi' mr 8 [some (.ref (n0 + 461)), some (.int (jI (i : Int)))] [] := by
    intro n
    induction n using Nat.strongRecOn with
    | ind n ih_loop =>
      intro mi' i hi hst hfr h461 hn
      have hE' : FE L N k P mi' := FE_fr hE (fun a ha _ _ => hfr a (by omega) (by omega)) (h461 10 (by decide)) (hfr 466 (by decide) (by decide))
      have h10 : mi' 461 10 = (k : Int) := hE'.2.2.1
      have e1 : mi' 1 = mi 1 := hfr 1 (by decide) (by decide)
      have hsc' : 1 ≤ mi' 1 3 ∧ mi' 1 3 ≤ 5 := by rw [e1]; exact hsc
      have h11 : mi' 461 11 = (c : Int) := by rw [h461 11 (by decide)]; exact hc
      have hcc1 : 0 ≤ mi' 461 10 ∧ mi' 461 10 ≤ 495 := by rw [h10]; omega
      have h12r : -9 ≤ mi' 461 12 ∧ mi' 461 12 ≤ 495 := by rcases hst with ⟨q, -⟩ | ⟨q, -⟩ <;> omega
      have e468 : mi' 468 = mi 468 := hfr 468 (by decide) (by decide)
      refine w_iload_n X dX4_findFewest_8 rfl ?_
      refine w_aload_n X dX4_findFewest_9 rfl ?_
      refine w_get X (by decide) (σ_461 G n0 _ _) rfl gW_X4 11 (by decide) gF_X4_54 rfl dX4_findFewest_10 ?_
      rw [h11]
      refine w_icmp_ge X 73 dX4_findFewest_13 (by decide) (fun c13_1 => ?_) (fun c13_1 => ?_)
      ·
        refine s_vret X hr dX4_findFewest_73 ?_
        refine ⟨?_, hfr, h461, rfl⟩
        rcases hst with ⟨q, q2⟩ | ⟨q, q2⟩
        · have hic : i = c := by omega
          exact Or.inl ⟨q, by rw [← hic]; exact q2⟩
        · exact Or.inr q2
      ·
        refine w_aload_n X dX4_findFewest_16 rfl ?_
        refine w_get X (by decide) (σ_461 G n0 _ _) rfl gW_X4 12 (by decide) gF_X4_57 rfl dX4_findFewest_17 ?_
        refine w_bipush X dX4_findFewest_20 rfl ?_
        refine w_icmp_ne X 73 dX4_findFewest_22 (by decide) (fun c22_2 => ?_) (fun c22_2 => ?_)
        ·
          refine s_vret X hr dX4_findFewest_73 ?_
          refine ⟨?_, hfr, h461, rfl⟩
          rcases hst with ⟨q, q2⟩ | ⟨q, q2⟩
          · have hic : i = c := by omega
            exact Or.inl ⟨q, by rw [← hic]; exact q2⟩
          · exact Or.inr q2
        ·
          have h12 : mi' 461 12 = -9 := by omega
          have hnb : NoB L P (mi 468) i := by
            rcases hst with ⟨-, q⟩ | ⟨q, -⟩
            · exact q
            · omega
          have hic : i < c := by omega
          obtain ⟨p0, hpq, hpk⟩ : ∃ p0 : Nat, mi 468 i = (p0 : Int) ∧ p0 < k := by
            have := hQ.1 i hic
            exact ⟨(mi 468 i).toNat, by omega, by omega⟩
          have hpq' : mi' 468 i = (p0 : Int) := by rw [e468]; exact hpq
          have hzz := FE_z hE' hN hpk
          refine w_aload_n X dX4_findFewest_25 rfl ?_
          refine w_aload_n X dX4_findFewest_26 rfl ?_
          refine w_aload_n X dX4_findFewest_27 rfl ?_
          refine w_get X (by decide) (σ_461 G n0 _ _) rfl gW_X4 5 (by decide) gF_X4_28 rfl dX4_findFewest_28 ?_
          refine w_iload_n X dX4_findFewest_31 rfl ?_
          refine s_iald X (i) (by decide) (fun _ => σ_f4 G n0 _ _ (by decide)) dX4_findFewest_32 ?_
          rw [hpq']
          refine s_callVi X _ (c_X4_codeAt (l := l) (G := G) (n0 := n0) hcc1 (by first | assumption | (refine ⟨?_, ?_⟩ <;> omega))) gM_X4_83 gI_yX4_codeAt gS_yX4_codeAt gN_X4 gC_yX4_codeAt (by decide) (σ_461 G n0 _ _) rfl dX4_findFewest_33 hl_yX4_codeAt ⟨Nat.le_of_ble_eq_true rfl, Nat.le_of_ble_eq_true rfl⟩ (Nat.le_of_ble_eq_true rfl) rfl (fun r1 mi1 mr1 h1 => ?_)
          obtain ⟨rfl, rfl, h1⟩ := h1
          rw [if_pos ⟨by omega, by omega⟩, Int.toNat_natCast] at h1
          subst h1
          refine s_callVv X _ (c_X4_decode (l := l) (G := G) (n0 := n0) hsc' ⟨by omega, by omega⟩) gM_X4_87 gI_yX4_decode gS_yX4_decode gN_X4 gC_yX4_decode (by decide) (σ_461 G n0 _ _) rfl dX4_findFewest_36 hl_yX4_decode ⟨Nat.le_of_ble_eq_true rfl, Nat.le_of_ble_eq_true rfl⟩ (Nat.le_of_ble_eq_true rfl) rfl (fun mi2 mr2 h2 => ?_)
          obtain ⟨hd36, hf36, rfl⟩ := h2
          have hrow := FE_row hE' hN hpk hd36
          have hE2 : FE L N k P mi2 := FE_fr hE' (fun a ha _ _ => hf36 a (by omega)) (by rw [hf36 461 (by decide)]) (hf36 466 (by decide))
          have hW2 := hE2.1
          have hcP := hE.2.2.2.1.1.1 p0 hpk
          have hcb2 : CB mi2 462 := CB_row hcP hN.2 hrow
          refine w_aload_n X dX4_findFewest_39 rfl ?_
          refine w_get X (by decide) (σ_461 G n0 _ _) rfl gW_X4 0 (by decide) gF_X4_60 rfl dX4_findFewest_40 ?_
          refine w_aload_n X dX4_findFewest_43 rfl ?_
          refine w_get X (by decide) (σ_461 G n0 _ _) rfl gW_X4 1 (by decide) gF_X4_12 rfl dX4_findFewest_44 ?_
          refine s_callVi X _ (c_X5_isBadCrowd (l := l) (G := G) (n0 := n0) hW2 cr_462 hcb2) gM_X4_157 gI_yX5_isBadCrowd gS_yX5_isBadCrowd gN_X5 gC_yX5_isBadCrowd (by decide) (σ_1 G n0 _ _) rfl dX4_findFewest_47 hl_yX5_isBadCrowd ⟨Nat.le_of_ble_eq_true rfl, Nat.le_of_ble_eq_true rfl⟩ (Nat.le_of_ble_eq_true rfl) rfl (fun r3 mi3 mr3 h3 => ?_)
          obtain ⟨rfl, rfl, h3⟩ := h3
          refine w_if_eq X 67 dX4_findFewest_50 (by decide) (fun c50_3 => ?_) (fun c50_3 => ?_)
          ·
            refine w_iinc2_1 X dX4_findFewest_67 ?_
            refine w_goto X 8 dX4_findFewest_70 (by decide) ?_
            exact ih_loop _ (by omega) mi2 (i + 1) (by omega) (Or.inl ⟨by rw [hf36 461 (by decide)]; exact h12, fun a ha => by
              by_cases q : a = i
              · subst q
                rw [hpq, Int.toNat_natCast]
                rcases h3 with ⟨q1, -⟩ | ⟨-, q1⟩
                · omega
                · exact fun w => by obtain ⟨b, b1, b2⟩ := (bad_iff hE2.2.1 hcP hrow).mpr w; exact q1 b b1 b2
              · exact hnb a (by omega)⟩) (fun a h1 h2 => by rw [hf36 a h2]; exact hfr a h1 h2) (fun j hj => by rw [hf36 461 (by decide)]; exact h461 j hj) rfl
          ·
            have hcc1 : 0 ≤ mi2 461 10 ∧ mi2 461 10 ≤ 495 := by rw [hE2.2.2.1]; omega
            have h102 := hE2.2.2.1
            have e4682 : mi2 468 i = (p0 : Int) := by rw [hf36 468 (by decide)]; exact hpq'
            have hln := QV_n9 hQ hic
            rw [hpq, Int.toNat_natCast] at hln
            refine w_aload_n X dX4_findFewest_53 rfl ?_
            refine w_aload_n X dX4_findFewest_54 rfl ?_
            refine w_aload_n X dX4_findFewest_55 rfl ?_
            refine w_get X (by decide) (σ_461 G n0 _ _) rfl gW_X4 5 (by decide) gF_X4_28 rfl dX4_findFewest_56 ?_
            refine w_iload_n X dX4_findFewest_59 rfl ?_
            refine s_iald X (i) (by decide) (fun _ => σ_f4 G n0 _ _ (by decide)) dX4_findFewest_60 ?_
            rw [e4682]
            refine s_callVi X _ (c_X4_levelOf (l := l) (G := G) (n0 := n0) hcc1 (by first | assumption | (refine ⟨?_, ?_⟩ <;> omega))) gM_X4_132 gI_yX4_levelOf gS_yX4_levelOf gN_X4 gC_yX4_levelOf (by decide) (σ_461 G n0 _ _) rfl dX4_findFewest_61 hl_yX4_levelOf ⟨Nat.le_of_ble_eq_true rfl, Nat.le_of_ble_eq_true rfl⟩ (Nat.le_of_ble_eq_true rfl) rfl (fun r4 mi4 mr4 h4 => ?_)
            obtain ⟨rfl, rfl, h4⟩ := h4
            rw [if_pos ⟨by omega, by omega⟩, Int.toNat_natCast] at h4
            subst h4
            refine w_put X (by decide) (σ_461 G n0 _ _) rfl gW_X4 tyX4 tyX4_ok nmX4 12 (by decide) gF_X4_57 rfl rfl rfl (Nat.le_of_ble_eq_true rfl) dX4_findFewest_64 (WW.eqf (sp_461_12 _) ?_)
            refine w_iinc2_1 X dX4_findFewest_67 ?_
            refine w_goto X 8 dX4_findFewest_70 (by decide) ?_
            have hlq : mi2 467 p0 = mi 467 p0 := by rw [hf36 467 (by decide), hfr 467 (by decide) (by decide)]
            rw [hlq]
            exact ih_loop _ (by omega) (up2 mi2 461 12 (mi 467 p0)) (i + 1) (by omega) (Or.inr ⟨by rw [up2_s]; exact ⟨by omega, by omega⟩, i, by omega, by rw [up2_s, hpq, Int.toNat_natCast], by
              rw [hpq, Int.toNat_natCast]
              rcases h3 with ⟨-, q1⟩ | ⟨q1, -⟩
              · exact (bad_iff hE2.2.1 hcP hrow).mp q1
              · omega, hnb⟩) (fun a h1 h2 => by rw [up2_k _ _ _ _ h1, hf36 a h2]; exact hfr a h1 h2) (fun j hj => by rw [up2_j _ _ _ _ hj, hf36 461 (by decide)]; exact h461 j hj) rfl
  exact loop _ (up2 mi 461 12 (-9)) 0 (by omega) (Or.inl ⟨up2_s _ _ _ _, fun a ha => absurd ha (by omega)⟩) (fun a h1 _ => up2_k _ _ _ _ h1) (fun j hj => up2_j _ _ _ _ hj) rfl
