theorem Gv_p {m : Nat → Nat → Int} {p j : Nat} (hp : p < 495) (hj : j < 12) : Gv m (p : Int) j = m 470 (12 * p + j) := by
  unfold Gv
  rw [if_pos ⟨by omega, by omega⟩, show ((p : Int) * 12 + (j : Int)).toNat = 12 * p + j by omega]
theorem Lv_p {m : Nat → Nat → Int} {p : Nat} (hp : (p : Int) < m 461 10) : Lv m (p : Int) = m 467 p := by
  unfold Lv
  rw [if_pos ⟨by omega, hp⟩, Int.toNat_natCast]
/-- which ones are a step on, and leading -/
theorem okJ_Ld {L : Lws} {S : V5 → Prop} {k c : Nat} {P : Nat → V5} {m : Nat → Nat → Int} {f : Int} (hG : FG L S k c P (m 467) (m 468) (m 470) f) (hk : k ≤ 495) (h10 : m 461 10 = (k : Int)) (h12 : L.2.1 ≤ 12) {p : Nat} (hp : p < k) (h471 : ∀ w : Nat, w < k → m 467 w = m 467 p + 1 → m 471 w = 1 ∧ Ld L P (m 467) f w ∨ m 471 w = 0 ∧ ¬ Ld L P (m 467) f w) (w : Int) : okJ m (p : Int) L.2.1.toNat w ↔ ∃ j q : Nat, (j : Int) < L.2.1 ∧ q < k ∧ m 470 (12 * p + j) = (q : Int) ∧ m 467 q = m 467 p + 1 ∧ Ld L P (m 467) f q ∧ w = (q : Int) := by
  constructor
  · rintro ⟨j, h1, h2, h3, h4, h5, h6⟩
    obtain ⟨q, rfl⟩ : ∃ q : Nat, w = (q : Int) := ⟨w.toNat, by omega⟩
    rw [Gv_p (by omega) (by omega)] at h2
    rw [Lv_p h4, Lv_p (by omega)] at h6
    rw [Int.toNat_natCast] at h5
    rcases h471 q (by omega) h6 with ⟨-, h7⟩ | ⟨h7, -⟩
    · exact ⟨j, q, by omega, by omega, h2, h6, h7, rfl⟩
    · omega
  · rintro ⟨j, q, h1, h2, h3, h4, h5, rfl⟩
    refine ⟨j, by omega, by rw [Gv_p (by omega) (by omega)]; exact h3, by omega, by omega, ?_, ?_⟩
    · rw [Int.toNat_natCast]
      rcases h471 q h2 h4 with ⟨h7, -⟩ | ⟨-, h7⟩
      · exact h7
      · exact absurd h5 h7
    · rw [Lv_p (by omega), Lv_p (by omega)]; exact h4
theorem Fs_Ld {L : Lws} {S : V5 → Prop} {n : Int} {k c : Nat} {P : Nat → V5} {m : Nat → Nat → Int} {f x : Int} (hP : ∀ i : Nat, i < k → Cro L.1 n (P i)) (hG : FG L S k c P (m 467) (m 468) (m 470) f) (hk : k ≤ 495) (h10 : m 461 10 = (k : Int)) (h12 : L.2.1 ≤ 12) {p : Nat} (hp : p < k) (h471 : ∀ w : Nat, w < k → m 467 w = m 467 p + 1 → m 471 w = 1 ∧ Ld L P (m 467) f w ∨ m 471 w = 0 ∧ ¬ Ld L P (m 467) f w) (h9 : m 467 p ≠ -9) (hlt : m 467 p < f) (hF : Fs m (p : Int) L.2.1.toNat x) : x = -9 ∧ ¬ Ld L P (m 467) f p ∨ x ≠ -9 ∧ Ld L P (m 467) f p := by
  have hi := okJ_Ld hG hk h10 h12 hp h471
  rcases hF with ⟨h1, h2⟩ | ⟨h1, h2, h3⟩
  · refine Or.inl ⟨h1, fun hl => ?_⟩
    obtain ⟨j, w, q1, q2, q3, q4, q5⟩ := FG_step hG hp hl hlt
    exact h2 _ ((hi _).mpr ⟨j, w, q1, q2, q3, q4, q5, rfl⟩)
  · obtain ⟨j, w, q1, q2, q3, q4, q5, q6⟩ := (hi x).mp h2
    exact Or.inr ⟨by omega, (FG_back hP hG hp h9 q1 q3 q4 q5).1⟩
theorem FG_fr {L : Lws} {S : V5 → Prop} {k c : Nat} {P : Nat → V5} {m m' : Nat → Nat → Int} {f : Int} (h : FG L S k c P (m 467) (m 468) (m 470) f) (h1 : m' 467 = m 467) (h2 : m' 468 = m 468) (h3 : m' 470 = m 470) : FG L S k c P (m' 467) (m' 468) (m' 470) f := by rw [h1, h2, h3]; exact h
theorem Gv_r {L : Lws} {S : V5 → Prop} {k c : Nat} {P : Nat → V5} {m : Nat → Nat → Int} {f : Int} (hG : FG L S k c P (m 467) (m 468) (m 470) f) (hk : k ≤ 495) (h12 : L.2.1 ≤ 12) {p : Nat} (hp : p < k) (h9 : m 467 p ≠ -9) (j : Nat) (hj : (j : Int) < L.2.1) : rg (Gv m (p : Int) j) := by
  rw [Gv_p (by omega) (by omega)]
  rcases FG_e hG hp h9 hj with ⟨-, w, h1, h2, -⟩ | ⟨-, h2⟩
  · rw [h2]; exact ⟨by omega, by omega⟩
  · rw [h2]; exact ⟨by decide, by decide⟩
theorem Gv_9 {m : Nat → Nat → Int} (j : Nat) (hj : j < 12) : Gv m (-9) j = -9 := by
  unfold Gv
  rw [if_neg (by omega)]
theorem Lv_r {L : Lws} {S : V5 → Prop} {k c : Nat} {P : Nat → V5} {m : Nat → Nat → Int} {f : Int} (hG : FG L S k c P (m 467) (m 468) (m 470) f) (hk : k ≤ 495) (h10 : m 461 10 = (k : Int)) (w : Int) : -9 ≤ Lv m w ∧ Lv m w ≤ 495 := by
  unfold Lv
  split
  · rename_i h
    have hc := QV_c hG.1
    rcases hG.1.2.2.1 w.toNat (by omega) with ⟨q, -⟩ | ⟨q, a, q1, q2⟩
    · omega
    · have := QV_n9 hG.1 q1
      rw [q2] at this
      rw [Int.toNat_natCast] at this
      omega
  · omega
theorem FG_f {L : Lws} {S : V5 → Prop} {k c : Nat} {P : Nat → V5} {le qu gl : Nat → Int} {f : Int} (h : FG L S k c P le qu gl f) (hk : k ≤ 495) : f = -9 ∨ 0 ≤ f ∧ f ≤ 494 := by
  rcases h.2.2.2 with ⟨q, -⟩ | ⟨a, h1, h2, -⟩
  · exact Or.inl q
  · have := QV_n9 h.1 h1
    have := QV_c h.1
    omega
theorem dX4_markLeading_0 : decode cX4_markLeading 0 = .ok (.aload_n 0, 1) := by decide +kernel
theorem dX4_markLeading_1 : decode cX4_markLeading 1 = .ok (.getfield 54, 3) := by decide +kernel
theorem dX4_markLeading_4 : decode cX4_markLeading 4 = .ok (.iconst 1, 1) := by decide +kernel
theorem dX4_markLeading_5 : decode cX4_markLeading 5 = .ok (.isub, 1) := by decide +kernel
theorem dX4_markLeading_6 : decode cX4_markLeading 6 = .ok (.istore_n 1, 1) := by decide +kernel
theorem dX4_markLeading_7 : decode cX4_markLeading 7 = .ok (.iload_n 1, 1) := by decide +kernel
theorem dX4_markLeading_8 : decode cX4_markLeading 8 = .ok (.ifCond .lt 90, 3) := by decide +kernel
theorem dX4_markLeading_11 : decode cX4_markLeading 11 = .ok (.aload_n 0, 1) := by decide +kernel
theorem dX4_markLeading_12 : decode cX4_markLeading 12 = .ok (.getfield 28, 3) := by decide +kernel
theorem dX4_markLeading_15 : decode cX4_markLeading 15 = .ok (.iload_n 1, 1) := by decide +kernel
theorem dX4_markLeading_16 : decode cX4_markLeading 16 = .ok (.iaload, 1) := by decide +kernel
theorem dX4_markLeading_17 : decode cX4_markLeading 17 = .ok (.istore_n 2, 1) := by decide +kernel
theorem dX4_markLeading_18 : decode cX4_markLeading 18 = .ok (.aload_n 0, 1) := by decide +kernel
theorem dX4_markLeading_19 : decode cX4_markLeading 19 = .ok (.iload_n 2, 1) := by decide +kernel
theorem dX4_markLeading_20 : decode cX4_markLeading 20 = .ok (.invokevirtual 132, 3) := by decide +kernel
theorem dX4_markLeading_23 : decode cX4_markLeading 23 = .ok (.istore_n 3, 1) := by decide +kernel
theorem dX4_markLeading_24 : decode cX4_markLeading 24 = .ok (.aload_n 0, 1) := by decide +kernel
theorem dX4_markLeading_25 : decode cX4_markLeading 25 = .ok (.iload_n 2, 1) := by decide +kernel
theorem dX4_markLeading_26 : decode cX4_markLeading 26 = .ok (.invokevirtual 122, 3) := by decide +kernel
theorem dX4_markLeading_29 : decode cX4_markLeading 29 = .ok (.ifCond .eq 63, 3) := by decide +kernel
theorem dX4_markLeading_32 : decode cX4_markLeading 32 = .ok (.iload_n 3, 1) := by decide +kernel
theorem dX4_markLeading_33 : decode cX4_markLeading 33 = .ok (.aload_n 0, 1) := by decide +kernel
theorem dX4_markLeading_34 : decode cX4_markLeading 34 = .ok (.getfield 57, 3) := by decide +kernel
theorem dX4_markLeading_37 : decode cX4_markLeading 37 = .ok (.if_icmp .gt 55, 3) := by decide +kernel
theorem dX4_markLeading_40 : decode cX4_markLeading 40 = .ok (.aload_n 0, 1) := by decide +kernel
theorem dX4_markLeading_41 : decode cX4_markLeading 41 = .ok (.aload_n 0, 1) := by decide +kernel
theorem dX4_markLeading_42 : decode cX4_markLeading 42 = .ok (.iload_n 2, 1) := by decide +kernel
theorem dX4_markLeading_43 : decode cX4_markLeading 43 = .ok (.invokevirtual 83, 3) := by decide +kernel
theorem dX4_markLeading_46 : decode cX4_markLeading 46 = .ok (.invokevirtual 87, 3) := by decide +kernel
theorem dX4_markLeading_49 : decode cX4_markLeading 49 = .ok (.aload_n 0, 1) := by decide +kernel
theorem dX4_markLeading_50 : decode cX4_markLeading 50 = .ok (.getfield 40, 3) := by decide +kernel
theorem dX4_markLeading_53 : decode cX4_markLeading 53 = .ok (.iload_n 2, 1) := by decide +kernel
theorem dX4_markLeading_54 : decode cX4_markLeading 54 = .ok (.iload_n 3, 1) := by decide +kernel
theorem dX4_markLeading_55 : decode cX4_markLeading 55 = .ok (.aload_n 0, 1) := by decide +kernel
theorem dX4_markLeading_56 : decode cX4_markLeading 56 = .ok (.getfield 57, 3) := by decide +kernel
theorem dX4_markLeading_59 : decode cX4_markLeading 59 = .ok (.if_icmp .ne 17, 3) := by decide +kernel
theorem dX4_markLeading_62 : decode cX4_markLeading 62 = .ok (.aload_n 0, 1) := by decide +kernel
theorem dX4_markLeading_63 : decode cX4_markLeading 63 = .ok (.getfield 60, 3) := by decide +kernel
theorem dX4_markLeading_66 : decode cX4_markLeading 66 = .ok (.aload_n 0, 1) := by decide +kernel
theorem dX4_markLeading_67 : decode cX4_markLeading 67 = .ok (.getfield 12, 3) := by decide +kernel
theorem dX4_markLeading_70 : decode cX4_markLeading 70 = .ok (.invokevirtual 157, 3) := by decide +kernel
theorem dX4_markLeading_73 : decode cX4_markLeading 73 = .ok (.goto 18, 3) := by decide +kernel
theorem dX4_markLeading_76 : decode cX4_markLeading 76 = .ok (.aload_n 0, 1) := by decide +kernel
theorem dX4_markLeading_77 : decode cX4_markLeading 77 = .ok (.iload_n 2, 1) := by decide +kernel
theorem dX4_markLeading_78 : decode cX4_markLeading 78 = .ok (.invokevirtual 160, 3) := by decide +kernel
theorem dX4_markLeading_81 : decode cX4_markLeading 81 = .ok (.bipush (-9), 2) := by decide +kernel
theorem dX4_markLeading_83 : decode cX4_markLeading 83 = .ok (.if_icmp .eq 7, 3) := by decide +kernel
theorem dX4_markLeading_86 : decode cX4_markLeading 86 = .ok (.iconst 1, 1) := by decide +kernel
theorem dX4_markLeading_87 : decode cX4_markLeading 87 = .ok (.goto 4, 3) := by decide +kernel
theorem dX4_markLeading_90 : decode cX4_markLeading 90 = .ok (.iconst 0, 1) := by decide +kernel
theorem dX4_markLeading_91 : decode cX4_markLeading 91 = .ok (.bastore, 1) := by decide +kernel
theorem dX4_markLeading_92 : decode cX4_markLeading 92 = .ok (.iinc 1 (-1), 3) := by decide +kernel
theorem dX4_markLeading_95 : decode cX4_markLeading 95 = .ok (.goto (-88), 3) := by decide +kernel
theorem dX4_markLeading_98 : decode cX4_markLeading 98 = .ok (.return_, 1) := by decide +kernel
theorem hl_yX4_markLeading : (yX4_markLeading.cls ≠ "java/lang/invoke/MethodHandle" ∧ yX4_markLeading.cls ≠ "java/lang/invoke/VarHandle") ∧ (parseMethodDescriptor yX4_markLeading.desc).map (fun d => d.parameters.length) = some 0 := by decide +kernel
set_option maxRecDepth 20000 in
set_option maxHeartbeats 4000000 in
theorem c_X4_markLeading {l : Launch} {G : Gt} {n0 : Nat} {mi : Nat → Nat → Int} {mr : Nat → Nat → Nat} {L : Lws} {N : Int} {k c : Nat} {P : Nat → V5} {S : V5 → Prop} (hN : 1 ≤ N ∧ N ≤ 8) (hE : FE L N k P mi) (hc : mi 461 11 = (c : Int)) (hG : FG L S k c P (mi 467) (mi 468) (mi 470) (mi 461 12)) (h0 : ∀ q : Nat, q < k → mi 471 q = 0) : Cv l yX4_markLeading cX4_markLeading 4 5 G n0 [.ref (n0 + 461)] mi mr (fun mi9 mr9 => (∀ q : Nat, q < k → mi9 471 q = 1 ∧ Ld L P (mi 467) (mi 461 12) q ∨ mi9 471 q = 0 ∧ ¬ Ld L P (mi 467) (mi 461 12) q) ∧ (∀ a, a ≠ 463 → a ≠ 471 → mi9 a = mi a) ∧ mr = mr9) := by
  refine Ct_of (by decide +kernel) (by intro v hv; simp at hv; rcases hv with rfl <;> rfl) (Nat.le_of_ble_eq_true rfl) ?_
  intro p e s m args below meth c9 X hr hname
  show WW _ _ _ _ _ _ _ _ _ _ _ _ _ _ _ _ _ _ _ [some (.ref (n0 + 461)), none, none, none] _
  have hsc := hE.1.1
  have hck := QV_c hG.1
  have hk495 := Inc_l hE.2.2.2.1.1 (by omega)
  have hff := FG_f hG hk495
  refine w_aload_n X dX4_markLeading_0 rfl ?_
  refine w_get X (by decide) (σ_461 G n0 _ _) rfl gW_X4 11 (by decide) gF_X4_54 rfl dX4_markLeading_1 ?_
  refine w_iconst X dX4_markLeading_4 ?_
  refine w_isub X dX4_markLeading_5 ?_
  refine w_ist4_1 X dX4_markLeading_6 ?_
  have loop : ∀ (n : Nat) (mi' : Nat → Nat → Int) (i : Nat) (x2 x3 : Option Value), (i ≤ c) → (∀ a : Nat, a < c → i ≤ a → mi' 471 (mi 468 a).toNat = 1 ∧ Ld L P (mi 467) (mi 461 12) (mi 468 a).toNat ∨ mi' 471 (mi 468 a).toNat = 0 ∧ ¬ Ld L P (mi 467) (mi 461 12) (mi 468 a).toNat) → (∀ p0 : Nat, p0 < k → (∀ a : Nat, i ≤ a → a < c → mi 468 a ≠ (p0 : Int)) → mi' 471 p0 = 0) → (∀ a, a ≠ 463 → a ≠ 471 → mi' a = mi a) → n = i → WSv p l e s m args below meth c9 5 (fun mi9 mr9 => (∀ q : Nat, q < k → mi9 471 q = 1 ∧ Ld L P (mi 467) (mi 461 12) q ∨ mi9 471 q = 0 ∧ ¬ Ld L P (mi 467) (mi 461 12) q) ∧ (∀ a, a ≠ 463 → a ≠ 471 → mi9 a = mi a) ∧ mr = mr9) G n0 4 mi' mr 7 [some (.ref (n0 + 461)), some (.int (jI ((i : Int) - 1))), x2, x3] [] := by
    intro n
    induction n using Nat.strongRecOn with
    | ind n ih_loop =>
      intro mi' i x2 x3 hi hm1 hm2 hfr hn
      have e1 : mi' 1 = mi 1 := hfr 1 (by decide) (by decide)
      have hE' : FE L N k P mi' := FE_fr hE (fun a ha _ _ => hfr a (by omega) (by omega)) (by rw [hfr 461 (by decide) (by decide)]) (hfr 466 (by decide) (by decide))
      have h10 : mi' 461 10 = (k : Int) := hE'.2.2.1
      have e461 : mi' 461 = mi 461 := hfr 461 (by decide) (by decide)
      have hcc1 : 0 ≤ mi' 461 10 ∧ mi' 461 10 ≤ 495 := by rw [h10]; omega
      have hsc' : 1 ≤ mi' 1 3 ∧ mi' 1 3 ≤ 5 := by rw [e1]; exact hsc
      have e467 : mi' 467 = mi 467 := hfr 467 (by decide) (by decide)
      have e468 : mi' 468 = mi 468 := hfr 468 (by decide) (by decide)
      refine w_iload_n X dX4_markLeading_7 rfl ?_
      refine w_if_lt X 98 dX4_markLeading_8 (by decide) (fun c8_1 => ?_) (fun c8_1 => ?_)
      ·
        refine s_vret X hr dX4_markLeading_98 ?_
        have hi0 : i = 0 := by omega
        subst hi0
        refine ⟨fun q hq => ?_, hfr, rfl⟩
        by_cases q9 : mi 467 q = -9
        · refine Or.inr ⟨hm2 q hq (fun a _ ha2 e => ?_), fun w => ?_⟩
          · have := QV_n9 hG.1 ha2
            rw [e, Int.toNat_natCast] at this
            exact this.2.1 q9
          · have := w.1
            omega
        · obtain ⟨-, a, a1, a2⟩ := FG_q hG hq q9
          have := hm1 a a1 (by omega)
          rw [a2, Int.toNat_natCast] at this
          exact this
      ·
        have hi1 : 1 ≤ i := by omega
        obtain ⟨p0, hpq, hpk⟩ : ∃ p0 : Nat, mi 468 (i - 1) = (p0 : Int) ∧ p0 < k := by
          have := hG.1.1 (i - 1) (by omega)
          exact ⟨(mi 468 (i - 1)).toNat, by omega, by omega⟩
        have hpq' : mi' 468 (i - 1) = (p0 : Int) := by rw [e468]; exact hpq
        have hzz := FE_z hE' hN hpk
        have hln := QV_n9 hG.1 (show i - 1 < c by omega)
        rw [hpq, Int.toNat_natCast] at hln
        have hnew : ∀ a : Nat, i ≤ a → a < c → mi 468 a ≠ (p0 : Int) := fun a ha ha2 e => hG.1.2.1 (i - 1) a (by omega) ha2 (by rw [hpq, e])
        refine w_aload_n X dX4_markLeading_11 rfl ?_
        refine w_get X (by decide) (σ_461 G n0 _ _) rfl gW_X4 5 (by decide) gF_X4_28 rfl dX4_markLeading_12 ?_
        refine w_iload_n X dX4_markLeading_15 rfl ?_
        refine s_iald X (i - 1) (by decide) (fun _ => σ_f4 G n0 _ _ (by decide)) dX4_markLeading_16 ?_
        rw [hpq']
        refine w_ist4_2 X dX4_markLeading_17 ?_
        refine w_aload_n X dX4_markLeading_18 rfl ?_
        refine w_iload_n X dX4_markLeading_19 rfl ?_
        refine s_callVi X _ (c_X4_levelOf (l := l) (G := G) (n0 := n0) hcc1 (by first | assumption | (refine ⟨?_, ?_⟩ <;> omega))) gM_X4_132 gI_yX4_levelOf gS_yX4_levelOf gN_X4 gC_yX4_levelOf (by decide) (σ_461 G n0 _ _) rfl dX4_markLeading_20 hl_yX4_levelOf ⟨Nat.le_of_ble_eq_true rfl, Nat.le_of_ble_eq_true rfl⟩ (Nat.le_of_ble_eq_true rfl) rfl (fun r1 mi1 mr1 h1 => ?_)
        obtain ⟨rfl, rfl, h1⟩ := h1
        rw [if_pos ⟨by omega, by omega⟩, Int.toNat_natCast] at h1
        subst h1
        rw [e467]
        refine w_ist4_3 X dX4_markLeading_23 ?_
        refine w_aload_n X dX4_markLeading_24 rfl ?_
        refine w_iload_n X dX4_markLeading_25 rfl ?_
        refine s_callVi X _ (c_X4_isPlace (l := l) (G := G) (n0 := n0) hcc1 (by first | assumption | (refine ⟨?_, ?_⟩ <;> omega))) gM_X4_122 gI_yX4_isPlace gS_yX4_isPlace gN_X4 gC_yX4_isPlace (by decide) (σ_461 G n0 _ _) rfl dX4_markLeading_26 hl_yX4_isPlace ⟨Nat.le_of_ble_eq_true rfl, Nat.le_of_ble_eq_true rfl⟩ (Nat.le_of_ble_eq_true rfl) rfl (fun r2 mi2 mr2 h2 => ?_)
        obtain ⟨rfl, rfl, h2⟩ := h2
        refine w_if_eq X 92 dX4_markLeading_29 (by decide) (fun h9 => absurd h9 (by omega)) (fun h29_ => ?_)
        refine w_iload_n X dX4_markLeading_32 rfl ?_
        refine w_aload_n X dX4_markLeading_33 rfl ?_
        refine w_get X (by decide) (σ_461 G n0 _ _) rfl gW_X4 12 (by decide) gF_X4_57 rfl dX4_markLeading_34 ?_
        rw [e461]
        refine w_icmp_gt X 92 dX4_markLeading_37 (by decide) (fun c37_2 => ?_) (fun c37_2 => ?_)
        ·
          refine w_iinc4_1 X dX4_markLeading_92 ?_
          refine w_goto X 7 dX4_markLeading_95 (by decide) ?_
          have hnl : ¬ Ld L P (mi 467) (mi 461 12) p0 := fun q => by have := q.2.1; omega
          rw [show (i : Int) - 1 + -1 = ((i - 1 : Nat) : Int) - 1 by omega]
          exact ih_loop _ (by omega) mi' (i - 1) _ _ (by omega) (fun a ha hia => by
            by_cases q : a = i - 1
            · subst q
              rw [hpq, Int.toNat_natCast]
              exact Or.inr ⟨hm2 p0 hpk hnew, hnl⟩
            · exact hm1 a ha (by omega)) (fun q hq hq2 => hm2 q hq (fun a ha ha2 => hq2 a (by omega) ha2)) hfr rfl
        ·
          refine w_aload_n X dX4_markLeading_40 rfl ?_
          refine w_aload_n X dX4_markLeading_41 rfl ?_
          refine w_iload_n X dX4_markLeading_42 rfl ?_
          refine s_callVi X _ (c_X4_codeAt (l := l) (G := G) (n0 := n0) hcc1 (by first | assumption | (refine ⟨?_, ?_⟩ <;> omega))) gM_X4_83 gI_yX4_codeAt gS_yX4_codeAt gN_X4 gC_yX4_codeAt (by decide) (σ_461 G n0 _ _) rfl dX4_markLeading_43 hl_yX4_codeAt ⟨Nat.le_of_ble_eq_true rfl, Nat.le_of_ble_eq_true rfl⟩ (Nat.le_of_ble_eq_true rfl) rfl (fun r3 mi3 mr3 h3 => ?_)
          obtain ⟨rfl, rfl, h3⟩ := h3
          rw [if_pos ⟨by omega, by omega⟩, Int.toNat_natCast] at h3
          subst h3
          refine s_callVv X _ (c_X4_decode (l := l) (G := G) (n0 := n0) hsc' ⟨by omega, by omega⟩) gM_X4_87 gI_yX4_decode gS_yX4_decode gN_X4 gC_yX4_decode (by decide) (σ_461 G n0 _ _) rfl dX4_markLeading_46 hl_yX4_decode ⟨Nat.le_of_ble_eq_true rfl, Nat.le_of_ble_eq_true rfl⟩ (Nat.le_of_ble_eq_true rfl) rfl (fun mi4 mr4 h4 => ?_)
          obtain ⟨hd46, hf46, rfl⟩ := h4
          have hrow := FE_row hE' hN hpk hd46
          have hE4 : FE L N k P mi4 := FE_fr hE' (fun a ha _ _ => hf46 a (by omega)) (by rw [hf46 461 (by decide)]) (hf46 466 (by decide))
          have hW4 := hE4.1
          have hcP := hE.2.2.2.1.1.1 p0 hpk
          have hcb4 : CB mi4 462 := CB_row hcP hN.2 hrow
          have e4614 : mi4 461 = mi 461 := by rw [hf46 461 (by decide)]; exact e461
          refine w_aload_n X dX4_markLeading_49 rfl ?_
          refine w_get X (by decide) (σ_461 G n0 _ _) rfl gW_X4 7 (by decide) gF_X4_40 rfl dX4_markLeading_50 ?_
          refine w_iload_n X dX4_markLeading_53 rfl ?_
          refine w_iload_n X dX4_markLeading_54 rfl ?_
          refine w_aload_n X dX4_markLeading_55 rfl ?_
          refine w_get X (by decide) (σ_461 G n0 _ _) rfl gW_X4 12 (by decide) gF_X4_57 rfl dX4_markLeading_56 ?_
          rw [e4614]
          refine w_icmp_ne X 76 dX4_markLeading_59 (by decide) (fun c59_3 => ?_) (fun c59_3 => ?_)
          ·
            have e4674 : mi4 467 = mi 467 := by rw [hf46 467 (by decide)]; exact e467
            have e4714 : mi4 471 = mi' 471 := hf46 471 (by decide)
            have hG4 : FG L S k c P (mi4 467) (mi4 468) (mi4 470) (mi 461 12) := FG_fr hG e4674 (by rw [hf46 468 (by decide)]; exact e468) (by rw [hf46 470 (by decide)]; exact hfr 470 (by decide) (by decide))
            have h104 := hE4.2.2.1
            have hWl := hW4
            have hccl : 0 ≤ mi4 461 10 ∧ mi4 461 10 ≤ 495 := by rw [h104]; omega
            have hrc : L.2.1 = mi4 1 5 := hE4.2.1.2.1
            have hL12 : L.2.1 ≤ 12 := by rw [hrc]; exact hW4.2.2.1.2
            have hGrl : ∀ j : Nat, (j : Int) < mi4 1 5 → rg (Gv mi4 (p0 : Int) j) := fun j hj => Gv_r hG4 (by omega) hL12 hpk (by rw [e4674]; exact hln.2.1) j (by rw [hrc]; exact hj)
            have hLrl := Lv_r hG4 (by omega) h104
            have h471p : ∀ q : Nat, q < k → mi' 471 q = 0 ∨ mi' 471 q = 1 := fun q hq => by
              by_cases q2 : ∃ a : Nat, i ≤ a ∧ a < c ∧ mi 468 a = (q : Int)
              · obtain ⟨a, a1, a2, a3⟩ := q2
                have := hm1 a a2 a1
                rw [a3, Int.toNat_natCast] at this
                rcases this with ⟨w, -⟩ | ⟨w, -⟩
                · exact Or.inr w
                · exact Or.inl w
              · exact Or.inl (hm2 q hq (fun a a1 a2 a3 => q2 ⟨a, a1, a2, a3⟩))
            have h471l : ∀ q : Nat, (q : Int) < mi4 461 10 → mi4 471 q = 0 ∨ mi4 471 q = 1 := fun q hq => by rw [e4714]; exact h471p q (by omega)
            have h471o : ∀ q : Nat, q < k → mi4 467 q = mi4 467 p0 + 1 → mi4 471 q = 1 ∧ Ld L P (mi4 467) (mi 461 12) q ∨ mi4 471 q = 0 ∧ ¬ Ld L P (mi4 467) (mi 461 12) q := fun q hq hle => by
              rw [e4714, e4674]
              rw [e4674] at hle
              obtain ⟨-, a, a1, a2⟩ := FG_q hG hq (by omega)
              have hia : i ≤ a := by
                rcases (show i ≤ a ∨ a ≤ i - 1 by omega) with w | w
                · exact w
                · have := hG.1.2.2.2.2.1 a (i - 1) w (by omega)
                  rw [a2, hpq, Int.toNat_natCast, Int.toNat_natCast] at this
                  omega
              have := hm1 a a1 hia
              rw [a2, Int.toNat_natCast] at this
              exact this
            refine w_aload_n X dX4_markLeading_76 rfl ?_
            refine w_iload_n X dX4_markLeading_77 rfl ?_
            refine s_callVi X _ (c_X4_firstLeading (l := l) (G := G) (n0 := n0) hWl hccl ⟨by omega, by omega⟩ hGrl hLrl h471l) gM_X4_160 gI_yX4_firstLeading gS_yX4_firstLeading gN_X4 gC_yX4_firstLeading (by decide) (σ_461 G n0 _ _) rfl dX4_markLeading_78 hl_yX4_firstLeading ⟨Nat.le_of_ble_eq_true rfl, Nat.le_of_ble_eq_true rfl⟩ (Nat.le_of_ble_eq_true rfl) rfl (fun r5 mi5 mr5 h5 => ?_)
            obtain ⟨rfl, rfl, h5⟩ := h5
            have hfin := Fs_Ld hE.2.2.2.1.1.1 hG4 (by omega) h104 hL12 hpk h471o (by rw [e4674]; exact hln.2.1) (by rw [e4674]; omega) (by rw [hrc]; exact h5)
            rw [e4674] at hfin
            have h5b := Fs_b h5
            refine w_bipush X dX4_markLeading_81 rfl ?_
            refine w_icmp_eq X 90 dX4_markLeading_83 (by decide) (fun c83_4 => ?_) (fun c83_4 => ?_)
            ·
              have hval : (0 : Int) = 1 ∧ Ld L P (mi 467) (mi 461 12) p0 ∨ (0 : Int) = 0 ∧ ¬ Ld L P (mi 467) (mi 461 12) p0 := by
                rcases hfin with ⟨-, q⟩ | ⟨q, -⟩
                · exact Or.inr ⟨rfl, q⟩
                · omega
              refine w_iconst X dX4_markLeading_90 ?_
              refine s_zast X (p0) (by decide) (fun _ => σ_471 G n0 _ _) (by omega) dX4_markLeading_91 ?_
              refine w_iinc4_1 X dX4_markLeading_92 ?_
              refine w_goto X 7 dX4_markLeading_95 (by decide) ?_
              rw [show (i : Int) - 1 + -1 = ((i - 1 : Nat) : Int) - 1 by omega]
              have hs4 : ∀ x : Nat, up2 mi4 471 p0 0 471 x = if x = p0 then 0 else mi' 471 x := fun x => by
                rw [up2_a, hf46 471 (by decide)]
                by_cases q : x = p0
                · rw [if_pos ⟨rfl, q⟩, if_pos q]
                · rw [if_neg (fun w => q w.2), if_neg q]
              exact ih_loop _ (by omega) (up2 mi4 471 p0 0) (i - 1) _ _ (by omega) (fun a ha hia => by
                rw [hs4]
                by_cases q : a = i - 1
                · subst q
                  rw [hpq, Int.toNat_natCast, if_pos rfl]
                  exact hval
                · have := hnew a (by omega) ha
                  have := hG.1.1 a ha
                  rw [if_neg (by omega)]
                  exact hm1 a ha (by omega)) (fun q hq hq2 => by
                have := hq2 (i - 1) (by omega) (by omega)
                rw [hs4, if_neg (by omega)]
                exact hm2 q hq (fun a ha ha2 => hq2 a (by omega) ha2)) (fun a h1 h2 => by rw [up2_k _ _ _ _ h2, hf46 a h1]; exact hfr a h1 h2) rfl
            ·
              have hval : (1 : Int) = 1 ∧ Ld L P (mi 467) (mi 461 12) p0 ∨ (1 : Int) = 0 ∧ ¬ Ld L P (mi 467) (mi 461 12) p0 := by
                rcases hfin with ⟨q, -⟩ | ⟨-, q⟩
                · omega
                · exact Or.inl ⟨rfl, q⟩
              refine w_iconst X dX4_markLeading_86 ?_
              refine w_goto X 91 dX4_markLeading_87 (by decide) ?_
              refine s_zast X (p0) (by decide) (fun _ => σ_471 G n0 _ _) (by omega) dX4_markLeading_91 ?_
              refine w_iinc4_1 X dX4_markLeading_92 ?_
              refine w_goto X 7 dX4_markLeading_95 (by decide) ?_
              rw [show (i : Int) - 1 + -1 = ((i - 1 : Nat) : Int) - 1 by omega]
              have hs4 : ∀ x : Nat, up2 mi4 471 p0 1 471 x = if x = p0 then 1 else mi' 471 x := fun x => by
                rw [up2_a, hf46 471 (by decide)]
                by_cases q : x = p0
                · rw [if_pos ⟨rfl, q⟩, if_pos q]
                · rw [if_neg (fun w => q w.2), if_neg q]
              exact ih_loop _ (by omega) (up2 mi4 471 p0 1) (i - 1) _ _ (by omega) (fun a ha hia => by
                rw [hs4]
                by_cases q : a = i - 1
                · subst q
                  rw [hpq, Int.toNat_natCast, if_pos rfl]
                  exact hval
                · have := hnew a (by omega) ha
                  have := hG.1.1 a ha
                  rw [if_neg (by omega)]
                  exact hm1 a ha (by omega)) (fun q hq hq2 => by
                have := hq2 (i - 1) (by omega) (by omega)
                rw [hs4, if_neg (by omega)]
                exact hm2 q hq (fun a ha ha2 => hq2 a (by omega) ha2)) (fun a h1 h2 => by rw [up2_k _ _ _ _ h2, hf46 a h1]; exact hfr a h1 h2) rfl
          ·
            refine w_aload_n X dX4_markLeading_62 rfl ?_
            refine w_get X (by decide) (σ_461 G n0 _ _) rfl gW_X4 0 (by decide) gF_X4_60 rfl dX4_markLeading_63 ?_
            refine w_aload_n X dX4_markLeading_66 rfl ?_
            refine w_get X (by decide) (σ_461 G n0 _ _) rfl gW_X4 1 (by decide) gF_X4_12 rfl dX4_markLeading_67 ?_
            refine s_callVi X _ (c_X5_isBadCrowd (l := l) (G := G) (n0 := n0) hW4 cr_462 hcb4) gM_X4_157 gI_yX5_isBadCrowd gS_yX5_isBadCrowd gN_X5 gC_yX5_isBadCrowd (by decide) (σ_1 G n0 _ _) rfl dX4_markLeading_70 hl_yX5_isBadCrowd ⟨Nat.le_of_ble_eq_true rfl, Nat.le_of_ble_eq_true rfl⟩ (Nat.le_of_ble_eq_true rfl) rfl (fun r5 mi5 mr5 h5 => ?_)
            obtain ⟨rfl, rfl, h5⟩ := h5
            have hval : r5 = 1 ∧ Ld L P (mi 467) (mi 461 12) p0 ∨ r5 = 0 ∧ ¬ Ld L P (mi 467) (mi 461 12) p0 := by
              have hfe : (mi 461 12 - mi 467 p0).toNat = 0 := by omega
              rcases h5 with ⟨q, q2⟩ | ⟨q, q2⟩
              · exact Or.inl ⟨q, by omega, by omega, by rw [hfe]; exact (bad_iff hE4.2.1 hcP hrow).mp q2⟩
              · refine Or.inr ⟨q, fun hl => ?_⟩
                have h6 := hl.2.2
                rw [hfe] at h6
                obtain ⟨b, b1, b2⟩ := (bad_iff hE4.2.1 hcP hrow).mpr h6
                exact q2 b b1 b2
            clear h5
            refine w_goto X 91 dX4_markLeading_73 (by decide) ?_
            refine s_zast X (p0) (by decide) (fun _ => σ_471 G n0 _ _) (by omega) dX4_markLeading_91 ?_
            refine w_iinc4_1 X dX4_markLeading_92 ?_
            refine w_goto X 7 dX4_markLeading_95 (by decide) ?_
            rw [show (i : Int) - 1 + -1 = ((i - 1 : Nat) : Int) - 1 by omega]
            have hs4 : ∀ x : Nat, up2 mi4 471 p0 r5 471 x = if x = p0 then r5 else mi' 471 x := fun x => by
              rw [up2_a, hf46 471 (by decide)]
              by_cases q : x = p0
              · rw [if_pos ⟨rfl, q⟩, if_pos q]
              · rw [if_neg (fun w => q w.2), if_neg q]
            exact ih_loop _ (by omega) (up2 mi4 471 p0 r5) (i - 1) _ _ (by omega) (fun a ha hia => by
              rw [hs4]
              by_cases q : a = i - 1
              · subst q
                rw [hpq, Int.toNat_natCast, if_pos rfl]
                exact hval
              · have := hnew a (by omega) ha
                have := hG.1.1 a ha
                rw [if_neg (by omega)]
                exact hm1 a ha (by omega)) (fun q hq hq2 => by
              have := hq2 (i - 1) (by omega) (by omega)
              rw [hs4, if_neg (by omega)]
              exact hm2 q hq (fun a ha ha2 => hq2 a (by omega) ha2)) (fun a h1 h2 => by rw [up2_k _ _ _ _ h2, hf46 a h1]; exact hfr a h1 h2) rfl
  rw [hc]
  exact loop _ mi c _ _ (by omega) (fun a ha hia => absurd ha (by omega)) (fun q hq _ => h0 q hq) (fun _ _ _ => rfl) rfl
