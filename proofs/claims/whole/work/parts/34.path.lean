/-- the first of the start that is leading, from the i-th on -/
def Fp (C : Nat → Prop) (i k : Nat) (x : Int) : Prop := (x = -9 ∧ ∀ q : Nat, i ≤ q → q < k → ¬ C q) ∨ ((0 ≤ x ∧ x < (k : Int)) ∧ C x.toNat ∧ ∀ q : Nat, i ≤ q → q < k → C q → x ≤ (q : Int))
theorem Fp_b {C : Nat → Prop} {i k : Nat} {x : Int} (h : Fp C i k x) : x = -9 ∨ 0 ≤ x ∧ x < (k : Int) := by
  rcases h with ⟨h, -⟩ | ⟨h, -⟩
  · exact Or.inl h
  · exact Or.inr h
theorem Fp_no {C : Nat → Prop} {i k : Nat} {x : Int} (h : Fp C i k x) (hi : 1 ≤ i) (hn : ¬ C (i - 1)) : Fp C (i - 1) k x := by
  have e : ∀ q : Nat, i - 1 ≤ q → C q → i ≤ q := fun q h1 h2 => by
    rcases (show q = i - 1 ∨ i ≤ q by omega) with w | w
    · subst w; exact absurd h2 hn
    · exact w
  rcases h with ⟨h, h2⟩ | ⟨h, h2, h3⟩
  · exact Or.inl ⟨h, fun q a b c => h2 q (e q a c) b c⟩
  · exact Or.inr ⟨h, h2, fun q a b c => h3 q (e q a c) b c⟩
theorem Fp_set {C : Nat → Prop} {i k : Nat} (hi : 1 ≤ i) (hk : i ≤ k) (hn : C (i - 1)) : Fp C (i - 1) k ((i - 1 : Nat) : Int) := by
  refine Or.inr ⟨by omega, by rw [Int.toNat_natCast]; exact hn, fun q a _ _ => by omega⟩
/-- the place where the run stands -/
def Cur (L : Lws) (S : V5 → Prop) (P : Nat → V5) (k : Nat) (le : Nat → Int) (f : Int) (i : Nat) (x : Int) : Prop := ∃ p0 : Nat, x = (p0 : Int) ∧ p0 < k ∧ le p0 = (i : Int) ∧ Ld L P le f p0 ∧ Rn L S f.toNat i (P p0)
def Pth (L : Lws) (S : V5 → Prop) (P : Nat → V5) (k : Nat) (f : Int) (pa : Nat → Int) (i : Nat) : Prop := ∃ p0 : Nat, pa i = (p0 : Int) ∧ p0 < k ∧ Rn L S f.toNat i (P p0)
theorem Cur_0 {L : Lws} {S : V5 → Prop} {n : Int} {k c : Nat} {P : Nat → V5} {le qu gl : Nat → Int} {f x : Int} (hL : LO L) (hS : ∀ v, S v → Cro L.1 n v) (hP : Lst L.1 n k P) (h : FG L S k c P le qu gl f) (hf : 0 ≤ f) (hx : Fp (fun q => Ld L P le f q ∧ le q = 0) 0 k x) : Cur L S P k le f 0 x := by
  obtain ⟨p, p1, p2, p3, p4⟩ := FG_start hL hS hP h hf
  rcases hx with ⟨h1, h2⟩ | ⟨h1, h2, h3⟩
  · exact absurd ⟨p3, p2⟩ (h2 p (by omega) p1)
  · exact ⟨x.toNat, by omega, by omega, by rw [h2.2]; rfl, h2.1, Rn_0 hS hP h hf (by omega) h2.2 h2.1 (fun q a b c => by have := h3 q (by omega) a ⟨c, b⟩; omega)⟩
theorem Cur_s {L : Lws} {S : V5 → Prop} {n : Int} {k c : Nat} {P : Nat → V5} {m : Nat → Nat → Int} {f x : Int} {i p0 : Nat} (hL : LO L) (hP : Lst L.1 n k P) (hG : FG L S k c P (m 467) (m 468) (m 470) f) (hk : k ≤ 495) (h10 : m 461 10 = (k : Int)) (h12 : L.2.1 ≤ 12) (hp : p0 < k) (hl : m 467 p0 = (i : Int)) (hld : Ld L P (m 467) f p0) (hr : Rn L S f.toNat i (P p0)) (hf : ((i + 1 : Nat) : Int) ≤ f) (h471 : ∀ w : Nat, w < k → m 471 w = 1 ∧ Ld L P (m 467) f w ∨ m 471 w = 0 ∧ ¬ Ld L P (m 467) f w) (hF : Fs m (p0 : Int) L.2.1.toNat x) : Cur L S P k (m 467) f (i + 1) x := by
  have hi := okJ_Ld hG hk h10 h12 hp (fun w hw _ => h471 w hw)
  rcases hF with ⟨h1, h2⟩ | ⟨h1, h2, h3⟩
  · obtain ⟨j, w, q1, q2, q3, q4, q5⟩ := FG_step hG hp hld (by omega)
    exact absurd ((hi _).mpr ⟨j, w, q1, q2, q3, q4, q5, rfl⟩) (h2 _)
  · obtain ⟨j, w, q1, q2, q3, q4, q5, rfl⟩ := (hi x).mp h2
    refine ⟨w, rfl, q2, by omega, q5, Rn_s hL hP hG hp hl (by omega) hr q1 q3 q2 q4 q5 (fun j' q a b c d e => ?_)⟩
    have := h3 (q : Int) ((hi _).mpr ⟨j', q, a, c, b, d, e, rfl⟩)
    omega
theorem dX4_choosePath_0 : decode cX4_choosePath 0 = .ok (.bipush (-9), 2) := by decide +kernel
theorem dX4_choosePath_2 : decode cX4_choosePath 2 = .ok (.istore_n 1, 1) := by decide +kernel
theorem dX4_choosePath_3 : decode cX4_choosePath 3 = .ok (.aload_n 0, 1) := by decide +kernel
theorem dX4_choosePath_4 : decode cX4_choosePath 4 = .ok (.getfield 51, 3) := by decide +kernel
theorem dX4_choosePath_7 : decode cX4_choosePath 7 = .ok (.iconst 1, 1) := by decide +kernel
theorem dX4_choosePath_8 : decode cX4_choosePath 8 = .ok (.isub, 1) := by decide +kernel
theorem dX4_choosePath_9 : decode cX4_choosePath 9 = .ok (.istore_n 2, 1) := by decide +kernel
theorem dX4_choosePath_10 : decode cX4_choosePath 10 = .ok (.iload_n 2, 1) := by decide +kernel
theorem dX4_choosePath_11 : decode cX4_choosePath 11 = .ok (.ifCond .lt 29, 3) := by decide +kernel
theorem dX4_choosePath_14 : decode cX4_choosePath 14 = .ok (.aload_n 0, 1) := by decide +kernel
theorem dX4_choosePath_15 : decode cX4_choosePath 15 = .ok (.getfield 40, 3) := by decide +kernel
theorem dX4_choosePath_18 : decode cX4_choosePath 18 = .ok (.iload_n 2, 1) := by decide +kernel
theorem dX4_choosePath_19 : decode cX4_choosePath 19 = .ok (.baload, 1) := by decide +kernel
theorem dX4_choosePath_20 : decode cX4_choosePath 20 = .ok (.ifCond .eq 14, 3) := by decide +kernel
theorem dX4_choosePath_23 : decode cX4_choosePath 23 = .ok (.aload_n 0, 1) := by decide +kernel
theorem dX4_choosePath_24 : decode cX4_choosePath 24 = .ok (.getfield 25, 3) := by decide +kernel
theorem dX4_choosePath_27 : decode cX4_choosePath 27 = .ok (.iload_n 2, 1) := by decide +kernel
theorem dX4_choosePath_28 : decode cX4_choosePath 28 = .ok (.iaload, 1) := by decide +kernel
theorem dX4_choosePath_29 : decode cX4_choosePath 29 = .ok (.ifCond .ne 5, 3) := by decide +kernel
theorem dX4_choosePath_32 : decode cX4_choosePath 32 = .ok (.iload_n 2, 1) := by decide +kernel
theorem dX4_choosePath_33 : decode cX4_choosePath 33 = .ok (.istore_n 1, 1) := by decide +kernel
theorem dX4_choosePath_34 : decode cX4_choosePath 34 = .ok (.iinc 2 (-1), 3) := by decide +kernel
theorem dX4_choosePath_37 : decode cX4_choosePath 37 = .ok (.goto (-27), 3) := by decide +kernel
theorem dX4_choosePath_40 : decode cX4_choosePath 40 = .ok (.iconst 0, 1) := by decide +kernel
theorem dX4_choosePath_41 : decode cX4_choosePath 41 = .ok (.istore_n 2, 1) := by decide +kernel
theorem dX4_choosePath_42 : decode cX4_choosePath 42 = .ok (.iload_n 2, 1) := by decide +kernel
theorem dX4_choosePath_43 : decode cX4_choosePath 43 = .ok (.aload_n 0, 1) := by decide +kernel
theorem dX4_choosePath_44 : decode cX4_choosePath 44 = .ok (.getfield 57, 3) := by decide +kernel
theorem dX4_choosePath_47 : decode cX4_choosePath 47 = .ok (.if_icmp .gt 31, 3) := by decide +kernel
theorem dX4_choosePath_50 : decode cX4_choosePath 50 = .ok (.iload_n 2, 1) := by decide +kernel
theorem dX4_choosePath_51 : decode cX4_choosePath 51 = .ok (.aload_n 0, 1) := by decide +kernel
theorem dX4_choosePath_52 : decode cX4_choosePath 52 = .ok (.getfield 44, 3) := by decide +kernel
theorem dX4_choosePath_55 : decode cX4_choosePath 55 = .ok (.arraylength, 1) := by decide +kernel
theorem dX4_choosePath_56 : decode cX4_choosePath 56 = .ok (.if_icmp .ge 22, 3) := by decide +kernel
theorem dX4_choosePath_59 : decode cX4_choosePath 59 = .ok (.aload_n 0, 1) := by decide +kernel
theorem dX4_choosePath_60 : decode cX4_choosePath 60 = .ok (.getfield 44, 3) := by decide +kernel
theorem dX4_choosePath_63 : decode cX4_choosePath 63 = .ok (.iload_n 2, 1) := by decide +kernel
theorem dX4_choosePath_64 : decode cX4_choosePath 64 = .ok (.iload_n 1, 1) := by decide +kernel
theorem dX4_choosePath_65 : decode cX4_choosePath 65 = .ok (.iastore, 1) := by decide +kernel
theorem dX4_choosePath_66 : decode cX4_choosePath 66 = .ok (.aload_n 0, 1) := by decide +kernel
theorem dX4_choosePath_67 : decode cX4_choosePath 67 = .ok (.iload_n 1, 1) := by decide +kernel
theorem dX4_choosePath_68 : decode cX4_choosePath 68 = .ok (.invokevirtual 160, 3) := by decide +kernel
theorem dX4_choosePath_71 : decode cX4_choosePath 71 = .ok (.istore_n 1, 1) := by decide +kernel
theorem dX4_choosePath_72 : decode cX4_choosePath 72 = .ok (.iinc 2 1, 3) := by decide +kernel
theorem dX4_choosePath_75 : decode cX4_choosePath 75 = .ok (.goto (-33), 3) := by decide +kernel
theorem dX4_choosePath_78 : decode cX4_choosePath 78 = .ok (.return_, 1) := by decide +kernel
theorem hl_yX4_choosePath : (yX4_choosePath.cls ≠ "java/lang/invoke/MethodHandle" ∧ yX4_choosePath.cls ≠ "java/lang/invoke/VarHandle") ∧ (parseMethodDescriptor yX4_choosePath.desc).map (fun d => d.parameters.length) = some 0 := by decide +kernel
theorem dX4_walk_0 : decode cX4_walk 0 = .ok (.aload_n 0, 1) := by decide +kernel
theorem dX4_walk_1 : decode cX4_walk 1 = .ok (.getfield 47, 3) := by decide +kernel
theorem dX4_walk_4 : decode cX4_walk 4 = .ok (.iload_n 1, 1) := by decide +kernel
theorem dX4_walk_5 : decode cX4_walk 5 = .ok (.if_icmp .ne 4, 3) := by decide +kernel
theorem dX4_walk_8 : decode cX4_walk 8 = .ok (.return_, 1) := by decide +kernel
theorem dX4_walk_9 : decode cX4_walk 9 = .ok (.aload_n 0, 1) := by decide +kernel
theorem dX4_walk_10 : decode cX4_walk 10 = .ok (.iload_n 1, 1) := by decide +kernel
theorem dX4_walk_11 : decode cX4_walk 11 = .ok (.invokevirtual 64, 3) := by decide +kernel
theorem dX4_walk_14 : decode cX4_walk 14 = .ok (.aload_n 0, 1) := by decide +kernel
theorem dX4_walk_15 : decode cX4_walk 15 = .ok (.invokevirtual 68, 3) := by decide +kernel
theorem dX4_walk_18 : decode cX4_walk 18 = .ok (.aload_n 0, 1) := by decide +kernel
theorem dX4_walk_19 : decode cX4_walk 19 = .ok (.invokevirtual 71, 3) := by decide +kernel
theorem dX4_walk_22 : decode cX4_walk 22 = .ok (.aload_n 0, 1) := by decide +kernel
theorem dX4_walk_23 : decode cX4_walk 23 = .ok (.invokevirtual 74, 3) := by decide +kernel
theorem dX4_walk_26 : decode cX4_walk 26 = .ok (.aload_n 0, 1) := by decide +kernel
theorem dX4_walk_27 : decode cX4_walk 27 = .ok (.invokevirtual 77, 3) := by decide +kernel
theorem dX4_walk_30 : decode cX4_walk 30 = .ok (.aload_n 0, 1) := by decide +kernel
theorem dX4_walk_31 : decode cX4_walk 31 = .ok (.invokevirtual 80, 3) := by decide +kernel
theorem dX4_walk_34 : decode cX4_walk 34 = .ok (.aload_n 0, 1) := by decide +kernel
theorem dX4_walk_35 : decode cX4_walk 35 = .ok (.iload_n 1, 1) := by decide +kernel
theorem dX4_walk_36 : decode cX4_walk 36 = .ok (.putfield 47, 3) := by decide +kernel
theorem dX4_walk_39 : decode cX4_walk 39 = .ok (.return_, 1) := by decide +kernel
theorem hl_yX4_walk : (yX4_walk.cls ≠ "java/lang/invoke/MethodHandle" ∧ yX4_walk.cls ≠ "java/lang/invoke/VarHandle") ∧ (parseMethodDescriptor yX4_walk.desc).map (fun d => d.parameters.length) = some 1 := by decide +kernel
set_option maxRecDepth 20000 in
set_option maxHeartbeats 4000000 in
theorem c_X4_choosePath {l : Launch} {G : Gt} {n0 : Nat} {mi : Nat → Nat → Int} {mr : Nat → Nat → Nat} {L : Lws} {N : Int} {k c : Nat} {P : Nat → V5} {S : V5 → Prop} (hN : 1 ≤ N ∧ N ≤ 8) (hO : LO L) (hS : ∀ v, S v → Cro L.1 N v) (hE : FE L N k P mi) (hG : FG L S k c P (mi 467) (mi 468) (mi 470) (mi 461 12)) (hlead : ∀ q : Nat, q < k → mi 471 q = 1 ∧ Ld L P (mi 467) (mi 461 12) q ∨ mi 471 q = 0 ∧ ¬ Ld L P (mi 467) (mi 461 12) q) : Cv l yX4_choosePath cX4_choosePath 3 5 G n0 [.ref (n0 + 461)] mi mr (fun mi9 mr9 => (∀ i : Nat, (i : Int) ≤ mi 461 12 → Pth L S P k (mi 461 12) (mi9 472) i) ∧ (∀ a, a ≠ 472 → mi9 a = mi a) ∧ mr = mr9) := by
  refine Ct_of (by decide +kernel) (by intro v hv; simp at hv; rcases hv with rfl <;> rfl) (Nat.le_of_ble_eq_true rfl) ?_
  intro p e s m args below meth c9 X hr hname
  show WW _ _ _ _ _ _ _ _ _ _ _ _ _ _ _ _ _ _ _ [some (.ref (n0 + 461)), none, none] _
  have hk495 := Inc_l hE.2.2.2.1.1 (by omega)
  have hff := FG_f hG hk495
  have h10 := hE.2.2.1
  refine w_bipush X dX4_choosePath_0 rfl ?_
  refine w_ist3_1 X dX4_choosePath_2 ?_
  refine w_aload_n X dX4_choosePath_3 rfl ?_
  refine w_get X (by decide) (σ_461 G n0 _ _) rfl gW_X4 10 (by decide) gF_X4_51 rfl dX4_choosePath_4 ?_
  refine w_iconst X dX4_choosePath_7 ?_
  refine w_isub X dX4_choosePath_8 ?_
  refine w_ist3_2 X dX4_choosePath_9 ?_
  have loop : ∀ (n : Nat) (i : Nat) (x : Int), (i ≤ k) → (Fp (fun q => Ld L P (mi 467) (mi 461 12) q ∧ mi 467 q = 0) i k x) → n = i → WSv p l e s m args below meth c9 5 (fun mi9 mr9 => (∀ i : Nat, (i : Int) ≤ mi 461 12 → Pth L S P k (mi 461 12) (mi9 472) i) ∧ (∀ a, a ≠ 472 → mi9 a = mi a) ∧ mr = mr9) G n0 3 mi mr 10 [some (.ref (n0 + 461)), some (.int (jI x)), some (.int (jI ((i : Int) - 1)))] [] := by
    intro n
    induction n using Nat.strongRecOn with
    | ind n ih_loop =>
      intro i x hi hx hn
      refine w_iload_n X dX4_choosePath_10 rfl ?_
      refine w_if_lt X 40 dX4_choosePath_11 (by decide) (fun c11_1 => ?_) (fun c11_1 => ?_)
      ·
        refine w_iconst X dX4_choosePath_40 ?_
        refine w_ist3_2 X dX4_choosePath_41 ?_
        have loop2 : ∀ (n : Nat) (mi' : Nat → Nat → Int) (i : Nat) (x : Int), (i ≤ 495) → (-9 ≤ x ∧ x < 495) → ((i : Int) ≤ mi 461 12 → Cur L S P k (mi 467) (mi 461 12) i x) → (∀ i' : Nat, i' < i → (i' : Int) ≤ mi 461 12 → Pth L S P k (mi 461 12) (mi' 472) i') → (∀ a, a ≠ 472 → mi' a = mi a) → n = 495 - i → WSv p l e s m args below meth c9 5 (fun mi9 mr9 => (∀ i : Nat, (i : Int) ≤ mi 461 12 → Pth L S P k (mi 461 12) (mi9 472) i) ∧ (∀ a, a ≠ 472 → mi9 a = mi a) ∧ mr = mr9) G n0 3 mi' mr 42 [some (.ref (n0 + 461)), some (.int (jI x)), some (.int (jI (i : Int)))] [] := by
          intro n
          induction n using Nat.strongRecOn with
          | ind n ih_loop2 =>
            intro mi' i x hi hxr hcur hpa hfr hn
            have e461 : mi' 461 = mi 461 := hfr 461 (by decide)
            have e467 : mi' 467 = mi 467 := hfr 467 (by decide)
            have e471 : mi' 471 = mi 471 := hfr 471 (by decide)
            refine w_iload_n X dX4_choosePath_42 rfl ?_
            refine w_aload_n X dX4_choosePath_43 rfl ?_
            refine w_get X (by decide) (σ_461 G n0 _ _) rfl gW_X4 12 (by decide) gF_X4_57 rfl dX4_choosePath_44 ?_
            rw [e461]
            refine w_icmp_gt X 78 dX4_choosePath_47 (by decide) (fun c47_2 => ?_) (fun c47_2 => ?_)
            ·
              refine s_vret X hr dX4_choosePath_78 ?_
              exact ⟨fun i' hf => hpa i' (by omega) hf, hfr, rfl⟩
            ·
              refine w_iload_n X dX4_choosePath_50 rfl ?_
              refine w_aload_n X dX4_choosePath_51 rfl ?_
              refine w_get X (by decide) (σ_461 G n0 _ _) rfl gW_X4 8 (by decide) gF_X4_44 rfl dX4_choosePath_52 ?_
              refine w_alen X (t := 0) (by decide) (σ_f4 G n0 _ _ (by decide)) rfl dX4_choosePath_55 ?_
              refine s_alen (b := 495) rfl ?_
              refine w_icmp_ge X 78 dX4_choosePath_56 (by decide) (fun c56_3 => ?_) (fun c56_3 => ?_)
              ·
                refine s_vret X hr dX4_choosePath_78 ?_
                exact ⟨fun i' hf => hpa i' (by omega) hf, hfr, rfl⟩
              ·
                obtain ⟨p0, hx0, hp0, hle0, hld0, hrn0⟩ := hcur (by omega)
                subst hx0
                refine w_aload_n X dX4_choosePath_59 rfl ?_
                refine w_get X (by decide) (σ_461 G n0 _ _) rfl gW_X4 8 (by decide) gF_X4_44 rfl dX4_choosePath_60 ?_
                refine w_iload_n X dX4_choosePath_63 rfl ?_
                refine w_iload_n X dX4_choosePath_64 rfl ?_
                refine s_iast X (i) (by decide) (fun _ => σ_f4 G n0 _ _ (by decide)) dX4_choosePath_65 ?_
                have hM : ∀ a, a ≠ 472 → up2 mi' 472 i (p0 : Int) a = mi' a := fun a ha => up2_k _ _ _ _ ha
                have hMp : ∀ j : Nat, up2 mi' 472 i (p0 : Int) 472 j = if j = i then (p0 : Int) else mi' 472 j := fun j => by
                  rw [up2_a]
                  by_cases q : j = i
                  · rw [if_pos ⟨rfl, q⟩, if_pos q]
                  · rw [if_neg (fun w => q w.2), if_neg q]
                generalize up2 mi' 472 i (p0 : Int) = M at hM hMp ⊢
                have hEM : FE L N k P M := FE_fr hE (fun a ha _ _ => by rw [hM a (by omega)]; exact hfr a (by omega)) (by rw [hM 461 (by decide), e461]) (by rw [hM 466 (by decide)]; exact hfr 466 (by decide))
                have h10M := hEM.2.2.1
                have hGM : FG L S k c P (M 467) (M 468) (M 470) (mi 461 12) := FG_fr hG (by rw [hM 467 (by decide)]; exact e467) (by rw [hM 468 (by decide)]; exact hfr 468 (by decide)) (by rw [hM 470 (by decide)]; exact hfr 470 (by decide))
                have hWl := hEM.1
                have hccl : 0 ≤ M 461 10 ∧ M 461 10 ≤ 495 := by rw [h10M]; omega
                have hrc : L.2.1 = M 1 5 := hEM.2.1.2.1
                have hL12 : L.2.1 ≤ 12 := by rw [hrc]; exact hWl.2.2.1.2
                have hGrl : ∀ j : Nat, (j : Int) < M 1 5 → rg (Gv M (p0 : Int) j) := fun j hj => Gv_r hGM (by omega) hL12 hp0 (by rw [hM 467 (by decide), e467]; omega) j (by rw [hrc]; exact hj)
                have hLrl := Lv_r hGM (by omega) h10M
                have h471l : ∀ q : Nat, (q : Int) < M 461 10 → M 471 q = 0 ∨ M 471 q = 1 := fun q hq => by rw [hM 471 (by decide), e471]; rcases hlead q (by omega) with ⟨w, -⟩ | ⟨w, -⟩; exact Or.inr w; exact Or.inl w
                refine w_aload_n X dX4_choosePath_66 rfl ?_
                refine w_iload_n X dX4_choosePath_67 rfl ?_
                refine s_callVi X _ (c_X4_firstLeading (l := l) (G := G) (n0 := n0) hWl hccl ⟨by omega, by omega⟩ hGrl hLrl h471l) gM_X4_160 gI_yX4_firstLeading gS_yX4_firstLeading gN_X4 gC_yX4_firstLeading (by decide) (σ_461 G n0 _ _) rfl dX4_choosePath_68 hl_yX4_firstLeading ⟨Nat.le_of_ble_eq_true rfl, Nat.le_of_ble_eq_true rfl⟩ (Nat.le_of_ble_eq_true rfl) rfl (fun r1 mi1 mr1 h1 => ?_)
                obtain ⟨rfl, rfl, h1⟩ := h1
                refine w_ist3_1 X dX4_choosePath_71 ?_
                refine w_iinc3_2 X dX4_choosePath_72 ?_
                refine w_goto X 42 dX4_choosePath_75 (by decide) ?_
                have hr1b := Fs_b h1
                exact ih_loop2 _ (by omega) M (i + 1) r1 (by omega) (by rcases hr1b with q | q <;> omega) (fun hf => by
                  have hc2 := Cur_s hO hE.2.2.2.1 hGM (by omega) h10M hL12 hp0 (by rw [hM 467 (by decide), e467]; exact hle0) (by rw [hM 467 (by decide), e467]; exact hld0) hrn0 hf (fun w hw => by rw [hM 471 (by decide), hM 467 (by decide), e467, e471]; exact hlead w hw) (by rw [hrc]; exact h1)
                  rw [hM 467 (by decide), e467] at hc2
                  exact hc2) (fun i' hi' hf => by
                  by_cases q : i' = i
                  · subst q
                    exact ⟨p0, by rw [hMp, if_pos rfl], hp0, hrn0⟩
                  · obtain ⟨q0, q1, q2, q3⟩ := hpa i' (by omega) hf
                    exact ⟨q0, by rw [hMp, if_neg q]; exact q1, q2, q3⟩) (fun a ha => by rw [hM a ha]; exact hfr a ha) rfl
        have hi0 : i = 0 := by omega
        subst hi0
        have hxb := Fp_b hx
        exact loop2 _ mi 0 x (by omega) (by omega) (fun hf => Cur_0 hO hS hE.2.2.2.1 hG (by omega) hx) (fun i' hi' => absurd hi' (by omega)) (fun _ _ => rfl) rfl
      ·
        have hli := hlead (i - 1) (by omega)
        have hlr := Lv_r hG (by omega) h10 ((i - 1 : Nat) : Int)
        rw [Lv_p (by omega)] at hlr
        refine w_aload_n X dX4_choosePath_14 rfl ?_
        refine w_get X (by decide) (σ_461 G n0 _ _) rfl gW_X4 7 (by decide) gF_X4_40 rfl dX4_choosePath_15 ?_
        refine w_iload_n X dX4_choosePath_18 rfl ?_
        refine s_zald X (i - 1) (by decide) (fun _ => σ_471 G n0 _ _) dX4_choosePath_19 ?_
        refine w_if_eq X 34 dX4_choosePath_20 (by decide) (fun c20_4 => ?_) (fun c20_4 => ?_)
        ·
          refine w_iinc3_2 X dX4_choosePath_34 ?_
          refine w_goto X 10 dX4_choosePath_37 (by decide) ?_
          have hno : ¬ (Ld L P (mi 467) (mi 461 12) (i - 1) ∧ mi 467 (i - 1) = 0) := fun w => by
            rcases hli with ⟨q, -⟩ | ⟨-, q⟩
            · first | omega | (have := w.2; omega)
            · exact q w.1
          rw [show (i : Int) - 1 + -1 = ((i - 1 : Nat) : Int) - 1 by omega]
          exact ih_loop _ (by omega) (i - 1) x (by omega) (Fp_no hx (by omega) hno) rfl
        ·
          refine w_aload_n X dX4_choosePath_23 rfl ?_
          refine w_get X (by decide) (σ_461 G n0 _ _) rfl gW_X4 4 (by decide) gF_X4_25 rfl dX4_choosePath_24 ?_
          refine w_iload_n X dX4_choosePath_27 rfl ?_
          refine s_iald X (i - 1) (by decide) (fun _ => σ_f4 G n0 _ _ (by decide)) dX4_choosePath_28 ?_
          refine w_if_ne X 34 dX4_choosePath_29 (by decide) (fun c29_5 => ?_) (fun c29_5 => ?_)
          ·
            refine w_iinc3_2 X dX4_choosePath_34 ?_
            refine w_goto X 10 dX4_choosePath_37 (by decide) ?_
            have hno : ¬ (Ld L P (mi 467) (mi 461 12) (i - 1) ∧ mi 467 (i - 1) = 0) := fun w => by
              rcases hli with ⟨q, -⟩ | ⟨-, q⟩
              · first | omega | (have := w.2; omega)
              · exact q w.1
            rw [show (i : Int) - 1 + -1 = ((i - 1 : Nat) : Int) - 1 by omega]
            exact ih_loop _ (by omega) (i - 1) x (by omega) (Fp_no hx (by omega) hno) rfl
          ·
            refine w_iload_n X dX4_choosePath_32 rfl ?_
            refine w_ist3_1 X dX4_choosePath_33 ?_
            refine w_iinc3_2 X dX4_choosePath_34 ?_
            refine w_goto X 10 dX4_choosePath_37 (by decide) ?_
            rw [show (i : Int) - 1 + -1 = ((i - 1 : Nat) : Int) - 1 by omega, show (i : Int) - 1 = ((i - 1 : Nat) : Int) by omega]
            exact ih_loop _ (by omega) (i - 1) _ (by omega) (Fp_set (by omega) hi ⟨by rcases hli with ⟨-, q⟩ | ⟨q, -⟩; exact q; omega, by omega⟩) rfl
  rw [h10]
  exact loop _ k (-9) (by omega) (Or.inl ⟨rfl, fun q a b _ => absurd b (by omega)⟩) rfl
