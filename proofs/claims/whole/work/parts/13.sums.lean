/-- how many fresh ones there are is told rightly -/
def FCo (mi : Nat → Nat → Int) (mr : Nat → Nat → Nat) (b : Nat) : Prop := mi b 3 = ((Ef mi mr b).map Prod.snd).sum
theorem FCo_fr {mi mi' : Nat → Nat → Int} {mr mr' : Nat → Nat → Nat} {b : Nat} (hB : BO mi mr b) (h1 : ∀ a, b ≤ a → a < b + 205 → mi' a = mi a) (h2 : mr' (b + 1) = mr (b + 1)) (h : FCo mi mr b) : FCo mi' mr' b := by
  unfold FCo at *
  rw [Ef_fr hB h1 h2, h1 b (by omega) (by omega)]
  exact h
theorem take_F {mi mi9 : Nat → Nat → Int} {mr mr9 : Nat → Nat → Nat} {b c : Nat} {z : Int} (hB : BO mi mr b) (h : (100 < mi b 2 ∧ mi = mi9 ∧ mr = mr9) ∨ (mi b 2 ≤ 100 ∧ ∃ n P : Nat, mi b 2 = (n : Int) ∧ P ≤ n ∧ TkP mi mi9 mr mr9 b c z n P)) (hF : FCo mi mr b) : FCo mi9 mr9 b := by
  rcases h with ⟨-, rfl, rfl⟩ | ⟨h0, n, P, hn, hP, hT⟩
  · exact hF
  · have hE := take_E hB hT hn (by omega) hP
    have h9 : mi9 b 3 = mi b 3 + z := hT.2.2.2.2.2.2.2.2.1
    unfold FCo at *
    rw [hE, h9, hF]
    have e : ((Ef mi mr b).map Prod.snd).sum = (((Ef mi mr b).take P).map Prod.snd).sum + (((Ef mi mr b).drop P).map Prod.snd).sum := by
      rw [← List.sum_append, ← List.map_append, List.take_append_drop]
    rw [e, List.map_append, List.sum_append, List.map_cons, List.sum_cons]
    show _ = _ + (z + _)
    omega
/-- a store grows by such ones as P tells, none of which is covered by an older one; X: other cells that may change -/
def Grw (X : Nat → Prop) (mi mi9 : Nat → Nat → Int) (mr mr9 : Nat → Nat → Nat) (N : Nat) (P : V5 × Int → Prop) : Prop :=
  BO mi9 mr9 N ∧ Srt (Ef mi9 mr9 N) ∧ FCo mi9 mr9 N ∧ (∀ y ∈ Ef mi mr N, y ∈ Ef mi9 mr9 N) ∧ (∀ y ∈ Ef mi9 mr9 N, y ∈ Ef mi mr N ∨ P y ∧ ∀ x ∈ Ef mi mr N, ¬ gv y.1 x.1) ∧ (∀ a, a < N ∨ N + 205 ≤ a → ¬ X a → mi9 a = mi a) ∧ (∀ a, a ≠ N + 1 → mr9 a = mr a) ∧ mi N 2 ≤ mi9 N 2
theorem Grw_r {X : Nat → Prop} {mi : Nat → Nat → Int} {mr : Nat → Nat → Nat} {N : Nat} {P : V5 × Int → Prop} (hB : BO mi mr N) (hS : Srt (Ef mi mr N)) (hF : FCo mi mr N) : Grw X mi mi mr mr N P := ⟨hB, hS, hF, fun _ h => h, fun _ h => Or.inl h, fun _ _ _ => rfl, fun _ _ => rfl, Int.le_refl _⟩
theorem Grw_t {X : Nat → Prop} {mi m2 m3 : Nat → Nat → Int} {mr r2 r3 : Nat → Nat → Nat} {N : Nat} {P : V5 × Int → Prop} (h : Grw X mi m2 mr r2 N P) (h2 : Grw X m2 m3 r2 r3 N P) : Grw X mi m3 mr r3 N P := by
  obtain ⟨a1, a2, a3, a4, a5, a6, a7, a8⟩ := h
  obtain ⟨b1, b2, b3, b4, b5, b6, b7, b8⟩ := h2
  refine ⟨b1, b2, b3, fun y hy => b4 y (a4 y hy), fun y hy => ?_, fun a ha hx => (b6 a ha hx).trans (a6 a ha hx), fun a ha => (b7 a ha).trans (a7 a ha), by omega⟩
  rcases b5 y hy with q | ⟨q, q2⟩
  · exact a5 y q
  · exact Or.inr ⟨q, fun x hx => q2 x (a4 x hx)⟩
theorem Grw_w {X X' : Nat → Prop} {mi mi9 : Nat → Nat → Int} {mr mr9 : Nat → Nat → Nat} {N : Nat} {P P' : V5 × Int → Prop} (h : Grw X mi mi9 mr mr9 N P) (hX : ∀ a, X a → X' a) (hP : ∀ y, P y → P' y) : Grw X' mi mi9 mr mr9 N P' := by
  obtain ⟨a1, a2, a3, a4, a5, a6, a7, a8⟩ := h
  exact ⟨a1, a2, a3, a4, fun y hy => (a5 y hy).imp id (fun q => ⟨hP y q.1, q.2⟩), fun a ha hx => a6 a ha (fun q => hx (hX a q)), a7, a8⟩
/-- what the start is told by may be told by another memory with the same store -/
theorem Grw_l {X : Nat → Prop} {m0 mi mi9 : Nat → Nat → Int} {mr mr9 : Nat → Nat → Nat} {N : Nat} {P : V5 × Int → Prop} (hB : BO m0 mr N) (h : Grw X mi mi9 mr mr9 N P) (h0 : ∀ a, ¬ X a → mi a = m0 a) (hX : ∀ a, X a → a < N) : Grw X m0 mi9 mr mr9 N P := by
  obtain ⟨a1, a2, a3, a4, a5, a6, a7, a8⟩ := h
  have e : Ef mi mr N = Ef m0 mr N := Ef_fr hB (fun a ha _ => h0 a (fun q => by have := hX a q; omega)) rfl
  rw [e] at a4 a5
  exact ⟨a1, a2, a3, a4, a5, fun a ha hx => (a6 a ha hx).trans (h0 a hx), a7, by rw [← h0 N (fun q => by have := hX N q; omega)]; exact a8⟩
theorem take_G {X : Nat → Prop} {mi mi9 : Nat → Nat → Int} {mr mr9 : Nat → Nat → Nat} {b c : Nat} {z : Int} {P : V5 × Int → Prop} (hB : BO mi mr b) (hz : z = 0 ∨ z = 1) (hcb : CB mi c) (hS : Srt (Ef mi mr b)) (hF : FCo mi mr b) (hu : ∀ y ∈ Ef mi mr b, ¬ gv (T5 (mi (c + 1))) y.1) (hP : P (T5 (mi (c + 1)), z)) (h : (100 < mi b 2 ∧ mi = mi9 ∧ mr = mr9) ∨ (mi b 2 ≤ 100 ∧ ∃ n P : Nat, mi b 2 = (n : Int) ∧ P ≤ n ∧ TkP mi mi9 mr mr9 b c z n P)) : Grw X mi mi9 mr mr9 b P ∧ ((T5 (mi (c + 1)), z) ∈ Ef mi9 mr9 b ∨ 100 < mi9 b 2) := by
  have hF9 := take_F hB h hF
  rcases take_A hB hz hcb hS hu h with ⟨h0, rfl, rfl⟩ | ⟨h0, h1, h2, h3, h4, h5, h6, h7⟩
  · exact ⟨Grw_r hB hS hF, Or.inr h0⟩
  · refine ⟨⟨h1, h2, hF9, fun y hy => (h3 y).mpr (Or.inr hy), fun y hy => ?_, fun a ha _ => h6 a ha, h7, by omega⟩, Or.inl ((h3 _).mpr (Or.inl rfl))⟩
    rcases (h3 y).mp hy with rfl | q
    · exact Or.inr ⟨hP, hu⟩
    · exact Or.inl q
theorem sum5_b {mi : Nat → Nat → Int} {c : Nat} (h : CB mi c) : 0 ≤ sum5 (mi (c + 1)) ∧ sum5 (mi (c + 1)) ≤ 5000 := by
  unfold CB at h
  unfold sum5
  omega
theorem NN.ne {mr : Nat → Nat → Nat} (h : NN mr) : mr 44 4 ≠ mr 44 5 ∧ 51 ≤ mr 44 4 ∧ mr 44 4 ≤ 256 ∧ 51 ≤ mr 44 5 ∧ mr 44 5 ≤ 256 ∧ (mr 44 4 + 205 ≤ mr 44 5 ∨ mr 44 5 + 205 ≤ mr 44 4) := by unfold NN at h; omega

def FSg (mi m2 : Nat → Nat → Int) (mr : Nat → Nat → Nat) (i j : Nat) (x : Int) : Prop := FLr (mi 1 3) (mi (6 + 2 * j)) (mi (mr (mr 44 4 + 1) i + 1)) (m2 46 (12 * i + j)) ∧ m2 46 (12 * i + j) ≤ x
set_option maxRecDepth 20000 in
set_option maxHeartbeats 4000000 in
theorem c_X0_findSums {l : Launch} {G : Gt} {n0 : Nat} {mi : Nat → Nat → Int} {mr : Nat → Nat → Nat} (hNN : NN mr) (hL : LW mi) (hB : BO mi mr (mr 44 4)) (hcnt : mi (mr 44 4) 2 ≤ 100) : Ci l yX0_findSums cX0_findSums 5 .int 4 G n0 [.ref (n0 + 44)] mi mr (fun r9 mi9 mr9 => 0 ≤ r9 ∧ r9 ≤ 5002 ∧ (∀ i' j' : Nat, (i' : Int) < mi (mr 44 4) 2 → (j' : Int) < mi 1 5 → FSg mi mi9 mr i' j' r9) ∧ (∀ i' : Nat, (i' : Int) < mi (mr 44 4) 2 → sum5 (mi (mr (mr 44 4 + 1) i' + 1)) ≤ r9) ∧ (∀ a, a ≠ 46 → a ≠ 48 → mi9 a = mi a) ∧ mr = mr9) := by
  refine Ct_of (by decide +kernel) (by intro v hv; simp at hv; rcases hv with rfl <;> rfl) (Nat.le_of_ble_eq_true rfl) ?_
  intro p e s m args below meth c9 X hr hname
  show WW _ _ _ _ _ _ _ _ _ _ _ _ _ _ _ _ _ _ _ [some (.ref (n0 + 44)), none, none, none, none] _
  have hB2 := hB.2.1
  have hL3 := hL.2.2.1
  have hne := hNN.ne
  refine w_iconst X dX0_findSums_0 ?_
  refine w_ist5_1 X dX0_findSums_1 ?_
  refine w_iconst X dX0_findSums_2 ?_
  refine w_ist5_2 X dX0_findSums_3 ?_
  have loop : ∀ (n : Nat) (mi' : Nat → Nat → Int) (i : Nat) (x1 : Int) (x3 x4 : Option Value), ((i : Int) ≤ mi (mr 44 4) 2) → (∀ a, a ≠ 46 → a ≠ 48 → mi' a = mi a) → (0 ≤ x1 ∧ x1 ≤ 5002) → (∀ i' j' : Nat, i' < i → (j' : Int) < mi 1 5 → FSg mi mi' mr i' j' x1) → (∀ i' : Nat, i' < i → sum5 (mi (mr (mr 44 4 + 1) i' + 1)) ≤ x1) → n = 101 - i → WSi p l e s m args below meth c9 4 (fun r9 mi9 mr9 => 0 ≤ r9 ∧ r9 ≤ 5002 ∧ (∀ i' j' : Nat, (i' : Int) < mi (mr 44 4) 2 → (j' : Int) < mi 1 5 → FSg mi mi9 mr i' j' r9) ∧ (∀ i' : Nat, (i' : Int) < mi (mr 44 4) 2 → sum5 (mi (mr (mr 44 4 + 1) i' + 1)) ≤ r9) ∧ (∀ a, a ≠ 46 → a ≠ 48 → mi9 a = mi a) ∧ mr = mr9) G n0 5 mi' mr 4 [some (.ref (n0 + 44)), some (.int (jI x1)), some (.int (jI (i : Int))), x3, x4] [] := by
    intro n
    induction n using Nat.strongRecOn with
    | ind n ih_loop =>
      intro mi' i x1 x3 x4 hi hfr hx hS hM hn
      have e1 : mi' 1 = mi 1 := hfr 1 (by decide) (by decide)
      have hL' : LW mi' := LW_fr hL (fun a ha ha2 ha3 => hfr a (by omega) (by omega))
      have hB' : BO mi' mr (mr 44 4) := BO_fr hB (fun a ha ha2 => hfr a (by omega) (by omega)) rfl
      have eA : mi' (mr 44 4) = mi (mr 44 4) := hfr _ (by omega) (by omega)
      refine w_iload_n X dX0_findSums_4 rfl ?_
      refine w_aload_n X dX0_findSums_5 rfl ?_
      refine w_get X (by decide) (σ_44 G n0 _ _) rfl gW_X0 4 (by decide) gF_X0_33 rfl dX0_findSums_6 ?_
      refine w_getN X (isBs_k hNN.a) (σ_bs G n0 _ _ hNN.a) rfl gW_X1 2 (by decide) gF_X0_52 rfl dX0_findSums_9 ?_
      rw [eA]
      refine w_icmp_ge X 109 dX0_findSums_12 (by decide) (fun c12_1 => ?_) (fun c12_1 => ?_)
      ·
        refine w_iload_n X dX0_findSums_109 rfl ?_
        refine s_iret X hr dX0_findSums_110 ?_
        exact ⟨hx.1, hx.2, fun i' j' hi' hj' => hS i' j' (by omega) hj', fun i' hi' => hM i' (by omega), hfr, rfl⟩
      ·
        have hs5 := sum5_b (hB.2.2.2.2.1 i (by omega))
        have hrow := hB.2.2.1 i (by omega)
        have hrw : mi' (mr (mr 44 4 + 1) i + 1) = mi (mr (mr 44 4 + 1) i + 1) := hfr _ (by omega) (by omega)
        refine w_iload_n X dX0_findSums_15 rfl ?_
        refine w_aload_n X dX0_findSums_16 rfl ?_
        refine w_get X (by decide) (σ_44 G n0 _ _) rfl gW_X0 4 (by decide) gF_X0_33 rfl dX0_findSums_17 ?_
        refine w_getN X (isBs_k hNN.a) (σ_bs G n0 _ _ hNN.a) rfl gW_X1 0 (by decide) gF_X0_55 rfl dX0_findSums_20 ?_
        refine w_iload_n X dX0_findSums_23 rfl ?_
        refine s_aald X (t := 2) (i) (isBs_k1 hNN.a) (σ_r1 G n0 _ _ hNN.a) rfl dX0_findSums_24 ?_
        refine s_callVi X _ (c_X3_sum (l := l) (G := G) (n0 := n0) (hB'.cr (by omega))) gM_X0_64 gI_yX3_sum gS_yX3_sum gN_X3 gC_yX3_sum (isCr_k (hB'.cr (by omega))) (σ_cr G n0 _ _ (hB'.cr (by omega))) rfl dX0_findSums_25 hl_yX3_sum ⟨Nat.le_of_ble_eq_true rfl, Nat.le_of_ble_eq_true rfl⟩ (Nat.le_of_ble_eq_true rfl) rfl (fun r1 mi1 mr1 h1 => ?_)
        obtain ⟨rfl, rfl, h1⟩ := h1
        rw [hrw] at h1
        refine w_mmax X gM_X0_104 ⟨Nat.le_of_ble_eq_true rfl, Nat.le_of_ble_eq_true rfl⟩ ⟨Nat.zero_le _, Nat.zero_le _⟩ (Nat.le_of_ble_eq_true rfl) dX0_findSums_28 (fun z2 h2 => ?_)
        refine w_ist5_1 X dX0_findSums_31 ?_
        refine w_iconst X dX0_findSums_32 ?_
        refine w_ist5_3 X dX0_findSums_33 ?_
        have loop2 : ∀ (n : Nat) (m2 : Nat → Nat → Int) (j : Nat) (x2 : Int) (x4 : Option Value), ((i : Int) < mi (mr 44 4) 2) → ((j : Int) ≤ mi 1 5) → (∀ a, a ≠ 46 → a ≠ 48 → m2 a = mi a) → (0 ≤ x2 ∧ x2 ≤ 5002) → (∀ i' j' : Nat, i' < i → (j' : Int) < mi 1 5 → FSg mi m2 mr i' j' x2) → (∀ j' : Nat, j' < j → FSg mi m2 mr i j' x2) → (∀ i' : Nat, i' ≤ i → sum5 (mi (mr (mr 44 4 + 1) i' + 1)) ≤ x2) → n = 12 - j → WSi p l e s m args below meth c9 4 (fun r9 mi9 mr9 => 0 ≤ r9 ∧ r9 ≤ 5002 ∧ (∀ i' j' : Nat, (i' : Int) < mi (mr 44 4) 2 → (j' : Int) < mi 1 5 → FSg mi mi9 mr i' j' r9) ∧ (∀ i' : Nat, (i' : Int) < mi (mr 44 4) 2 → sum5 (mi (mr (mr 44 4 + 1) i' + 1)) ≤ r9) ∧ (∀ a, a ≠ 46 → a ≠ 48 → mi9 a = mi a) ∧ mr = mr9) G n0 5 m2 mr 34 [some (.ref (n0 + 44)), some (.int (jI x2)), some (.int (jI (i : Int))), some (.int (jI (j : Int))), x4] [] := by
          intro n
          induction n using Nat.strongRecOn with
          | ind n ih_loop2 =>
            intro m2 j x2 x4 hi2 hj hfr2 hx2 hS2 hS3 hM2 hn
            have e1 : m2 1 = mi 1 := hfr2 1 (by decide) (by decide)
            have hL' : LW m2 := LW_fr hL (fun a ha ha2 ha3 => hfr2 a (by omega) (by omega))
            have hB' : BO m2 mr (mr 44 4) := BO_fr hB (fun a ha ha2 => hfr2 a (by omega) (by omega)) rfl
            have hrow := hB.2.2.1 i (by omega)
            have hrw : m2 (mr (mr 44 4 + 1) i + 1) = mi (mr (mr 44 4 + 1) i + 1) := hfr2 _ (by omega) (by omega)
            refine w_iload_n X dX0_findSums_34 rfl ?_
            refine w_aload_n X dX0_findSums_35 rfl ?_
            refine w_get X (by decide) (σ_44 G n0 _ _) rfl gW_X0 0 (by decide) gF_X0_44 rfl dX0_findSums_36 ?_
            refine w_getN X (by decide) (σ_1 G n0 _ _) rfl gW_X5 5 (by decide) gF_X0_110 rfl dX0_findSums_39 ?_
            rw [e1]
            refine w_icmp_ge X 103 dX0_findSums_42 (by decide) (fun c42_2 => ?_) (fun c42_2 => ?_)
            ·
              refine w_iinc5_2 X dX0_findSums_103 ?_
              refine w_goto X 4 dX0_findSums_106 (by decide) ?_
              exact ih_loop _ (by omega) m2 (i + 1) x2 _ _ (by omega) hfr2 hx2 (fun i' j' hi' hj' => by
                rcases (show i' < i ∨ i' = i by omega) with q | q
                · exact hS2 i' j' q hj'
                · subst q; exact hS3 j' (by omega)) (fun i' hi' => hM2 i' (by omega)) rfl
            ·
              have hru : m2 (6 + 2 * j) = mi (6 + 2 * j) := hfr2 _ (by omega) (by omega)
              refine w_aload_n X dX0_findSums_45 rfl ?_
              refine w_get X (by decide) (σ_44 G n0 _ _) rfl gW_X0 0 (by decide) gF_X0_44 rfl dX0_findSums_46 ?_
              refine w_getN X (by decide) (σ_1 G n0 _ _) rfl gW_X5 0 (by decide) gF_X0_113 rfl dX0_findSums_49 ?_
              refine w_iload_n X dX0_findSums_52 rfl ?_
              refine s_aald X (t := 3) (j) (by decide) (σ_2 G n0 _ _) rfl dX0_findSums_53 ?_
              refine w_aload_n X dX0_findSums_54 rfl ?_
              refine w_get X (by decide) (σ_44 G n0 _ _) rfl gW_X0 4 (by decide) gF_X0_33 rfl dX0_findSums_55 ?_
              refine w_getN X (isBs_k hNN.a) (σ_bs G n0 _ _ hNN.a) rfl gW_X1 0 (by decide) gF_X0_55 rfl dX0_findSums_58 ?_
              refine w_iload_n X dX0_findSums_61 rfl ?_
              refine s_aald X (t := 2) (i) (isBs_k1 hNN.a) (σ_r1 G n0 _ _ hNN.a) rfl dX0_findSums_62 ?_
              refine w_aload_n X dX0_findSums_63 rfl ?_
              refine w_get X (by decide) (σ_44 G n0 _ _) rfl gW_X0 0 (by decide) gF_X0_44 rfl dX0_findSums_64 ?_
              refine w_getN X (by decide) (σ_1 G n0 _ _) rfl gW_X5 3 (by decide) gF_X0_117 rfl dX0_findSums_67 ?_
              refine w_aload_n X dX0_findSums_70 rfl ?_
              refine w_get X (by decide) (σ_44 G n0 _ _) rfl gW_X0 2 (by decide) gF_X0_23 rfl dX0_findSums_71 ?_
              refine s_callVi X _ (c_X6_findLack (l := l) (G := G) (n0 := n0) (ru_2 (by omega)) (hL'.2.2.2.2.1 j (by rw [e1]; omega)) (hB'.cr (by omega)) cr_47 (by omega) (hB'.2.2.2.2.1 i (by rw [hfr2 _ (by omega) (by omega)]; exact hi2))) gM_X0_120 gI_yX6_findLack gS_yX6_findLack gN_X6 gC_yX6_findLack (isRu_k (ru_2 (by omega))) (σ_ru G n0 _ _ (ru_2 (by omega))) rfl dX0_findSums_74 hl_yX6_findLack ⟨Nat.le_of_ble_eq_true rfl, Nat.le_of_ble_eq_true rfl⟩ (Nat.le_of_ble_eq_true rfl) rfl (fun r3 mi3 mr3 h3 => ?_)
              obtain ⟨h3, rfl⟩ := h3
              rw [hru, hrw, e1] at h3
              refine w_ist5_4 X dX0_findSums_77 ?_
              have hb3 := FLr_b (show FLr (mi 1 3) (mi (6 + 2 * j)) (mi (mr (mr 44 4 + 1) i + 1)) r3 by rcases h3 with ⟨q1, q2, q3⟩ | ⟨q1, q2, q3⟩; exact Or.inl ⟨q1, q2⟩; exact Or.inr ⟨q1, q2⟩) hL.1 (CB_at (hB.2.2.2.2.1 i (by omega)))
              have hf3 : ∀ a, a ≠ 48 → mi3 a = m2 a := by rcases h3 with ⟨q1, q2, q3⟩ | ⟨q1, q2, q3⟩; exact q3; exact q3.2
              refine w_iload_n X dX0_findSums_79 rfl ?_
              refine w_iload X dX0_findSums_80 rfl ?_
              refine w_mmax X gM_X0_104 ⟨Nat.le_of_ble_eq_true rfl, Nat.le_of_ble_eq_true rfl⟩ ⟨Nat.zero_le _, Nat.zero_le _⟩ (Nat.le_of_ble_eq_true rfl) dX0_findSums_82 (fun z4 h4 => ?_)
              refine w_ist5_1 X dX0_findSums_85 ?_
              refine w_aload_n X dX0_findSums_86 rfl ?_
              refine w_get X (by decide) (σ_44 G n0 _ _) rfl gW_X0 1 (by decide) gF_X0_14 rfl dX0_findSums_87 ?_
              refine w_iload_n X dX0_findSums_90 rfl ?_
              refine w_iload_n X dX0_findSums_91 rfl ?_
              refine w_iload X dX0_findSums_92 rfl ?_
              refine s_callVv X _ (c_X2_set_s (l := l) (G := G) (n0 := n0) (by first | assumption | (refine ⟨?_, ?_⟩ <;> omega))) gM_X0_126 gI_yX2_set gS_yX2_set gN_X2 gC_yX2_set (by decide) (σ_45 G n0 _ _) rfl dX0_findSums_94 hl_yX2_set ⟨Nat.le_of_ble_eq_true rfl, Nat.le_of_ble_eq_true rfl⟩ (Nat.le_of_ble_eq_true rfl) rfl (fun mi5 mr5 h5 => ?_)
              obtain ⟨e9, rfl⟩ := h5
              rw [if_pos ⟨by omega, by omega⟩, show ((i : Int) * 12 + (j : Int)).toNat = 12 * i + j by omega] at e9
              have hfr5 : ∀ a, a ≠ 46 → a ≠ 48 → mi5 a = mi a := fun a ha ha2 => by rw [← e9, up2_k _ _ _ _ ha, hf3 a ha2]; exact hfr2 a ha ha2
              have hold : ∀ i' j' : Nat, 12 * i' + j' ≠ 12 * i + j → mi5 46 (12 * i' + j') = m2 46 (12 * i' + j') := fun i' j' h => by rw [← e9, up2_j _ _ _ _ h, hf3 46 (by decide)]
              have hnw : mi5 46 (12 * i + j) = r3 := by rw [← e9, up2_s]
              clear e9
              refine w_iinc5_3 X dX0_findSums_97 ?_
              refine w_goto X 34 dX0_findSums_100 (by decide) ?_
              have hnew : FLr (mi 1 3) (mi (6 + 2 * j)) (mi (mr (mr 44 4 + 1) i + 1)) r3 := by
                rcases h3 with ⟨q1, q2, q3⟩ | ⟨q1, q2, q3⟩
                · exact Or.inl ⟨q1, q2⟩
                · exact Or.inr ⟨q1, q2⟩
              clear h3
              exact ih_loop2 _ (by omega) mi5 (j + 1) _ _ hi2 (by omega) hfr5 (by omega) (fun i' j' hi' hj' => by
                have := hS2 i' j' hi' hj'
                unfold FSg
                rw [hold i' j' (by omega)]
                exact ⟨this.1, by have := this.2; omega⟩) (fun j' hj' => by
                rcases (show j' < j ∨ j' = j by omega) with q | q
                · have := hS3 j' q
                  unfold FSg
                  rw [hold i j' (by omega)]
                  exact ⟨this.1, by have := this.2; omega⟩
                · subst q
                  unfold FSg
                  rw [hnw]
                  exact ⟨hnew, by omega⟩) (fun i' hi' => by have := hM2 i' hi'; omega) rfl
        exact loop2 _ mi' 0 _ _ (by omega) (by omega) hfr (by omega) (fun i' j' hi' hj' => ⟨(hS i' j' hi' hj').1, by have := (hS i' j' hi' hj').2; omega⟩) (fun j' hj' => absurd hj' (by omega)) (fun i' hi' => by rcases (show i' < i ∨ i' = i by omega) with q | q; have := hM i' q; omega; subst q; omega) rfl
  exact loop _ mi 0 0 none none (by omega) (fun _ _ _ => rfl) (by omega) (fun i h hi => absurd hi (by omega)) (fun i hi => absurd hi (by omega)) rfl
