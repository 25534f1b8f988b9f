theorem FLr_u {sc : Int} {ρ u : Nat → Int} {r r' : Int} (h : FLr sc ρ u r) (h' : FLr sc ρ u r') : r = r' := by
  rcases h with ⟨h, i, q1, q2, q3⟩ | ⟨h, q⟩
  · rcases h' with ⟨h', -⟩ | ⟨-, q'⟩
    · rw [h, h']
    · exact absurd ⟨q2, q3⟩ (q' i q1)
  · rcases h' with ⟨-, i, q1, q2, q3⟩ | ⟨h', -⟩
    · exact absurd ⟨q2, q3⟩ (q i q1)
    · rw [h, h']
def mk0 (ρ : Nat → Int) (j : Nat) : Int := lv ρ j + nd ρ j
def lc0 (sc : Int) (ρ u : Nat → Int) (j : Nat) : Int := (if (j : Int) < sc then lk ρ u j else 0) - (if ρ 7 ≠ -9 ∧ gol ρ (ρ 7).toNat = (j : Int) then 1 else 0)
/-- all least crowds from which a step of a rule leads to one at least u -/
def Cd (sc : Int) (ρ u : Nat → Int) (v : V5) : Prop := Cp sc ρ sc.toNat 0 (mk0 ρ) (lc0 sc ρ u) v
theorem lks_sum {sc : Int} {ρ u : Nat → Int} (hs : 1 ≤ sc ∧ sc ≤ 5) : sum5 (fun j => if (j : Int) < sc then lk ρ u j else 0) = lks ρ u sc.toNat := by
  rcases (show sc = 1 ∨ sc = 2 ∨ sc = 3 ∨ sc = 4 ∨ sc = 5 by omega) with rfl | rfl | rfl | rfl | rfl <;> simp [sum5, lks]
theorem lk_le {ρ u : Nat → Int} {i : Nat} (h : 0 ≤ u i) : lk ρ u i ≤ u i + (if ρ 7 ≠ -9 ∧ gol ρ (ρ 7).toNat = (i : Int) then 1 else 0) := by
  have hc := cm_b ρ i
  have h0 : lk0 ρ u i ≤ u i := by unfold lk0; split <;> omega
  unfold lk
  by_cases q : ρ 7 ≠ -9 ∧ gol ρ (ρ 7).toNat = (i : Int)
  · rw [if_pos q]
    split
    · omega
    · omega
  · rw [if_neg q, if_neg (fun w => q ⟨w.1, w.2.1⟩)]
    omega
theorem ind_le (x : Int) (c : Prop) [Decidable c] : (if c ∧ x = ((0 : Nat) : Int) then (1 : Int) else 0) + (if c ∧ x = ((1 : Nat) : Int) then 1 else 0) + (if c ∧ x = ((2 : Nat) : Int) then 1 else 0) + (if c ∧ x = ((3 : Nat) : Int) then 1 else 0) + (if c ∧ x = ((4 : Nat) : Int) then 1 else 0) ≤ 1 := by
  by_cases hc : c
  · simp only [hc, true_and]
    repeat (first | omega | split)
  · simp [hc]
theorem lks_le {sc : Int} {ρ u : Nat → Int} (hs : 1 ≤ sc ∧ sc ≤ 5) (hu : ∀ j : Nat, j < 5 → 0 ≤ u j) : lks ρ u sc.toNat ≤ sum5 u + 1 := by
  rw [← lks_sum hs]
  have h0 := lk_le (ρ := ρ) (hu 0 (by decide))
  have h1 := lk_le (ρ := ρ) (hu 1 (by decide))
  have h2 := lk_le (ρ := ρ) (hu 2 (by decide))
  have h3 := lk_le (ρ := ρ) (hu 3 (by decide))
  have h4 := lk_le (ρ := ρ) (hu 4 (by decide))
  have q0 := hu 0 (by decide)
  have q1 := hu 1 (by decide)
  have q2 := hu 2 (by decide)
  have q3 := hu 3 (by decide)
  have q4 := hu 4 (by decide)
  have hi := ind_le (gol ρ (ρ 7).toNat) (ρ 7 ≠ -9)
  have p : ∀ j : Nat, 0 ≤ (if ρ 7 ≠ -9 ∧ gol ρ (ρ 7).toNat = (j : Int) then (1 : Int) else 0) := fun j => by split <;> omega
  have p0 := p 0
  have p1 := p 1
  have p2 := p 2
  have p3 := p 3
  have p4 := p 4
  unfold sum5
  have e0 : (if (((0 : Nat) : Int)) < sc then lk ρ u 0 else 0) ≤ u 0 + (if ρ 7 ≠ -9 ∧ gol ρ (ρ 7).toNat = ((0 : Nat) : Int) then 1 else 0) := by split <;> omega
  have e1 : (if (((1 : Nat) : Int)) < sc then lk ρ u 1 else 0) ≤ u 1 + (if ρ 7 ≠ -9 ∧ gol ρ (ρ 7).toNat = ((1 : Nat) : Int) then 1 else 0) := by split <;> omega
  have e2 : (if (((2 : Nat) : Int)) < sc then lk ρ u 2 else 0) ≤ u 2 + (if ρ 7 ≠ -9 ∧ gol ρ (ρ 7).toNat = ((2 : Nat) : Int) then 1 else 0) := by split <;> omega
  have e3 : (if (((3 : Nat) : Int)) < sc then lk ρ u 3 else 0) ≤ u 3 + (if ρ 7 ≠ -9 ∧ gol ρ (ρ 7).toNat = ((3 : Nat) : Int) then 1 else 0) := by split <;> omega
  have e4 : (if (((4 : Nat) : Int)) < sc then lk ρ u 4 else 0) ≤ u 4 + (if ρ 7 ≠ -9 ∧ gol ρ (ρ 7).toNat = ((4 : Nat) : Int) then 1 else 0) := by split <;> omega
  show (if (((0 : Nat) : Int)) < sc then lk ρ u 0 else 0) + (if (((1 : Nat) : Int)) < sc then lk ρ u 1 else 0) + (if (((2 : Nat) : Int)) < sc then lk ρ u 2 else 0) + (if (((3 : Nat) : Int)) < sc then lk ρ u 3 else 0) + (if (((4 : Nat) : Int)) < sc then lk ρ u 4 else 0) ≤ _
  omega
/-- what lacks at first: nothing below 0, and not too much -/
theorem lc0_b {sc : Int} {ρ u : Nat → Int} (hs : 1 ≤ sc ∧ sc ≤ 5) (hu : ∀ j : Nat, j < 5 → 0 ≤ u j) (h7 : ρ 7 = -9 ∨ 0 ≤ ρ 7 ∧ ρ 7 < sc) (hg : ∀ j : Nat, j < 5 → (j : Int) < sc → gol ρ j < sc) : (∀ j : Nat, j < 5 → 0 ≤ lc0 sc ρ u j) ∧ sum5 (lc0 sc ρ u) ≤ lks ρ u sc.toNat := by
  have hk0 : ∀ j : Nat, j < 5 → 0 ≤ lk ρ u j := by
    intro j hj
    have : 0 ≤ lk0 ρ u j := by unfold lk0; split <;> omega
    unfold lk
    split <;> omega
  have p : ∀ j : Nat, 0 ≤ (if ρ 7 ≠ -9 ∧ gol ρ (ρ 7).toNat = (j : Int) then (1 : Int) else 0) := fun j => by split <;> omega
  refine ⟨fun j hj => ?_, ?_⟩
  · unfold lc0
    by_cases q : ρ 7 ≠ -9 ∧ gol ρ (ρ 7).toNat = (j : Int)
    · have h9 := hg (ρ 7).toNat (by omega) (by omega)
      rw [if_pos q, if_pos (by omega)]
      have : lk ρ u j = if lk0 ρ u j < 1 then 1 else lk0 ρ u j := lk_need q.1 q.2
      rw [this]
      split <;> omega
    · rw [if_neg q]
      split
      · have := hk0 j hj; omega
      · omega
  · rw [← lks_sum hs]
    have p0 := p 0
    have p1 := p 1
    have p2 := p 2
    have p3 := p 3
    have p4 := p 4
    unfold sum5 lc0
    simp only [Int.natCast_zero] at *
    omega
theorem nd_len {α : Type} : ∀ {l1 l2 : List α}, l1.Nodup → (∀ x ∈ l1, x ∈ l2) → l1.length ≤ l2.length
  | [], l2, _, _ => Nat.zero_le _
  | a :: t, l2, hn, hs => by
    have ha : a ∈ l2 := hs a List.mem_cons_self
    obtain ⟨s1, s2, rfl⟩ := List.append_of_mem ha
    have hn2 := List.nodup_cons.mp hn
    have := nd_len (l1 := t) (l2 := s1 ++ s2) hn2.2 (fun x hx => by
      have h1 := hs x (List.mem_cons_of_mem _ hx)
      rcases List.mem_append.mp h1 with h1 | h1
      · exact List.mem_append_left _ h1
      · rcases List.mem_cons.mp h1 with h1 | h1
        · subst h1; exact absurd hx hn2.1
        · exact List.mem_append_right _ h1)
    simp only [List.length_append, List.length_cons] at *
    omega
theorem nd_all {α : Type} {l1 l2 : List α} (h1 : l1.Nodup) (hs : ∀ x ∈ l1, x ∈ l2) (hl : l2.length ≤ l1.length) : ∀ x ∈ l2, x ∈ l1 := by
  intro x hx
  by_cases q : x ∈ l1
  · exact q
  · have := nd_len (l1 := x :: l1) (l2 := l2) (List.nodup_cons.mpr ⟨q, h1⟩) (fun y hy => by
      rcases List.mem_cons.mp hy with rfl | hy
      · exact hx
      · exact hs y hy)
    simp only [List.length_cons] at this
    omega
theorem Srt_nd2 {E : List (V5 × Int)} (h : Srt E) : E.Nodup := by
  unfold Srt at h
  exact h.imp (fun {a b} (q : bv a.1 b.1) (e : a = b) => bv_i b.1 (by rw [e] at q; exact q))
/-- a full store stays -/
theorem Grw_full {X : Nat → Prop} {mi mi9 : Nat → Nat → Int} {mr mr9 : Nat → Nat → Nat} {N : Nat} {P : V5 × Int → Prop} (hS : Srt (Ef mi mr N)) (h : Grw X mi mi9 mr mr9 N P) (hf : 100 < mi N 2) : ∀ y ∈ Ef mi9 mr9 N, y ∈ Ef mi mr N := by
  obtain ⟨a1, a2, a3, a4, a5, a6, a7, a8⟩ := h
  refine nd_all (Srt_nd2 hS) a4 ?_
  rw [Ef_len, Ef_len]
  have := a1.2.1
  omega

theorem dX0_bringNew_0 : decode cX0_bringNew 0 = .ok (.iconst 0, 1) := by decide +kernel
theorem dX0_bringNew_1 : decode cX0_bringNew 1 = .ok (.istore_n 2, 1) := by decide +kernel
theorem dX0_bringNew_2 : decode cX0_bringNew 2 = .ok (.iload_n 2, 1) := by decide +kernel
theorem dX0_bringNew_3 : decode cX0_bringNew 3 = .ok (.aload_n 0, 1) := by decide +kernel
theorem dX0_bringNew_4 : decode cX0_bringNew 4 = .ok (.getfield 33, 3) := by decide +kernel
theorem dX0_bringNew_7 : decode cX0_bringNew 7 = .ok (.getfield 52, 3) := by decide +kernel
theorem dX0_bringNew_10 : decode cX0_bringNew 10 = .ok (.if_icmp .ge 90, 3) := by decide +kernel
theorem dX0_bringNew_13 : decode cX0_bringNew 13 = .ok (.iconst 0, 1) := by decide +kernel
theorem dX0_bringNew_14 : decode cX0_bringNew 14 = .ok (.istore_n 3, 1) := by decide +kernel
theorem dX0_bringNew_15 : decode cX0_bringNew 15 = .ok (.aload_n 0, 1) := by decide +kernel
theorem dX0_bringNew_16 : decode cX0_bringNew 16 = .ok (.getfield 33, 3) := by decide +kernel
theorem dX0_bringNew_19 : decode cX0_bringNew 19 = .ok (.getfield 130, 3) := by decide +kernel
theorem dX0_bringNew_22 : decode cX0_bringNew 22 = .ok (.iload_n 2, 1) := by decide +kernel
theorem dX0_bringNew_23 : decode cX0_bringNew 23 = .ok (.baload, 1) := by decide +kernel
theorem dX0_bringNew_24 : decode cX0_bringNew 24 = .ok (.ifCond .eq 70, 3) := by decide +kernel
theorem dX0_bringNew_27 : decode cX0_bringNew 27 = .ok (.iload_n 3, 1) := by decide +kernel
theorem dX0_bringNew_28 : decode cX0_bringNew 28 = .ok (.aload_n 0, 1) := by decide +kernel
theorem dX0_bringNew_29 : decode cX0_bringNew 29 = .ok (.getfield 44, 3) := by decide +kernel
theorem dX0_bringNew_32 : decode cX0_bringNew 32 = .ok (.getfield 110, 3) := by decide +kernel
theorem dX0_bringNew_35 : decode cX0_bringNew 35 = .ok (.if_icmp .ge 59, 3) := by decide +kernel
theorem dX0_bringNew_38 : decode cX0_bringNew 38 = .ok (.aload_n 0, 1) := by decide +kernel
theorem dX0_bringNew_39 : decode cX0_bringNew 39 = .ok (.getfield 14, 3) := by decide +kernel
theorem dX0_bringNew_42 : decode cX0_bringNew 42 = .ok (.iload_n 2, 1) := by decide +kernel
theorem dX0_bringNew_43 : decode cX0_bringNew 43 = .ok (.iload_n 3, 1) := by decide +kernel
theorem dX0_bringNew_44 : decode cX0_bringNew 44 = .ok (.invokevirtual 134, 3) := by decide +kernel
theorem dX0_bringNew_47 : decode cX0_bringNew 47 = .ok (.iload_n 1, 1) := by decide +kernel
theorem dX0_bringNew_48 : decode cX0_bringNew 48 = .ok (.if_icmp .ne 40, 3) := by decide +kernel
theorem dX0_bringNew_51 : decode cX0_bringNew 51 = .ok (.aload_n 0, 1) := by decide +kernel
theorem dX0_bringNew_52 : decode cX0_bringNew 52 = .ok (.aload_n 0, 1) := by decide +kernel
theorem dX0_bringNew_53 : decode cX0_bringNew 53 = .ok (.getfield 44, 3) := by decide +kernel
theorem dX0_bringNew_56 : decode cX0_bringNew 56 = .ok (.getfield 113, 3) := by decide +kernel
theorem dX0_bringNew_59 : decode cX0_bringNew 59 = .ok (.iload_n 3, 1) := by decide +kernel
theorem dX0_bringNew_60 : decode cX0_bringNew 60 = .ok (.aaload, 1) := by decide +kernel
theorem dX0_bringNew_61 : decode cX0_bringNew 61 = .ok (.aload_n 0, 1) := by decide +kernel
theorem dX0_bringNew_62 : decode cX0_bringNew 62 = .ok (.getfield 33, 3) := by decide +kernel
theorem dX0_bringNew_65 : decode cX0_bringNew 65 = .ok (.getfield 55, 3) := by decide +kernel
theorem dX0_bringNew_68 : decode cX0_bringNew 68 = .ok (.iload_n 2, 1) := by decide +kernel
theorem dX0_bringNew_69 : decode cX0_bringNew 69 = .ok (.aaload, 1) := by decide +kernel
theorem dX0_bringNew_70 : decode cX0_bringNew 70 = .ok (.invokevirtual 137, 3) := by decide +kernel
theorem dX0_bringNew_73 : decode cX0_bringNew 73 = .ok (.aload_n 0, 1) := by decide +kernel
theorem dX0_bringNew_74 : decode cX0_bringNew 74 = .ok (.aload_n 0, 1) := by decide +kernel
theorem dX0_bringNew_75 : decode cX0_bringNew 75 = .ok (.getfield 44, 3) := by decide +kernel
theorem dX0_bringNew_78 : decode cX0_bringNew 78 = .ok (.getfield 113, 3) := by decide +kernel
theorem dX0_bringNew_81 : decode cX0_bringNew 81 = .ok (.iload_n 3, 1) := by decide +kernel
theorem dX0_bringNew_82 : decode cX0_bringNew 82 = .ok (.aaload, 1) := by decide +kernel
theorem dX0_bringNew_83 : decode cX0_bringNew 83 = .ok (.iconst 0, 1) := by decide +kernel
theorem dX0_bringNew_84 : decode cX0_bringNew 84 = .ok (.invokevirtual 141, 3) := by decide +kernel
theorem dX0_bringNew_87 : decode cX0_bringNew 87 = .ok (.pop, 1) := by decide +kernel
theorem dX0_bringNew_88 : decode cX0_bringNew 88 = .ok (.iinc 3 1, 3) := by decide +kernel
theorem dX0_bringNew_91 : decode cX0_bringNew 91 = .ok (.goto (-76), 3) := by decide +kernel
theorem dX0_bringNew_94 : decode cX0_bringNew 94 = .ok (.iinc 2 1, 3) := by decide +kernel
theorem dX0_bringNew_97 : decode cX0_bringNew 97 = .ok (.goto (-95), 3) := by decide +kernel
theorem dX0_bringNew_100 : decode cX0_bringNew 100 = .ok (.return_, 1) := by decide +kernel
theorem hl_yX0_bringNew : (yX0_bringNew.cls ≠ "java/lang/invoke/MethodHandle" ∧ yX0_bringNew.cls ≠ "java/lang/invoke/VarHandle") ∧ (parseMethodDescriptor yX0_bringNew.desc).map (fun d => d.parameters.length) = some 1 := by decide +kernel
theorem dX0_goRound_0 : decode cX0_goRound 0 = .ok (.aload_n 0, 1) := by decide +kernel
theorem dX0_goRound_1 : decode cX0_goRound 1 = .ok (.invokevirtual 94, 3) := by decide +kernel
theorem dX0_goRound_4 : decode cX0_goRound 4 = .ok (.istore_n 1, 1) := by decide +kernel
theorem dX0_goRound_5 : decode cX0_goRound 5 = .ok (.aload_n 0, 1) := by decide +kernel
theorem dX0_goRound_6 : decode cX0_goRound 6 = .ok (.getfield 37, 3) := by decide +kernel
theorem dX0_goRound_9 : decode cX0_goRound 9 = .ok (.invokevirtual 81, 3) := by decide +kernel
theorem dX0_goRound_12 : decode cX0_goRound 12 = .ok (.iconst 1, 1) := by decide +kernel
theorem dX0_goRound_13 : decode cX0_goRound 13 = .ok (.istore_n 2, 1) := by decide +kernel
theorem dX0_goRound_14 : decode cX0_goRound 14 = .ok (.iload_n 2, 1) := by decide +kernel
theorem dX0_goRound_15 : decode cX0_goRound 15 = .ok (.iload_n 1, 1) := by decide +kernel
theorem dX0_goRound_16 : decode cX0_goRound 16 = .ok (.if_icmp .gt 29, 3) := by decide +kernel
theorem dX0_goRound_19 : decode cX0_goRound 19 = .ok (.aload_n 0, 1) := by decide +kernel
theorem dX0_goRound_20 : decode cX0_goRound 20 = .ok (.getfield 37, 3) := by decide +kernel
theorem dX0_goRound_23 : decode cX0_goRound 23 = .ok (.invokevirtual 77, 3) := by decide +kernel
theorem dX0_goRound_26 : decode cX0_goRound 26 = .ok (.ifCond .ne 19, 3) := by decide +kernel
theorem dX0_goRound_29 : decode cX0_goRound 29 = .ok (.aload_n 0, 1) := by decide +kernel
theorem dX0_goRound_30 : decode cX0_goRound 30 = .ok (.iload_n 2, 1) := by decide +kernel
theorem dX0_goRound_31 : decode cX0_goRound 31 = .ok (.invokevirtual 97, 3) := by decide +kernel
theorem dX0_goRound_34 : decode cX0_goRound 34 = .ok (.aload_n 0, 1) := by decide +kernel
theorem dX0_goRound_35 : decode cX0_goRound 35 = .ok (.iload_n 2, 1) := by decide +kernel
theorem dX0_goRound_36 : decode cX0_goRound 36 = .ok (.invokevirtual 101, 3) := by decide +kernel
theorem dX0_goRound_39 : decode cX0_goRound 39 = .ok (.iinc 2 1, 3) := by decide +kernel
theorem dX0_goRound_42 : decode cX0_goRound 42 = .ok (.goto (-28), 3) := by decide +kernel
theorem dX0_goRound_45 : decode cX0_goRound 45 = .ok (.return_, 1) := by decide +kernel
theorem hl_yX0_goRound : (yX0_goRound.cls ≠ "java/lang/invoke/MethodHandle" ∧ yX0_goRound.cls ≠ "java/lang/invoke/VarHandle") ∧ (parseMethodDescriptor yX0_goRound.desc).map (fun d => d.parameters.length) = some 0 := by decide +kernel
set_option maxRecDepth 20000 in
set_option maxHeartbeats 4000000 in
theorem c_X0_bringNew {l : Launch} {G : Gt} {n0 : Nat} {mi : Nat → Nat → Int} {mr : Nat → Nat → Nat} {A N : Nat} {t : Int} (hAN : AN A N) (hA : mr 44 4 = A) (hN : mr 44 5 = N) (hL : LW mi) (hBA : BO mi mr A) (hcnt : mi A 2 ≤ 100) (hBN : BO mi mr N) (hSN : Srt (Ef mi mr N)) (hFN : FCo mi mr N) (ht : 1 ≤ t ∧ t ≤ 6000) (hSB : ∀ i : Nat, (i : Int) < mi A 2 → sum5 (mi (mr (A + 1) i + 1)) ≤ 200) (hST : ∀ i j : Nat, (i : Int) < mi A 2 → (j : Int) < mi 1 5 → FLr (mi 1 3) (mi (6 + 2 * j)) (mi (mr (A + 1) i + 1)) (mi 46 (12 * i + j))) : Cv l yX0_bringNew cX0_bringNew 4 10 G n0 [.ref (n0 + 44), .int (jI t)] mi mr (fun mi9 mr9 => Grw fX mi mi9 mr mr9 N (fun y : V5 × Int => y.2 = 1 ∧ ∃ i j : Nat, (i : Int) < mi A 2 ∧ mi (A + 2) i = 1 ∧ (j : Int) < mi 1 5 ∧ FLr (mi 1 3) (mi (6 + 2 * j)) (mi (mr (A + 1) i + 1)) t ∧ Cd (mi 1 3) (mi (6 + 2 * j)) (mi (mr (A + 1) i + 1)) y.1) ∧ ∀ i2 j2 : Nat, (i2 : Int) < mi A 2 → mi (A + 2) i2 = 1 → (j2 : Int) < mi 1 5 → FLr (mi 1 3) (mi (6 + 2 * j2)) (mi (mr (A + 1) i2 + 1)) t → ∀ v, Cd (mi 1 3) (mi (6 + 2 * j2)) (mi (mr (A + 1) i2 + 1)) v → (∃ y ∈ Ef mi9 mr9 N, gv v y.1) ∨ 100 < mi9 N 2) := by
  refine Ct_of (by decide +kernel) (by intro v hv; simp at hv; rcases hv with rfl | rfl <;> rfl) (Nat.le_of_ble_eq_true rfl) ?_
  intro p e s m args below meth c9 X hr hname
  show WW _ _ _ _ _ _ _ _ _ _ _ _ _ _ _ _ _ _ _ [some (.ref (n0 + 44)), some (.int (jI t)), none, none] _
  have hBA2 := hBA.2.1
  have hne := hAN.ne
  have hL1 := hL.1
  have hL3 := hL.2.2.1
  refine w_iconst X dX0_bringNew_0 ?_
  refine w_ist4_2 X dX0_bringNew_1 ?_
  have loop : ∀ (n : Nat) (mi' : Nat → Nat → Int) (mr' : Nat → Nat → Nat) (i : Nat) (x3 : Option Value), ((i : Int) ≤ mi A 2) → (Grw fX mi mi' mr mr' N (fun y : V5 × Int => y.2 = 1 ∧ ∃ i j : Nat, (i : Int) < mi A 2 ∧ mi (A + 2) i = 1 ∧ (j : Int) < mi 1 5 ∧ FLr (mi 1 3) (mi (6 + 2 * j)) (mi (mr (A + 1) i + 1)) t ∧ Cd (mi 1 3) (mi (6 + 2 * j)) (mi (mr (A + 1) i + 1)) y.1)) → (∀ i2 j2 : Nat, i2 < i → mi (A + 2) i2 = 1 → (j2 : Int) < mi 1 5 → FLr (mi 1 3) (mi (6 + 2 * j2)) (mi (mr (A + 1) i2 + 1)) t → ∀ v, Cd (mi 1 3) (mi (6 + 2 * j2)) (mi (mr (A + 1) i2 + 1)) v → (∃ y ∈ Ef mi' mr' N, gv v y.1) ∨ 100 < mi' N 2) → n = 101 - i → WSv p l e s m args below meth c9 10 (fun mi9 mr9 => Grw fX mi mi9 mr mr9 N (fun y : V5 × Int => y.2 = 1 ∧ ∃ i j : Nat, (i : Int) < mi A 2 ∧ mi (A + 2) i = 1 ∧ (j : Int) < mi 1 5 ∧ FLr (mi 1 3) (mi (6 + 2 * j)) (mi (mr (A + 1) i + 1)) t ∧ Cd (mi 1 3) (mi (6 + 2 * j)) (mi (mr (A + 1) i + 1)) y.1) ∧ ∀ i2 j2 : Nat, (i2 : Int) < mi A 2 → mi (A + 2) i2 = 1 → (j2 : Int) < mi 1 5 → FLr (mi 1 3) (mi (6 + 2 * j2)) (mi (mr (A + 1) i2 + 1)) t → ∀ v, Cd (mi 1 3) (mi (6 + 2 * j2)) (mi (mr (A + 1) i2 + 1)) v → (∃ y ∈ Ef mi9 mr9 N, gv v y.1) ∨ 100 < mi9 N 2) G n0 4 mi' mr' 2 [some (.ref (n0 + 44)), some (.int (jI t)), some (.int (jI (i : Int))), x3] [] := by
    intro n
    induction n using Nat.strongRecOn with
    | ind n ih_loop =>
      intro mi' mr' i x3 hi hG hc hn
      have hmP : ∀ a, a < N ∨ N + 205 ≤ a → a ≠ 48 → a ≠ 50 → mi' a = mi a := fun a ha h48 h50 => hG.2.2.2.2.2.1 a ha (fun q => by rcases q with q | q; exact h48 q; exact h50 q)
      have hrP : ∀ a, a ≠ N + 1 → mr' a = mr a := hG.2.2.2.2.2.2.1
      have hA' : mr' 44 4 = A := by rw [hrP 44 (by omega)]; exact hA
      have hN' : mr' 44 5 = N := by rw [hrP 44 (by omega)]; exact hN
      have eA : mi' A = mi A := hmP A (by omega) (by omega) (by omega)
      have eA1 : mr' (A + 1) = mr (A + 1) := hrP _ (by omega)
      have e1 : mi' 1 = mi 1 := hmP 1 (by omega) (by decide) (by decide)
      refine w_iload_n X dX0_bringNew_2 rfl ?_
      refine w_aload_n X dX0_bringNew_3 rfl ?_
      refine w_get X (by decide) (σ_44 G n0 _ _) rfl gW_X0 4 (by decide) gF_X0_33 rfl dX0_bringNew_4 ?_
      rw [hA']
      refine w_getN X (isBs_k hAN.a) (σ_bs G n0 _ _ hAN.a) rfl gW_X1 2 (by decide) gF_X0_52 rfl dX0_bringNew_7 ?_
      rw [eA]
      refine w_icmp_ge X 100 dX0_bringNew_10 (by decide) (fun c10_1 => ?_) (fun c10_1 => ?_)
      ·
        refine s_vret X hr dX0_bringNew_100 ?_
        exact ⟨hG, fun i2 j2 q q2 q3 => hc i2 j2 (by omega) q2 q3⟩
      ·
        refine w_iconst X dX0_bringNew_13 ?_
        refine w_ist4_3 X dX0_bringNew_14 ?_
        have loop2 : ∀ (n : Nat) (m2 : Nat → Nat → Int) (r2 : Nat → Nat → Nat) (j : Nat), ((i : Int) < mi A 2) → ((j : Int) ≤ mi 1 5) → (Grw fX mi m2 mr r2 N (fun y : V5 × Int => y.2 = 1 ∧ ∃ i j : Nat, (i : Int) < mi A 2 ∧ mi (A + 2) i = 1 ∧ (j : Int) < mi 1 5 ∧ FLr (mi 1 3) (mi (6 + 2 * j)) (mi (mr (A + 1) i + 1)) t ∧ Cd (mi 1 3) (mi (6 + 2 * j)) (mi (mr (A + 1) i + 1)) y.1)) → (∀ i2 j2 : Nat, i2 < i → mi (A + 2) i2 = 1 → (j2 : Int) < mi 1 5 → FLr (mi 1 3) (mi (6 + 2 * j2)) (mi (mr (A + 1) i2 + 1)) t → ∀ v, Cd (mi 1 3) (mi (6 + 2 * j2)) (mi (mr (A + 1) i2 + 1)) v → (∃ y ∈ Ef m2 r2 N, gv v y.1) ∨ 100 < m2 N 2) → (∀ j2 : Nat, j2 < j → mi (A + 2) i = 1 → FLr (mi 1 3) (mi (6 + 2 * j2)) (mi (mr (A + 1) i + 1)) t → ∀ v, Cd (mi 1 3) (mi (6 + 2 * j2)) (mi (mr (A + 1) i + 1)) v → (∃ y ∈ Ef m2 r2 N, gv v y.1) ∨ 100 < m2 N 2) → n = 12 - j → WSv p l e s m args below meth c9 10 (fun mi9 mr9 => Grw fX mi mi9 mr mr9 N (fun y : V5 × Int => y.2 = 1 ∧ ∃ i j : Nat, (i : Int) < mi A 2 ∧ mi (A + 2) i = 1 ∧ (j : Int) < mi 1 5 ∧ FLr (mi 1 3) (mi (6 + 2 * j)) (mi (mr (A + 1) i + 1)) t ∧ Cd (mi 1 3) (mi (6 + 2 * j)) (mi (mr (A + 1) i + 1)) y.1) ∧ ∀ i2 j2 : Nat, (i2 : Int) < mi A 2 → mi (A + 2) i2 = 1 → (j2 : Int) < mi 1 5 → FLr (mi 1 3) (mi (6 + 2 * j2)) (mi (mr (A + 1) i2 + 1)) t → ∀ v, Cd (mi 1 3) (mi (6 + 2 * j2)) (mi (mr (A + 1) i2 + 1)) v → (∃ y ∈ Ef mi9 mr9 N, gv v y.1) ∨ 100 < mi9 N 2) G n0 4 m2 r2 15 [some (.ref (n0 + 44)), some (.int (jI t)), some (.int (jI (i : Int))), some (.int (jI (j : Int)))] [] := by
          intro n
          induction n using Nat.strongRecOn with
          | ind n ih_loop2 =>
            intro m2 r2 j hi2 hj hG2 hc2 hc3 hn
            have hmQ : ∀ a, a < N ∨ N + 205 ≤ a → a ≠ 48 → a ≠ 50 → m2 a = mi a := fun a ha h48 h50 => hG2.2.2.2.2.2.1 a ha (fun q => by rcases q with q | q; exact h48 q; exact h50 q)
            have hrQ : ∀ a, a ≠ N + 1 → r2 a = mr a := hG2.2.2.2.2.2.2.1
            have hA' : r2 44 4 = A := by rw [hrQ 44 (by omega)]; exact hA
            have hN' : r2 44 5 = N := by rw [hrQ 44 (by omega)]; exact hN
            have eA : m2 A = mi A := hmQ A (by omega) (by omega) (by omega)
            have eA1 : r2 (A + 1) = mr (A + 1) := hrQ _ (by omega)
            have e1 : m2 1 = mi 1 := hmQ 1 (by omega) (by decide) (by decide)
            have eF : m2 (A + 2) = mi (A + 2) := hmQ _ (by omega) (by omega) (by omega)
            have hfl := hBA.2.2.2.2.2.1 i (by omega)
            have e46 : m2 46 = mi 46 := hmQ 46 (by omega) (by decide) (by decide)
            refine w_aload_n X dX0_bringNew_15 rfl ?_
            refine w_get X (by decide) (σ_44 G n0 _ _) rfl gW_X0 4 (by decide) gF_X0_33 rfl dX0_bringNew_16 ?_
            rw [hA']
            refine w_getN X (isBs_k hAN.a) (σ_bs G n0 _ _ hAN.a) rfl gW_X1 1 (by decide) gF_X0_130 rfl dX0_bringNew_19 ?_
            refine w_iload_n X dX0_bringNew_22 rfl ?_
            refine s_zald X (i) (isBs_k2 hAN.a) (fun _ => σ_f1 G n0 _ _ hAN.a) dX0_bringNew_23 ?_
            rw [eF]
            refine w_if_eq X 94 dX0_bringNew_24 (by decide) (fun c24_2 => ?_) (fun c24_2 => ?_)
            ·
              refine w_iinc4_2 X dX0_bringNew_94 ?_
              refine w_goto X 2 dX0_bringNew_97 (by decide) ?_
              exact ih_loop _ (by omega) m2 r2 (i + 1) _ (by omega) hG2 (fun i2 j2 q q2 q3 => by
                rcases (show i2 < i ∨ i2 = i by omega) with q4 | q4
                · exact hc2 i2 j2 q4 q2 q3
                · subst q4; exact hc3 j2 (by exfalso; omega) q2) rfl
            ·
              refine w_iload_n X dX0_bringNew_27 rfl ?_
              refine w_aload_n X dX0_bringNew_28 rfl ?_
              refine w_get X (by decide) (σ_44 G n0 _ _) rfl gW_X0 0 (by decide) gF_X0_44 rfl dX0_bringNew_29 ?_
              refine w_getN X (by decide) (σ_1 G n0 _ _) rfl gW_X5 5 (by decide) gF_X0_110 rfl dX0_bringNew_32 ?_
              rw [e1]
              refine w_icmp_ge X 94 dX0_bringNew_35 (by decide) (fun c35_3 => ?_) (fun c35_3 => ?_)
              ·
                refine w_iinc4_2 X dX0_bringNew_94 ?_
                refine w_goto X 2 dX0_bringNew_97 (by decide) ?_
                exact ih_loop _ (by omega) m2 r2 (i + 1) _ (by omega) hG2 (fun i2 j2 q q2 q3 => by
                  rcases (show i2 < i ∨ i2 = i by omega) with q4 | q4
                  · exact hc2 i2 j2 q4 q2 q3
                  · subst q4; exact hc3 j2 (by omega) q2) rfl
              ·
                refine w_aload_n X dX0_bringNew_38 rfl ?_
                refine w_get X (by decide) (σ_44 G n0 _ _) rfl gW_X0 1 (by decide) gF_X0_14 rfl dX0_bringNew_39 ?_
                refine w_iload_n X dX0_bringNew_42 rfl ?_
                refine w_iload_n X dX0_bringNew_43 rfl ?_
                refine s_callVi X _ (c_X2_of_s (l := l) (G := G) (n0 := n0) (by first | assumption | (refine ⟨?_, ?_⟩ <;> omega))) gM_X0_134 gI_yX2_of gS_yX2_of gN_X2 gC_yX2_of (by decide) (σ_45 G n0 _ _) rfl dX0_bringNew_44 hl_yX2_of ⟨Nat.le_of_ble_eq_true rfl, Nat.le_of_ble_eq_true rfl⟩ (Nat.le_of_ble_eq_true rfl) rfl (fun r1 mi1 mr1 h1 => ?_)
                obtain ⟨rfl, rfl, h1⟩ := h1
                rw [if_pos ⟨by omega, by omega⟩, show ((i : Int) * 12 + (j : Int)).toNat = 12 * i + j by omega] at h1
                have hb46 := FLr_b (hST i j (by omega) (by omega)) hL.1 (CB_at (hBA.2.2.2.2.1 i (by omega)))
                rw [e46] at h1
                refine w_iload_n X dX0_bringNew_47 rfl ?_
                refine w_icmp_ne X 88 dX0_bringNew_48 (by decide) (fun c48_4 => ?_) (fun c48_4 => ?_)
                ·
                  refine w_iinc4_3 X dX0_bringNew_88 ?_
                  refine w_goto X 15 dX0_bringNew_91 (by decide) ?_
                  exact ih_loop2 _ (by omega) m2 r2 (j + 1) hi2 (by omega) hG2 hc2 (fun j2 q q2 q3 => by
                    rcases (show j2 < j ∨ j2 = j by omega) with q4 | q4
                    · exact hc3 j2 q4 q2 q3
                    · subst q4
                      have := FLr_u q3 (hST i j2 (by omega) (by omega))
                      rw [← h1] at this
                      exact absurd this.symm (by assumption)) rfl
                ·
                  have hFL := hST i j (by omega) (by omega)
                  have hcr0 := hBA.2.2.1 i (by omega)
                  have hcr : isCr (r2 (A + 1) i) := by rw [eA1]; exact hBA.cr (by omega)
                  have hrw : m2 (r2 (A + 1) i + 1) = mi (mr (A + 1) i + 1) := by rw [eA1]; exact hmQ _ (by omega) (by omega) (by omega)
                  have hru : m2 (6 + 2 * j) = mi (6 + 2 * j) := hmQ _ (by omega) (by omega) (by omega)
                  have hvj := hL.2.2.2.2.1 j (by omega)
                  have hv2 : RV (m2 1 3) m2 (6 + 2 * j) := by rw [e1]; exact RV_fr hvj hru (hmQ _ (by omega) (by omega) (by omega))
                  have hcbA := hBA.2.2.2.2.1 i (by omega)
                  have hcb2 : CB m2 (r2 (A + 1) i) := by unfold CB; rw [hrw]; exact hcbA
                  have hc47 : r2 (A + 1) i ≠ 47 := by rw [eA1]; omega
                  have hFt : FLr (mi 1 3) (mi (6 + 2 * j)) (mi (mr (A + 1) i + 1)) t := by rw [← show r1 = t by assumption, h1]; exact hFL
                  have hFt2 : t = (if mi (6 + 2 * j) 4 = -9 then 1 else 2) + lks (mi (6 + 2 * j)) (mi (mr (A + 1) i + 1)) (mi 1 3).toNat ∧ ∀ i2 : Nat, (i2 : Int) < mi 1 3 → ¬ (0 < lk0 (mi (6 + 2 * j)) (mi (mr (A + 1) i + 1)) i2 ∧ nog (mi 1 3) (mi (6 + 2 * j)) i2) := by
                    rcases hFt with ⟨q, -⟩ | q
                    · exfalso; omega
                    · exact q
                  have hgo2 : ∀ i2 : Nat, (i2 : Int) < m2 1 3 → ¬ (0 < lk0 (m2 (6 + 2 * j)) (m2 (r2 (A + 1) i + 1)) i2 ∧ nog (m2 1 3) (m2 (6 + 2 * j)) i2) := by rw [e1, hru, hrw]; exact hFt2.2
                  refine w_aload_n X dX0_bringNew_51 rfl ?_
                  refine w_aload_n X dX0_bringNew_52 rfl ?_
                  refine w_get X (by decide) (σ_44 G n0 _ _) rfl gW_X0 0 (by decide) gF_X0_44 rfl dX0_bringNew_53 ?_
                  refine w_getN X (by decide) (σ_1 G n0 _ _) rfl gW_X5 0 (by decide) gF_X0_113 rfl dX0_bringNew_56 ?_
                  refine w_iload_n X dX0_bringNew_59 rfl ?_
                  refine s_aald X (t := 3) (j) (by decide) (σ_2 G n0 _ _) rfl dX0_bringNew_60 ?_
                  refine w_aload_n X dX0_bringNew_61 rfl ?_
                  refine w_get X (by decide) (σ_44 G n0 _ _) rfl gW_X0 4 (by decide) gF_X0_33 rfl dX0_bringNew_62 ?_
                  rw [hA']
                  refine w_getN X (isBs_k hAN.a) (σ_bs G n0 _ _ hAN.a) rfl gW_X1 0 (by decide) gF_X0_55 rfl dX0_bringNew_65 ?_
                  refine w_iload_n X dX0_bringNew_68 rfl ?_
                  refine s_aald X (t := 2) (i) (isBs_k1 hAN.a) (σ_r1 G n0 _ _ hAN.a) rfl dX0_bringNew_69 ?_
                  refine s_callVv X _ (c_X0_setOut (l := l) (G := G) (n0 := n0) (ru_2 (by omega)) hcr hv2 hcb2 hc47 hgo2) gM_X0_137 gI_yX0_setOut gS_yX0_setOut gN_X0 gC_yX0_setOut (by decide) (σ_44 G n0 _ _) rfl dX0_bringNew_70 hl_yX0_setOut ⟨Nat.le_of_ble_eq_true rfl, Nat.le_of_ble_eq_true rfl⟩ (Nat.le_of_ble_eq_true rfl) rfl (fun mi2 mr2 h2 => ?_)
                  obtain ⟨hmk, hlk, hfs, rfl⟩ := h2
                  refine w_aload_n X dX0_bringNew_73 rfl ?_
                  refine w_aload_n X dX0_bringNew_74 rfl ?_
                  refine w_get X (by decide) (σ_44 G n0 _ _) rfl gW_X0 0 (by decide) gF_X0_44 rfl dX0_bringNew_75 ?_
                  refine w_getN X (by decide) (σ_1 G n0 _ _) rfl gW_X5 0 (by decide) gF_X0_113 rfl dX0_bringNew_78 ?_
                  refine w_iload_n X dX0_bringNew_81 rfl ?_
                  refine s_aald X (t := 3) (j) (by decide) (σ_2 G n0 _ _) rfl dX0_bringNew_82 ?_
                  refine w_iconst X dX0_bringNew_83 ?_
                  have hlt : 12 - (j + 1) < n := by omega
                  have hj2 : ((j + 1 : Nat) : Int) ≤ mi 1 5 := by omega
                  rw [hru] at hmk
                  rw [e1, hru, hrw] at hlk
                  have hfr2 : ∀ a, ¬ fX a → mi2 a = m2 a := fun a ha => hfs a (fun q => ha (Or.inl q)) (fun q => ha (Or.inr q))
                  have hX : ∀ a, fX a → a < N := fun a ha => by rcases ha with ha | ha <;> omega
                  have e12 : mi2 1 = mi 1 := (hfs 1 (by decide) (by decide)).trans e1
                  have hk2 : mi2 (6 + 2 * j) = mi (6 + 2 * j) := (hfs _ (by omega) (by omega)).trans hru
                  have hL2 : LW mi2 := LW_fr hL (fun a ha ha2 ha3 => (hfs a (by omega) (by omega)).trans (hmQ a (by omega) (by omega) (by omega)))
                  have hv3 : RV (mi2 1 3) mi2 (6 + 2 * j) := by rw [e12]; exact RV_fr hvj hk2 ((hfs _ (by omega) (by omega)).trans (hmQ _ (by omega) (by omega) (by omega)))
                  have hh2 : ∀ a, N ≤ a → a < N + 205 → mi2 a = m2 a := fun a ha _ => hfr2 a (fun q => by have := hX a q; omega)
                  have hB2 : BO mi2 r2 N := BO_fr hG2.1 hh2 rfl
                  have hE2 : Ef mi2 r2 N = Ef m2 r2 N := Ef_fr hG2.1 hh2 rfl
                  have hS2 : Srt (Ef mi2 r2 N) := by rw [hE2]; exact hG2.2.1
                  have hF2 : FCo mi2 r2 N := FCo_fr hG2.1 hh2 rfl hG2.2.2.1
                  have hcA := CB_at hcbA
                  have hsb := hSB i (by omega)
                  have hlb := lc0_b (ρ := mi (6 + 2 * j)) hL.1 (fun j2 h2 => (hcA j2 h2).1) hvj.2.2.2.2.2.1 (fun j2 h2 h3 => (hvj.2.2.2.2.2.2.2 j2 h2).2.2.2 h3)
                  have hll := lks_le (ρ := mi (6 + 2 * j)) hL.1 (fun j2 h2 => (hcA j2 h2).1)
                  have hl48 : ∀ j2 : Nat, j2 < 5 → mi2 48 j2 = lc0 (mi 1 3) (mi (6 + 2 * j)) (mi (mr (A + 1) i + 1)) j2 := hlk
                  have hl50 : ∀ j2 : Nat, j2 < 5 → mi2 50 j2 = mk0 (mi (6 + 2 * j)) j2 := hmk
                  have hmkb : ∀ j2 : Nat, 0 ≤ mk0 (mi (6 + 2 * j)) j2 ∧ mk0 (mi (6 + 2 * j)) j2 ≤ 3 := fun j2 => by have := lv_b (mi (6 + 2 * j)) j2; unfold mk0 nd; split <;> omega
                  have hml2 : ∀ j2 : Nat, j2 < 5 → 0 ≤ mi2 50 j2 ∧ 0 ≤ mi2 48 j2 := fun j2 h2 => by rw [hl50 j2 h2, hl48 j2 h2]; exact ⟨(hmkb j2).1, hlb.1 j2 h2⟩
                  have hsum2 : ∀ j2 : Nat, j2 < 5 → mi2 50 j2 + sum5 (mi2 48) ≤ 900 := fun j2 h2 => by rw [hl50 j2 h2, sum5_c hl48]; have := (hmkb j2).2; have := hlb.2; omega
                  have hvg : ∀ j2 : Nat, j2 < 5 → 0 ≤ gol (mi (6 + 2 * j)) j2 ∧ gol (mi (6 + 2 * j)) j2 < 5 := fun j2 h2 => ⟨(hvj.2.2.2.2.2.2.2 j2 h2).2.1, (hvj.2.2.2.2.2.2.2 j2 h2).2.2.1⟩
                  have hfl1 : mi (A + 2) i = 1 := by omega
                  have hcdt : ∀ v, Cd (mi 1 3) (mi (6 + 2 * j)) (mi (mr (A + 1) i + 1)) v ↔ Cp (mi2 1 3) (mi2 (6 + 2 * j)) (mi 1 3).toNat 0 (mi2 50) (mi2 48) v := fun v => by rw [e12, hk2]; exact ⟨Cp_c hvg _ 0 (by omega) (fun j2 h2 => (hl50 j2 h2).symm) (fun j2 h2 => (hl48 j2 h2).symm), Cp_c hvg _ 0 (by omega) hl50 hl48⟩
                  rcases (show mi 1 3 = 1 ∨ mi 1 3 = 2 ∨ mi 1 3 = 3 ∨ mi 1 3 = 4 ∨ mi 1 3 = 5 by omega) with hsc | hsc | hsc | hsc | hsc
                  ·
                    refine s_callVi X _ (c_X0_fillFrom_1 (l := l) (G := G) (n0 := n0) hAN hA' hN' hL2 (ru_2 (by omega)) hv3 hB2 hS2 hF2 hml2 hsum2 (s1 := 0) (by rw [e12, hsc]; rfl)) gM_X0_141 gI_yX0_fillFrom gS_yX0_fillFrom gN_X0 gC_yX0_fillFrom (by decide) (σ_44 G n0 _ _) rfl dX0_bringNew_84 hl_yX0_fillFrom ⟨Nat.le_of_ble_eq_true rfl, Nat.le_of_ble_eq_true rfl⟩ (Nat.le_of_ble_eq_true rfl) rfl (fun r3 mi3 mr3 h3 => ?_)
                    obtain ⟨hG3, hcv3, -, -, -⟩ := h3
                    have hd : (mi 1 3).toNat = 1 := by rw [hsc]; rfl
                    rw [hd] at hcdt
                    have hG4 : Grw fX m2 mi3 r2 mr3 N (fun y : V5 × Int => y.2 = 1 ∧ ∃ i j : Nat, (i : Int) < mi A 2 ∧ mi (A + 2) i = 1 ∧ (j : Int) < mi 1 5 ∧ FLr (mi 1 3) (mi (6 + 2 * j)) (mi (mr (A + 1) i + 1)) t ∧ Cd (mi 1 3) (mi (6 + 2 * j)) (mi (mr (A + 1) i + 1)) y.1) := Grw_l hG2.1 (Grw_w hG3 (fun _ q => q) (fun y q => ⟨q.1, i, j, hi2, hfl1, by omega, hFt, (hcdt y.1).mpr q.2⟩)) hfr2 hX
                    have hcov : ∀ v, Cd (mi 1 3) (mi (6 + 2 * j)) (mi (mr (A + 1) i + 1)) v → (∃ y ∈ Ef mi3 mr3 N, gv v y.1) ∨ 100 < mi3 N 2 := fun v hv => hcv3 v ((hcdt v).mp hv)
                    clear hcv3 hG3
                    refine w_pop X dX0_bringNew_87 rfl ?_
                    refine w_iinc4_3 X dX0_bringNew_88 ?_
                    refine w_goto X 15 dX0_bringNew_91 (by decide) ?_
                    have hcn : ∀ y, y ∈ Ef m2 r2 N → y ∈ Ef mi3 mr3 N := hG4.2.2.2.1
                    have hcc : m2 N 2 ≤ mi3 N 2 := hG4.2.2.2.2.2.2.2
                    exact ih_loop2 _ hlt mi3 mr3 (j + 1) hi2 hj2 (Grw_t hG2 hG4) (fun i2 j2 q q2 q3 q5 v hv => by
                      rcases hc2 i2 j2 q q2 q3 q5 v hv with ⟨y, hy, hy2⟩ | q6
                      · exact Or.inl ⟨y, hcn y hy, hy2⟩
                      · right; omega) (fun j2 q q2 q3 v hv => by
                      rcases (show j2 < j ∨ j2 = j by omega) with q4 | q4
                      · rcases hc3 j2 q4 q2 q3 v hv with ⟨y, hy, hy2⟩ | q6
                        · exact Or.inl ⟨y, hcn y hy, hy2⟩
                        · right; omega
                      · subst q4; exact hcov v hv) rfl
                  ·
                    refine s_callVi X _ (c_X0_fillFrom_2 (l := l) (G := G) (n0 := n0) hAN hA' hN' hL2 (ru_2 (by omega)) hv3 hB2 hS2 hF2 hml2 hsum2 (s1 := 0) (by rw [e12, hsc]; rfl)) gM_X0_141 gI_yX0_fillFrom gS_yX0_fillFrom gN_X0 gC_yX0_fillFrom (by decide) (σ_44 G n0 _ _) rfl dX0_bringNew_84 hl_yX0_fillFrom ⟨Nat.le_of_ble_eq_true rfl, Nat.le_of_ble_eq_true rfl⟩ (Nat.le_of_ble_eq_true rfl) rfl (fun r3 mi3 mr3 h3 => ?_)
                    obtain ⟨hG3, hcv3, -, -, -⟩ := h3
                    have hd : (mi 1 3).toNat = 2 := by rw [hsc]; rfl
                    rw [hd] at hcdt
                    have hG4 : Grw fX m2 mi3 r2 mr3 N (fun y : V5 × Int => y.2 = 1 ∧ ∃ i j : Nat, (i : Int) < mi A 2 ∧ mi (A + 2) i = 1 ∧ (j : Int) < mi 1 5 ∧ FLr (mi 1 3) (mi (6 + 2 * j)) (mi (mr (A + 1) i + 1)) t ∧ Cd (mi 1 3) (mi (6 + 2 * j)) (mi (mr (A + 1) i + 1)) y.1) := Grw_l hG2.1 (Grw_w hG3 (fun _ q => q) (fun y q => ⟨q.1, i, j, hi2, hfl1, by omega, hFt, (hcdt y.1).mpr q.2⟩)) hfr2 hX
                    have hcov : ∀ v, Cd (mi 1 3) (mi (6 + 2 * j)) (mi (mr (A + 1) i + 1)) v → (∃ y ∈ Ef mi3 mr3 N, gv v y.1) ∨ 100 < mi3 N 2 := fun v hv => hcv3 v ((hcdt v).mp hv)
                    clear hcv3 hG3
                    refine w_pop X dX0_bringNew_87 rfl ?_
                    refine w_iinc4_3 X dX0_bringNew_88 ?_
                    refine w_goto X 15 dX0_bringNew_91 (by decide) ?_
                    have hcn : ∀ y, y ∈ Ef m2 r2 N → y ∈ Ef mi3 mr3 N := hG4.2.2.2.1
                    have hcc : m2 N 2 ≤ mi3 N 2 := hG4.2.2.2.2.2.2.2
                    exact ih_loop2 _ hlt mi3 mr3 (j + 1) hi2 hj2 (Grw_t hG2 hG4) (fun i2 j2 q q2 q3 q5 v hv => by
                      rcases hc2 i2 j2 q q2 q3 q5 v hv with ⟨y, hy, hy2⟩ | q6
                      · exact Or.inl ⟨y, hcn y hy, hy2⟩
                      · right; omega) (fun j2 q q2 q3 v hv => by
                      rcases (show j2 < j ∨ j2 = j by omega) with q4 | q4
                      · rcases hc3 j2 q4 q2 q3 v hv with ⟨y, hy, hy2⟩ | q6
                        · exact Or.inl ⟨y, hcn y hy, hy2⟩
                        · right; omega
                      · subst q4; exact hcov v hv) rfl
                  ·
                    refine s_callVi X _ (c_X0_fillFrom_3 (l := l) (G := G) (n0 := n0) hAN hA' hN' hL2 (ru_2 (by omega)) hv3 hB2 hS2 hF2 hml2 hsum2 (s1 := 0) (by rw [e12, hsc]; rfl)) gM_X0_141 gI_yX0_fillFrom gS_yX0_fillFrom gN_X0 gC_yX0_fillFrom (by decide) (σ_44 G n0 _ _) rfl dX0_bringNew_84 hl_yX0_fillFrom ⟨Nat.le_of_ble_eq_true rfl, Nat.le_of_ble_eq_true rfl⟩ (Nat.le_of_ble_eq_true rfl) rfl (fun r3 mi3 mr3 h3 => ?_)
                    obtain ⟨hG3, hcv3, -, -, -⟩ := h3
                    have hd : (mi 1 3).toNat = 3 := by rw [hsc]; rfl
                    rw [hd] at hcdt
                    have hG4 : Grw fX m2 mi3 r2 mr3 N (fun y : V5 × Int => y.2 = 1 ∧ ∃ i j : Nat, (i : Int) < mi A 2 ∧ mi (A + 2) i = 1 ∧ (j : Int) < mi 1 5 ∧ FLr (mi 1 3) (mi (6 + 2 * j)) (mi (mr (A + 1) i + 1)) t ∧ Cd (mi 1 3) (mi (6 + 2 * j)) (mi (mr (A + 1) i + 1)) y.1) := Grw_l hG2.1 (Grw_w hG3 (fun _ q => q) (fun y q => ⟨q.1, i, j, hi2, hfl1, by omega, hFt, (hcdt y.1).mpr q.2⟩)) hfr2 hX
                    have hcov : ∀ v, Cd (mi 1 3) (mi (6 + 2 * j)) (mi (mr (A + 1) i + 1)) v → (∃ y ∈ Ef mi3 mr3 N, gv v y.1) ∨ 100 < mi3 N 2 := fun v hv => hcv3 v ((hcdt v).mp hv)
                    clear hcv3 hG3
                    refine w_pop X dX0_bringNew_87 rfl ?_
                    refine w_iinc4_3 X dX0_bringNew_88 ?_
                    refine w_goto X 15 dX0_bringNew_91 (by decide) ?_
                    have hcn : ∀ y, y ∈ Ef m2 r2 N → y ∈ Ef mi3 mr3 N := hG4.2.2.2.1
                    have hcc : m2 N 2 ≤ mi3 N 2 := hG4.2.2.2.2.2.2.2
                    exact ih_loop2 _ hlt mi3 mr3 (j + 1) hi2 hj2 (Grw_t hG2 hG4) (fun i2 j2 q q2 q3 q5 v hv => by
                      rcases hc2 i2 j2 q q2 q3 q5 v hv with ⟨y, hy, hy2⟩ | q6
                      · exact Or.inl ⟨y, hcn y hy, hy2⟩
                      · right; omega) (fun j2 q q2 q3 v hv => by
                      rcases (show j2 < j ∨ j2 = j by omega) with q4 | q4
                      · rcases hc3 j2 q4 q2 q3 v hv with ⟨y, hy, hy2⟩ | q6
                        · exact Or.inl ⟨y, hcn y hy, hy2⟩
                        · right; omega
                      · subst q4; exact hcov v hv) rfl
                  ·
                    refine s_callVi X _ (c_X0_fillFrom_4 (l := l) (G := G) (n0 := n0) hAN hA' hN' hL2 (ru_2 (by omega)) hv3 hB2 hS2 hF2 hml2 hsum2 (s1 := 0) (by rw [e12, hsc]; rfl)) gM_X0_141 gI_yX0_fillFrom gS_yX0_fillFrom gN_X0 gC_yX0_fillFrom (by decide) (σ_44 G n0 _ _) rfl dX0_bringNew_84 hl_yX0_fillFrom ⟨Nat.le_of_ble_eq_true rfl, Nat.le_of_ble_eq_true rfl⟩ (Nat.le_of_ble_eq_true rfl) rfl (fun r3 mi3 mr3 h3 => ?_)
                    obtain ⟨hG3, hcv3, -, -, -⟩ := h3
                    have hd : (mi 1 3).toNat = 4 := by rw [hsc]; rfl
                    rw [hd] at hcdt
                    have hG4 : Grw fX m2 mi3 r2 mr3 N (fun y : V5 × Int => y.2 = 1 ∧ ∃ i j : Nat, (i : Int) < mi A 2 ∧ mi (A + 2) i = 1 ∧ (j : Int) < mi 1 5 ∧ FLr (mi 1 3) (mi (6 + 2 * j)) (mi (mr (A + 1) i + 1)) t ∧ Cd (mi 1 3) (mi (6 + 2 * j)) (mi (mr (A + 1) i + 1)) y.1) := Grw_l hG2.1 (Grw_w hG3 (fun _ q => q) (fun y q => ⟨q.1, i, j, hi2, hfl1, by omega, hFt, (hcdt y.1).mpr q.2⟩)) hfr2 hX
                    have hcov : ∀ v, Cd (mi 1 3) (mi (6 + 2 * j)) (mi (mr (A + 1) i + 1)) v → (∃ y ∈ Ef mi3 mr3 N, gv v y.1) ∨ 100 < mi3 N 2 := fun v hv => hcv3 v ((hcdt v).mp hv)
                    clear hcv3 hG3
                    refine w_pop X dX0_bringNew_87 rfl ?_
                    refine w_iinc4_3 X dX0_bringNew_88 ?_
                    refine w_goto X 15 dX0_bringNew_91 (by decide) ?_
                    have hcn : ∀ y, y ∈ Ef m2 r2 N → y ∈ Ef mi3 mr3 N := hG4.2.2.2.1
                    have hcc : m2 N 2 ≤ mi3 N 2 := hG4.2.2.2.2.2.2.2
                    exact ih_loop2 _ hlt mi3 mr3 (j + 1) hi2 hj2 (Grw_t hG2 hG4) (fun i2 j2 q q2 q3 q5 v hv => by
                      rcases hc2 i2 j2 q q2 q3 q5 v hv with ⟨y, hy, hy2⟩ | q6
                      · exact Or.inl ⟨y, hcn y hy, hy2⟩
                      · right; omega) (fun j2 q q2 q3 v hv => by
                      rcases (show j2 < j ∨ j2 = j by omega) with q4 | q4
                      · rcases hc3 j2 q4 q2 q3 v hv with ⟨y, hy, hy2⟩ | q6
                        · exact Or.inl ⟨y, hcn y hy, hy2⟩
                        · right; omega
                      · subst q4; exact hcov v hv) rfl
                  ·
                    refine s_callVi X _ (c_X0_fillFrom_5 (l := l) (G := G) (n0 := n0) hAN hA' hN' hL2 (ru_2 (by omega)) hv3 hB2 hS2 hF2 hml2 hsum2 (s1 := 0) (by rw [e12, hsc]; rfl)) gM_X0_141 gI_yX0_fillFrom gS_yX0_fillFrom gN_X0 gC_yX0_fillFrom (by decide) (σ_44 G n0 _ _) rfl dX0_bringNew_84 hl_yX0_fillFrom ⟨Nat.le_of_ble_eq_true rfl, Nat.le_of_ble_eq_true rfl⟩ (Nat.le_of_ble_eq_true rfl) rfl (fun r3 mi3 mr3 h3 => ?_)
                    obtain ⟨hG3, hcv3, -, -, -⟩ := h3
                    have hd : (mi 1 3).toNat = 5 := by rw [hsc]; rfl
                    rw [hd] at hcdt
                    have hG4 : Grw fX m2 mi3 r2 mr3 N (fun y : V5 × Int => y.2 = 1 ∧ ∃ i j : Nat, (i : Int) < mi A 2 ∧ mi (A + 2) i = 1 ∧ (j : Int) < mi 1 5 ∧ FLr (mi 1 3) (mi (6 + 2 * j)) (mi (mr (A + 1) i + 1)) t ∧ Cd (mi 1 3) (mi (6 + 2 * j)) (mi (mr (A + 1) i + 1)) y.1) := Grw_l hG2.1 (Grw_w hG3 (fun _ q => q) (fun y q => ⟨q.1, i, j, hi2, hfl1, by omega, hFt, (hcdt y.1).mpr q.2⟩)) hfr2 hX
                    have hcov : ∀ v, Cd (mi 1 3) (mi (6 + 2 * j)) (mi (mr (A + 1) i + 1)) v → (∃ y ∈ Ef mi3 mr3 N, gv v y.1) ∨ 100 < mi3 N 2 := fun v hv => hcv3 v ((hcdt v).mp hv)
                    clear hcv3 hG3
                    refine w_pop X dX0_bringNew_87 rfl ?_
                    refine w_iinc4_3 X dX0_bringNew_88 ?_
                    refine w_goto X 15 dX0_bringNew_91 (by decide) ?_
                    have hcn : ∀ y, y ∈ Ef m2 r2 N → y ∈ Ef mi3 mr3 N := hG4.2.2.2.1
                    have hcc : m2 N 2 ≤ mi3 N 2 := hG4.2.2.2.2.2.2.2
                    exact ih_loop2 _ hlt mi3 mr3 (j + 1) hi2 hj2 (Grw_t hG2 hG4) (fun i2 j2 q q2 q3 q5 v hv => by
                      rcases hc2 i2 j2 q q2 q3 q5 v hv with ⟨y, hy, hy2⟩ | q6
                      · exact Or.inl ⟨y, hcn y hy, hy2⟩
                      · right; omega) (fun j2 q q2 q3 v hv => by
                      rcases (show j2 < j ∨ j2 = j by omega) with q4 | q4
                      · rcases hc3 j2 q4 q2 q3 v hv with ⟨y, hy, hy2⟩ | q6
                        · exact Or.inl ⟨y, hcn y hy, hy2⟩
                        · right; omega
                      · subst q4; exact hcov v hv) rfl
        exact loop2 _ mi' mr' 0 (by omega) (by omega) hG hc (fun j2 q => absurd q (by omega)) rfl
  exact loop _ mi mr 0 none (by omega) (Grw_r hBN hSN hFN) (fun i2 j2 q => absurd q (by omega)) rfl
