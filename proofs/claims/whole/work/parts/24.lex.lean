/-! crowds of one number in their order -/
def lx (x y : V5) : Prop := x.1 < y.1 ∨ x.1 = y.1 ∧ (x.2.1 < y.2.1 ∨ x.2.1 = y.2.1 ∧ (x.2.2.1 < y.2.2.1 ∨ x.2.2.1 = y.2.2.1 ∧ (x.2.2.2.1 < y.2.2.2.1 ∨ x.2.2.2.1 = y.2.2.2.1 ∧ x.2.2.2.2 < y.2.2.2.2)))
theorem lx_i (x : V5) : ¬ lx x x := by unfold lx; omega
theorem lx_t {x y z : V5} (h : lx x y) (h2 : lx y z) : lx x z := by unfold lx at *; omega
theorem lx_3 (x y : V5) : lx x y ∨ x = y ∨ lx y x := by
  by_cases h1 : lx x y
  · exact Or.inl h1
  · by_cases h2 : lx y x
    · exact Or.inr (Or.inr h2)
    · right; left
      unfold lx at h1 h2
      exact v5_ext (by omega) (by omega) (by omega) (by omega) (by omega)
def Cro (sc n : Int) (v : V5) : Prop := zf sc (F5 v) ∧ (∀ j : Nat, j < 5 → 0 ≤ F5 v j) ∧ sm v = n
theorem Cro_x {sc n : Int} {v : V5} (h : Cro sc n v) : (0 ≤ v.1 ∧ 0 ≤ v.2.1 ∧ 0 ≤ v.2.2.1 ∧ 0 ≤ v.2.2.2.1 ∧ 0 ≤ v.2.2.2.2) ∧ v.1 + v.2.1 + v.2.2.1 + v.2.2.2.1 + v.2.2.2.2 = n ∧ (sc ≤ 1 → v.2.1 = 0) ∧ (sc ≤ 2 → v.2.2.1 = 0) ∧ (sc ≤ 3 → v.2.2.2.1 = 0) ∧ (sc ≤ 4 → v.2.2.2.2 = 0) := by
  obtain ⟨h1, h2, h3⟩ := h
  exact ⟨⟨h2 0 (by decide), h2 1 (by decide), h2 2 (by decide), h2 3 (by decide), h2 4 (by decide)⟩, h3, fun q => h1 1 (by decide) q, fun q => h1 2 (by decide) q, fun q => h1 3 (by decide) q, fun q => h1 4 (by decide) q⟩
theorem Cro_9 {sc n : Int} {v : V5} (h : Cro sc n v) (hn : n ≤ 8) : ∀ j : Nat, j < 5 → 0 ≤ F5 v j ∧ F5 v j ≤ 9 := fun j hj => by
  have h1 := h.2.1 j hj
  have h2 := (sum5_n h.2.1).2 j hj
  have h3 : sum5 (F5 v) = n := h.2.2
  omega
/-- the code tells the order -/
theorem cd_lx {sc n : Int} {v w : V5} (hs : 1 ≤ sc ∧ sc ≤ 5) (hn : n ≤ 8) (hv : Cro sc n v) (hw : Cro sc n w) : lx v w ↔ cdn (F5 v) sc.toNat < cdn (F5 w) sc.toNat := by
  obtain ⟨⟨a0, a1, a2, a3, a4⟩, as, z1, z2, z3, z4⟩ := Cro_x hv
  obtain ⟨⟨b0, b1, b2, b3, b4⟩, bs, y1, y2, y3, y4⟩ := Cro_x hw
  unfold lx
  rcases (show sc = 1 ∨ sc = 2 ∨ sc = 3 ∨ sc = 4 ∨ sc = 5 by omega) with rfl | rfl | rfl | rfl | rfl
  · show _ ↔ 0 * 10 + v.1 < 0 * 10 + w.1
    omega
  · show _ ↔ (0 * 10 + v.1) * 10 + v.2.1 < (0 * 10 + w.1) * 10 + w.2.1
    omega
  · show _ ↔ ((0 * 10 + v.1) * 10 + v.2.1) * 10 + v.2.2.1 < ((0 * 10 + w.1) * 10 + w.2.1) * 10 + w.2.2.1
    omega
  · show _ ↔ (((0 * 10 + v.1) * 10 + v.2.1) * 10 + v.2.2.1) * 10 + v.2.2.2.1 < (((0 * 10 + w.1) * 10 + w.2.1) * 10 + w.2.2.1) * 10 + w.2.2.2.1
    omega
  · show _ ↔ ((((0 * 10 + v.1) * 10 + v.2.1) * 10 + v.2.2.1) * 10 + v.2.2.2.1) * 10 + v.2.2.2.2 < ((((0 * 10 + w.1) * 10 + w.2.1) * 10 + w.2.2.1) * 10 + w.2.2.2.1) * 10 + w.2.2.2.2
    omega
theorem cd_e {sc n : Int} {v w : V5} (hs : 1 ≤ sc ∧ sc ≤ 5) (hn : n ≤ 8) (hv : Cro sc n v) (hw : Cro sc n w) (h : cdn (F5 v) sc.toNat = cdn (F5 w) sc.toNat) : v = w := by
  rcases lx_3 v w with q | q | q
  · have := (cd_lx hs hn hv hw).mp q; omega
  · exact q
  · have := (cd_lx hs hn hw hv).mp q; omega
/-- the next one behind v: i is the last place with some in it -/
def nxt (sc : Int) (v : V5) (i : Nat) (w : V5) : Prop := (1 ≤ i ∧ (i : Int) < sc) ∧ 0 < F5 v i ∧ (∀ j : Nat, i < j → j < 5 → F5 v j = 0) ∧ ∀ j : Nat, j < 5 → F5 w j = if j + 1 = i then F5 v j + 1 else if (j : Int) = sc - 1 then F5 v i - 1 else if j = i then 0 else F5 v j
theorem nxt_x {sc n : Int} {v w : V5} {i : Nat} (hs : 1 ≤ sc ∧ sc ≤ 5) (hv : Cro sc n v) (h : nxt sc v i w) : Cro sc n w ∧ lx v w ∧ ∀ u, Cro sc n u → lx v u → w = u ∨ lx w u := by
  obtain ⟨hi, hp, hz, hw⟩ := h
  obtain ⟨⟨a0, a1, a2, a3, a4⟩, as, z1, z2, z3, z4⟩ := Cro_x hv
  have w0 := hw 0 (by decide)
  have w1 := hw 1 (by decide)
  have w2 := hw 2 (by decide)
  have w3 := hw 3 (by decide)
  have w4 := hw 4 (by decide)
  have x0 : i < 0 → F5 v 0 = 0 := fun q => hz 0 q (by decide)
  have x1 : i < 1 → F5 v 1 = 0 := fun q => hz 1 q (by decide)
  have x2 : i < 2 → F5 v 2 = 0 := fun q => hz 2 q (by decide)
  have x3 : i < 3 → F5 v 3 = 0 := fun q => hz 3 q (by decide)
  have x4 : i < 4 → F5 v 4 = 0 := fun q => hz 4 q (by decide)
  clear hw hz hv
  have f0 : F5 w 0 = w.1 := rfl
  have f1 : F5 w 1 = w.2.1 := rfl
  have f2 : F5 w 2 = w.2.2.1 := rfl
  have f3 : F5 w 3 = w.2.2.2.1 := rfl
  have f4 : F5 w 4 = w.2.2.2.2 := rfl
  have g0 : F5 v 0 = v.1 := rfl
  have g1 : F5 v 1 = v.2.1 := rfl
  have g2 : F5 v 2 = v.2.2.1 := rfl
  have g3 : F5 v 3 = v.2.2.2.1 := rfl
  have g4 : F5 v 4 = v.2.2.2.2 := rfl
  have key : ((0 ≤ w.1 ∧ 0 ≤ w.2.1 ∧ 0 ≤ w.2.2.1 ∧ 0 ≤ w.2.2.2.1 ∧ 0 ≤ w.2.2.2.2) ∧ w.1 + w.2.1 + w.2.2.1 + w.2.2.2.1 + w.2.2.2.2 = n ∧ (sc ≤ 1 → w.2.1 = 0) ∧ (sc ≤ 2 → w.2.2.1 = 0) ∧ (sc ≤ 3 → w.2.2.2.1 = 0) ∧ (sc ≤ 4 → w.2.2.2.2 = 0)) ∧ lx v w ∧ ∀ u, Cro sc n u → lx v u → ¬ lx u w := by
    rcases (show sc = 1 ∨ sc = 2 ∨ sc = 3 ∨ sc = 4 ∨ sc = 5 by omega) with rfl | rfl | rfl | rfl | rfl
    · omega
    all_goals
      rcases (show i = 1 ∨ i = 2 ∨ i = 3 ∨ i = 4 by omega) with rfl | rfl | rfl | rfl
      all_goals (try (exfalso; omega))
      all_goals
        simp at w0 w1 w2 w3 w4
        refine ⟨⟨⟨?_, ?_, ?_, ?_, ?_⟩, ?_, ?_, ?_, ?_, ?_⟩, ?_, fun u hu h1 h2 => ?_⟩
        all_goals (first | omega | (unfold lx; omega) | (obtain ⟨⟨b0, b1, b2, b3, b4⟩, bs, y1, y2, y3, y4⟩ := Cro_x hu; unfold lx at h1 h2; omega))
  obtain ⟨⟨⟨k0, k1, k2, k3, k4⟩, ks, c1, c2, c3, c4⟩, k6, k7⟩ := key
  refine ⟨⟨fun j hj hj2 => ?_, fun j hj => ?_, ks⟩, k6, fun u hu h1 => ?_⟩
  · rcases (show j = 0 ∨ j = 1 ∨ j = 2 ∨ j = 3 ∨ j = 4 by omega) with rfl | rfl | rfl | rfl | rfl
    · omega
    · exact c1 hj2
    · exact c2 hj2
    · exact c3 hj2
    · exact c4 hj2
  · rcases (show j = 0 ∨ j = 1 ∨ j = 2 ∨ j = 3 ∨ j = 4 by omega) with rfl | rfl | rfl | rfl | rfl <;> assumption
  · rcases lx_3 w u with q | q | q
    · exact Or.inr q
    · exact Or.inl q
    · exact absurd q (k7 u hu h1)
/-- the greatest, the least -/
theorem lx_top {sc n : Int} {v u : V5} (hv : Cro sc n v) (h : ∀ j : Nat, 1 ≤ j → j < 5 → F5 v j = 0) (hu : Cro sc n u) : ¬ lx v u := by
  obtain ⟨⟨a0, a1, a2, a3, a4⟩, as, -⟩ := Cro_x hv
  obtain ⟨⟨b0, b1, b2, b3, b4⟩, bs, -⟩ := Cro_x hu
  have x1 : v.2.1 = 0 := h 1 (by decide) (by decide)
  have x2 : v.2.2.1 = 0 := h 2 (by decide) (by decide)
  have x3 : v.2.2.2.1 = 0 := h 3 (by decide) (by decide)
  have x4 : v.2.2.2.2 = 0 := h 4 (by decide) (by decide)
  unfold lx
  omega
theorem lx_low {sc n : Int} {v u : V5} (hs : 1 ≤ sc ∧ sc ≤ 5) (h : ∀ j : Nat, j < 5 → F5 v j = if (j : Int) = sc - 1 then n else 0) (hn : 0 ≤ n) : Cro sc n v ∧ (Cro sc n u → ¬ lx u v) := by
  have x0 := h 0 (by decide)
  have x1 := h 1 (by decide)
  have x2 := h 2 (by decide)
  have x3 := h 3 (by decide)
  have x4 := h 4 (by decide)
  have g0 : F5 v 0 = v.1 := rfl
  have g1 : F5 v 1 = v.2.1 := rfl
  have g2 : F5 v 2 = v.2.2.1 := rfl
  have g3 : F5 v 3 = v.2.2.2.1 := rfl
  have g4 : F5 v 4 = v.2.2.2.2 := rfl
  refine ⟨⟨fun j hj hj2 => ?_, fun j hj => ?_, ?_⟩, fun hu h2 => ?_⟩
  · rw [h j hj, if_neg (by omega)]
  · rw [h j hj]; split <;> omega
  · rw [sm_x]
    rcases (show sc = 1 ∨ sc = 2 ∨ sc = 3 ∨ sc = 4 ∨ sc = 5 by omega) with rfl | rfl | rfl | rfl | rfl <;> simp at x0 x1 x2 x3 x4 <;> omega
  · obtain ⟨⟨b0, b1, b2, b3, b4⟩, bs, y1, y2, y3, y4⟩ := Cro_x hu
    unfold lx at h2
    rcases (show sc = 1 ∨ sc = 2 ∨ sc = 3 ∨ sc = 4 ∨ sc = 5 by omega) with rfl | rfl | rfl | rfl | rfl <;> simp at x0 x1 x2 x3 x4 <;> omega
/-! how many there are at most -/
def all5 (n : Nat) : List V5 := (List.range (n + 1)).flatMap fun (a : Nat) => (List.range (n - a + 1)).flatMap fun (b : Nat) => (List.range (n - a - b + 1)).flatMap fun (c : Nat) => (List.range (n - a - b - c + 1)).map fun (d : Nat) => ((a : Int), (b : Int), (c : Int), (d : Int), ((n - a - b - c - d : Nat) : Int))
theorem all5_l {n : Nat} (h : n ≤ 8) : (all5 n).length ≤ 495 := by
  rcases (show n = 0 ∨ n = 1 ∨ n = 2 ∨ n = 3 ∨ n = 4 ∨ n = 5 ∨ n = 6 ∨ n = 7 ∨ n = 8 by omega) with rfl | rfl | rfl | rfl | rfl | rfl | rfl | rfl | rfl <;> decide +kernel
theorem all5_m {sc : Int} {n : Nat} {v : V5} (h : Cro sc n v) : v ∈ all5 n := by
  obtain ⟨⟨a0, a1, a2, a3, a4⟩, as, -⟩ := Cro_x h
  unfold all5
  refine List.mem_flatMap.mpr ⟨v.1.toNat, List.mem_range.mpr (by omega), List.mem_flatMap.mpr ⟨v.2.1.toNat, List.mem_range.mpr (by omega), List.mem_flatMap.mpr ⟨v.2.2.1.toNat, List.mem_range.mpr (by omega), List.mem_map.mpr ⟨v.2.2.2.1.toNat, List.mem_range.mpr (by omega), ?_⟩⟩⟩⟩
  refine v5_ext ?_ ?_ ?_ ?_ ?_
  · show ((v.1.toNat : Nat) : Int) = v.1; omega
  · show ((v.2.1.toNat : Nat) : Int) = v.2.1; omega
  · show ((v.2.2.1.toNat : Nat) : Int) = v.2.2.1; omega
  · show ((v.2.2.2.1.toNat : Nat) : Int) = v.2.2.2.1; omega
  · show ((n - v.1.toNat - v.2.1.toNat - v.2.2.1.toNat - v.2.2.2.1.toNat : Nat) : Int) = v.2.2.2.2; omega
/-- so many places, in their order -/
def Inc (sc n : Int) (k : Nat) (P : Nat → V5) : Prop := (∀ i : Nat, i < k → Cro sc n (P i)) ∧ ∀ i j : Nat, i < j → j < k → lx (P i) (P j)
theorem Inc_nd {sc n : Int} {k : Nat} {P : Nat → V5} (h : Inc sc n k P) : ((List.range k).map P).Nodup := by
  rw [List.Nodup, List.pairwise_map]
  refine List.Pairwise.imp_of_mem (R := fun a b => a < b) (fun {a b} ha hb hab e => ?_) List.pairwise_lt_range
  have := h.2 a b hab (List.mem_range.mp hb)
  rw [e] at this
  exact lx_i _ this
theorem Inc_l {sc n : Int} {k : Nat} {P : Nat → V5} (h : Inc sc n k P) (hn : 0 ≤ n ∧ n ≤ 8) : k ≤ 495 := by
  have e : n = ((n.toNat : Nat) : Int) := by omega
  have h1 := nd_len (Inc_nd h) (l2 := all5 n.toNat) (fun x hx => by
    obtain ⟨i, hi, rfl⟩ := List.mem_map.mp hx
    have := h.1 i (List.mem_range.mp hi)
    rw [e] at this
    exact all5_m this)
  have h2 := all5_l (n := n.toNat) (by omega)
  rw [List.length_map, List.length_range] at h1
  omega
theorem Inc_i {sc n : Int} {k : Nat} {P : Nat → V5} (h : Inc sc n k P) {i j : Nat} (hi : i < k) (hj : j < k) (e : P i = P j) : i = j := by
  rcases Nat.lt_trichotomy i j with q | q | q
  · have := h.2 i j q hj; rw [e] at this; exact absurd this (lx_i _)
  · exact q
  · have := h.2 j i q hi; rw [e] at this; exact absurd this (lx_i _)
def Lst (sc n : Int) (k : Nat) (P : Nat → V5) : Prop := Inc sc n k P ∧ ∀ v, Cro sc n v → ∃ i : Nat, i < k ∧ P i = v
