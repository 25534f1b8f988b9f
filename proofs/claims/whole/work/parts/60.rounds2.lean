/-! the model's rounds as numbers -/
theorem Pl_id {ρ : Nat → Int} (h : ρ 1 ≠ 2) (j : Nat) : gol ρ j = (j : Int) := by unfold gol; rw [if_neg h]
theorem tl_id {ρ f : Nat → Int} (h : ρ 1 ≠ 2) {n x : Nat} (hx : x < n) : tl ρ f n 0 x = f x := by
  rw [tl_at hx, Pl_id h, if_pos rfl, tl_no _ _ (fun j _ j2 => by rw [Pl_id h]; omega), tl_no _ _ (fun j j1 _ => by rw [Pl_id h]; omega)]
  omega
theorem Pl_s {sc : Int} {ρ u : Nat → Int} (h : RO sc ρ) (hk : ρ 1 ≠ 2) (hu : ∀ j : Nat, j < 5 → 0 ≤ u j) (hz : zf sc u) : Sol sc ρ u (T5 (Plc ρ u)) := by
  have hR := h
  obtain ⟨-, h2, h3, h4, -, h7, hs, hg⟩ := h
  have hx : ∀ j : Nat, j < 5 → lv ρ j + nd ρ j ≤ Plc ρ u j ∧ lk0 ρ u j + lv ρ j ≤ Plc ρ u j := fun j hj => by
    have a := lk0_le (ρ := ρ) (hu j hj)
    have b := nd_n ρ j
    unfold Plc
    by_cases q : (j : Int) = ρ 7
    · by_cases q2 : lk0 ρ u j = 0
      · rw [if_pos ⟨q, q2⟩]; omega
      · rw [if_neg (fun w => q2 w.2)]; omega
    · have : nd ρ j = 0 := if_neg q
      rw [if_neg (fun w => q w.1)]; omega
  have hzv : zf sc (Plc ρ u) := fun j hj hj2 => by
    have b := lv0 hR (j := j) hj2
    have c := hz j hj hj2
    have a := lk0_le (ρ := ρ) (hu j hj)
    unfold Plc
    rw [if_neg (by omega)]
    omega
  refine ⟨zfT hzv, fun j hj => by rw [F5_T5 _ hj]; exact (hx j hj).1, ge5_i.mpr (fun x hx5 => ?_)⟩
  rw [led_c (fun a ha => F5_T5 _ ha) x, led_t hR hzv]
  have cc : 0 ≤ cm ρ x := by unfold cm; split <;> split <;> omega
  have c := lk0_n ρ u x
  by_cases q : (x : Int) < sc
  · rw [tl_id hk (by omega)]
    have := (hx x hx5).2
    omega
  · have := hz x hx5 (by omega)
    have b := tl_n (ρ := ρ) (f := fun j => Plc ρ u j - lv ρ j) (x := (x : Int)) sc.toNat 0 (fun j _ j2 => by have := (hx j (by omega)).2; have := (lk0_n ρ u j).1; omega)
    omega
theorem Pl_c {sc : Int} {ρ u : Nat → Int} {w : V5} (h : RO sc ρ) (hk : ρ 1 ≠ 2) (hu : ∀ j : Nat, j < 5 → 0 ≤ u j) (hz : zf sc u) (hS : Sol sc ρ u w) : gv w (T5 (Plc ρ u)) := by
  have hR := h
  obtain ⟨-, h2, h3, h4, -, h7, hs, hg⟩ := h
  obtain ⟨hzw, hfit, hle⟩ := hS
  rw [ge5_i] at hle
  refine gv_i.mpr (fun j hj => ?_)
  rw [F5_T5 _ hj]
  have a := hfit j hj
  have b := nd_n ρ j
  have c := hle j hj
  have hk0 : lk0 ρ u j ≤ F5 w j - lv ρ j := by
    by_cases q : (j : Int) < sc
    · rw [led_t hR hzw, tl_id hk (by omega)] at c
      unfold lk0
      split <;> omega
    · have d := hz j hj (by omega)
      have e := lk0_le (ρ := ρ) (hu j hj)
      omega
  unfold Plc
  split
  · rename_i q
    have : nd ρ j = 1 := if_pos q.1
    omega
  · omega
def CbJ (L : Lws) (m : Nat → Nat → Int) (b k : Nat) (y : V5) : Prop := (L.2.2.2.1 k 1 = 2 ∧ ShC L.1 (L.2.2.2.1 k) (Ub m b) y) ∨ (L.2.2.2.1 k 1 ≠ 2 ∧ y = T5 (Plc (L.2.2.2.1 k) (Ub m b)))
def CD (L : Lws) (m : Nat → Nat → Int) (y : V5) : Prop := ∃ b : Nat, (b : Int) < m 473 16 ∧ (y = BR m b ∨ ∃ k : Nat, (k : Int) < L.2.1 ∧ CbJ L m b k y)
def BI (L : Lws) (k : Nat) (m : Nat → Nat → Int) : Prop := (0 ≤ m 473 16 ∧ m 473 16 ≤ 100) ∧ (∀ i : Nat, (i : Int) < m 473 16 → Mn (Dk L k) (BR m i) ∧ sm (BR m i) ≤ 45 + 3 * (k : Int)) ∧ (∀ i j : Nat, i < j → (j : Int) < m 473 16 → BR m i ≠ BR m j) ∧ ∀ v, Mn (Dk L k) v → ∃ i : Nat, (i : Int) < m 473 16 ∧ BR m i = v
theorem BI_u {L : Lws} {k : Nat} {m : Nat → Nat → Int} (hL : LO L) (h : BI L k m) {b : Nat} (hb : (b : Int) < m 473 16) : zf L.1 (Ub m b) ∧ (∀ j : Nat, j < 5 → 0 ≤ Ub m b j ∧ Ub m b j ≤ 45 + 3 * (k : Int)) ∧ sum5 (Ub m b) = sm (BR m b) := by
  obtain ⟨a, c⟩ := h.2.1 b hb
  obtain ⟨z1, z2, z3⟩ := Dk_z hL k a.1
  have e : ∀ j : Nat, j < 5 → F5 (BR m b) j = Ub m b j := fun j hj => F5_T5 _ hj
  have e2 : sum5 (F5 (BR m b)) = sum5 (Ub m b) := sum5_c e
  refine ⟨fun j hj hj2 => by rw [← e j hj]; exact z1 j hj hj2, fun j hj => ?_, e2.symm⟩
  have d := (sum5_n z2).2 j hj
  have d2 := z2 j hj
  have d3 : sum5 (F5 (BR m b)) = sm (BR m b) := rfl
  rw [← e j hj]
  omega
theorem CD_s {L : Lws} {k : Nat} {m : Nat → Nat → Int} (hL : LO L) (h : BI L k m) {b : Nat} (hb : (b : Int) < m 473 16) {j : Nat} (hj : (j : Int) < L.2.1) {y : V5} (hy : CbJ L m b j y) : Dk L (k + 1) y := by
  obtain ⟨z1, z2, z3⟩ := BI_u hL h hb
  have hR := hL.2.1 j hj
  have hS : Sol L.1 (L.2.2.2.1 j) (Ub m b) y := by
    rcases hy with ⟨q, q1, d, q2, rfl⟩ | ⟨q, rfl⟩
    · exact Sh_s hR (fun a ha => (z2 a ha).1) z1 q1 q2
    · exact Pl_s hR q (fun a ha => (z2 a ha).1) z1
  obtain ⟨s1, s2, s3⟩ := hS
  exact Or.inr ⟨s1, j, hj, s2, Dk_up hL k (h.2.1 b hb).1.1 (gvT.mpr (ge5_i.mp s3)) (zfT (led_zf hR s1))⟩
theorem CD_D {L : Lws} {k : Nat} {m : Nat → Nat → Int} (hL : LO L) (h : BI L k m) {y : V5} (hy : CD L m y) : Dk L (k + 1) y := by
  obtain ⟨b, hb, rfl | ⟨j, hj, q⟩⟩ := hy
  · exact Or.inl (h.2.1 b hb).1.1
  · exact CD_s hL h hb hj q
theorem CD_G {L : Lws} {k : Nat} {m : Nat → Nat → Int} (hL : LO L) (h : BI L k m) (v : V5) (hv : Dk L (k + 1) v) : ∃ g, CD L m g ∧ gv v g := by
  rcases hv with hv | ⟨h1, j, hj, h2, h3⟩
  · obtain ⟨u, u1, u2⟩ := Dk_ex hL hv
    obtain ⟨b, hb, e⟩ := h.2.2.2 u u1
    exact ⟨u, ⟨b, hb, Or.inl e.symm⟩, u2⟩
  · obtain ⟨u, u1, u2⟩ := Dk_ex hL h3
    obtain ⟨b, hb, rfl⟩ := h.2.2.2 u u1
    obtain ⟨z1, z2, z3⟩ := BI_u hL h hb
    have hR := hL.2.1 j hj
    have hS : Sol L.1 (L.2.2.2.1 j) (Ub m b) v := ⟨h1, h2, ge5_i.mpr (gvT.mp u2)⟩
    by_cases q : L.2.2.2.1 j 1 = 2
    · obtain ⟨g1, d, d1, d2⟩ := Sh_c hR (fun a ha => (z2 a ha).1) hS
      exact ⟨_, ⟨b, hb, Or.inr ⟨j, hj, Or.inl ⟨q, g1, d, d1, rfl⟩⟩⟩, d2⟩
    · exact ⟨_, ⟨b, hb, Or.inr ⟨j, hj, Or.inr ⟨q, rfl⟩⟩⟩, Pl_c hR q (fun a ha => (z2 a ha).1) z1 hS⟩
theorem als_le {ρ u : Nat → Int} {sc : Int} (hs : 1 ≤ sc ∧ sc ≤ 5) (hu : ∀ j : Nat, j < 5 → 0 ≤ u j) : als ρ u sc.toNat ≤ sum5 u := by
  have a := fun (j : Nat) (hj : j < 5) => lk0_le (ρ := ρ) (hu j hj)
  have a0 := a 0 (by decide); have a1 := a 1 (by decide); have a2 := a 2 (by decide); have a3 := a 3 (by decide); have a4 := a 4 (by decide)
  clear a
  rcases (show sc = 1 ∨ sc = 2 ∨ sc = 3 ∨ sc = 4 ∨ sc = 5 by omega) with rfl | rfl | rfl | rfl | rfl <;> simp [sum5, als] <;> omega
theorem CD_b {L : Lws} {k : Nat} {m : Nat → Nat → Int} {G : Int} (hL : LO L) (h : BI L k m) (hG : ∀ i : Nat, (i : Int) < m 473 16 → sm (BR m i) ≤ G) {y : V5} (hy : CD L m y) : sm y ≤ G + 3 := by
  obtain ⟨b, hb, rfl | ⟨j, hj, q⟩⟩ := hy
  · have := hG b hb; omega
  · obtain ⟨z1, z2, z3⟩ := BI_u hL h hb
    have hR := hL.2.1 j hj
    have g := hG b hb
    rcases q with ⟨q, q1, d, q2, rfl⟩ | ⟨q, rfl⟩
    · rw [Sh_sum hR q z1 q1 q2]
      have := als_le (ρ := L.2.2.2.1 j) (u := Ub m b) hL.1 (fun a ha => (z2 a ha).1)
      split <;> omega
    · rw [sm_T]
      have e1 := sum_lv hR
      have e2 := sum_nd hR
      have e : sum5 (Plc (L.2.2.2.1 j) (Ub m b)) ≤ sum5 (fun x => (fun x => Ub m b x + (fun x : Nat => nd (L.2.2.2.1 j) x) x) x + (fun x : Nat => lv (L.2.2.2.1 j) x) x) := by
        have c : ∀ x : Nat, x < 5 → Plc (L.2.2.2.1 j) (Ub m b) x ≤ Ub m b x + nd (L.2.2.2.1 j) x + lv (L.2.2.2.1 j) x := fun x hx => by
          have a := lk0_le (ρ := L.2.2.2.1 j) (z2 x hx).1
          have b := nd_n (L.2.2.2.1 j) x
          have b0 := (z2 x hx).1
          unfold Plc
          split
          · rename_i w
            have : nd (L.2.2.2.1 j) x = 1 := if_pos w.1
            omega
          · omega
        have c0 := c 0 (by decide); have c1 := c 1 (by decide); have c2 := c 2 (by decide); have c3 := c 3 (by decide); have c4 := c 4 (by decide)
        unfold sum5
        dsimp only
        omega
      rw [sum5_add, sum5_add (Ub m b) (fun x : Nat => nd (L.2.2.2.1 j) x)] at e
      split at e1 <;> split at e2 <;> omega
theorem NI_next {D C : V5 → Prop} {t : Int} {W : V5 → Prop} {m : Nat → Nat → Int} (h : NI D C t W m) (hW : ∀ g, C g → sm g = t → W g) : NI D C (t + 1) (fun _ => False) m := by
  obtain ⟨a, b, c, d⟩ := h
  refine ⟨a, fun i hi => ⟨(b i hi).1, by have := (b i hi).2; omega⟩, c, fun hc => ⟨fun g hg hlt => ?_, fun g hg => absurd hg id⟩⟩
  by_cases q : sm g < t
  · exact (d hc).1 g hg q
  · exact (d hc).2 g (hW g hg (by omega))
theorem NI_all {D C : V5 → Prop} {t : Int} {W : V5 → Prop} {m : Nat → Nat → Int} (hG : ∀ v, D v → ∃ g, C g ∧ gv v g) (h : NI D C t W m) (hc : m 473 18 ≤ 100) (hb : ∀ g, C g → sm g < t) (v : V5) : Mn D v ↔ ∃ i : Nat, (i : Int) < m 473 18 ∧ NRw m i = v :=
  (Mn_all (E := fun y => ∃ i : Nat, (i : Int) < m 473 18 ∧ NRw m i = y) hG (fun y ⟨i, hi, e⟩ => by rw [← e]; exact (h.2.1 i hi).1) (fun g hg => by
    obtain ⟨i, hi, q⟩ := NV_x.mp ((h.2.2.2 hc).1 g hg (hb g hg))
    exact ⟨_, ⟨i, hi, rfl⟩, q⟩) v).symm
theorem rows_nd {f : Nat → V5} {n : Nat} (h : ∀ i j : Nat, i < j → j < n → f i ≠ f j) : ((List.range n).map f).Nodup := by
  rw [List.Nodup, List.pairwise_map]
  refine List.Pairwise.imp_of_mem ?_ List.pairwise_lt_range
  intro a b ha hb hab
  exact h a b hab (List.mem_range.mp hb)
/-- behind a round -/
def RDP (L : Lws) (k : Nat) (m m9 : Nat → Nat → Int) (z : Int) : Prop := (z = 0 ∧ Nnw L k ∨ z = 1 ∧ ¬ Nnw L k) ∧ (0 ≤ m9 473 18 ∧ m9 473 18 ≤ 101) ∧ (100 < m9 473 18 ↔ Big L (k + 1)) ∧ (m9 473 18 ≤ 100 → (∀ i : Nat, (i : Int) < m9 473 18 → Mn (Dk L (k + 1)) (NRw m9 i) ∧ sm (NRw m9 i) ≤ 45 + 3 * ((k : Int) + 1)) ∧ (∀ i j : Nat, i < j → (j : Int) < m9 473 18 → NRw m9 i ≠ NRw m9 j) ∧ ∀ v, Mn (Dk L (k + 1)) v → ∃ i : Nat, (i : Int) < m9 473 18 ∧ NRw m9 i = v)
theorem RD_all {L : Lws} {k : Nat} {m m9 : Nat → Nat → Int} {G t : Int} {W : V5 → Prop} (hL : LO L) (hB : BI L k m) (hG : ∀ i : Nat, (i : Int) < m 473 16 → sm (BR m i) ≤ G) (hG2 : G ≤ 45 + 3 * (k : Int)) (h : NI (Dk L (k + 1)) (CD L m) t W m9) (ht : 100 < m9 473 18 ∨ t = G + 4) {z : Int} (hz : flg z (m9 473 18 ≠ m 473 16 ∨ ∃ b : Nat, (b : Int) < m 473 16 ∧ ¬ ∃ c : Nat, (c : Int) < m9 473 18 ∧ NRw m9 c = BR m b)) : RDP L k m m9 z := by
  have hbn := hB.1
  have nb : ((List.range (m 473 16).toNat).map (BR m)).Nodup := rows_nd (fun i j h1 h2 => hB.2.2.1 i j h1 (by omega))
  have nn : ((List.range (m9 473 18).toNat).map (NRw m9)).Nodup := rows_nd (fun i j h1 h2 => h.2.2.1 i j h1 (by omega))
  have lb : ((List.range (m 473 16).toNat).map (BR m)).length = (m 473 16).toNat := by rw [List.length_map, List.length_range]
  have ln : ((List.range (m9 473 18).toNat).map (NRw m9)).length = (m9 473 18).toNat := by rw [List.length_map, List.length_range]
  have mb : ∀ v, v ∈ (List.range (m 473 16).toNat).map (BR m) ↔ Mn (Dk L k) v := fun v => by
    rw [List.mem_map]
    constructor
    · rintro ⟨i, hi, rfl⟩; exact (hB.2.1 i (by have := List.mem_range.mp hi; omega)).1
    · intro hv
      obtain ⟨i, hi, e⟩ := hB.2.2.2 v hv
      exact ⟨i, List.mem_range.mpr (by omega), e⟩
  have mn1 : ∀ v, v ∈ (List.range (m9 473 18).toNat).map (NRw m9) → Mn (Dk L (k + 1)) v := fun v hv => by
    obtain ⟨i, hi, rfl⟩ := List.mem_map.mp hv
    exact (h.2.1 i (by have := List.mem_range.mp hi; omega)).1
  have hall : m9 473 18 ≤ 100 → ∀ v, Mn (Dk L (k + 1)) v ↔ ∃ i : Nat, (i : Int) < m9 473 18 ∧ NRw m9 i = v := fun hc => NI_all (fun v hv => CD_G hL hB v hv) h hc (fun g hg => by have := CD_b hL hB hG hg; omega)
  have mn2 : m9 473 18 ≤ 100 → ∀ v, v ∈ (List.range (m9 473 18).toNat).map (NRw m9) ↔ Mn (Dk L (k + 1)) v := fun hc v => ⟨mn1 v, fun hv => by
    obtain ⟨i, hi, e⟩ := (hall hc v).mp hv
    exact List.mem_map.mpr ⟨i, List.mem_range.mpr (by omega), e⟩⟩
  have hsame : Nnw L k → ∀ v, Mn (Dk L (k + 1)) v ↔ Mn (Dk L k) v := fun hn v => Mn_iff (fun v => ⟨hn v, fun q => Or.inl q⟩) v
  have hbig : 100 < m9 473 18 ↔ Big L (k + 1) := by
    constructor
    · intro q
      exact ⟨_, nn, by rw [ln]; omega, mn1⟩
    · rintro ⟨l, l1, l2, l3⟩
      refine Classical.byContradiction (fun q => ?_)
      have := nd_len l1 (l2 := (List.range (m9 473 18).toNat).map (NRw m9)) (fun x hx => (mn2 (by omega) x).mpr (l3 x hx))
      rw [ln] at this
      omega
  refine ⟨?_, h.1, hbig, fun hc => ⟨fun i hi => ⟨(h.2.1 i hi).1, ?_⟩, h.2.2.1, fun v hv => (hall hc v).mp hv⟩⟩
  · have key : (m9 473 18 ≠ m 473 16 ∨ ∃ b : Nat, (b : Int) < m 473 16 ∧ ¬ ∃ c : Nat, (c : Int) < m9 473 18 ∧ NRw m9 c = BR m b) ↔ ¬ Nnw L k := by
      constructor
      · intro q hn
        have hsz := nd_len nn (l2 := (List.range (m 473 16).toNat).map (BR m)) (fun x hx => (mb x).mpr ((hsame hn x).mp (mn1 x hx)))
        rw [ln, lb] at hsz
        have hc : m9 473 18 ≤ 100 := by have := h.1; omega
        have hsz2 := nd_len nb (l2 := (List.range (m9 473 18).toNat).map (NRw m9)) (fun x hx => (mn2 hc x).mpr ((hsame hn x).mpr ((mb x).mp hx)))
        rw [ln, lb] at hsz2
        rcases q with q | ⟨b, hb, q⟩
        · have := h.1; omega
        · exact q ((hall hc _).mp ((hsame hn _).mpr (hB.2.1 b hb).1))
      · intro hn
        refine Classical.byContradiction (fun q => hn (fun v hv => ?_))
        have e1 : m9 473 18 = m 473 16 := Classical.byContradiction (fun w => q (Or.inl w))
        have e2 : ∀ b : Nat, (b : Int) < m 473 16 → ∃ c : Nat, (c : Int) < m9 473 18 ∧ NRw m9 c = BR m b := fun b hb => Classical.byContradiction (fun w => q (Or.inr ⟨b, hb, w⟩))
        have hc : m9 473 18 ≤ 100 := by omega
        obtain ⟨u, u1, u2⟩ := Dk_ex hL hv
        have hu : u ∈ (List.range (m 473 16).toNat).map (BR m) := by
          refine Classical.byContradiction (fun w => ?_)
          have hn2 : (u :: (List.range (m 473 16).toNat).map (BR m)).Nodup := List.nodup_cons.mpr ⟨w, nb⟩
          have := nd_len hn2 (l2 := (List.range (m9 473 18).toNat).map (NRw m9)) (fun x hx => by
            rcases List.mem_cons.mp hx with rfl | hx
            · exact (mn2 hc x).mpr u1
            · obtain ⟨i, hi, rfl⟩ := List.mem_map.mp hx
              obtain ⟨c, hc1, hc2⟩ := e2 i (by have := List.mem_range.mp hi; omega)
              exact List.mem_map.mpr ⟨c, List.mem_range.mpr (by omega), hc2⟩)
          rw [List.length_cons, ln, lb, e1] at this
          omega
        exact Dk_up hL k ((mb u).mp hu).1 u2 (Dk_z hL _ hv).1
    rcases hz with ⟨q, q2⟩ | ⟨q, q2⟩
    · exact Or.inr ⟨q, key.mp q2⟩
    · exact Or.inl ⟨q, Classical.byContradiction (fun w => q2 (key.mpr w))⟩
  · have h1 := (h.2.1 i hi).1
    obtain ⟨g, g1, g2⟩ := CD_G hL hB _ h1.1
    have g3 := h1.2 g (CD_D hL hB g1) g2
    rw [← g3]
    have := CD_b hL hB hG g1
    omega
